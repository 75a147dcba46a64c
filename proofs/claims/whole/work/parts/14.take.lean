/-! the class: PEOPLE's STEPS: walk, takeSteps, stepsUntilThere -/
theorem goF_R (k : Int) : 0 ≤ goF k ∧ goF k ≤ 3 := by unfold goF; (repeat' split) <;> omega
abbrev goN (M : xMem) (b : Nat) (p : Int) : Nat := (goF (M (b + 1) p)).toNat
theorem goN_R (M : xMem) (b : Nat) (p : Int) : ((goN M b p : Nat) : Int) = goF (M (b + 1) p) ∧ goN M b p ≤ 3 := by have := goF_R (M (b + 1) p); unfold goN; omega
theorem WIn.has {M : xMem} {b r : Nat} {c p : Int} (h : WIn M b r c) (hp : 0 ≤ p ∧ p < M b 1) : clHas M b p := ⟨hp.1, hp.2, by have := h.2.1.1; omega⟩
theorem dX1_walk_0 : decode cX1_walk 0 = .ok (.aload_n 0, 1) := by decide +kernel
theorem dX1_walk_1 : decode cX1_walk 1 = .ok (.iload_n 1, 1) := by decide +kernel
theorem dX1_walk_2 : decode cX1_walk 2 = .ok (.invokevirtual 132, 3) := by decide +kernel
theorem dX1_walk_5 : decode cX1_walk 5 = .ok (.invokestatic 135, 3) := by decide +kernel
theorem dX1_walk_8 : decode cX1_walk 8 = .ok (.istore_n 2, 1) := by decide +kernel
theorem dX1_walk_9 : decode cX1_walk 9 = .ok (.iconst 0, 1) := by decide +kernel
theorem dX1_walk_10 : decode cX1_walk 10 = .ok (.istore_n 3, 1) := by decide +kernel
theorem dX1_walk_11 : decode cX1_walk 11 = .ok (.iload_n 3, 1) := by decide +kernel
theorem dX1_walk_12 : decode cX1_walk 12 = .ok (.iload_n 2, 1) := by decide +kernel
theorem dX1_walk_13 : decode cX1_walk 13 = .ok (.if_icmp .ge 86, 3) := by decide +kernel
theorem dX1_walk_16 : decode cX1_walk 16 = .ok (.aload_n 0, 1) := by decide +kernel
theorem dX1_walk_17 : decode cX1_walk 17 = .ok (.getfield 52, 3) := by decide +kernel
theorem dX1_walk_20 : decode cX1_walk 20 = .ok (.aload_n 0, 1) := by decide +kernel
theorem dX1_walk_21 : decode cX1_walk 21 = .ok (.iload_n 1, 1) := by decide +kernel
theorem dX1_walk_22 : decode cX1_walk 22 = .ok (.invokevirtual 70, 3) := by decide +kernel
theorem dX1_walk_25 : decode cX1_walk 25 = .ok (.aload_n 0, 1) := by decide +kernel
theorem dX1_walk_26 : decode cX1_walk 26 = .ok (.iload_n 1, 1) := by decide +kernel
theorem dX1_walk_27 : decode cX1_walk 27 = .ok (.invokevirtual 74, 3) := by decide +kernel
theorem dX1_walk_30 : decode cX1_walk 30 = .ok (.invokevirtual 138, 3) := by decide +kernel
theorem dX1_walk_33 : decode cX1_walk 33 = .ok (.istore 4, 2) := by decide +kernel
theorem dX1_walk_35 : decode cX1_walk 35 = .ok (.iload 4, 2) := by decide +kernel
theorem dX1_walk_37 : decode cX1_walk 37 = .ok (.aload_n 0, 1) := by decide +kernel
theorem dX1_walk_38 : decode cX1_walk 38 = .ok (.iload_n 1, 1) := by decide +kernel
theorem dX1_walk_39 : decode cX1_walk 39 = .ok (.invokevirtual 70, 3) := by decide +kernel
theorem dX1_walk_42 : decode cX1_walk 42 = .ok (.if_icmp .ne 4, 3) := by decide +kernel
theorem dX1_walk_45 : decode cX1_walk 45 = .ok (.return_, 1) := by decide +kernel
theorem dX1_walk_46 : decode cX1_walk 46 = .ok (.aload_n 0, 1) := by decide +kernel
theorem dX1_walk_47 : decode cX1_walk 47 = .ok (.iload_n 1, 1) := by decide +kernel
theorem dX1_walk_48 : decode cX1_walk 48 = .ok (.iload 4, 2) := by decide +kernel
theorem dX1_walk_50 : decode cX1_walk 50 = .ok (.invokevirtual 141, 3) := by decide +kernel
theorem dX1_walk_53 : decode cX1_walk 53 = .ok (.ifCond .eq 24, 3) := by decide +kernel
theorem dX1_walk_56 : decode cX1_walk 56 = .ok (.aload_n 0, 1) := by decide +kernel
theorem dX1_walk_57 : decode cX1_walk 57 = .ok (.iload_n 1, 1) := by decide +kernel
theorem dX1_walk_58 : decode cX1_walk 58 = .ok (.iload 4, 2) := by decide +kernel
theorem dX1_walk_60 : decode cX1_walk 60 = .ok (.invokevirtual 145, 3) := by decide +kernel
theorem dX1_walk_63 : decode cX1_walk 63 = .ok (.pop, 1) := by decide +kernel
theorem dX1_walk_64 : decode cX1_walk 64 = .ok (.aload_n 0, 1) := by decide +kernel
theorem dX1_walk_65 : decode cX1_walk 65 = .ok (.dup, 1) := by decide +kernel
theorem dX1_walk_66 : decode cX1_walk 66 = .ok (.getfield 46, 3) := by decide +kernel
theorem dX1_walk_69 : decode cX1_walk 69 = .ok (.iconst 1, 1) := by decide +kernel
theorem dX1_walk_70 : decode cX1_walk 70 = .ok (.iadd, 1) := by decide +kernel
theorem dX1_walk_71 : decode cX1_walk 71 = .ok (.putfield 46, 3) := by decide +kernel
theorem dX1_walk_74 : decode cX1_walk 74 = .ok (.goto 19, 3) := by decide +kernel
theorem dX1_walk_77 : decode cX1_walk 77 = .ok (.aload_n 0, 1) := by decide +kernel
theorem dX1_walk_78 : decode cX1_walk 78 = .ok (.iload_n 1, 1) := by decide +kernel
theorem dX1_walk_79 : decode cX1_walk 79 = .ok (.iload 4, 2) := by decide +kernel
theorem dX1_walk_81 : decode cX1_walk 81 = .ok (.invokevirtual 148, 3) := by decide +kernel
theorem dX1_walk_84 : decode cX1_walk 84 = .ok (.ifCond .ne 9, 3) := by decide +kernel
theorem dX1_walk_87 : decode cX1_walk 87 = .ok (.aload_n 0, 1) := by decide +kernel
theorem dX1_walk_88 : decode cX1_walk 88 = .ok (.iload_n 1, 1) := by decide +kernel
theorem dX1_walk_89 : decode cX1_walk 89 = .ok (.invokevirtual 151, 3) := by decide +kernel
theorem dX1_walk_92 : decode cX1_walk 92 = .ok (.return_, 1) := by decide +kernel
theorem dX1_walk_93 : decode cX1_walk 93 = .ok (.iinc 3 1, 3) := by decide +kernel
theorem dX1_walk_96 : decode cX1_walk 96 = .ok (.goto (-85), 3) := by decide +kernel
theorem dX1_walk_99 : decode cX1_walk 99 = .ok (.return_, 1) := by decide +kernel
set_option maxHeartbeats 4000000 in
set_option maxRecDepth 100000 in
theorem c_X1_walk {l : Launch} {ω : xO} (hc : xsh ω = clS) {b r : Nat} {p c : Int} {M : xMem} (hb : pI b r) (hin : WIn M b r c) (hc' : 0 ≤ c ∧ c < 900000) (hp : clHas M b p) : Ct l ω yX1_walk ({ frames := 3, cells := 0, slots := 0, locals := 71 } : Room) 5 1 [.ref (xad ω b), .int (iI p)] M none (wkC b r p (goN M b p) M) := by
  refine Ct.of (bytes := cX1_walk) (ret := none) (lv0 := [some (.ref (xad ω b)), some (.int (iI p)), none, none, none]) m_cd_X1_walk m_in_X1 (by decide +kernel) (by decide +kernel) rfl rfl rfl rfl (fun hR => (wkC_in hb (goN M b p) M c hin hp hc'.1 (by have := goN_R M b p; omega)).1) ?_
  intro κ h he hR
  have hI := hin.2.1
  have ip := hI.2.2 p hp.1 hp.2.1
  refine x_aload_n h dX1_walk_0 rfl ?_
  refine x_iload_n h dX1_walk_1 rfl ?_
  refine x_V1i h dX1_walk_2 m_ml_X1_132 m_im_X1_kindOf m_se_X1_kindOf (sPe hc hb) rfl (by decide) rfl (c_X1_kindOf hc hb (by omega)) ?_
  refine x_N1i h dX1_walk_5 m_nl_X1_135 m_st_X6_goesOf (by decide) rfl (c_X6_goesOf hc (by omega)) ?_
  refine x_istore_n h dX1_walk_8 rfl rfl ?_
  dsimp only [xset]
  refine x_iconst h dX1_walk_9 ?_
  refine x_istore_n h dX1_walk_10 rfl rfl ?_
  dsimp only [xset]
  have gg := goF_R (M (b + 1) p)
  have gn := goN_R M b p
  have H : ∀ (d : Nat) (M' : xMem) (i c' : Int), 0 ≤ i → i + d = goF (M (b + 1) p) → WIn M' b r c' → 0 ≤ c' → c' + d < 1000000 → clHas M' b p → wkC b r p d M' = wkC b r p (goN M b p) M → X ω κ 11 [some (.ref (xad ω b)), some (.int (iI p)), some (.int (iI (goF (M (b + 1) p)))), some (.int (iI i)), none] [] M' := by
    intro d
    induction d with
    | zero =>
      intro M' i c' hi0 hid hin' hc0 hcd hp' e
      refine x_iload_n h dX1_walk_11 rfl ?_
      refine x_iload_n h dX1_walk_12 rfl ?_
      refine x_icmp_ge h dX1_walk_13 (tgt := 99) (by decide) (by omega) (by omega) (fun q13 => ?_) (fun q13 => ?_)
      · exact x_vret h he dX1_walk_99 e
      · exfalso; omega
    | succ d ih =>
      intro M' i c' hi0 hid hin' hc0 hcd hp' e
      have hI := hin'.2.1
      have hD := hin'.2.2.1
      have hS := hin'.2.2.2
      have hR' := hin'.1
      have ip := hI.2.2 p hp'.1 hp'.2.1
      have hw : 0 ≤ M' (r + 3) (M' (b + 2) p * 10 + M' (b + 3) p) ∧ M' (r + 3) (M' (b + 2) p * 10 + M' (b + 3) p) < 10 := (hD _ _ (by omega) (by omega) (by omega) (by omega)).2.2.1
      have s12 := hS.1
      refine x_iload_n h dX1_walk_11 rfl ?_
      refine x_iload_n h dX1_walk_12 rfl ?_
      refine x_icmp_ge h dX1_walk_13 (tgt := 99) (by decide) (by omega) (by omega) (fun q13 => ?_) (fun q13 => ?_)
      · exfalso; omega
      · refine x_aload_n h dX1_walk_16 rfl ?_
        refine x_getr (j := 0) (q := r) h dX1_walk_17 (sPe hc hb) rfl in_X1 rfl (by decide) m_fl_X1_52 ?_
        refine x_aload_n h dX1_walk_20 rfl ?_
        refine x_iload_n h dX1_walk_21 rfl ?_
        refine x_V1i h dX1_walk_22 m_ml_X1_70 m_im_X1_placeOf m_se_X1_placeOf (sPe hc hb) rfl (by decide) rfl (c_X1_placeOf hc hb (by omega)) ?_
        refine x_aload_n h dX1_walk_25 rfl ?_
        refine x_iload_n h dX1_walk_26 rfl ?_
        refine x_V1i h dX1_walk_27 m_ml_X1_74 m_im_X1_errandOf m_se_X1_errandOf (sPe hc hb) rfl (by decide) rfl (c_X1_errandOf hc hb (by omega)) ?_
        refine x_V2i h dX1_walk_30 m_ml_X1_138 m_im_X3_nextPlace m_se_X3_nextPlace (sRd hc ((pI_r hb))) rfl (by decide) rfl (c_X3_nextPlace hc (pI_r hb) (by omega) (by omega)) ?_
        refine x_istore h dX1_walk_33 rfl rfl ?_
        dsimp only [xset]
        refine x_iload h dX1_walk_35 rfl ?_
        refine x_aload_n h dX1_walk_37 rfl ?_
        refine x_iload_n h dX1_walk_38 rfl ?_
        refine x_V1i h dX1_walk_39 m_ml_X1_70 m_im_X1_placeOf m_se_X1_placeOf (sPe hc hb) rfl (by decide) rfl (c_X1_placeOf hc hb (by omega)) ?_
        refine x_icmp_ne h dX1_walk_42 (tgt := 46) (by decide) (by omega) (by omega) (fun q42 => ?_) (fun q42 => ?_)
        · refine x_aload_n h dX1_walk_46 rfl ?_
          refine x_iload_n h dX1_walk_47 rfl ?_
          refine x_iload h dX1_walk_48 rfl ?_
          refine x_V2i h dX1_walk_50 m_ml_X1_141 m_im_X1_ropeLets m_se_X1_ropeLets (sPe hc hb) rfl (by decide) rfl (c_X1_ropeLets hc hb hI (by omega) (by omega)) ?_
          refine x_ifeqB h dX1_walk_53 (tgt := 77) (by decide) (fun q53 => ?_) (fun q53 => ?_)
          · refine x_aload_n h dX1_walk_77 rfl ?_
            refine x_iload_n h dX1_walk_78 rfl ?_
            refine x_iload h dX1_walk_79 rfl ?_
            refine x_V2i h dX1_walk_81 m_ml_X1_148 m_im_X1_tug m_se_X1_tug (sPe hc hb) rfl (by decide) rfl (c_X1_tug hc hb hI hD hS (by omega) (by omega) (by omega)) ?_
            refine x_ifneB h dX1_walk_84 (tgt := 93) (by decide) (fun q84 => ?_) (fun q84 => ?_)
            · first
                | refine x_mem (M' := mvC M' b r p) (by rw [mvC, tI_n q42, tI_p q53]) ?_
                | refine x_mem (M' := mvC M' b r p) (by rw [mvC, tI_n q42, tI_n q53, tI_p q84, tI_p q84]) ?_
              refine x_iinc h dX1_walk_93 rfl rfl rfl ?_
              dsimp only [xset]
              refine x_goto h dX1_walk_96 (tgt := 11) (by decide) ?_
              refine x_drop 4 ?_
              dsimp only [xclr]
              have hgo : goC M' b r p := (by first | exact And.intro q42 (Or.inl q53) | exact And.intro q42 (Or.inr q84))
              exact ih (mvC M' b r p) (i + 1) (c' + 1) (by omega) (by omega) (mvC_in hb hin' hp' ⟨hc0, by omega⟩) (by omega) (by omega) (by rw [mvC_r.has]; exact hp') (by rw [← e, wkC, tI_p hgo])
            · refine x_mem (tI_n q84) ?_
              refine x_aload_n h dX1_walk_87 rfl ?_
              refine x_iload_n h dX1_walk_88 rfl ?_
              refine x_V1v h dX1_walk_89 m_ml_X1_151 m_im_X1_beHeld m_se_X1_beHeld (sPe hc hb) rfl (by decide) rfl (c_X1_beHeld hc hb hI (by omega)) ?_
              exact x_vret h he dX1_walk_92 (by rw [← e, wkC, tI_n (fun z => z.2.elim q53 q84), mvC, tI_n q42, tI_n q53, tI_n q84])
          · refine x_aload_n h dX1_walk_56 rfl ?_
            refine x_iload_n h dX1_walk_57 rfl ?_
            refine x_iload h dX1_walk_58 rfl ?_
            refine x_V2i h dX1_walk_60 m_ml_X1_145 m_im_X1_setPlace m_se_X1_setPlace (sPe hc hb) rfl (by decide) rfl (c_X1_setPlace hc hb (by omega) (by omega)) ?_
            refine x_pop h dX1_walk_63 rfl ?_
            have e12 : up M' (b + 2) p (wntC M' b r p) b 12 = M' b 12 := by rw [up_n (by omega)]
            refine x_aload_n h dX1_walk_64 rfl ?_
            refine x_dup h dX1_walk_65 rfl ?_
            refine x_geti (j := 12) 12 h dX1_walk_66 (sPe hc hb) rfl in_X1 rfl (by decide) m_fl_X1_46 rfl (fun r66 => ?_)
            refine x_iconst h dX1_walk_69 ?_
            rw [e12]
            refine x_iadd h dX1_walk_70 ?_
            refine x_puti (j := 12) 12 h dX1_walk_71 (sPe hc hb) rfl in_X1 rfl (by decide) m_fl_X1_46 tyX1_ok nmX1 rfl (tyX1_ok 12 (by decide)) rfl rfl (by omega) rfl ?_
            refine x_goto h dX1_walk_74 (tgt := 93) (by decide) ?_
            first
              | refine x_mem (M' := mvC M' b r p) (by rw [mvC, tI_n q42, tI_p q53]) ?_
              | refine x_mem (M' := mvC M' b r p) (by rw [mvC, tI_n q42, tI_n q53, tI_p q84, tI_p q84]) ?_
            refine x_iinc h dX1_walk_93 rfl rfl rfl ?_
            dsimp only [xset]
            refine x_goto h dX1_walk_96 (tgt := 11) (by decide) ?_
            refine x_drop 4 ?_
            dsimp only [xclr]
            have hgo : goC M' b r p := (by first | exact And.intro q42 (Or.inl q53) | exact And.intro q42 (Or.inr q84))
            exact ih (mvC M' b r p) (i + 1) (c' + 1) (by omega) (by omega) (mvC_in hb hin' hp' ⟨hc0, by omega⟩) (by omega) (by omega) (by rw [mvC_r.has]; exact hp') (by rw [← e, wkC, tI_p hgo])
        · exact x_vret h he dX1_walk_45 (by rw [← e, wkC, tI_n (fun z => z.1 q42), mvC, tI_p q42])
  exact H (goN M b p) M 0 c (by omega) (by omega) hin hc'.1 (by omega) hp rfl

/-- one STEP: nothing is tugged yet, all walk, CLOCK is one more -/
def st0 (M : xMem) (b : Nat) : xMem := up (up (upr M (b + 9) (flC 0 8 (M (b + 9)))) b 12 0) b 13 (-1)
noncomputable def stW (b r : Nat) (p : Int) (M : xMem) : xMem := wkC b r p (goN M b p) M
noncomputable def stA (b r : Nat) (M : xMem) : Nat → xMem := xfo (stW b r) (st0 M b)
noncomputable def stC (b r : Nat) (M : xMem) : xMem := up (stA b r M (M b 1).toNat) b 2 (min (stA b r M (M b 1).toNat b 2 + 1) 99999)
noncomputable def tkC (b r : Nat) (M : xMem) (n : Nat) : xMem := xfo (fun _ => stC b r) M n
def PIn (M : xMem) (b r : Nat) : Prop := xR M ∧ PeInv M b ∧ RdInv M r
theorem st0_r {M : xMem} {b : Nat} : StR b M (st0 M b) := by
  refine ⟨fun k h1 h2 h3 h4 h5 => ?_, fun j h1 h2 => ?_⟩
  · unfold st0; rw [up_n (by omega), up_n (by omega), upr_n (by omega)]
  · unfold st0; rw [up_nn (by omega), up_nn (by omega), upr_n (by omega)]
theorem PeInv_r {M M' : xMem} {b : Nat} (h : PeInv M b) (hs : StR b M M') (e2 : M' (b + 2) = M (b + 2)) (e7 : M' (b + 7) = M (b + 7)) (e8 : M' (b + 8) = M (b + 8)) : PeInv M' b :=
  PeInv_of h (hs.2 1 (by omega) (by omega)) (hs.2 2 (by omega) (by omega)) (fun f h1 h2 h3 h4 h5 => hs.1 _ (by omega) (by omega) (by omega) (by omega) (by omega)) (fun p h1 h2 => by rw [e2]; exact (h.2.2 p h1 h2).2.1) (fun p h1 h2 => by rw [e7]; exact (h.2.2 p h1 h2).2.2.2.2.2.2.1) (fun p h1 h2 => by rw [e8]; exact (h.2.2 p h1 h2).2.2.2.2.2.2.2)
theorem st0_in {M : xMem} {b r : Nat} (hb : pI b r) (h : PIn M b r) : WIn (st0 M b) b r 0 := by
  refine ⟨?_, PeInv_r h.2.1 st0_r ?_ ?_ ?_, RdInv_of h.2.2 (st0_r.rd hb), ⟨?_, fun p h1 h2 => ?_⟩⟩
  · exact up_R (up_R (upr_R h.1 fun j => by unfold flC; split; decide; exact h.1 _ j) (by decide)) (by decide)
  · unfold st0; rw [up_n (by omega), up_n (by omega), upr_n (by omega)]
  · unfold st0; rw [up_n (by omega), up_n (by omega), upr_n (by omega)]
  · unfold st0; rw [up_n (by omega), up_n (by omega), upr_n (by omega)]
  · unfold st0; rw [up_nn (by omega), up_ss]; decide
  · unfold st0; rw [up_n (by omega), up_n (by omega), upr_s]; unfold flC; rw [if_pos (by omega)]; decide
theorem stA_in {M : xMem} {b r : Nat} (hb : pI b r) (h : PIn M b r) : ∀ k : Nat, (k : Int) ≤ M b 1 → WIn (stA b r M k) b r (3 * k) ∧ StR b M (stA b r M k) := by
  intro k
  induction k with
  | zero => intro _; exact ⟨(st0_in hb h).le (by omega), st0_r⟩
  | succ k ih =>
    intro hk
    obtain ⟨h1, h2⟩ := ih (by omega)
    have hn := h.2.1.1
    have hp : clHas (stA b r M k) b (k : Int) := h1.has ⟨by omega, by rw [h2.2 1 (by omega) (by omega)]; omega⟩
    have hg := goN_R (stA b r M k) b (k : Int)
    exact ⟨(wkC_in hb (goN (stA b r M k) b (k : Int)) (stA b r M k) (3 * k) h1 hp (by omega) (by omega)).le (by omega), h2.tr (wkC_r _ _)⟩
theorem stC_in {M : xMem} {b r : Nat} (hb : pI b r) (h : PIn M b r) : PIn (stC b r M) b r := by
  have hn := h.2.1.1
  obtain ⟨h1, h2⟩ := stA_in hb h (M b 1).toNat (by omega)
  have hck := h1.2.1.2.1
  have hn1 := h1.2.1.1
  refine ⟨up_R h1.1 (by omega), ⟨?_, ?_, fun p a1 a2 => ?_⟩, RdInv_of h1.2.2.1 (fun k g1 g2 => ?_)⟩
  · unfold stC; rw [up_nn (by omega)]; exact hn1
  · unfold stC; rw [up_ss]; omega
  · have e : ∀ i, i ≠ b → stC b r M i = stA b r M (M b 1).toNat i := fun i hi => by unfold stC; exact up_n hi
    have e1 : stC b r M b 1 = stA b r M (M b 1).toNat b 1 := by unfold stC; exact up_nn (by omega)
    rw [e1] at a2 ⊢
    rw [e (b + 1) (by omega), e (b + 2) (by omega), e (b + 3) (by omega), e (b + 4) (by omega), e (b + 5) (by omega), e (b + 6) (by omega), e (b + 7) (by omega), e (b + 8) (by omega)]
    exact h1.2.1.2.2 p a1 a2
  · have := pI_lt hb
    unfold stC
    rw [up_n (by omega)]
theorem stC_r {M : xMem} {b r : Nat} (hb : pI b r) (h : PIn M b r) : (∀ k, k ≠ b → k ≠ b + 2 → k ≠ b + 7 → k ≠ b + 8 → k ≠ b + 9 → stC b r M k = M k) ∧ (∀ j, j ≠ 2 → j ≠ 12 → j ≠ 13 → stC b r M b j = M b j) ∧ stC b r M b 2 = min (M b 2 + 1) 99999 := by
  have hn := h.2.1.1
  obtain ⟨h1, h2⟩ := stA_in hb h (M b 1).toNat (by omega)
  refine ⟨fun k a1 a2 a3 a4 a5 => ?_, fun j a1 a2 a3 => ?_, ?_⟩
  · unfold stC; rw [up_n a1]; exact h2.1 k a1 a2 a3 a4 a5
  · unfold stC; rw [up_nn (by omega)]; exact h2.2 j a2 a3
  · unfold stC; rw [up_ss, h2.2 2 (by omega) (by omega)]
theorem tkC_in {M : xMem} {b r : Nat} (hb : pI b r) (h : PIn M b r) : ∀ n : Nat, PIn (tkC b r M n) b r := by
  intro n
  induction n with
  | zero => exact h
  | succ n ih => exact stC_in hb ih
theorem tkC_r {M : xMem} {b r : Nat} (hb : pI b r) (h : PIn M b r) : ∀ n : Nat, (∀ k, k ≠ b → k ≠ b + 2 → k ≠ b + 7 → k ≠ b + 8 → k ≠ b + 9 → tkC b r M n k = M k) ∧ (∀ j, j ≠ 2 → j ≠ 12 → j ≠ 13 → tkC b r M n b j = M b j) := by
  intro n
  induction n with
  | zero => exact ⟨fun _ _ _ _ _ _ => rfl, fun _ _ _ _ => rfl⟩
  | succ n ih =>
    have h2 := stC_r hb (tkC_in hb h n)
    exact ⟨fun k a1 a2 a3 a4 a5 => (h2.1 k a1 a2 a3 a4 a5).trans (ih.1 k a1 a2 a3 a4 a5), fun j a1 a2 a3 => (h2.2.1 j a1 a2 a3).trans (ih.2 j a1 a2 a3)⟩
theorem dX1_takeSteps_0 : decode cX1_takeSteps 0 = .ok (.iconst 0, 1) := by decide +kernel
theorem dX1_takeSteps_1 : decode cX1_takeSteps 1 = .ok (.istore_n 2, 1) := by decide +kernel
theorem dX1_takeSteps_2 : decode cX1_takeSteps 2 = .ok (.iload_n 2, 1) := by decide +kernel
theorem dX1_takeSteps_3 : decode cX1_takeSteps 3 = .ok (.iload_n 1, 1) := by decide +kernel
theorem dX1_takeSteps_4 : decode cX1_takeSteps 4 = .ok (.if_icmp .ge 63, 3) := by decide +kernel
theorem dX1_takeSteps_7 : decode cX1_takeSteps 7 = .ok (.aload_n 0, 1) := by decide +kernel
theorem dX1_takeSteps_8 : decode cX1_takeSteps 8 = .ok (.getfield 43, 3) := by decide +kernel
theorem dX1_takeSteps_11 : decode cX1_takeSteps 11 = .ok (.iconst 0, 1) := by decide +kernel
theorem dX1_takeSteps_12 : decode cX1_takeSteps 12 = .ok (.invokestatic 116, 3) := by decide +kernel
theorem dX1_takeSteps_15 : decode cX1_takeSteps 15 = .ok (.aload_n 0, 1) := by decide +kernel
theorem dX1_takeSteps_16 : decode cX1_takeSteps 16 = .ok (.iconst 0, 1) := by decide +kernel
theorem dX1_takeSteps_17 : decode cX1_takeSteps 17 = .ok (.putfield 46, 3) := by decide +kernel
theorem dX1_takeSteps_20 : decode cX1_takeSteps 20 = .ok (.aload_n 0, 1) := by decide +kernel
theorem dX1_takeSteps_21 : decode cX1_takeSteps 21 = .ok (.iconst (-1), 1) := by decide +kernel
theorem dX1_takeSteps_22 : decode cX1_takeSteps 22 = .ok (.putfield 49, 3) := by decide +kernel
theorem dX1_takeSteps_25 : decode cX1_takeSteps 25 = .ok (.iconst 0, 1) := by decide +kernel
theorem dX1_takeSteps_26 : decode cX1_takeSteps 26 = .ok (.istore_n 3, 1) := by decide +kernel
theorem dX1_takeSteps_27 : decode cX1_takeSteps 27 = .ok (.iload_n 3, 1) := by decide +kernel
theorem dX1_takeSteps_28 : decode cX1_takeSteps 28 = .ok (.aload_n 0, 1) := by decide +kernel
theorem dX1_takeSteps_29 : decode cX1_takeSteps 29 = .ok (.getfield 9, 3) := by decide +kernel
theorem dX1_takeSteps_32 : decode cX1_takeSteps 32 = .ok (.if_icmp .ge 14, 3) := by decide +kernel
theorem dX1_takeSteps_35 : decode cX1_takeSteps 35 = .ok (.aload_n 0, 1) := by decide +kernel
theorem dX1_takeSteps_36 : decode cX1_takeSteps 36 = .ok (.iload_n 3, 1) := by decide +kernel
theorem dX1_takeSteps_37 : decode cX1_takeSteps 37 = .ok (.invokevirtual 122, 3) := by decide +kernel
theorem dX1_takeSteps_40 : decode cX1_takeSteps 40 = .ok (.iinc 3 1, 3) := by decide +kernel
theorem dX1_takeSteps_43 : decode cX1_takeSteps 43 = .ok (.goto (-16), 3) := by decide +kernel
theorem dX1_takeSteps_46 : decode cX1_takeSteps 46 = .ok (.aload_n 0, 1) := by decide +kernel
theorem dX1_takeSteps_47 : decode cX1_takeSteps 47 = .ok (.aload_n 0, 1) := by decide +kernel
theorem dX1_takeSteps_48 : decode cX1_takeSteps 48 = .ok (.getfield 15, 3) := by decide +kernel
theorem dX1_takeSteps_51 : decode cX1_takeSteps 51 = .ok (.iconst 1, 1) := by decide +kernel
theorem dX1_takeSteps_52 : decode cX1_takeSteps 52 = .ok (.iadd, 1) := by decide +kernel
theorem dX1_takeSteps_53 : decode cX1_takeSteps 53 = .ok (.ldc 125, 2) := by decide +kernel
theorem dX1_takeSteps_55 : decode cX1_takeSteps 55 = .ok (.invokestatic 126, 3) := by decide +kernel
theorem dX1_takeSteps_58 : decode cX1_takeSteps 58 = .ok (.putfield 15, 3) := by decide +kernel
theorem dX1_takeSteps_61 : decode cX1_takeSteps 61 = .ok (.iinc 2 1, 3) := by decide +kernel
theorem dX1_takeSteps_64 : decode cX1_takeSteps 64 = .ok (.goto (-62), 3) := by decide +kernel
theorem dX1_takeSteps_67 : decode cX1_takeSteps 67 = .ok (.return_, 1) := by decide +kernel
set_option maxHeartbeats 4000000 in
set_option maxRecDepth 100000 in
theorem c_X1_takeSteps {l : Launch} {ω : xO} (hc : xsh ω = clS) {b r : Nat} {n : Int} {M : xMem} (hb : pI b r) (hin : PIn M b r) (hn : 0 ≤ n ∧ n ≤ 1000) : Ct l ω yX1_takeSteps ({ frames := 4, cells := 0, slots := 0, locals := 95 } : Room) 4 1 [.ref (xad ω b), .int (iI n)] M none (tkC b r M n.toNat) := by
  refine Ct.of (bytes := cX1_takeSteps) (ret := none) (lv0 := [some (.ref (xad ω b)), some (.int (iI n)), none, none]) m_cd_X1_takeSteps m_in_X1 (by decide +kernel) (by decide +kernel) rfl rfl rfl rfl (fun hR => (tkC_in hb hin n.toNat).1) ?_
  intro κ h he hR
  refine x_iconst h dX1_takeSteps_0 ?_
  refine x_istore_n h dX1_takeSteps_1 rfl rfl ?_
  dsimp only [xset]
  refine loop_up (fun k => X ω κ 2 [some (.ref (xad ω b)), some (.int (iI n)), some (.int (iI (k : Int))), none] [] (tkC b r M k)) n.toNat ?_ ?_
  · show X ω κ 2 [some (.ref (xad ω b)), some (.int (iI n)), some (.int (iI ((n.toNat : Nat) : Int))), none] [] (tkC b r M n.toNat)
    refine x_iload_n h dX1_takeSteps_2 rfl ?_
    refine x_iload_n h dX1_takeSteps_3 rfl ?_
    refine x_icmp_ge h dX1_takeSteps_4 (tgt := 67) (by decide) (by omega) (by omega) (fun q4 => ?_) (fun q4 => ?_)
    · exact x_vret h he dX1_takeSteps_67 rfl
    · exfalso; omega
  · intro k hk ih
    replace ih : X ω κ 2 [some (.ref (xad ω b)), some (.int (iI n)), some (.int (iI ((k + 1 : Nat) : Int))), none] [] (tkC b r M (k + 1)) := ih
    show X ω κ 2 [some (.ref (xad ω b)), some (.int (iI n)), some (.int (iI (k : Int))), none] [] (tkC b r M k)
    have hT := tkC_in hb hin k
    have hn1 := hT.2.1.1
    generalize hM1 : tkC b r M k = M1 at hT hn1 ⊢
    refine x_iload_n h dX1_takeSteps_2 rfl ?_
    refine x_iload_n h dX1_takeSteps_3 rfl ?_
    refine x_icmp_ge h dX1_takeSteps_4 (tgt := 67) (by decide) (by omega) (by omega) (fun q4 => ?_) (fun q4 => ?_)
    · exfalso; omega
    · refine x_aload_n h dX1_takeSteps_7 rfl ?_
      refine x_getr (j := 11) (q := b + 9) h dX1_takeSteps_8 (sPe hc hb) rfl in_X1 rfl (by decide) m_fl_X1_43 ?_
      refine x_iconst h dX1_takeSteps_11 ?_
      refine x_S2v h dX1_takeSteps_12 m_ml_X1_116 m_st_J7_fill_53178 (by decide) rfl (c_J7_fill_53178 (sP9 hc hb) (by decide) (by decide)) ?_
      refine x_aload_n h dX1_takeSteps_15 rfl ?_
      refine x_iconst h dX1_takeSteps_16 ?_
      refine x_puti (j := 12) 12 h dX1_takeSteps_17 (sPe hc hb) rfl in_X1 rfl (by decide) m_fl_X1_46 tyX1_ok nmX1 rfl (tyX1_ok 12 (by decide)) rfl rfl (by omega) rfl ?_
      refine x_aload_n h dX1_takeSteps_20 rfl ?_
      refine x_iconst h dX1_takeSteps_21 ?_
      refine x_puti (j := 13) 13 h dX1_takeSteps_22 (sPe hc hb) rfl in_X1 rfl (by decide) m_fl_X1_49 tyX1_ok nmX1 rfl (tyX1_ok 13 (by decide)) rfl rfl (by omega) rfl ?_
      refine x_iconst h dX1_takeSteps_25 ?_
      refine x_istore_n h dX1_takeSteps_26 rfl rfl ?_
      dsimp only [xset]
      refine loop_up (fun j => X ω κ 27 [some (.ref (xad ω b)), some (.int (iI n)), some (.int (iI (k : Int))), some (.int (iI (j : Int)))] [] (stA b r M1 j)) (M1 b 1).toNat ?_ ?_
      · show X ω κ 27 [some (.ref (xad ω b)), some (.int (iI n)), some (.int (iI (k : Int))), some (.int (iI (((M1 b 1).toNat : Nat) : Int)))] [] (stA b r M1 (M1 b 1).toNat)
        obtain ⟨h1, h2⟩ := stA_in hb hT (M1 b 1).toNat (by omega)
        have e1 := h2.2 1 (by omega) (by omega)
        have hck := h1.2.1.2.1
        refine x_iload_n h dX1_takeSteps_27 rfl ?_
        refine x_aload_n h dX1_takeSteps_28 rfl ?_
        refine x_geti (j := 1) 1 h dX1_takeSteps_29 (sPe hc hb) rfl in_X1 rfl (by decide) m_fl_X1_9 rfl (fun r29 => ?_)
        refine x_icmp_ge h dX1_takeSteps_32 (tgt := 46) (by decide) (by omega) (by omega) (fun q32 => ?_) (fun q32 => ?_)
        · refine x_aload_n h dX1_takeSteps_46 rfl ?_
          refine x_aload_n h dX1_takeSteps_47 rfl ?_
          refine x_geti (j := 2) 2 h dX1_takeSteps_48 (sPe hc hb) rfl in_X1 rfl (by decide) m_fl_X1_15 rfl (fun r48 => ?_)
          refine x_iconst h dX1_takeSteps_51 ?_
          refine x_iadd h dX1_takeSteps_52 ?_
          refine x_ldc h m_k_X1_125 dX1_takeSteps_53 ?_
          refine x_min h dX1_takeSteps_55 m_ml_X1_126 rfl (by decide) (by omega) (by omega) ?_
          refine x_puti (j := 2) 2 h dX1_takeSteps_58 (sPe hc hb) rfl in_X1 rfl (by decide) m_fl_X1_15 tyX1_ok nmX1 rfl (tyX1_ok 2 (by decide)) rfl rfl (by omega) rfl ?_
          refine x_iinc h dX1_takeSteps_61 rfl rfl rfl ?_
          dsimp only [xset]
          refine x_goto h dX1_takeSteps_64 (tgt := 2) (by decide) ?_
          refine x_drop 3 ?_
          dsimp only [xclr]
          exact x_same ih rfl rfl (by show stC b r M1 = stC b r (tkC b r M k); rw [hM1])
        · exfalso; omega
      · intro j hj ih2
        replace ih2 : X ω κ 27 [some (.ref (xad ω b)), some (.int (iI n)), some (.int (iI (k : Int))), some (.int (iI ((j + 1 : Nat) : Int)))] [] (stA b r M1 (j + 1)) := ih2
        show X ω κ 27 [some (.ref (xad ω b)), some (.int (iI n)), some (.int (iI (k : Int))), some (.int (iI (j : Int)))] [] (stA b r M1 j)
        obtain ⟨hin2, h2⟩ := stA_in hb hT j (by omega)
        have e1 := h2.2 1 (by omega) (by omega)
        have hp : clHas (stA b r M1 j) b (j : Int) := hin2.has (by omega)
        refine x_iload_n h dX1_takeSteps_27 rfl ?_
        refine x_aload_n h dX1_takeSteps_28 rfl ?_
        refine x_geti (j := 1) 1 h dX1_takeSteps_29 (sPe hc hb) rfl in_X1 rfl (by decide) m_fl_X1_9 rfl (fun r29 => ?_)
        refine x_icmp_ge h dX1_takeSteps_32 (tgt := 46) (by decide) (by omega) (by omega) (fun q32 => ?_) (fun q32 => ?_)
        · exfalso; omega
        · refine x_aload_n h dX1_takeSteps_35 rfl ?_
          refine x_iload_n h dX1_takeSteps_36 rfl ?_
          refine x_V1v h dX1_takeSteps_37 m_ml_X1_122 m_im_X1_walk m_se_X1_walk (sPe hc hb) rfl (by decide) rfl (c_X1_walk hc hb hin2 (by omega) hp) ?_
          refine x_iinc h dX1_takeSteps_40 rfl rfl rfl ?_
          dsimp only [xset]
          refine x_goto h dX1_takeSteps_43 (tgt := 27) (by decide) ?_
          exact ih2
