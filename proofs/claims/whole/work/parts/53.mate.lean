/-! the reference: least, ways, mate, count -/
theorem fpK_B {M : xMem} (hI : MInv M) : prB (fpK M).1 (evF (M 1 1)) := by
  have hn := hI.1
  have hb := evF_R hn
  have g8 : (((M 1 1).toNat : Nat) : Int) = M 1 1 := by omega
  have h := prK_B (A := apN M) (n := (M 1 1).toNat) (L := M 7) (W := M 8) (by omega) (fun a c h1 h2 h3 h4 => apN_R hI a c h1 (by omega) h3 (by omega)) (evF (M 1 1)).toNat (by rw [g8]; unfold evF at hb ⊢; omega) (by omega)
  rw [show (((evF (M 1 1)).toNat : Nat) : Int) = evF (M 1 1) by omega] at h
  exact h
theorem fpK_x {M : xMem} (hI : MInv M) (s : Int) (h0 : 0 < s) (h1 : s ≤ evF (M 1 1)) : ∃ o : Int, 0 ≤ o ∧ o < M 1 1 ∧ mbN s o ∧ lsA (apN M) (fpK M).1 s o = (fpK M).1 s := by
  have hn := hI.1
  have hb := evF_R hn
  have g8 : (((M 1 1).toNat : Nat) : Int) = M 1 1 := by omega
  have h := prK_x (A := apN M) (n := (M 1 1).toNat) (L := M 7) (W := M 8) (by omega) (fun a c h1 h2 h3 h4 => apN_R hI a c h1 (by omega) h3 (by omega)) (evF (M 1 1)).toNat (by rw [g8]; unfold evF at hb ⊢; omega) (by omega) s h0 (by omega)
  rw [g8] at h
  exact h
theorem fpR_R {M : xMem} (hI : MInv M) : 0 ≤ fpR M ∧ fpR M ≤ 999 * 255 := by
  have hb := evF_R hI.1
  have h := fpK_B hI (evF (M 1 1)) hb.1 (Int.le_refl _)
  unfold fpR
  omega
noncomputable def nwsR (M : xMem) : Int := (fpK M).2 (evF (M 1 1))
abbrev mtQ (A : Int → Int → Int) (L : Int → Int) (s : Int) (o : Int) : Prop := mbN s o ∧ lsA A L s o = L s
noncomputable def mtO (A : Int → Int → Int) (L : Int → Int) (s : Int) : Int := fsF (mtQ A L s) 8 (lowN s) 0
noncomputable def mtN (A : Int → Int → Int) (L : Int → Int) (p : Int) : Nat → Int → Int
  | 0, _ => -2
  | k + 1, s => if lowN s = p then (if mtO A L s = lowN s then -1 else mtO A L s) else if mtO A L s = p then lowN s else mtN A L p k (wiN s (mtO A L s))
theorem mtO_x {A : Int → Int → Int} {L : Int → Int} {s n : Int} (hn : 0 ≤ n ∧ n ≤ 8) (hs : 0 < s ∧ s < 256) (hx : ∃ o : Int, 0 ≤ o ∧ o < n ∧ mtQ A L s o) : (lowN s ≤ mtO A L s ∧ mtO A L s < n) ∧ mtQ A L s (mtO A L s) ∧ ∀ y, lowN s ≤ y → y < mtO A L s → ¬ mtQ A L s y := by
  have hl := lowN_x hs
  obtain ⟨o, o1, o2, o3⟩ := hx
  have ho8 : o < 8 := by omega
  have hlo : lowN s ≤ o := by
    by_cases g : lowN s ≤ o
    · exact g
    · exact absurd o3.1.1 (hl.2.2 o o1 (by omega))
  rcases first_or (fun j => lowN s ≤ ((j : Nat) : Int) ∧ mtQ A L s ((j : Nat) : Int)) n.toNat with ⟨j, j1, j2, j3⟩ | hno
  · have hno2 : ∀ y : Int, lowN s ≤ y → y < (j : Int) → ¬ mtQ A L s y := fun y y1 y2 z => by
      have := j3 y.toNat (by omega)
      rw [show ((y.toNat : Nat) : Int) = y by omega] at this
      exact this ⟨y1, z⟩
    have e : mtO A L s = (j : Int) := fsF_first 8 (lowN s) 0 (j : Int) j2.1 (by omega) j2.2 hno2
    rw [e]
    exact ⟨⟨j2.1, by omega⟩, j2.2, hno2⟩
  · have := hno o.toNat (by omega)
    rw [show ((o.toNat : Nat) : Int) = o by omega] at this
    exact absurd ⟨hlo, o3⟩ this
noncomputable def nmtR (M : xMem) (p : Int) : Int := if 0 ≤ p ∧ p < M 1 1 then mtN (apN M) (fpK M).1 p 255 (evF (M 1 1)) else -1000001
noncomputable def nmtM (M : xMem) (p : Int) : xMem := if 0 ≤ p ∧ p < M 1 1 then fpM M else fnM M (-1000001)
theorem inS_all {n p : Int} (hn : 0 ≤ n ∧ n ≤ 8) (hp : 0 ≤ p ∧ p < n) : inS p (evF n) := by
  have : (List.range 9).all (fun a => (List.range 8).all (fun c => !(decide (c < a)) || decide (inS ((c : Nat) : Int) (evF ((a : Nat) : Int))))) = true := by decide +kernel
  have h := List.all_eq_true.mp (List.all_eq_true.mp this n.toNat (List.mem_range.mpr (by omega))) p.toNat (List.mem_range.mpr (by omega))
  rw [Bool.or_eq_true] at h
  rcases h with h | h
  · rw [decide_eq_true (show p.toNat < n.toNat by omega)] at h; cases h
  · have := of_decide_eq_true h
    rw [show ((p.toNat : Nat) : Int) = p by omega, show ((n.toNat : Nat) : Int) = n by omega] at this
    exact this
theorem dX7_least_0 : decode cX7_least 0 = .ok (.aload_n 0, 1) := by decide +kernel
theorem dX7_least_1 : decode cX7_least 1 = .ok (.invokevirtual 274, 3) := by decide +kernel
theorem dX7_least_4 : decode cX7_least 4 = .ok (.ireturn, 1) := by decide +kernel
set_option maxHeartbeats 800000 in
set_option maxRecDepth 100000 in
theorem c_X7_least {l : Launch} {ω : xO} {ks : Nat → Option Nat} (hm : xsh ω = mdS ks)  {M : xMem} (hI : MInv M) (hf : Fc M)  : Cq l ω yX7_least ({ frames := 6, cells := 0, slots := 0, locals := 136 } : Room) 1 0 [.ref (xad ω 0)] M (pI1 (fun r N' => r = fpR M ∧ CaE (fpM M) N')) := by
  refine Cq.of (bytes := cX7_least) (ret := (some .int)) (lv0 := [some (.ref (xad ω 0))]) m_cd_X7_least m_in_X7 (by decide +kernel) (by decide +kernel) rfl rfl rfl rfl ?_
  intro κ h he hR
  refine x_aload_n h dX7_least_0 rfl ?_
  refine x_Q0i h dX7_least_1 m_ml_X7_274 m_im_X7_findPairs m_se_X7_findPairs (sM0 hm) rfl (by decide) rfl (c_X7_findPairs hm (by exact hI) (by assumption)) (fun r1 N1 h1 => ?_)
  obtain ⟨rfl, f1, d1, rfl, c1⟩ := h1
  try simp only [ca_ca, ca_1, dN_ca, wyM_ca, plN_ca, rpN_ca, ltN_ca, pmN_ca, wnN_ca, nbN_ca, ca_07, ca_08, ca_09, ca_010, beN_ca, ctN_ca, gonN_ca, mvN_ca, stN_ca, thN_ca, fnM_ca, tiN_ca, smN_ca, frN_ca, teN_ca, apN_ca, ca_13, ca_14, ca_7, lwN_ca, ndN_ca, lwN_p] at c1 ⊢
  exact x_iretq h he dX7_least_4 ⟨rfl, CaE.of (by assumption)⟩

theorem dX7_ways_0 : decode cX7_ways 0 = .ok (.aload_n 0, 1) := by decide +kernel
theorem dX7_ways_1 : decode cX7_ways 1 = .ok (.invokevirtual 274, 3) := by decide +kernel
theorem dX7_ways_4 : decode cX7_ways 4 = .ok (.ifCond .ge 7, 3) := by decide +kernel
theorem dX7_ways_7 : decode cX7_ways 7 = .ok (.iconst 0, 1) := by decide +kernel
theorem dX7_ways_8 : decode cX7_ways 8 = .ok (.goto 18, 3) := by decide +kernel
theorem dX7_ways_11 : decode cX7_ways 11 = .ok (.aload_n 0, 1) := by decide +kernel
theorem dX7_ways_12 : decode cX7_ways 12 = .ok (.getfield 31, 3) := by decide +kernel
theorem dX7_ways_15 : decode cX7_ways 15 = .ok (.iconst 1, 1) := by decide +kernel
theorem dX7_ways_16 : decode cX7_ways 16 = .ok (.aload_n 0, 1) := by decide +kernel
theorem dX7_ways_17 : decode cX7_ways 17 = .ok (.getfield 9, 3) := by decide +kernel
theorem dX7_ways_20 : decode cX7_ways 20 = .ok (.iconst 1, 1) := by decide +kernel
theorem dX7_ways_21 : decode cX7_ways 21 = .ok (.iaload, 1) := by decide +kernel
theorem dX7_ways_22 : decode cX7_ways 22 = .ok (.ishl, 1) := by decide +kernel
theorem dX7_ways_23 : decode cX7_ways 23 = .ok (.iconst 1, 1) := by decide +kernel
theorem dX7_ways_24 : decode cX7_ways 24 = .ok (.isub, 1) := by decide +kernel
theorem dX7_ways_25 : decode cX7_ways 25 = .ok (.iaload, 1) := by decide +kernel
theorem dX7_ways_26 : decode cX7_ways 26 = .ok (.ireturn, 1) := by decide +kernel
set_option maxHeartbeats 800000 in
set_option maxRecDepth 100000 in
theorem c_X7_ways {l : Launch} {ω : xO} {ks : Nat → Option Nat} (hm : xsh ω = mdS ks)  {M : xMem} (hI : MInv M) (hf : Fc M)  : Cq l ω yX7_ways ({ frames := 6, cells := 0, slots := 0, locals := 136 } : Room) 1 0 [.ref (xad ω 0)] M (pI1 (fun r N' => r = nwsR M ∧ CaE (fpM M) N')) := by
  refine Cq.of (bytes := cX7_ways) (ret := (some .int)) (lv0 := [some (.ref (xad ω 0))]) m_cd_X7_ways m_in_X7 (by decide +kernel) (by decide +kernel) rfl rfl rfl rfl ?_
  intro κ h he hR
  have hn := hI.1
  have hb := evF_R hn
  unfold evF at hb
  have hfr := fpR_R hI
  refine x_aload_n h dX7_ways_0 rfl ?_
  refine x_Q0i h dX7_ways_1 m_ml_X7_274 m_im_X7_findPairs m_se_X7_findPairs (sM0 hm) rfl (by decide) rfl (c_X7_findPairs hm (by exact hI) (by assumption)) (fun r1 N1 h1 => ?_)
  obtain ⟨rfl, f1, d1, rfl, c1⟩ := h1
  try simp only [ca_ca, ca_1, dN_ca, wyM_ca, plN_ca, rpN_ca, ltN_ca, pmN_ca, wnN_ca, nbN_ca, ca_07, ca_08, ca_09, ca_010, beN_ca, ctN_ca, gonN_ca, mvN_ca, stN_ca, thN_ca, fnM_ca, tiN_ca, smN_ca, frN_ca, teN_ca, apN_ca, ca_13, ca_14, ca_7, lwN_ca, ndN_ca, lwN_p] at c1 ⊢
  refine x_if_ge h dX7_ways_4 (tgt := 11) (by decide) (by omega) (fun q4 => ?_) (fun q4 => ?_)
  · refine x_aload_n h dX7_ways_11 rfl ?_
    refine x_getr (j := 14) (q := 8) h dX7_ways_12 (sM0 hm) rfl in_X7 rfl (by decide) m_fl_X7_31 ?_
    refine x_iconst h dX7_ways_15 ?_
    
    refine x_aload_n h dX7_ways_16 rfl ?_
    refine x_getr (j := 0) (q := 1) h dX7_ways_17 (sM0 hm) rfl in_X7 rfl (by decide) m_fl_X7_9 ?_
    refine x_iconst h dX7_ways_20 ?_
    
    refine x_iaload h dX7_ways_21 (sM1 hm) (by omega) (fun r21 => ?_)
    rw [show ca (fpM M) f1 d1 1 1 = M 1 1 from rfl]
    refine x_ishl h dX7_ways_22 (fun r22 => ?_)
    refine x_iconst h dX7_ways_23 ?_
    refine x_isub h dX7_ways_24 ?_
    refine x_iaload h dX7_ways_25 (sM8 hm) (by omega) (fun r25 => ?_)
    exact x_iretq h he dX7_ways_26 ⟨by rw [ca_n (by decide) (by decide)]; unfold nwsR fpM; rw [prM_8]; rfl, CaE.of (by assumption)⟩
  · exfalso; omega

theorem dX7_mate_0 : decode cX7_mate 0 = .ok (.aload_n 0, 1) := by decide +kernel
theorem dX7_mate_1 : decode cX7_mate 1 = .ok (.iload_n 1, 1) := by decide +kernel
theorem dX7_mate_2 : decode cX7_mate 2 = .ok (.invokevirtual 148, 3) := by decide +kernel
theorem dX7_mate_5 : decode cX7_mate 5 = .ok (.ifCond .ne 10, 3) := by decide +kernel
theorem dX7_mate_8 : decode cX7_mate 8 = .ok (.aload_n 0, 1) := by decide +kernel
theorem dX7_mate_9 : decode cX7_mate 9 = .ok (.ldc 76, 2) := by decide +kernel
theorem dX7_mate_11 : decode cX7_mate 11 = .ok (.invokevirtual 101, 3) := by decide +kernel
theorem dX7_mate_14 : decode cX7_mate 14 = .ok (.ireturn, 1) := by decide +kernel
theorem dX7_mate_15 : decode cX7_mate 15 = .ok (.aload_n 0, 1) := by decide +kernel
theorem dX7_mate_16 : decode cX7_mate 16 = .ok (.invokevirtual 274, 3) := by decide +kernel
theorem dX7_mate_19 : decode cX7_mate 19 = .ok (.ifCond .ge 7, 3) := by decide +kernel
theorem dX7_mate_22 : decode cX7_mate 22 = .ok (.iconst 0, 1) := by decide +kernel
theorem dX7_mate_23 : decode cX7_mate 23 = .ok (.goto 13, 3) := by decide +kernel
theorem dX7_mate_26 : decode cX7_mate 26 = .ok (.iconst 1, 1) := by decide +kernel
theorem dX7_mate_27 : decode cX7_mate 27 = .ok (.aload_n 0, 1) := by decide +kernel
theorem dX7_mate_28 : decode cX7_mate 28 = .ok (.getfield 9, 3) := by decide +kernel
theorem dX7_mate_31 : decode cX7_mate 31 = .ok (.iconst 1, 1) := by decide +kernel
theorem dX7_mate_32 : decode cX7_mate 32 = .ok (.iaload, 1) := by decide +kernel
theorem dX7_mate_33 : decode cX7_mate 33 = .ok (.ishl, 1) := by decide +kernel
theorem dX7_mate_34 : decode cX7_mate 34 = .ok (.iconst 1, 1) := by decide +kernel
theorem dX7_mate_35 : decode cX7_mate 35 = .ok (.isub, 1) := by decide +kernel
theorem dX7_mate_36 : decode cX7_mate 36 = .ok (.istore_n 2, 1) := by decide +kernel
theorem dX7_mate_37 : decode cX7_mate 37 = .ok (.bipush (-2), 2) := by decide +kernel
theorem dX7_mate_39 : decode cX7_mate 39 = .ok (.istore_n 3, 1) := by decide +kernel
theorem dX7_mate_40 : decode cX7_mate 40 = .ok (.iload_n 3, 1) := by decide +kernel
theorem dX7_mate_41 : decode cX7_mate 41 = .ok (.bipush (-2), 2) := by decide +kernel
theorem dX7_mate_43 : decode cX7_mate 43 = .ok (.if_icmp .ne 91, 3) := by decide +kernel
theorem dX7_mate_46 : decode cX7_mate 46 = .ok (.iload_n 2, 1) := by decide +kernel
theorem dX7_mate_47 : decode cX7_mate 47 = .ok (.invokestatic 262, 3) := by decide +kernel
theorem dX7_mate_50 : decode cX7_mate 50 = .ok (.istore 4, 2) := by decide +kernel
theorem dX7_mate_52 : decode cX7_mate 52 = .ok (.iload 4, 2) := by decide +kernel
theorem dX7_mate_54 : decode cX7_mate 54 = .ok (.istore 5, 2) := by decide +kernel
theorem dX7_mate_56 : decode cX7_mate 56 = .ok (.aload_n 0, 1) := by decide +kernel
theorem dX7_mate_57 : decode cX7_mate 57 = .ok (.iload_n 2, 1) := by decide +kernel
theorem dX7_mate_58 : decode cX7_mate 58 = .ok (.iload 5, 2) := by decide +kernel
theorem dX7_mate_60 : decode cX7_mate 60 = .ok (.invokevirtual 268, 3) := by decide +kernel
theorem dX7_mate_63 : decode cX7_mate 63 = .ok (.ifCond .eq 19, 3) := by decide +kernel
theorem dX7_mate_66 : decode cX7_mate 66 = .ok (.aload_n 0, 1) := by decide +kernel
theorem dX7_mate_67 : decode cX7_mate 67 = .ok (.iload_n 2, 1) := by decide +kernel
theorem dX7_mate_68 : decode cX7_mate 68 = .ok (.iload 5, 2) := by decide +kernel
theorem dX7_mate_70 : decode cX7_mate 70 = .ok (.invokevirtual 271, 3) := by decide +kernel
theorem dX7_mate_73 : decode cX7_mate 73 = .ok (.aload_n 0, 1) := by decide +kernel
theorem dX7_mate_74 : decode cX7_mate 74 = .ok (.getfield 28, 3) := by decide +kernel
theorem dX7_mate_77 : decode cX7_mate 77 = .ok (.iload_n 2, 1) := by decide +kernel
theorem dX7_mate_78 : decode cX7_mate 78 = .ok (.iaload, 1) := by decide +kernel
theorem dX7_mate_79 : decode cX7_mate 79 = .ok (.if_icmp .eq 9, 3) := by decide +kernel
theorem dX7_mate_82 : decode cX7_mate 82 = .ok (.iinc 5 1, 3) := by decide +kernel
theorem dX7_mate_85 : decode cX7_mate 85 = .ok (.goto (-29), 3) := by decide +kernel
theorem dX7_mate_88 : decode cX7_mate 88 = .ok (.iload 4, 2) := by decide +kernel
theorem dX7_mate_90 : decode cX7_mate 90 = .ok (.iload_n 1, 1) := by decide +kernel
theorem dX7_mate_91 : decode cX7_mate 91 = .ok (.if_icmp .ne 19, 3) := by decide +kernel
theorem dX7_mate_94 : decode cX7_mate 94 = .ok (.iload 5, 2) := by decide +kernel
theorem dX7_mate_96 : decode cX7_mate 96 = .ok (.iload 4, 2) := by decide +kernel
theorem dX7_mate_98 : decode cX7_mate 98 = .ok (.if_icmp .ne 7, 3) := by decide +kernel
theorem dX7_mate_101 : decode cX7_mate 101 = .ok (.iconst (-1), 1) := by decide +kernel
theorem dX7_mate_102 : decode cX7_mate 102 = .ok (.goto 21, 3) := by decide +kernel
theorem dX7_mate_105 : decode cX7_mate 105 = .ok (.iload 5, 2) := by decide +kernel
theorem dX7_mate_107 : decode cX7_mate 107 = .ok (.goto 16, 3) := by decide +kernel
theorem dX7_mate_110 : decode cX7_mate 110 = .ok (.iload 5, 2) := by decide +kernel
theorem dX7_mate_112 : decode cX7_mate 112 = .ok (.iload_n 1, 1) := by decide +kernel
theorem dX7_mate_113 : decode cX7_mate 113 = .ok (.if_icmp .ne 8, 3) := by decide +kernel
theorem dX7_mate_116 : decode cX7_mate 116 = .ok (.iload 4, 2) := by decide +kernel
theorem dX7_mate_118 : decode cX7_mate 118 = .ok (.goto 5, 3) := by decide +kernel
theorem dX7_mate_121 : decode cX7_mate 121 = .ok (.bipush (-2), 2) := by decide +kernel
theorem dX7_mate_123 : decode cX7_mate 123 = .ok (.istore_n 3, 1) := by decide +kernel
theorem dX7_mate_124 : decode cX7_mate 124 = .ok (.iload_n 2, 1) := by decide +kernel
theorem dX7_mate_125 : decode cX7_mate 125 = .ok (.iload 5, 2) := by decide +kernel
theorem dX7_mate_127 : decode cX7_mate 127 = .ok (.invokestatic 265, 3) := by decide +kernel
theorem dX7_mate_130 : decode cX7_mate 130 = .ok (.istore_n 2, 1) := by decide +kernel
theorem dX7_mate_131 : decode cX7_mate 131 = .ok (.goto (-91), 3) := by decide +kernel
theorem dX7_mate_134 : decode cX7_mate 134 = .ok (.iload_n 3, 1) := by decide +kernel
theorem dX7_mate_135 : decode cX7_mate 135 = .ok (.ireturn, 1) := by decide +kernel
set_option maxHeartbeats 800000 in
set_option maxRecDepth 100000 in
theorem c_X7_mate {l : Launch} {ω : xO} {ks : Nat → Option Nat} (hm : xsh ω = mdS ks) {p : Int} {M : xMem} (hI : MInv M) (hf : Fc M) (hp : inR p) : Cq l ω yX7_mate ({ frames := 6, cells := 0, slots := 0, locals := 136 } : Room) 6 1 [.ref (xad ω 0), .int (iI p)] M (pI1 (fun r N' => r = nmtR M p ∧ CaE (nmtM M p) N')) := by
  refine Cq.of (bytes := cX7_mate) (ret := (some .int)) (lv0 := [some (.ref (xad ω 0)), some (.int (iI p)), none, none, none, none]) m_cd_X7_mate m_in_X7 (by decide +kernel) (by decide +kernel) rfl rfl rfl rfl ?_
  intro κ h he hR
  have hn := hI.1
  have hb := evF_R hn
  have hfr := fpR_R hI
  refine x_aload_n h dX7_mate_0 rfl ?_
  refine x_iload_n h dX7_mate_1 rfl ?_
  refine x_V1i h dX7_mate_2 m_ml_X7_148 m_im_X7_isPerson m_se_X7_isPerson (sM0 hm) rfl (by decide) rfl (c_X7_isPerson hm (by omega) (by omega)) ?_
  refine x_ifneB h dX7_mate_5 (tgt := 15) (by decide) (fun q5 => ?_) (fun q5 => ?_)
  · refine x_aload_n h dX7_mate_15 rfl ?_
    refine x_Q0i h dX7_mate_16 m_ml_X7_274 m_im_X7_findPairs m_se_X7_findPairs (sM0 hm) rfl (by decide) rfl (c_X7_findPairs hm (by exact hI) (by assumption)) (fun r16 N16 h16 => ?_)
    obtain ⟨rfl, f16, d16, rfl, c16⟩ := h16
    try simp only [ca_ca, ca_1, dN_ca, wyM_ca, plN_ca, rpN_ca, ltN_ca, pmN_ca, wnN_ca, nbN_ca, ca_07, ca_08, ca_09, ca_010, beN_ca, ctN_ca, gonN_ca, mvN_ca, stN_ca, thN_ca, fnM_ca, tiN_ca, smN_ca, frN_ca, teN_ca, apN_ca, ca_13, ca_14, ca_7, lwN_ca, ndN_ca, lwN_p] at c16 ⊢
    unfold fpM at c16 ⊢
    refine x_if_ge h dX7_mate_19 (tgt := 26) (by decide) (by omega) (fun q19 => ?_) (fun q19 => ?_)
    · refine x_iconst h dX7_mate_26 ?_
      refine x_aload_n h dX7_mate_27 rfl ?_
      refine x_getr (j := 0) (q := 1) h dX7_mate_28 (sM0 hm) rfl in_X7 rfl (by decide) m_fl_X7_9 ?_
      refine x_iconst h dX7_mate_31 ?_
      refine x_iaload h dX7_mate_32 (sM1 hm) (by omega) (fun r32 => ?_)
      rw [show ca (prM M (fpK M).1 (fpK M).2) f16 d16 1 1 = M 1 1 from rfl]
      refine x_ishl h dX7_mate_33 (fun r33 => ?_)
      refine x_iconst h dX7_mate_34 ?_
      refine x_isub h dX7_mate_35 ?_
      rw [evF_e]
      refine x_istore_n h dX7_mate_36 rfl rfl ?_
      dsimp only [xset]
      refine x_bipush h dX7_mate_37 (by decide) ?_
      refine x_istore_n h dX7_mate_39 rfl rfl ?_
      dsimp only [xset]
      have hnn : 0 ≤ p ∧ p < M 1 1 := by omega
      have hfx := fpK_x hI
      have hfB := fpK_B hI
      have hdef : nmtR M p = mtN (apN M) (fpK M).1 p 255 (evF (M 1 1)) := by unfold nmtR; rw [if_pos hnn]
      have hdm : nmtM M p = prM M (fpK M).1 (fpK M).2 := by unfold nmtM; rw [if_pos hnn]; rfl
      have HE : ∀ (v s a c : Int) (f : Int) (d : Int → Int), v ≠ -2 → inR v → v = nmtR M p → Fc (ca (prM M (fpK M).1 (fpK M).2) f d) → X ω κ 40 [some (.ref (xad ω 0)), some (.int (iI p)), some (.int (iI s)), some (.int (iI v)), some (.int (iI a)), some (.int (iI c))] [] (ca (prM M (fpK M).1 (fpK M).2) f d) := by
        intro v s a c f d hv hvr hve hc
        refine x_iload_n h dX7_mate_40 rfl ?_
        refine x_bipush h dX7_mate_41 (by decide) ?_
        refine x_icmp_ne h dX7_mate_43 (tgt := 134) (by decide) (by omega) (by omega) (fun q43 => ?_) (fun q43 => ?_)
        · refine x_iload_n h dX7_mate_134 rfl ?_
          exact x_iretq h he dX7_mate_135 ⟨hve, by rw [hdm]; exact CaE.of hc⟩
        · exact absurd q43 hv
      have HH : ∀ (k : Nat) (s : Int) (f : Int) (d : Int → Int), s ≤ k → 0 < s → s ≤ evF (M 1 1) → inS p s → Fc (ca (prM M (fpK M).1 (fpK M).2) f d) → mtN (apN M) (fpK M).1 p k s = nmtR M p → X ω κ 40 [some (.ref (xad ω 0)), some (.int (iI p)), some (.int (iI s)), some (.int (iI (-2))), none, none] [] (ca (prM M (fpK M).1 (fpK M).2) f d) := by
        intro k
        induction k with
        | zero => intro s f d h1 h2; omega
        | succ k ih =>
          intro s f d h1 h2 h3 h4 hc hw
          have hs : 0 < s ∧ s < 256 := by omega
          have hx := lowN_x hs
          have hlp : lowN s < M 1 1 := inS_lt hn (by unfold evF at h3; omega) hx.1 hx.2.1
          obtain ⟨hxr, hxC, hxn⟩ := mtO_x (A := apN M) (L := (fpK M).1) hn hs (hfx s h2 h3)
          rw [mtN] at hw
          have hL := hfB s (by omega) h3
          generalize mtO (apN M) (fpK M).1 s = x at hw hxr hxC hxn
          have hwl := wiN_lt hs (o := x) (by omega)
          have hwi := wiN_i (q := p) hs (o := x) (by omega) (by omega)
          have hw0 : lowN s ≠ p → x ≠ p → 0 < wiN s x := by
            intro g1 g2
            have := hwi.mpr ⟨h4, fun z => g1 z.symm, fun z => g2 z.symm⟩
            by_cases z : wiN s x = 0
            · rw [z] at this; exact absurd this (inS_0 (by omega))
            · omega
          refine x_iload_n h dX7_mate_40 rfl ?_
          refine x_bipush h dX7_mate_41 (by decide) ?_
          refine x_icmp_ne h dX7_mate_43 (tgt := 134) (by decide) (by omega) (by omega) (fun q43 => ?_) (fun q43 => ?_)
          · exact absurd rfl q43
          · refine x_iload_n h dX7_mate_46 rfl ?_
            refine x_S1i h dX7_mate_47 m_ml_X7_262 m_st_X7_lowest (by decide) rfl (c_X7_lowest hm hs) ?_
            try simp only [ca_ca, ca_1, dN_ca, wyM_ca, plN_ca, rpN_ca, ltN_ca, pmN_ca, wnN_ca, nbN_ca, ca_07, ca_08, ca_09, ca_010, beN_ca, ctN_ca, gonN_ca, mvN_ca, stN_ca, thN_ca, fnM_ca, tiN_ca, smN_ca, frN_ca, teN_ca, apN_ca, ca_13, ca_14, ca_7, lwN_ca, ndN_ca, lwN_p]
            refine x_istore h dX7_mate_50 rfl rfl ?_
            dsimp only [xset]
            refine x_iload h dX7_mate_52 rfl ?_
            refine x_istore h dX7_mate_54 rfl rfl ?_
            dsimp only [xset]
            have H2 : ∀ (k2 : Nat) (o f : Int) (d : Int → Int), lowN s ≤ o → o + k2 = x → Fc (ca (prM M (fpK M).1 (fpK M).2) f d) → X ω κ 56 [some (.ref (xad ω 0)), some (.int (iI p)), some (.int (iI s)), some (.int (iI (-2))), some (.int (iI (lowN s))), some (.int (iI o))] [] (ca (prM M (fpK M).1 (fpK M).2) f d) := by
              intro k2
              induction k2 with
              | zero =>
                intro o f d g1 g2 hc
                have eo : o = x := by omega
                subst eo
                refine x_aload_n h dX7_mate_56 rfl ?_
                refine x_iload_n h dX7_mate_57 rfl ?_
                refine x_iload h dX7_mate_58 rfl ?_
                refine x_V2i h dX7_mate_60 m_ml_X7_268 m_im_X7_mayBe m_se_X7_mayBe (sM0 hm) rfl (by decide) rfl (c_X7_mayBe hm hs (by omega)) ?_
                try simp only [ca_ca, ca_1, dN_ca, wyM_ca, plN_ca, rpN_ca, ltN_ca, pmN_ca, wnN_ca, nbN_ca, ca_07, ca_08, ca_09, ca_010, beN_ca, ctN_ca, gonN_ca, mvN_ca, stN_ca, thN_ca, fnM_ca, tiN_ca, smN_ca, frN_ca, teN_ca, apN_ca, ca_13, ca_14, ca_7, lwN_ca, ndN_ca, lwN_p]
                refine x_ifeqB h dX7_mate_63 (tgt := 82) (by decide) (fun q63 => ?_) (fun q63 => ?_)
                · exact absurd hxC.1 q63
                · refine x_aload_n h dX7_mate_66 rfl ?_
                  refine x_iload_n h dX7_mate_67 rfl ?_
                  refine x_iload h dX7_mate_68 rfl ?_
                  refine x_Q2i h dX7_mate_70 m_ml_X7_271 m_im_X7_leastWith m_se_X7_leastWith (sM0 hm) rfl (by decide) rfl (c_X7_leastWith hm (prM_I hI).ca hc hs hlp (show 0 ≤ o ∧ o < M 1 1 by omega)) (fun r70 N70 h70 => ?_)
                  obtain ⟨rfl, f70, d70, rfl, c70⟩ := h70
                  try simp only [ca_ca, ca_1, dN_ca, wyM_ca, plN_ca, rpN_ca, ltN_ca, pmN_ca, wnN_ca, nbN_ca, ca_07, ca_08, ca_09, ca_010, beN_ca, ctN_ca, gonN_ca, mvN_ca, stN_ca, thN_ca, fnM_ca, tiN_ca, smN_ca, frN_ca, teN_ca, apN_ca, ca_13, ca_14, ca_7, lwN_ca, ndN_ca, lwN_p] at c70 ⊢
                  refine x_aload_n h dX7_mate_73 rfl ?_
                  refine x_getr (j := 13) (q := 7) h dX7_mate_74 (sM0 hm) rfl in_X7 rfl (by decide) m_fl_X7_28 ?_
                  refine x_iload_n h dX7_mate_77 rfl ?_
                  refine x_iaload h dX7_mate_78 (sM7 hm) (by omega) (fun r78 => ?_)
                  rw [ca_n (by decide) (by decide), prM_7] at r78 ⊢
                  have hlw := lsA_R (A := apN M) (n := (M 1 1).toNat) (L := (fpK M).1) (s := s) (o := o) (k := evF (M 1 1)) (fun a c h1 h2 h3 h4 => apN_R hI a c h1 (by omega) h3 (by omega)) hfB (by omega) hs (by omega) (by omega)
                  refine x_icmp_eq h dX7_mate_79 (tgt := 88) (by decide) (by omega) (by omega) (fun q79 => ?_) (fun q79 => ?_)
                  · refine x_iload h dX7_mate_88 rfl ?_
                    refine x_iload_n h dX7_mate_90 rfl ?_
                    refine x_icmp_ne h dX7_mate_91 (tgt := 110) (by decide) (by omega) (by omega) (fun q91 => ?_) (fun q91 => ?_)
                    · refine x_iload h dX7_mate_110 rfl ?_
                      refine x_iload_n h dX7_mate_112 rfl ?_
                      refine x_icmp_ne h dX7_mate_113 (tgt := 121) (by decide) (by omega) (by omega) (fun q113 => ?_) (fun q113 => ?_)
                      · refine x_bipush h dX7_mate_121 (by decide) ?_
                        refine x_istore_n h dX7_mate_123 rfl rfl ?_
                        dsimp only [xset]
                        refine x_iload_n h dX7_mate_124 rfl ?_
                        refine x_iload h dX7_mate_125 rfl ?_
                        refine x_S2i h dX7_mate_127 m_ml_X7_265 m_st_X7_without (by decide) rfl (c_X7_without hm hs) ?_
                        try simp only [ca_ca, ca_1, dN_ca, wyM_ca, plN_ca, rpN_ca, ltN_ca, pmN_ca, wnN_ca, nbN_ca, ca_07, ca_08, ca_09, ca_010, beN_ca, ctN_ca, gonN_ca, mvN_ca, stN_ca, thN_ca, fnM_ca, tiN_ca, smN_ca, frN_ca, teN_ca, apN_ca, ca_13, ca_14, ca_7, lwN_ca, ndN_ca, lwN_p]
                        refine x_istore_n h dX7_mate_130 rfl rfl ?_
                        dsimp only [xset]
                        refine x_goto h dX7_mate_131 (tgt := 40) (by decide) ?_
                        first
                          | (rw [if_pos q91, if_pos q98] at hw; exact HE _ _ _ _ _ _ (by decide) (by decide) hw (by assumption))
                          | (rw [if_pos q91, if_neg q98] at hw; exact HE _ _ _ _ _ _ (by omega) (by omega) hw (by assumption))
                          | (rw [if_neg q91, if_pos q113] at hw; exact HE _ _ _ _ _ _ (by omega) (by omega) hw (by assumption))
                          | (rw [if_neg q91, if_neg q113] at hw; refine x_drop 4 ?_; refine x_drop 5 ?_; dsimp only [xclr]; exact ih _ _ _ (by omega) (hw0 q91 q113) (by omega) (hwi.mpr ⟨h4, fun z => q91 z.symm, fun z => q113 z.symm⟩) (by assumption) hw)
                      · refine x_iload h dX7_mate_116 rfl ?_
                        refine x_goto h dX7_mate_118 (tgt := 123) (by decide) ?_
                        refine x_istore_n h dX7_mate_123 rfl rfl ?_
                        dsimp only [xset]
                        refine x_iload_n h dX7_mate_124 rfl ?_
                        refine x_iload h dX7_mate_125 rfl ?_
                        refine x_S2i h dX7_mate_127 m_ml_X7_265 m_st_X7_without (by decide) rfl (c_X7_without hm hs) ?_
                        try simp only [ca_ca, ca_1, dN_ca, wyM_ca, plN_ca, rpN_ca, ltN_ca, pmN_ca, wnN_ca, nbN_ca, ca_07, ca_08, ca_09, ca_010, beN_ca, ctN_ca, gonN_ca, mvN_ca, stN_ca, thN_ca, fnM_ca, tiN_ca, smN_ca, frN_ca, teN_ca, apN_ca, ca_13, ca_14, ca_7, lwN_ca, ndN_ca, lwN_p]
                        refine x_istore_n h dX7_mate_130 rfl rfl ?_
                        dsimp only [xset]
                        refine x_goto h dX7_mate_131 (tgt := 40) (by decide) ?_
                        first
                          | (rw [if_pos q91, if_pos q98] at hw; exact HE _ _ _ _ _ _ (by decide) (by decide) hw (by assumption))
                          | (rw [if_pos q91, if_neg q98] at hw; exact HE _ _ _ _ _ _ (by omega) (by omega) hw (by assumption))
                          | (rw [if_neg q91, if_pos q113] at hw; exact HE _ _ _ _ _ _ (by omega) (by omega) hw (by assumption))
                          | (rw [if_neg q91, if_neg q113] at hw; refine x_drop 4 ?_; refine x_drop 5 ?_; dsimp only [xclr]; exact ih _ _ _ (by omega) (hw0 q91 q113) (by omega) (hwi.mpr ⟨h4, fun z => q91 z.symm, fun z => q113 z.symm⟩) (by assumption) hw)
                    · refine x_iload h dX7_mate_94 rfl ?_
                      refine x_iload h dX7_mate_96 rfl ?_
                      refine x_icmp_ne h dX7_mate_98 (tgt := 105) (by decide) (by omega) (by omega) (fun q98 => ?_) (fun q98 => ?_)
                      · refine x_iload h dX7_mate_105 rfl ?_
                        refine x_goto h dX7_mate_107 (tgt := 123) (by decide) ?_
                        refine x_istore_n h dX7_mate_123 rfl rfl ?_
                        dsimp only [xset]
                        refine x_iload_n h dX7_mate_124 rfl ?_
                        refine x_iload h dX7_mate_125 rfl ?_
                        refine x_S2i h dX7_mate_127 m_ml_X7_265 m_st_X7_without (by decide) rfl (c_X7_without hm hs) ?_
                        try simp only [ca_ca, ca_1, dN_ca, wyM_ca, plN_ca, rpN_ca, ltN_ca, pmN_ca, wnN_ca, nbN_ca, ca_07, ca_08, ca_09, ca_010, beN_ca, ctN_ca, gonN_ca, mvN_ca, stN_ca, thN_ca, fnM_ca, tiN_ca, smN_ca, frN_ca, teN_ca, apN_ca, ca_13, ca_14, ca_7, lwN_ca, ndN_ca, lwN_p]
                        refine x_istore_n h dX7_mate_130 rfl rfl ?_
                        dsimp only [xset]
                        refine x_goto h dX7_mate_131 (tgt := 40) (by decide) ?_
                        first
                          | (rw [if_pos q91, if_pos q98] at hw; exact HE _ _ _ _ _ _ (by decide) (by decide) hw (by assumption))
                          | (rw [if_pos q91, if_neg q98] at hw; exact HE _ _ _ _ _ _ (by omega) (by omega) hw (by assumption))
                          | (rw [if_neg q91, if_pos q113] at hw; exact HE _ _ _ _ _ _ (by omega) (by omega) hw (by assumption))
                          | (rw [if_neg q91, if_neg q113] at hw; refine x_drop 4 ?_; refine x_drop 5 ?_; dsimp only [xclr]; exact ih _ _ _ (by omega) (hw0 q91 q113) (by omega) (hwi.mpr ⟨h4, fun z => q91 z.symm, fun z => q113 z.symm⟩) (by assumption) hw)
                      · refine x_iconst h dX7_mate_101 ?_
                        refine x_goto h dX7_mate_102 (tgt := 123) (by decide) ?_
                        refine x_istore_n h dX7_mate_123 rfl rfl ?_
                        dsimp only [xset]
                        refine x_iload_n h dX7_mate_124 rfl ?_
                        refine x_iload h dX7_mate_125 rfl ?_
                        refine x_S2i h dX7_mate_127 m_ml_X7_265 m_st_X7_without (by decide) rfl (c_X7_without hm hs) ?_
                        try simp only [ca_ca, ca_1, dN_ca, wyM_ca, plN_ca, rpN_ca, ltN_ca, pmN_ca, wnN_ca, nbN_ca, ca_07, ca_08, ca_09, ca_010, beN_ca, ctN_ca, gonN_ca, mvN_ca, stN_ca, thN_ca, fnM_ca, tiN_ca, smN_ca, frN_ca, teN_ca, apN_ca, ca_13, ca_14, ca_7, lwN_ca, ndN_ca, lwN_p]
                        refine x_istore_n h dX7_mate_130 rfl rfl ?_
                        dsimp only [xset]
                        refine x_goto h dX7_mate_131 (tgt := 40) (by decide) ?_
                        first
                          | (rw [if_pos q91, if_pos q98] at hw; exact HE _ _ _ _ _ _ (by decide) (by decide) hw (by assumption))
                          | (rw [if_pos q91, if_neg q98] at hw; exact HE _ _ _ _ _ _ (by omega) (by omega) hw (by assumption))
                          | (rw [if_neg q91, if_pos q113] at hw; exact HE _ _ _ _ _ _ (by omega) (by omega) hw (by assumption))
                          | (rw [if_neg q91, if_neg q113] at hw; refine x_drop 4 ?_; refine x_drop 5 ?_; dsimp only [xclr]; exact ih _ _ _ (by omega) (hw0 q91 q113) (by omega) (hwi.mpr ⟨h4, fun z => q91 z.symm, fun z => q113 z.symm⟩) (by assumption) hw)
                  · exact absurd hxC.2 q79
              | succ k2 ih2 =>
                intro o f d g1 g2 hc
                have hnc := hxn o g1 (by omega)
                refine x_aload_n h dX7_mate_56 rfl ?_
                refine x_iload_n h dX7_mate_57 rfl ?_
                refine x_iload h dX7_mate_58 rfl ?_
                refine x_V2i h dX7_mate_60 m_ml_X7_268 m_im_X7_mayBe m_se_X7_mayBe (sM0 hm) rfl (by decide) rfl (c_X7_mayBe hm hs (by omega)) ?_
                try simp only [ca_ca, ca_1, dN_ca, wyM_ca, plN_ca, rpN_ca, ltN_ca, pmN_ca, wnN_ca, nbN_ca, ca_07, ca_08, ca_09, ca_010, beN_ca, ctN_ca, gonN_ca, mvN_ca, stN_ca, thN_ca, fnM_ca, tiN_ca, smN_ca, frN_ca, teN_ca, apN_ca, ca_13, ca_14, ca_7, lwN_ca, ndN_ca, lwN_p]
                refine x_ifeqB h dX7_mate_63 (tgt := 82) (by decide) (fun q63 => ?_) (fun q63 => ?_)
                · refine x_iinc h dX7_mate_82 rfl rfl rfl ?_
                  dsimp only [xset]
                  refine x_goto h dX7_mate_85 (tgt := 56) (by decide) ?_
                  exact ih2 (o + 1) _ _ (by omega) (by omega) (by assumption)
                · refine x_aload_n h dX7_mate_66 rfl ?_
                  refine x_iload_n h dX7_mate_67 rfl ?_
                  refine x_iload h dX7_mate_68 rfl ?_
                  refine x_Q2i h dX7_mate_70 m_ml_X7_271 m_im_X7_leastWith m_se_X7_leastWith (sM0 hm) rfl (by decide) rfl (c_X7_leastWith hm (prM_I hI).ca hc hs hlp (show 0 ≤ o ∧ o < M 1 1 by omega)) (fun r70 N70 h70 => ?_)
                  obtain ⟨rfl, f70, d70, rfl, c70⟩ := h70
                  try simp only [ca_ca, ca_1, dN_ca, wyM_ca, plN_ca, rpN_ca, ltN_ca, pmN_ca, wnN_ca, nbN_ca, ca_07, ca_08, ca_09, ca_010, beN_ca, ctN_ca, gonN_ca, mvN_ca, stN_ca, thN_ca, fnM_ca, tiN_ca, smN_ca, frN_ca, teN_ca, apN_ca, ca_13, ca_14, ca_7, lwN_ca, ndN_ca, lwN_p] at c70 ⊢
                  refine x_aload_n h dX7_mate_73 rfl ?_
                  refine x_getr (j := 13) (q := 7) h dX7_mate_74 (sM0 hm) rfl in_X7 rfl (by decide) m_fl_X7_28 ?_
                  refine x_iload_n h dX7_mate_77 rfl ?_
                  refine x_iaload h dX7_mate_78 (sM7 hm) (by omega) (fun r78 => ?_)
                  rw [ca_n (by decide) (by decide), prM_7] at r78 ⊢
                  have hlw := lsA_R (A := apN M) (n := (M 1 1).toNat) (L := (fpK M).1) (s := s) (o := o) (k := evF (M 1 1)) (fun a c h1 h2 h3 h4 => apN_R hI a c h1 (by omega) h3 (by omega)) hfB (by omega) hs (by omega) (by omega)
                  refine x_icmp_eq h dX7_mate_79 (tgt := 88) (by decide) (by omega) (by omega) (fun q79 => ?_) (fun q79 => ?_)
                  · exact absurd ⟨q63, q79⟩ hnc
                  · refine x_iinc h dX7_mate_82 rfl rfl rfl ?_
                    dsimp only [xset]
                    refine x_goto h dX7_mate_85 (tgt := 56) (by decide) ?_
                    exact ih2 (o + 1) _ _ (by omega) (by omega) (by assumption)
            exact H2 (x - lowN s).toNat (lowN s) f d (by omega) (by omega) hc
      exact HH 255 (evF (M 1 1)) _ _ (by omega) (by have h1 := inS_all hn hnn; by_cases z : evF (M 1 1) = 0; exact absurd (z ▸ h1) (inS_0 (by omega)); omega) (Int.le_refl _) (inS_all hn hnn) (by assumption) hdef.symm
    · exfalso; omega
  · refine x_aload_n h dX7_mate_8 rfl ?_
    refine x_ldc h m_k_X7_76 dX7_mate_9 ?_
    refine x_V1i h dX7_mate_11 m_ml_X7_101 m_im_X7_finding m_se_X7_finding (sM0 hm) rfl (by decide) rfl (c_X7_finding hm (by omega)) ?_
    try simp only [ca_ca, ca_1, dN_ca, wyM_ca, plN_ca, rpN_ca, ltN_ca, pmN_ca, wnN_ca, nbN_ca, ca_07, ca_08, ca_09, ca_010, beN_ca, ctN_ca, gonN_ca, mvN_ca, stN_ca, thN_ca, fnM_ca, tiN_ca, smN_ca, frN_ca, teN_ca, apN_ca, ca_13, ca_14, ca_7, lwN_ca, ndN_ca, lwN_p]
    exact x_iretq h he dX7_mate_14 ⟨by unfold nmtR; rw [if_neg (by omega)], by unfold nmtM; rw [if_neg (by omega)]; exact CaE.rf1 fnM_y rfl rfl hf⟩

def ctL (M : xMem) (n : Nat) : Int := xfo (fun (p acc : Int) => if p < M 1 (113 + 8 * p + 3) then acc + 1 else acc) 0 n
def ctW (M : xMem) (n : Nat) : Int := xfo (fun (k acc : Int) => acc + M 1 (13 + k)) 0 n
def ctR (M : xMem) (n : Nat) : Int := xfo (fun (p acc : Int) => if p < M 1 (113 + 8 * p + 3) then acc + M 1 (113 + 8 * p + 5) else acc) 0 n
def ctS (M : xMem) (n : Nat) : Int := xfo (fun (s acc : Int) => if M 1 (3 + s) < 0 then acc else acc + 1) 0 n
theorem ctL_s (M : xMem) (n : Nat) : ctL M (n + 1) = if (n : Int) < M 1 (113 + 8 * (n : Int) + 3) then ctL M n + 1 else ctL M n := rfl
theorem ctW_s (M : xMem) (n : Nat) : ctW M (n + 1) = ctW M n + M 1 (13 + (n : Int)) := rfl
theorem ctR_s (M : xMem) (n : Nat) : ctR M (n + 1) = if (n : Int) < M 1 (113 + 8 * (n : Int) + 3) then ctR M n + M 1 (113 + 8 * (n : Int) + 5) else ctR M n := rfl
theorem ctS_s (M : xMem) (n : Nat) : ctS M (n + 1) = if M 1 (3 + (n : Int)) < 0 then ctS M n else ctS M n + 1 := rfl
def nctR (M : xMem) (x : Int) : Int := if x = 0 then M 1 0 else if x = 1 then M 1 1 else if x = 2 then ctL M (M 1 1).toNat else if x = 3 then bdiv (ctW M 100) 2 else if x = 4 then ctR M (M 1 1).toNat else if x = 5 then M 0 16 else if x = 6 then M 1 2 else if x = 7 then ctS M 10 else -1000001
def nctM (M : xMem) (x : Int) : xMem := if 0 ≤ x ∧ x ≤ 7 then M else fnM M (-1000001)
theorem dX7_count_0 : decode cX7_count 0 = .ok (.iconst 0, 1) := by decide +kernel
theorem dX7_count_1 : decode cX7_count 1 = .ok (.istore_n 2, 1) := by decide +kernel
theorem dX7_count_2 : decode cX7_count 2 = .ok (.iload_n 1, 1) := by decide +kernel
theorem dX7_count_3 : decode cX7_count 3 = .ok (.tableswitch 213 0 7 #[45, 52, 59, 95, 125, 166, 171, 178], 45) := by decide +kernel
theorem dX7_count_48 : decode cX7_count 48 = .ok (.aload_n 0, 1) := by decide +kernel
theorem dX7_count_49 : decode cX7_count 49 = .ok (.getfield 9, 3) := by decide +kernel
theorem dX7_count_52 : decode cX7_count 52 = .ok (.iconst 0, 1) := by decide +kernel
theorem dX7_count_53 : decode cX7_count 53 = .ok (.iaload, 1) := by decide +kernel
theorem dX7_count_54 : decode cX7_count 54 = .ok (.ireturn, 1) := by decide +kernel
theorem dX7_count_55 : decode cX7_count 55 = .ok (.aload_n 0, 1) := by decide +kernel
theorem dX7_count_56 : decode cX7_count 56 = .ok (.getfield 9, 3) := by decide +kernel
theorem dX7_count_59 : decode cX7_count 59 = .ok (.iconst 1, 1) := by decide +kernel
theorem dX7_count_60 : decode cX7_count 60 = .ok (.iaload, 1) := by decide +kernel
theorem dX7_count_61 : decode cX7_count 61 = .ok (.ireturn, 1) := by decide +kernel
theorem dX7_count_62 : decode cX7_count 62 = .ok (.iconst 0, 1) := by decide +kernel
theorem dX7_count_63 : decode cX7_count 63 = .ok (.istore_n 3, 1) := by decide +kernel
theorem dX7_count_64 : decode cX7_count 64 = .ok (.iload_n 3, 1) := by decide +kernel
theorem dX7_count_65 : decode cX7_count 65 = .ok (.aload_n 0, 1) := by decide +kernel
theorem dX7_count_66 : decode cX7_count 66 = .ok (.getfield 9, 3) := by decide +kernel
theorem dX7_count_69 : decode cX7_count 69 = .ok (.iconst 1, 1) := by decide +kernel
theorem dX7_count_70 : decode cX7_count 70 = .ok (.iaload, 1) := by decide +kernel
theorem dX7_count_71 : decode cX7_count 71 = .ok (.if_icmp .ge 25, 3) := by decide +kernel
theorem dX7_count_74 : decode cX7_count 74 = .ok (.iload_n 2, 1) := by decide +kernel
theorem dX7_count_75 : decode cX7_count 75 = .ok (.aload_n 0, 1) := by decide +kernel
theorem dX7_count_76 : decode cX7_count 76 = .ok (.iload_n 3, 1) := by decide +kernel
theorem dX7_count_77 : decode cX7_count 77 = .ok (.invokevirtual 250, 3) := by decide +kernel
theorem dX7_count_80 : decode cX7_count 80 = .ok (.ifCond .eq 7, 3) := by decide +kernel
theorem dX7_count_83 : decode cX7_count 83 = .ok (.iconst 1, 1) := by decide +kernel
theorem dX7_count_84 : decode cX7_count 84 = .ok (.goto 4, 3) := by decide +kernel
theorem dX7_count_87 : decode cX7_count 87 = .ok (.iconst 0, 1) := by decide +kernel
theorem dX7_count_88 : decode cX7_count 88 = .ok (.iadd, 1) := by decide +kernel
theorem dX7_count_89 : decode cX7_count 89 = .ok (.istore_n 2, 1) := by decide +kernel
theorem dX7_count_90 : decode cX7_count 90 = .ok (.iinc 3 1, 3) := by decide +kernel
theorem dX7_count_93 : decode cX7_count 93 = .ok (.goto (-29), 3) := by decide +kernel
theorem dX7_count_96 : decode cX7_count 96 = .ok (.iload_n 2, 1) := by decide +kernel
theorem dX7_count_97 : decode cX7_count 97 = .ok (.ireturn, 1) := by decide +kernel
theorem dX7_count_98 : decode cX7_count 98 = .ok (.iconst 0, 1) := by decide +kernel
theorem dX7_count_99 : decode cX7_count 99 = .ok (.istore_n 3, 1) := by decide +kernel
theorem dX7_count_100 : decode cX7_count 100 = .ok (.iload_n 3, 1) := by decide +kernel
theorem dX7_count_101 : decode cX7_count 101 = .ok (.bipush 100, 2) := by decide +kernel
theorem dX7_count_103 : decode cX7_count 103 = .ok (.if_icmp .ge 21, 3) := by decide +kernel
theorem dX7_count_106 : decode cX7_count 106 = .ok (.iload_n 2, 1) := by decide +kernel
theorem dX7_count_107 : decode cX7_count 107 = .ok (.aload_n 0, 1) := by decide +kernel
theorem dX7_count_108 : decode cX7_count 108 = .ok (.getfield 9, 3) := by decide +kernel
theorem dX7_count_111 : decode cX7_count 111 = .ok (.bipush 13, 2) := by decide +kernel
theorem dX7_count_113 : decode cX7_count 113 = .ok (.iload_n 3, 1) := by decide +kernel
theorem dX7_count_114 : decode cX7_count 114 = .ok (.iadd, 1) := by decide +kernel
theorem dX7_count_115 : decode cX7_count 115 = .ok (.iaload, 1) := by decide +kernel
theorem dX7_count_116 : decode cX7_count 116 = .ok (.iadd, 1) := by decide +kernel
theorem dX7_count_117 : decode cX7_count 117 = .ok (.istore_n 2, 1) := by decide +kernel
theorem dX7_count_118 : decode cX7_count 118 = .ok (.iinc 3 1, 3) := by decide +kernel
theorem dX7_count_121 : decode cX7_count 121 = .ok (.goto (-21), 3) := by decide +kernel
theorem dX7_count_124 : decode cX7_count 124 = .ok (.iload_n 2, 1) := by decide +kernel
theorem dX7_count_125 : decode cX7_count 125 = .ok (.iconst 2, 1) := by decide +kernel
theorem dX7_count_126 : decode cX7_count 126 = .ok (.idiv, 1) := by decide +kernel
theorem dX7_count_127 : decode cX7_count 127 = .ok (.ireturn, 1) := by decide +kernel
theorem dX7_count_128 : decode cX7_count 128 = .ok (.iconst 0, 1) := by decide +kernel
theorem dX7_count_129 : decode cX7_count 129 = .ok (.istore_n 3, 1) := by decide +kernel
theorem dX7_count_130 : decode cX7_count 130 = .ok (.iload_n 3, 1) := by decide +kernel
theorem dX7_count_131 : decode cX7_count 131 = .ok (.aload_n 0, 1) := by decide +kernel
theorem dX7_count_132 : decode cX7_count 132 = .ok (.getfield 9, 3) := by decide +kernel
theorem dX7_count_135 : decode cX7_count 135 = .ok (.iconst 1, 1) := by decide +kernel
theorem dX7_count_136 : decode cX7_count 136 = .ok (.iaload, 1) := by decide +kernel
theorem dX7_count_137 : decode cX7_count 137 = .ok (.if_icmp .ge 30, 3) := by decide +kernel
theorem dX7_count_140 : decode cX7_count 140 = .ok (.iload_n 2, 1) := by decide +kernel
theorem dX7_count_141 : decode cX7_count 141 = .ok (.aload_n 0, 1) := by decide +kernel
theorem dX7_count_142 : decode cX7_count 142 = .ok (.iload_n 3, 1) := by decide +kernel
theorem dX7_count_143 : decode cX7_count 143 = .ok (.invokevirtual 250, 3) := by decide +kernel
theorem dX7_count_146 : decode cX7_count 146 = .ok (.ifCond .eq 12, 3) := by decide +kernel
theorem dX7_count_149 : decode cX7_count 149 = .ok (.aload_n 0, 1) := by decide +kernel
theorem dX7_count_150 : decode cX7_count 150 = .ok (.iload_n 3, 1) := by decide +kernel
theorem dX7_count_151 : decode cX7_count 151 = .ok (.iconst 5, 1) := by decide +kernel
theorem dX7_count_152 : decode cX7_count 152 = .ok (.invokevirtual 133, 3) := by decide +kernel
theorem dX7_count_155 : decode cX7_count 155 = .ok (.goto 4, 3) := by decide +kernel
theorem dX7_count_158 : decode cX7_count 158 = .ok (.iconst 0, 1) := by decide +kernel
theorem dX7_count_159 : decode cX7_count 159 = .ok (.iadd, 1) := by decide +kernel
theorem dX7_count_160 : decode cX7_count 160 = .ok (.istore_n 2, 1) := by decide +kernel
theorem dX7_count_161 : decode cX7_count 161 = .ok (.iinc 3 1, 3) := by decide +kernel
theorem dX7_count_164 : decode cX7_count 164 = .ok (.goto (-34), 3) := by decide +kernel
theorem dX7_count_167 : decode cX7_count 167 = .ok (.iload_n 2, 1) := by decide +kernel
theorem dX7_count_168 : decode cX7_count 168 = .ok (.ireturn, 1) := by decide +kernel
theorem dX7_count_169 : decode cX7_count 169 = .ok (.aload_n 0, 1) := by decide +kernel
theorem dX7_count_170 : decode cX7_count 170 = .ok (.getfield 295, 3) := by decide +kernel
theorem dX7_count_173 : decode cX7_count 173 = .ok (.ireturn, 1) := by decide +kernel
theorem dX7_count_174 : decode cX7_count 174 = .ok (.aload_n 0, 1) := by decide +kernel
theorem dX7_count_175 : decode cX7_count 175 = .ok (.getfield 9, 3) := by decide +kernel
theorem dX7_count_178 : decode cX7_count 178 = .ok (.iconst 2, 1) := by decide +kernel
theorem dX7_count_179 : decode cX7_count 179 = .ok (.iaload, 1) := by decide +kernel
theorem dX7_count_180 : decode cX7_count 180 = .ok (.ireturn, 1) := by decide +kernel
theorem dX7_count_181 : decode cX7_count 181 = .ok (.iconst 0, 1) := by decide +kernel
theorem dX7_count_182 : decode cX7_count 182 = .ok (.istore_n 3, 1) := by decide +kernel
theorem dX7_count_183 : decode cX7_count 183 = .ok (.iload_n 3, 1) := by decide +kernel
theorem dX7_count_184 : decode cX7_count 184 = .ok (.bipush 10, 2) := by decide +kernel
theorem dX7_count_186 : decode cX7_count 186 = .ok (.if_icmp .ge 28, 3) := by decide +kernel
theorem dX7_count_189 : decode cX7_count 189 = .ok (.iload_n 2, 1) := by decide +kernel
theorem dX7_count_190 : decode cX7_count 190 = .ok (.aload_n 0, 1) := by decide +kernel
theorem dX7_count_191 : decode cX7_count 191 = .ok (.getfield 9, 3) := by decide +kernel
theorem dX7_count_194 : decode cX7_count 194 = .ok (.iconst 3, 1) := by decide +kernel
theorem dX7_count_195 : decode cX7_count 195 = .ok (.iload_n 3, 1) := by decide +kernel
theorem dX7_count_196 : decode cX7_count 196 = .ok (.iadd, 1) := by decide +kernel
theorem dX7_count_197 : decode cX7_count 197 = .ok (.iaload, 1) := by decide +kernel
theorem dX7_count_198 : decode cX7_count 198 = .ok (.ifCond .ge 7, 3) := by decide +kernel
theorem dX7_count_201 : decode cX7_count 201 = .ok (.iconst 0, 1) := by decide +kernel
theorem dX7_count_202 : decode cX7_count 202 = .ok (.goto 4, 3) := by decide +kernel
theorem dX7_count_205 : decode cX7_count 205 = .ok (.iconst 1, 1) := by decide +kernel
theorem dX7_count_206 : decode cX7_count 206 = .ok (.iadd, 1) := by decide +kernel
theorem dX7_count_207 : decode cX7_count 207 = .ok (.istore_n 2, 1) := by decide +kernel
theorem dX7_count_208 : decode cX7_count 208 = .ok (.iinc 3 1, 3) := by decide +kernel
theorem dX7_count_211 : decode cX7_count 211 = .ok (.goto (-28), 3) := by decide +kernel
theorem dX7_count_214 : decode cX7_count 214 = .ok (.iload_n 2, 1) := by decide +kernel
theorem dX7_count_215 : decode cX7_count 215 = .ok (.ireturn, 1) := by decide +kernel
theorem dX7_count_216 : decode cX7_count 216 = .ok (.aload_n 0, 1) := by decide +kernel
theorem dX7_count_217 : decode cX7_count 217 = .ok (.ldc 76, 2) := by decide +kernel
theorem dX7_count_219 : decode cX7_count 219 = .ok (.invokevirtual 101, 3) := by decide +kernel
theorem dX7_count_222 : decode cX7_count 222 = .ok (.ireturn, 1) := by decide +kernel
set_option maxHeartbeats 800000 in
set_option maxRecDepth 100000 in
theorem c_X7_count {l : Launch} {ω : xO} {ks : Nat → Option Nat} (hm : xsh ω = mdS ks) {x : Int} {M : xMem} (hI : MInv M) (hx : inR x) : Ct l ω yX7_count ({ frames := 3, cells := 0, slots := 0, locals := 64 } : Room) 4 1 [.ref (xad ω 0), .int (iI x)] M (some (.int (iI (nctR M x)))) (nctM M x) := by
  refine Ct.of (bytes := cX7_count) (ret := (some .int)) (lv0 := [some (.ref (xad ω 0)), some (.int (iI x)), none, none]) m_cd_X7_count m_in_X7 (by decide +kernel) (by decide +kernel) rfl rfl rfl rfl (fun hR => by unfold nctM; split <;> first | exact hR | exact fnM_R hR) ?_
  intro κ h he hR
  have hn := hI.1
  refine x_iconst h dX7_count_0 ?_
  refine x_istore_n h dX7_count_1 rfl rfl ?_
  dsimp only [xset]
  refine x_iload_n h dX7_count_2 rfl ?_
  by_cases sw3 : x < 0 ∨ 7 < x
  · refine x_tsOut h dX7_count_3 (by omega) sw3 (tgt := 216) (by decide) ?_
    refine x_aload_n h dX7_count_216 rfl ?_
    refine x_ldc h m_k_X7_76 dX7_count_217 ?_
    refine x_V1i h dX7_count_219 m_ml_X7_101 m_im_X7_finding m_se_X7_finding (sM0 hm) rfl (by decide) rfl (c_X7_finding hm (by omega)) ?_
    exact x_iret (ret := none) h he dX7_count_222 rfl (by unfold nctR; (repeat' split) <;> first | rfl | omega) (by unfold nctM; first | rw [if_pos (by omega)] | rw [if_neg (by omega)])
  rcases (show x = 0 ∨ x = 1 ∨ x = 2 ∨ x = 3 ∨ x = 4 ∨ x = 5 ∨ x = 6 ∨ x = 7 by omega) with q3 | q3 | q3 | q3 | q3 | q3 | q3 | q3
  · refine x_tsIn 0 h dX7_count_3 q3 (by decide) rfl (tgt := 48) (by decide) ?_
    refine x_aload_n h dX7_count_48 rfl ?_
    refine x_getr (j := 0) (q := 1) h dX7_count_49 (sM0 hm) rfl in_X7 rfl (by decide) m_fl_X7_9 ?_
    refine x_iconst h dX7_count_52 ?_
    refine x_iaload h dX7_count_53 (sM1 hm) (by omega) (fun r53 => ?_)
    exact x_iret (ret := none) h he dX7_count_54 rfl (by unfold nctR; (repeat' split) <;> first | rfl | omega) (by unfold nctM; first | rw [if_pos (by omega)] | rw [if_neg (by omega)])
  · refine x_tsIn 1 h dX7_count_3 q3 (by decide) rfl (tgt := 55) (by decide) ?_
    refine x_aload_n h dX7_count_55 rfl ?_
    refine x_getr (j := 0) (q := 1) h dX7_count_56 (sM0 hm) rfl in_X7 rfl (by decide) m_fl_X7_9 ?_
    refine x_iconst h dX7_count_59 ?_
    refine x_iaload h dX7_count_60 (sM1 hm) (by omega) (fun r60 => ?_)
    exact x_iret (ret := none) h he dX7_count_61 rfl (by unfold nctR; (repeat' split) <;> first | rfl | omega) (by unfold nctM; first | rw [if_pos (by omega)] | rw [if_neg (by omega)])
  · refine x_tsIn 2 h dX7_count_3 q3 (by decide) rfl (tgt := 62) (by decide) ?_
    refine x_iconst h dX7_count_62 ?_
    refine x_istore_n h dX7_count_63 rfl rfl ?_
    dsimp only [xset]
    refine loop_up (fun k => X ω κ 64 [some (.ref (xad ω 0)), some (.int (iI x)), some (.int (iI (ctL M k))), some (.int (iI (k : Int)))] [] M) ((M 1 1).toNat) ?_ ?_
    · show X ω κ 64 [some (.ref (xad ω 0)), some (.int (iI x)), some (.int (iI (ctL M (M 1 1).toNat))), some (.int (iI (((M 1 1).toNat : Nat) : Int)))] [] M
      have g0 : (((M 1 1).toNat : Nat) : Int) = M 1 1 := by omega
      refine x_iload_n h dX7_count_64 rfl ?_
      refine x_aload_n h dX7_count_65 rfl ?_
      refine x_getr (j := 0) (q := 1) h dX7_count_66 (sM0 hm) rfl in_X7 rfl (by decide) m_fl_X7_9 ?_
      refine x_iconst h dX7_count_69 ?_
      refine x_iaload h dX7_count_70 (sM1 hm) (by omega) (fun r70 => ?_)
      refine x_icmp_ge h dX7_count_71 (tgt := 96) (by decide) (by omega) (by omega) (fun q71 => ?_) (fun q71 => ?_)
      · refine x_iload_n h dX7_count_96 rfl ?_
        exact x_iret (ret := none) h he dX7_count_97 rfl (by unfold nctR; (repeat' split) <;> first | rfl | omega) (by unfold nctM; first | rw [if_pos (by omega)] | rw [if_neg (by omega)])
      · exfalso; omega
    · intro k hk ihk
      replace ihk : X ω κ 64 [some (.ref (xad ω 0)), some (.int (iI x)), some (.int (iI (ctL M (k + 1)))), some (.int (iI ((k + 1 : Nat) : Int)))] [] M := ihk
      show X ω κ 64 [some (.ref (xad ω 0)), some (.int (iI x)), some (.int (iI (ctL M k))), some (.int (iI (k : Int)))] [] M
      have g0 : (k : Int) < M 1 1 := by omega
      rw [ctL_s] at ihk
      refine x_iload_n h dX7_count_64 rfl ?_
      refine x_aload_n h dX7_count_65 rfl ?_
      refine x_getr (j := 0) (q := 1) h dX7_count_66 (sM0 hm) rfl in_X7 rfl (by decide) m_fl_X7_9 ?_
      refine x_iconst h dX7_count_69 ?_
      refine x_iaload h dX7_count_70 (sM1 hm) (by omega) (fun r70 => ?_)
      refine x_icmp_ge h dX7_count_71 (tgt := 96) (by decide) (by omega) (by omega) (fun q71 => ?_) (fun q71 => ?_)
      · exfalso; omega
      · refine x_iload_n h dX7_count_74 rfl ?_
        refine x_aload_n h dX7_count_75 rfl ?_
        refine x_iload_n h dX7_count_76 rfl ?_
        refine x_V1i h dX7_count_77 m_ml_X7_250 m_im_X7_isLesser m_se_X7_isLesser (sM0 hm) rfl (by decide) rfl (c_X7_isLesser hm hI (by omega)) ?_
        refine x_ifeqB h dX7_count_80 (tgt := 87) (by decide) (fun q80 => ?_) (fun q80 => ?_)
        · refine x_iconst h dX7_count_87 ?_
          refine x_iadd h dX7_count_88 ?_
          refine x_istore_n h dX7_count_89 rfl rfl ?_
          dsimp only [xset]
          refine x_iinc h dX7_count_90 rfl rfl rfl ?_
          dsimp only [xset]
          refine x_goto h dX7_count_93 (tgt := 64) (by decide) ?_
          first
            | (rw [if_pos q80] at ihk; exact ihk)
            | (rw [if_neg q80] at ihk; exact x_same ihk (by rw [Int.add_zero]; rfl) rfl rfl)
        · refine x_iconst h dX7_count_83 ?_
          refine x_goto h dX7_count_84 (tgt := 88) (by decide) ?_
          refine x_iadd h dX7_count_88 ?_
          refine x_istore_n h dX7_count_89 rfl rfl ?_
          dsimp only [xset]
          refine x_iinc h dX7_count_90 rfl rfl rfl ?_
          dsimp only [xset]
          refine x_goto h dX7_count_93 (tgt := 64) (by decide) ?_
          first
            | (rw [if_pos q80] at ihk; exact ihk)
            | (rw [if_neg q80] at ihk; exact x_same ihk (by rw [Int.add_zero]; rfl) rfl rfl)
  · refine x_tsIn 3 h dX7_count_3 q3 (by decide) rfl (tgt := 98) (by decide) ?_
    refine x_iconst h dX7_count_98 ?_
    refine x_istore_n h dX7_count_99 rfl rfl ?_
    dsimp only [xset]
    refine loop_up (fun k => X ω κ 100 [some (.ref (xad ω 0)), some (.int (iI x)), some (.int (iI (ctW M k))), some (.int (iI (k : Int)))] [] M) 100 ?_ ?_
    · show X ω κ 100 [some (.ref (xad ω 0)), some (.int (iI x)), some (.int (iI (ctW M 100))), some (.int (iI ((100 : Nat) : Int)))] [] M
      refine x_iload_n h dX7_count_100 rfl ?_
      refine x_bipush h dX7_count_101 (by decide) ?_
      refine x_icmp_ge h dX7_count_103 (tgt := 124) (by decide) (by omega) (by omega) (fun q103 => ?_) (fun q103 => ?_)
      · refine x_iload_n h dX7_count_124 rfl ?_
        refine x_iconst h dX7_count_125 ?_
        refine x_idiv h dX7_count_126 (by omega) (fun r126 => ?_)
        exact x_iret (ret := none) h he dX7_count_127 rfl (by unfold nctR; (repeat' split) <;> first | rfl | omega) (by unfold nctM; first | rw [if_pos (by omega)] | rw [if_neg (by omega)])
      · exfalso; omega
    · intro k hk ihk
      replace ihk : X ω κ 100 [some (.ref (xad ω 0)), some (.int (iI x)), some (.int (iI (ctW M (k + 1)))), some (.int (iI ((k + 1 : Nat) : Int)))] [] M := ihk
      show X ω κ 100 [some (.ref (xad ω 0)), some (.int (iI x)), some (.int (iI (ctW M k))), some (.int (iI (k : Int)))] [] M
      rw [ctW_s] at ihk
      have r13 := hR 1 (13 + (k : Int))
      refine x_iload_n h dX7_count_100 rfl ?_
      refine x_bipush h dX7_count_101 (by decide) ?_
      refine x_icmp_ge h dX7_count_103 (tgt := 124) (by decide) (by omega) (by omega) (fun q103 => ?_) (fun q103 => ?_)
      · exfalso; omega
      · refine x_iload_n h dX7_count_106 rfl ?_
        refine x_aload_n h dX7_count_107 rfl ?_
        refine x_getr (j := 0) (q := 1) h dX7_count_108 (sM0 hm) rfl in_X7 rfl (by decide) m_fl_X7_9 ?_
        refine x_bipush h dX7_count_111 (by decide) ?_
        refine x_iload_n h dX7_count_113 rfl ?_
        refine x_iadd h dX7_count_114 ?_
        refine x_iaload h dX7_count_115 (sM1 hm) (by omega) (fun r115 => ?_)
        refine x_iadd h dX7_count_116 ?_
        refine x_istore_n h dX7_count_117 rfl rfl ?_
        dsimp only [xset]
        refine x_iinc h dX7_count_118 rfl rfl rfl ?_
        dsimp only [xset]
        refine x_goto h dX7_count_121 (tgt := 100) (by decide) ?_
        exact ihk
  · refine x_tsIn 4 h dX7_count_3 q3 (by decide) rfl (tgt := 128) (by decide) ?_
    refine x_iconst h dX7_count_128 ?_
    refine x_istore_n h dX7_count_129 rfl rfl ?_
    dsimp only [xset]
    refine loop_up (fun k => X ω κ 130 [some (.ref (xad ω 0)), some (.int (iI x)), some (.int (iI (ctR M k))), some (.int (iI (k : Int)))] [] M) ((M 1 1).toNat) ?_ ?_
    · show X ω κ 130 [some (.ref (xad ω 0)), some (.int (iI x)), some (.int (iI (ctR M (M 1 1).toNat))), some (.int (iI (((M 1 1).toNat : Nat) : Int)))] [] M
      have g0 : (((M 1 1).toNat : Nat) : Int) = M 1 1 := by omega
      refine x_iload_n h dX7_count_130 rfl ?_
      refine x_aload_n h dX7_count_131 rfl ?_
      refine x_getr (j := 0) (q := 1) h dX7_count_132 (sM0 hm) rfl in_X7 rfl (by decide) m_fl_X7_9 ?_
      refine x_iconst h dX7_count_135 ?_
      refine x_iaload h dX7_count_136 (sM1 hm) (by omega) (fun r136 => ?_)
      refine x_icmp_ge h dX7_count_137 (tgt := 167) (by decide) (by omega) (by omega) (fun q137 => ?_) (fun q137 => ?_)
      · refine x_iload_n h dX7_count_167 rfl ?_
        exact x_iret (ret := none) h he dX7_count_168 rfl (by unfold nctR; (repeat' split) <;> first | rfl | omega) (by unfold nctM; first | rw [if_pos (by omega)] | rw [if_neg (by omega)])
      · exfalso; omega
    · intro k hk ihk
      replace ihk : X ω κ 130 [some (.ref (xad ω 0)), some (.int (iI x)), some (.int (iI (ctR M (k + 1)))), some (.int (iI ((k + 1 : Nat) : Int)))] [] M := ihk
      show X ω κ 130 [some (.ref (xad ω 0)), some (.int (iI x)), some (.int (iI (ctR M k))), some (.int (iI (k : Int)))] [] M
      have g0 : (k : Int) < M 1 1 := by omega
      rw [ctR_s] at ihk
      refine x_iload_n h dX7_count_130 rfl ?_
      refine x_aload_n h dX7_count_131 rfl ?_
      refine x_getr (j := 0) (q := 1) h dX7_count_132 (sM0 hm) rfl in_X7 rfl (by decide) m_fl_X7_9 ?_
      refine x_iconst h dX7_count_135 ?_
      refine x_iaload h dX7_count_136 (sM1 hm) (by omega) (fun r136 => ?_)
      refine x_icmp_ge h dX7_count_137 (tgt := 167) (by decide) (by omega) (by omega) (fun q137 => ?_) (fun q137 => ?_)
      · exfalso; omega
      · refine x_iload_n h dX7_count_140 rfl ?_
        refine x_aload_n h dX7_count_141 rfl ?_
        refine x_iload_n h dX7_count_142 rfl ?_
        refine x_V1i h dX7_count_143 m_ml_X7_250 m_im_X7_isLesser m_se_X7_isLesser (sM0 hm) rfl (by decide) rfl (c_X7_isLesser hm hI (by omega)) ?_
        refine x_ifeqB h dX7_count_146 (tgt := 158) (by decide) (fun q146 => ?_) (fun q146 => ?_)
        · refine x_iconst h dX7_count_158 ?_
          refine x_iadd h dX7_count_159 ?_
          refine x_istore_n h dX7_count_160 rfl rfl ?_
          dsimp only [xset]
          refine x_iinc h dX7_count_161 rfl rfl rfl ?_
          dsimp only [xset]
          refine x_goto h dX7_count_164 (tgt := 130) (by decide) ?_
          first
            | (rw [if_pos q146] at ihk; exact ihk)
            | (rw [if_neg q146] at ihk; exact x_same ihk (by rw [Int.add_zero]; rfl) rfl rfl)
        · refine x_aload_n h dX7_count_149 rfl ?_
          refine x_iload_n h dX7_count_150 rfl ?_
          refine x_iconst h dX7_count_151 ?_
          refine x_V2i h dX7_count_152 m_ml_X7_133 m_im_X7_personIs m_se_X7_personIs (sM0 hm) rfl (by decide) rfl (c_X7_personIs hm (by omega) (by omega)) ?_
          refine x_goto h dX7_count_155 (tgt := 159) (by decide) ?_
          refine x_iadd h dX7_count_159 ?_
          refine x_istore_n h dX7_count_160 rfl rfl ?_
          dsimp only [xset]
          refine x_iinc h dX7_count_161 rfl rfl rfl ?_
          dsimp only [xset]
          refine x_goto h dX7_count_164 (tgt := 130) (by decide) ?_
          first
            | (rw [if_pos q146] at ihk; exact ihk)
            | (rw [if_neg q146] at ihk; exact x_same ihk (by rw [Int.add_zero]; rfl) rfl rfl)
  · refine x_tsIn 5 h dX7_count_3 q3 (by decide) rfl (tgt := 169) (by decide) ?_
    refine x_aload_n h dX7_count_169 rfl ?_
    refine x_geti (j := 16) 16 h dX7_count_170 (sM0 hm) rfl in_X7 rfl (by decide) m_fl_X7_295 rfl (fun r170 => ?_)
    exact x_iret (ret := none) h he dX7_count_173 rfl (by unfold nctR; (repeat' split) <;> first | rfl | omega) (by unfold nctM; first | rw [if_pos (by omega)] | rw [if_neg (by omega)])
  · refine x_tsIn 6 h dX7_count_3 q3 (by decide) rfl (tgt := 174) (by decide) ?_
    refine x_aload_n h dX7_count_174 rfl ?_
    refine x_getr (j := 0) (q := 1) h dX7_count_175 (sM0 hm) rfl in_X7 rfl (by decide) m_fl_X7_9 ?_
    refine x_iconst h dX7_count_178 ?_
    refine x_iaload h dX7_count_179 (sM1 hm) (by omega) (fun r179 => ?_)
    exact x_iret (ret := none) h he dX7_count_180 rfl (by unfold nctR; (repeat' split) <;> first | rfl | omega) (by unfold nctM; first | rw [if_pos (by omega)] | rw [if_neg (by omega)])
  · refine x_tsIn 7 h dX7_count_3 q3 (by decide) rfl (tgt := 181) (by decide) ?_
    refine x_iconst h dX7_count_181 ?_
    refine x_istore_n h dX7_count_182 rfl rfl ?_
    dsimp only [xset]
    refine loop_up (fun k => X ω κ 183 [some (.ref (xad ω 0)), some (.int (iI x)), some (.int (iI (ctS M k))), some (.int (iI (k : Int)))] [] M) 10 ?_ ?_
    · show X ω κ 183 [some (.ref (xad ω 0)), some (.int (iI x)), some (.int (iI (ctS M 10))), some (.int (iI ((10 : Nat) : Int)))] [] M
      refine x_iload_n h dX7_count_183 rfl ?_
      refine x_bipush h dX7_count_184 (by decide) ?_
      refine x_icmp_ge h dX7_count_186 (tgt := 214) (by decide) (by omega) (by omega) (fun q186 => ?_) (fun q186 => ?_)
      · refine x_iload_n h dX7_count_214 rfl ?_
        exact x_iret (ret := none) h he dX7_count_215 rfl (by unfold nctR; (repeat' split) <;> first | rfl | omega) (by unfold nctM; first | rw [if_pos (by omega)] | rw [if_neg (by omega)])
      · exfalso; omega
    · intro k hk ihk
      replace ihk : X ω κ 183 [some (.ref (xad ω 0)), some (.int (iI x)), some (.int (iI (ctS M (k + 1)))), some (.int (iI ((k + 1 : Nat) : Int)))] [] M := ihk
      show X ω κ 183 [some (.ref (xad ω 0)), some (.int (iI x)), some (.int (iI (ctS M k))), some (.int (iI (k : Int)))] [] M
      rw [ctS_s] at ihk
      refine x_iload_n h dX7_count_183 rfl ?_
      refine x_bipush h dX7_count_184 (by decide) ?_
      refine x_icmp_ge h dX7_count_186 (tgt := 214) (by decide) (by omega) (by omega) (fun q186 => ?_) (fun q186 => ?_)
      · exfalso; omega
      · refine x_iload_n h dX7_count_189 rfl ?_
        refine x_aload_n h dX7_count_190 rfl ?_
        refine x_getr (j := 0) (q := 1) h dX7_count_191 (sM0 hm) rfl in_X7 rfl (by decide) m_fl_X7_9 ?_
        refine x_iconst h dX7_count_194 ?_
        refine x_iload_n h dX7_count_195 rfl ?_
        refine x_iadd h dX7_count_196 ?_
        refine x_iaload h dX7_count_197 (sM1 hm) (by omega) (fun r197 => ?_)
        refine x_if_ge h dX7_count_198 (tgt := 205) (by decide) (by omega) (fun q198 => ?_) (fun q198 => ?_)
        · refine x_iconst h dX7_count_205 ?_
          refine x_iadd h dX7_count_206 ?_
          refine x_istore_n h dX7_count_207 rfl rfl ?_
          dsimp only [xset]
          refine x_iinc h dX7_count_208 rfl rfl rfl ?_
          dsimp only [xset]
          refine x_goto h dX7_count_211 (tgt := 183) (by decide) ?_
          first
            | (rw [if_pos (Int.not_le.mp q198)] at ihk; exact x_same ihk (by rw [Int.add_zero]; rfl) rfl rfl)
            | (rw [if_neg (Int.not_lt.mpr q198)] at ihk; exact ihk)
        · refine x_iconst h dX7_count_201 ?_
          refine x_goto h dX7_count_202 (tgt := 206) (by decide) ?_
          refine x_iadd h dX7_count_206 ?_
          refine x_istore_n h dX7_count_207 rfl rfl ?_
          dsimp only [xset]
          refine x_iinc h dX7_count_208 rfl rfl rfl ?_
          dsimp only [xset]
          refine x_goto h dX7_count_211 (tgt := 183) (by decide) ?_
          first
            | (rw [if_pos (Int.not_le.mp q198)] at ihk; exact x_same ihk (by rw [Int.add_zero]; rfl) rfl rfl)
            | (rw [if_neg (Int.not_lt.mpr q198)] at ihk; exact ihk)

