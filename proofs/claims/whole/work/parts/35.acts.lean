/-! the reference: who is there, who is tight; acts on people, ropes and ways -/
theorem CaE.of1 {N X : xMem} {f : Int} {d : Int → Int} (e : wyM X = wyM N) (h : Fc (ca N f d)) : CaE X (ca X f d) := ⟨f, d, rfl, Fc_e e h⟩
theorem Fc_e1 {N X : xMem} (e : wyM X = wyM N) (e0 : X 0 6 = N 0 6) (e5 : X 5 = N 5) (h : Fc N) : Fc X := by
  have := Fc_e (N := N) (N' := X) (f := N 0 6) (d := N 5) e (by rw [ca_self]; exact h)
  rw [← e0, ← e5, ca_self] at this
  exact this
theorem CaE.rf1 {N X : xMem} (e : wyM X = wyM N) (e0 : X 0 6 = N 0 6) (e5 : X 5 = N 5) (h : Fc N) : CaE X X := CaE.rf (Fc_e1 e e0 e5 h)
theorem fnM_ca {N : xMem} {f v : Int} {d : Int → Int} : fnM (ca N f d) v = ca (fnM N v) f d := by
  have h4 : ∀ (K : xMem) (i z : Int), up (ca K f d) 4 i z = ca (up K 4 i z) f d := by
    intro K i z
    funext k
    by_cases h0 : k = 0
    · subst h0; rfl
    · by_cases h5 : k = 5
      · subst h5; rfl
      · by_cases h4 : k = 4
        · subst h4; rfl
        · rw [up_n h4, ca_n h0 h5, ca_n h0 h5, up_n h4]
  unfold fnM
  rw [h4, h4]
  rfl
theorem fnM_y {N : xMem} {v : Int} : wyM (fnM N v) = wyM N := rfl
theorem tiN_ca {N : xMem} {f : Int} {d : Int → Int} : tiN (ca N f d) = tiN N := rfl
theorem smN_ca {N : xMem} {f g : Int} {d : Int → Int} : smN (ca N f d) g = smN N g := rfl
theorem dX7_whoThere_0 : decode cX7_whoThere 0 = .ok (.iconst 0, 1) := by decide +kernel
theorem dX7_whoThere_1 : decode cX7_whoThere 1 = .ok (.istore_n 1, 1) := by decide +kernel
theorem dX7_whoThere_2 : decode cX7_whoThere 2 = .ok (.iconst 0, 1) := by decide +kernel
theorem dX7_whoThere_3 : decode cX7_whoThere 3 = .ok (.istore_n 2, 1) := by decide +kernel
theorem dX7_whoThere_4 : decode cX7_whoThere 4 = .ok (.iload_n 2, 1) := by decide +kernel
theorem dX7_whoThere_5 : decode cX7_whoThere 5 = .ok (.aload_n 0, 1) := by decide +kernel
theorem dX7_whoThere_6 : decode cX7_whoThere 6 = .ok (.getfield 9, 3) := by decide +kernel
theorem dX7_whoThere_9 : decode cX7_whoThere 9 = .ok (.iconst 1, 1) := by decide +kernel
theorem dX7_whoThere_10 : decode cX7_whoThere 10 = .ok (.iaload, 1) := by decide +kernel
theorem dX7_whoThere_11 : decode cX7_whoThere 11 = .ok (.if_icmp .ge 27, 3) := by decide +kernel
theorem dX7_whoThere_14 : decode cX7_whoThere 14 = .ok (.iload_n 1, 1) := by decide +kernel
theorem dX7_whoThere_15 : decode cX7_whoThere 15 = .ok (.aload_n 0, 1) := by decide +kernel
theorem dX7_whoThere_16 : decode cX7_whoThere 16 = .ok (.iload_n 2, 1) := by decide +kernel
theorem dX7_whoThere_17 : decode cX7_whoThere 17 = .ok (.invokevirtual 211, 3) := by decide +kernel
theorem dX7_whoThere_20 : decode cX7_whoThere 20 = .ok (.ifCond .eq 9, 3) := by decide +kernel
theorem dX7_whoThere_23 : decode cX7_whoThere 23 = .ok (.iconst 1, 1) := by decide +kernel
theorem dX7_whoThere_24 : decode cX7_whoThere 24 = .ok (.iload_n 2, 1) := by decide +kernel
theorem dX7_whoThere_25 : decode cX7_whoThere 25 = .ok (.ishl, 1) := by decide +kernel
theorem dX7_whoThere_26 : decode cX7_whoThere 26 = .ok (.goto 4, 3) := by decide +kernel
theorem dX7_whoThere_29 : decode cX7_whoThere 29 = .ok (.iconst 0, 1) := by decide +kernel
theorem dX7_whoThere_30 : decode cX7_whoThere 30 = .ok (.ior, 1) := by decide +kernel
theorem dX7_whoThere_31 : decode cX7_whoThere 31 = .ok (.istore_n 1, 1) := by decide +kernel
theorem dX7_whoThere_32 : decode cX7_whoThere 32 = .ok (.iinc 2 1, 3) := by decide +kernel
theorem dX7_whoThere_35 : decode cX7_whoThere 35 = .ok (.goto (-31), 3) := by decide +kernel
theorem dX7_whoThere_38 : decode cX7_whoThere 38 = .ok (.iload_n 1, 1) := by decide +kernel
theorem dX7_whoThere_39 : decode cX7_whoThere 39 = .ok (.ireturn, 1) := by decide +kernel
set_option maxHeartbeats 800000 in
set_option maxRecDepth 100000 in
theorem c_X7_whoThere {l : Launch} {ω : xO} {ks : Nat → Option Nat} (hm : xsh ω = mdS ks)  {M : xMem} (hI : MInv M)  : Ct l ω yX7_whoThere ({ frames := 3, cells := 0, slots := 0, locals := 64 } : Room) 3 0 [.ref (xad ω 0)] M (some (.int (iI (thN M)))) M := by
  refine Ct.of (bytes := cX7_whoThere) (ret := (some .int)) (lv0 := [some (.ref (xad ω 0)), none, none]) m_cd_X7_whoThere m_in_X7 (by decide +kernel) (by decide +kernel) rfl rfl rfl rfl (fun hR => hR) ?_
  intro κ h he hR
  have hn := hI.1
  refine x_iconst h dX7_whoThere_0 ?_
  refine x_istore_n h dX7_whoThere_1 rfl rfl ?_
  dsimp only [xset]
  refine x_iconst h dX7_whoThere_2 ?_
  refine x_istore_n h dX7_whoThere_3 rfl rfl ?_
  dsimp only [xset]
  refine loop_up (fun k => X ω κ 4 [some (.ref (xad ω 0)), some (.int (iI (xfo (fun (p acc : Int) => if M 1 (113 + 8 * p + 1) = M 1 (113 + 8 * p + 2) then bor acc (bshl 1 p) else acc) 0 k))), some (.int (iI (k : Int)))] [] M) ((M 1 1).toNat) ?_ ?_
  · show X ω κ 4 [some (.ref (xad ω 0)), some (.int (iI (xfo (fun (p acc : Int) => if M 1 (113 + 8 * p + 1) = M 1 (113 + 8 * p + 2) then bor acc (bshl 1 p) else acc) 0 (M 1 1).toNat))), some (.int (iI (((M 1 1).toNat : Nat) : Int)))] [] M
    have g0 : (((M 1 1).toNat : Nat) : Int) = M 1 1 := by omega
    refine x_iload_n h dX7_whoThere_4 rfl ?_
    refine x_aload_n h dX7_whoThere_5 rfl ?_
    refine x_getr (j := 0) (q := 1) h dX7_whoThere_6 (sM0 hm) rfl in_X7 rfl (by decide) m_fl_X7_9 ?_
    refine x_iconst h dX7_whoThere_9 ?_
    refine x_iaload h dX7_whoThere_10 (sM1 hm) (by omega) (fun r10 => ?_)
    refine x_icmp_ge h dX7_whoThere_11 (tgt := 38) (by decide) (by omega) (by omega) (fun q11 => ?_) (fun q11 => ?_)
    · refine x_iload_n h dX7_whoThere_38 rfl ?_
      exact x_iret (ret := none) h he dX7_whoThere_39 rfl (by first | rfl | omega | exact (bI_t (by omega)).symm | exact (bI_f (by omega)).symm) rfl
    · exfalso; omega
  · intro k hk ih
    replace ih : X ω κ 4 [some (.ref (xad ω 0)), some (.int (iI (xfo (fun (p acc : Int) => if M 1 (113 + 8 * p + 1) = M 1 (113 + 8 * p + 2) then bor acc (bshl 1 p) else acc) 0 (k + 1)))), some (.int (iI ((k + 1 : Nat) : Int)))] [] M := ih
    show X ω κ 4 [some (.ref (xad ω 0)), some (.int (iI (xfo (fun (p acc : Int) => if M 1 (113 + 8 * p + 1) = M 1 (113 + 8 * p + 2) then bor acc (bshl 1 p) else acc) 0 k))), some (.int (iI (k : Int)))] [] M
    have g0 : (k : Int) < M 1 1 := by omega
    refine x_iload_n h dX7_whoThere_4 rfl ?_
    refine x_aload_n h dX7_whoThere_5 rfl ?_
    refine x_getr (j := 0) (q := 1) h dX7_whoThere_6 (sM0 hm) rfl in_X7 rfl (by decide) m_fl_X7_9 ?_
    refine x_iconst h dX7_whoThere_9 ?_
    refine x_iaload h dX7_whoThere_10 (sM1 hm) (by omega) (fun r10 => ?_)
    refine x_icmp_ge h dX7_whoThere_11 (tgt := 38) (by decide) (by omega) (by omega) (fun q11 => ?_) (fun q11 => ?_)
    · exfalso; omega
    · refine x_iload_n h dX7_whoThere_14 rfl ?_
      refine x_aload_n h dX7_whoThere_15 rfl ?_
      refine x_iload_n h dX7_whoThere_16 rfl ?_
      refine x_V1i h dX7_whoThere_17 m_ml_X7_211 m_im_X7_isThere m_se_X7_isThere (sM0 hm) rfl (by decide) rfl (c_X7_isThere hm (by exact hI) (by first | omega | (simp only [ca_1]; omega))) ?_
      refine x_ifeqB h dX7_whoThere_20 (tgt := 29) (by decide) (fun q20 => ?_) (fun q20 => ?_)
      · refine x_iconst h dX7_whoThere_29 ?_
        refine x_ior h dX7_whoThere_30 (fun r30 => ?_)
        refine x_istore_n h dX7_whoThere_31 rfl rfl ?_
        dsimp only [xset]
        refine x_iinc h dX7_whoThere_32 rfl rfl rfl ?_
        dsimp only [xset]
        refine x_goto h dX7_whoThere_35 (tgt := 4) (by decide) ?_
        refine x_same ih ?_ rfl rfl
        first
          | (rw [xfo_s (fun (p acc : Int) => if M 1 (113 + 8 * p + 1) = M 1 (113 + 8 * p + 2) then bor acc (bshl 1 p) else acc) 0 k, if_pos q20]; rfl)
          | (rw [xfo_s (fun (p acc : Int) => if M 1 (113 + 8 * p + 1) = M 1 (113 + 8 * p + 2) then bor acc (bshl 1 p) else acc) 0 k, if_neg q20, iI_bor0]; rfl)
      · refine x_iconst h dX7_whoThere_23 ?_
        refine x_iload_n h dX7_whoThere_24 rfl ?_
        refine x_ishl h dX7_whoThere_25 (fun r25 => ?_)
        refine x_goto h dX7_whoThere_26 (tgt := 30) (by decide) ?_
        refine x_ior h dX7_whoThere_30 (fun r30 => ?_)
        refine x_istore_n h dX7_whoThere_31 rfl rfl ?_
        dsimp only [xset]
        refine x_iinc h dX7_whoThere_32 rfl rfl rfl ?_
        dsimp only [xset]
        refine x_goto h dX7_whoThere_35 (tgt := 4) (by decide) ?_
        refine x_same ih ?_ rfl rfl
        first
          | (rw [xfo_s (fun (p acc : Int) => if M 1 (113 + 8 * p + 1) = M 1 (113 + 8 * p + 2) then bor acc (bshl 1 p) else acc) 0 k, if_pos q20]; rfl)
          | (rw [xfo_s (fun (p acc : Int) => if M 1 (113 + 8 * p + 1) = M 1 (113 + 8 * p + 2) then bor acc (bshl 1 p) else acc) 0 k, if_neg q20, iI_bor0]; rfl)

theorem dX7_whoTight_0 : decode cX7_whoTight 0 = .ok (.iconst 0, 1) := by decide +kernel
theorem dX7_whoTight_1 : decode cX7_whoTight 1 = .ok (.istore_n 1, 1) := by decide +kernel
theorem dX7_whoTight_2 : decode cX7_whoTight 2 = .ok (.iconst 0, 1) := by decide +kernel
theorem dX7_whoTight_3 : decode cX7_whoTight 3 = .ok (.istore_n 2, 1) := by decide +kernel
theorem dX7_whoTight_4 : decode cX7_whoTight 4 = .ok (.iload_n 2, 1) := by decide +kernel
theorem dX7_whoTight_5 : decode cX7_whoTight 5 = .ok (.aload_n 0, 1) := by decide +kernel
theorem dX7_whoTight_6 : decode cX7_whoTight 6 = .ok (.getfield 9, 3) := by decide +kernel
theorem dX7_whoTight_9 : decode cX7_whoTight 9 = .ok (.iconst 1, 1) := by decide +kernel
theorem dX7_whoTight_10 : decode cX7_whoTight 10 = .ok (.iaload, 1) := by decide +kernel
theorem dX7_whoTight_11 : decode cX7_whoTight 11 = .ok (.if_icmp .ge 50, 3) := by decide +kernel
theorem dX7_whoTight_14 : decode cX7_whoTight 14 = .ok (.iload_n 1, 1) := by decide +kernel
theorem dX7_whoTight_15 : decode cX7_whoTight 15 = .ok (.aload_n 0, 1) := by decide +kernel
theorem dX7_whoTight_16 : decode cX7_whoTight 16 = .ok (.iload_n 2, 1) := by decide +kernel
theorem dX7_whoTight_17 : decode cX7_whoTight 17 = .ok (.invokevirtual 142, 3) := by decide +kernel
theorem dX7_whoTight_20 : decode cX7_whoTight 20 = .ok (.ifCond .eq 32, 3) := by decide +kernel
theorem dX7_whoTight_23 : decode cX7_whoTight 23 = .ok (.aload_n 0, 1) := by decide +kernel
theorem dX7_whoTight_24 : decode cX7_whoTight 24 = .ok (.aload_n 0, 1) := by decide +kernel
theorem dX7_whoTight_25 : decode cX7_whoTight 25 = .ok (.iload_n 2, 1) := by decide +kernel
theorem dX7_whoTight_26 : decode cX7_whoTight 26 = .ok (.iconst 1, 1) := by decide +kernel
theorem dX7_whoTight_27 : decode cX7_whoTight 27 = .ok (.invokevirtual 133, 3) := by decide +kernel
theorem dX7_whoTight_30 : decode cX7_whoTight 30 = .ok (.aload_n 0, 1) := by decide +kernel
theorem dX7_whoTight_31 : decode cX7_whoTight 31 = .ok (.iload_n 2, 1) := by decide +kernel
theorem dX7_whoTight_32 : decode cX7_whoTight 32 = .ok (.invokevirtual 157, 3) := by decide +kernel
theorem dX7_whoTight_35 : decode cX7_whoTight 35 = .ok (.invokevirtual 116, 3) := by decide +kernel
theorem dX7_whoTight_38 : decode cX7_whoTight 38 = .ok (.aload_n 0, 1) := by decide +kernel
theorem dX7_whoTight_39 : decode cX7_whoTight 39 = .ok (.iload_n 2, 1) := by decide +kernel
theorem dX7_whoTight_40 : decode cX7_whoTight 40 = .ok (.invokevirtual 145, 3) := by decide +kernel
theorem dX7_whoTight_43 : decode cX7_whoTight 43 = .ok (.if_icmp .ne 9, 3) := by decide +kernel
theorem dX7_whoTight_46 : decode cX7_whoTight 46 = .ok (.iconst 1, 1) := by decide +kernel
theorem dX7_whoTight_47 : decode cX7_whoTight 47 = .ok (.iload_n 2, 1) := by decide +kernel
theorem dX7_whoTight_48 : decode cX7_whoTight 48 = .ok (.ishl, 1) := by decide +kernel
theorem dX7_whoTight_49 : decode cX7_whoTight 49 = .ok (.goto 4, 3) := by decide +kernel
theorem dX7_whoTight_52 : decode cX7_whoTight 52 = .ok (.iconst 0, 1) := by decide +kernel
theorem dX7_whoTight_53 : decode cX7_whoTight 53 = .ok (.ior, 1) := by decide +kernel
theorem dX7_whoTight_54 : decode cX7_whoTight 54 = .ok (.istore_n 1, 1) := by decide +kernel
theorem dX7_whoTight_55 : decode cX7_whoTight 55 = .ok (.iinc 2 1, 3) := by decide +kernel
theorem dX7_whoTight_58 : decode cX7_whoTight 58 = .ok (.goto (-54), 3) := by decide +kernel
theorem dX7_whoTight_61 : decode cX7_whoTight 61 = .ok (.iload_n 1, 1) := by decide +kernel
theorem dX7_whoTight_62 : decode cX7_whoTight 62 = .ok (.ireturn, 1) := by decide +kernel
set_option maxHeartbeats 800000 in
set_option maxRecDepth 100000 in
theorem c_X7_whoTight {l : Launch} {ω : xO} {ks : Nat → Option Nat} (hm : xsh ω = mdS ks)  {M : xMem} (hI : MInv M) (hf : Fc M)  : Cq l ω yX7_whoTight ({ frames := 4, cells := 0, slots := 0, locals := 85 } : Room) 3 0 [.ref (xad ω 0)] M (pI1 (fun r N' => r = tiN M ∧ CaE M N')) := by
  refine Cq.of (bytes := cX7_whoTight) (ret := (some .int)) (lv0 := [some (.ref (xad ω 0)), none, none]) m_cd_X7_whoTight m_in_X7 (by decide +kernel) (by decide +kernel) rfl rfl rfl rfl ?_
  intro κ h he hR
  have hn := hI.1
  have hL := hI.2.2.1
  refine x_iconst h dX7_whoTight_0 ?_
  refine x_istore_n h dX7_whoTight_1 rfl rfl ?_
  dsimp only [xset]
  refine x_iconst h dX7_whoTight_2 ?_
  refine x_istore_n h dX7_whoTight_3 rfl rfl ?_
  dsimp only [xset]
  have hf0 : Fc (ca M (M 0 6) (M 5)) := by rw [ca_self]; exact hf
  refine x_mem (ca_self M).symm ?_
  have HH : ∀ (k j : Nat) (f : Int) (d : Int → Int), j + k = (M 1 1).toNat → Fc (ca M f d) → X ω κ 4 [some (.ref (xad ω 0)), some (.int (iI (xfo (fun (p acc : Int) => if 0 ≤ M 1 (113 + 8 * p + 3) ∧ dN M (10 * M 1 (113 + 8 * p + 1) + pmN M p) = rpN M p then bor acc (bshl 1 p) else acc) 0 j))), some (.int (iI (j : Int)))] [] (ca M f d) := by
    intro k
    induction k with
    | zero =>
      intro j f d e hc
      have ej : j = (M 1 1).toNat := by omega
      subst ej
      refine x_iload_n h dX7_whoTight_4 rfl ?_
      refine x_aload_n h dX7_whoTight_5 rfl ?_
      refine x_getr (j := 0) (q := 1) h dX7_whoTight_6 (sM0 hm) rfl in_X7 rfl (by decide) m_fl_X7_9 ?_
      refine x_iconst h dX7_whoTight_9 ?_
      refine x_iaload h dX7_whoTight_10 (sM1 hm) (by omega) (fun r10 => ?_)
      try simp only [up_ca1, up_ca07, up_ca08, up_ca09, up_ca010, up_10, up_01, up_0709, up_0710, ca_ca, ca_1, dN_ca, wyM_ca, plN_ca, rpN_ca, ltN_ca, pmN_ca, wnN_ca, nbN_ca, ca_07, ca_08, ca_09, ca_010, beN_ca, ctN_ca, gonN_ca, mvN_ca]
      refine x_icmp_ge h dX7_whoTight_11 (tgt := 61) (by decide) (by omega) (by omega) (fun q11 => ?_) (fun q11 => ?_)
      · refine x_iload_n h dX7_whoTight_61 rfl ?_
        exact x_iretq h he dX7_whoTight_62 ⟨rfl, CaE.of hc⟩
      · exfalso; omega
    | succ k ih =>
      intro j f d e hc
      have hj : (j : Int) < M 1 1 := by omega
      have ip := hI.2.2.2 (j : Int) (by omega) hj
      have hpm := pmN_R hI (p := (j : Int)) ⟨by omega, hj⟩
      have hr := rpN_R hI (p := (j : Int)) ⟨by omega, hj⟩
      have hd := dN_B hL (10 * M 1 (113 + 8 * (j : Int) + 1) + pmN M (j : Int)) (by omega) (by omega)
      have ihj := ih (j + 1)
      rw [xfo_s (fun (p acc : Int) => if 0 ≤ M 1 (113 + 8 * p + 3) ∧ dN M (10 * M 1 (113 + 8 * p + 1) + pmN M p) = rpN M p then bor acc (bshl 1 p) else acc) 0 j] at ihj
      refine x_iload_n h dX7_whoTight_4 rfl ?_
      refine x_aload_n h dX7_whoTight_5 rfl ?_
      refine x_getr (j := 0) (q := 1) h dX7_whoTight_6 (sM0 hm) rfl in_X7 rfl (by decide) m_fl_X7_9 ?_
      refine x_iconst h dX7_whoTight_9 ?_
      refine x_iaload h dX7_whoTight_10 (sM1 hm) (by omega) (fun r10 => ?_)
      try simp only [up_ca1, up_ca07, up_ca08, up_ca09, up_ca010, up_10, up_01, up_0709, up_0710, ca_ca, ca_1, dN_ca, wyM_ca, plN_ca, rpN_ca, ltN_ca, pmN_ca, wnN_ca, nbN_ca, ca_07, ca_08, ca_09, ca_010, beN_ca, ctN_ca, gonN_ca, mvN_ca]
      refine x_icmp_ge h dX7_whoTight_11 (tgt := 61) (by decide) (by omega) (by omega) (fun q11 => ?_) (fun q11 => ?_)
      · exfalso; omega
      · refine x_iload_n h dX7_whoTight_14 rfl ?_
        refine x_aload_n h dX7_whoTight_15 rfl ?_
        refine x_iload_n h dX7_whoTight_16 rfl ?_
        refine x_V1i h dX7_whoTight_17 m_ml_X7_142 m_im_X7_hasMate m_se_X7_hasMate (sM0 hm) rfl (by decide) rfl (c_X7_hasMate hm (by exact hI) (by first | omega | (simp only [ca_1]; omega))) ?_
        try simp only [ca_ca, ca_1, dN_ca, wyM_ca, plN_ca, rpN_ca, ltN_ca, pmN_ca, wnN_ca, nbN_ca, ca_07, ca_08, ca_09, ca_010, beN_ca, ctN_ca, gonN_ca, mvN_ca, stN_ca, thN_ca, fnM_ca, tiN_ca, smN_ca]
        try simp only [up_ca1, up_ca07, up_ca08, up_ca09, up_ca010, up_10, up_01, up_0709, up_0710, ca_ca, ca_1, dN_ca, wyM_ca, plN_ca, rpN_ca, ltN_ca, pmN_ca, wnN_ca, nbN_ca, ca_07, ca_08, ca_09, ca_010, beN_ca, ctN_ca, gonN_ca, mvN_ca]
        refine x_ifeqB h dX7_whoTight_20 (tgt := 52) (by decide) (fun q20 => ?_) (fun q20 => ?_)
        · refine x_iconst h dX7_whoTight_52 ?_
          refine x_ior h dX7_whoTight_53 (fun r53 => ?_)
          refine x_istore_n h dX7_whoTight_54 rfl rfl ?_
          dsimp only [xset]
          refine x_iinc h dX7_whoTight_55 rfl rfl rfl ?_
          dsimp only [xset]
          refine x_goto h dX7_whoTight_58 (tgt := 4) (by decide) ?_
          first
            | (rw [if_pos (And.intro q20 q43)] at ihj; exact ihj _ _ (by omega) (by assumption))
            | (rw [if_neg (fun z => q43 z.2), ← iI_bor0] at ihj; exact ihj _ _ (by omega) (by assumption))
            | (rw [if_neg (fun z => q20 z.1), ← iI_bor0] at ihj; exact ihj _ _ (by omega) (by assumption))
        · refine x_aload_n h dX7_whoTight_23 rfl ?_
          refine x_aload_n h dX7_whoTight_24 rfl ?_
          refine x_iload_n h dX7_whoTight_25 rfl ?_
          refine x_iconst h dX7_whoTight_26 ?_
          refine x_V2i h dX7_whoTight_27 m_ml_X7_133 m_im_X7_personIs m_se_X7_personIs (sM0 hm) rfl (by decide) rfl (c_X7_personIs hm (by omega) (by omega)) ?_
          try simp only [ca_ca, ca_1, dN_ca, wyM_ca, plN_ca, rpN_ca, ltN_ca, pmN_ca, wnN_ca, nbN_ca, ca_07, ca_08, ca_09, ca_010, beN_ca, ctN_ca, gonN_ca, mvN_ca, stN_ca, thN_ca, fnM_ca, tiN_ca, smN_ca]
          refine x_aload_n h dX7_whoTight_30 rfl ?_
          refine x_iload_n h dX7_whoTight_31 rfl ?_
          refine x_V1i h dX7_whoTight_32 m_ml_X7_157 m_im_X7_placeOfMate m_se_X7_placeOfMate (sM0 hm) rfl (by decide) rfl (c_X7_placeOfMate hm (by exact hI) (by first | omega | (simp only [ca_1]; omega))) ?_
          try simp only [ca_ca, ca_1, dN_ca, wyM_ca, plN_ca, rpN_ca, ltN_ca, pmN_ca, wnN_ca, nbN_ca, ca_07, ca_08, ca_09, ca_010, beN_ca, ctN_ca, gonN_ca, mvN_ca, stN_ca, thN_ca, fnM_ca, tiN_ca, smN_ca]
          refine x_Q2i h dX7_whoTight_35 m_ml_X7_116 m_im_X7_farFrom m_se_X7_farFrom (sM0 hm) rfl (by decide) rfl (c_X7_farFrom hm (by exact hL) (by assumption) (by first | omega | (simp only [ca_1]; omega)) (by first | omega | (simp only [ca_1]; omega))) (fun r35 N35 h35 => ?_)
          obtain ⟨rfl, f35, d35, rfl, c35⟩ := h35
          try simp only [ca_ca, ca_1, dN_ca, wyM_ca, plN_ca, rpN_ca, ltN_ca, pmN_ca, wnN_ca, nbN_ca, ca_07, ca_08, ca_09, ca_010, beN_ca, ctN_ca, gonN_ca, mvN_ca, stN_ca, thN_ca, fnM_ca, tiN_ca, smN_ca] at c35 ⊢
          refine x_aload_n h dX7_whoTight_38 rfl ?_
          refine x_iload_n h dX7_whoTight_39 rfl ?_
          refine x_V1i h dX7_whoTight_40 m_ml_X7_145 m_im_X7_ropeOf m_se_X7_ropeOf (sM0 hm) rfl (by decide) rfl (c_X7_ropeOf hm (by exact hI) (by first | omega | (simp only [ca_1]; omega)) (by first | omega | (simp only [ca_1]; omega))) ?_
          try simp only [ca_ca, ca_1, dN_ca, wyM_ca, plN_ca, rpN_ca, ltN_ca, pmN_ca, wnN_ca, nbN_ca, ca_07, ca_08, ca_09, ca_010, beN_ca, ctN_ca, gonN_ca, mvN_ca, stN_ca, thN_ca, fnM_ca, tiN_ca, smN_ca]
          try simp only [up_ca1, up_ca07, up_ca08, up_ca09, up_ca010, up_10, up_01, up_0709, up_0710, ca_ca, ca_1, dN_ca, wyM_ca, plN_ca, rpN_ca, ltN_ca, pmN_ca, wnN_ca, nbN_ca, ca_07, ca_08, ca_09, ca_010, beN_ca, ctN_ca, gonN_ca, mvN_ca]
          refine x_icmp_ne h dX7_whoTight_43 (tgt := 52) (by decide) (by omega) (by omega) (fun q43 => ?_) (fun q43 => ?_)
          · refine x_iconst h dX7_whoTight_52 ?_
            refine x_ior h dX7_whoTight_53 (fun r53 => ?_)
            refine x_istore_n h dX7_whoTight_54 rfl rfl ?_
            dsimp only [xset]
            refine x_iinc h dX7_whoTight_55 rfl rfl rfl ?_
            dsimp only [xset]
            refine x_goto h dX7_whoTight_58 (tgt := 4) (by decide) ?_
            first
              | (rw [if_pos (And.intro q20 q43)] at ihj; exact ihj _ _ (by omega) (by assumption))
              | (rw [if_neg (fun z => q43 z.2), ← iI_bor0] at ihj; exact ihj _ _ (by omega) (by assumption))
              | (rw [if_neg (fun z => q20 z.1), ← iI_bor0] at ihj; exact ihj _ _ (by omega) (by assumption))
          · refine x_iconst h dX7_whoTight_46 ?_
            refine x_iload_n h dX7_whoTight_47 rfl ?_
            refine x_ishl h dX7_whoTight_48 (fun r48 => ?_)
            refine x_goto h dX7_whoTight_49 (tgt := 53) (by decide) ?_
            refine x_ior h dX7_whoTight_53 (fun r53 => ?_)
            refine x_istore_n h dX7_whoTight_54 rfl rfl ?_
            dsimp only [xset]
            refine x_iinc h dX7_whoTight_55 rfl rfl rfl ?_
            dsimp only [xset]
            refine x_goto h dX7_whoTight_58 (tgt := 4) (by decide) ?_
            first
              | (rw [if_pos (And.intro q20 q43)] at ihj; exact ihj _ _ (by omega) (by assumption))
              | (rw [if_neg (fun z => q43 z.2), ← iI_bor0] at ihj; exact ihj _ _ (by omega) (by assumption))
              | (rw [if_neg (fun z => q20 z.1), ← iI_bor0] at ihj; exact ihj _ _ (by omega) (by assumption))
  exact HH (M 1 1).toNat 0 _ _ (by omega) hf0

theorem dX7_sumOf_0 : decode cX7_sumOf 0 = .ok (.iconst 0, 1) := by decide +kernel
theorem dX7_sumOf_1 : decode cX7_sumOf 1 = .ok (.istore_n 2, 1) := by decide +kernel
theorem dX7_sumOf_2 : decode cX7_sumOf 2 = .ok (.iconst 0, 1) := by decide +kernel
theorem dX7_sumOf_3 : decode cX7_sumOf 3 = .ok (.istore_n 3, 1) := by decide +kernel
theorem dX7_sumOf_4 : decode cX7_sumOf 4 = .ok (.iload_n 3, 1) := by decide +kernel
theorem dX7_sumOf_5 : decode cX7_sumOf 5 = .ok (.aload_n 0, 1) := by decide +kernel
theorem dX7_sumOf_6 : decode cX7_sumOf 6 = .ok (.getfield 9, 3) := by decide +kernel
theorem dX7_sumOf_9 : decode cX7_sumOf 9 = .ok (.iconst 1, 1) := by decide +kernel
theorem dX7_sumOf_10 : decode cX7_sumOf 10 = .ok (.iaload, 1) := by decide +kernel
theorem dX7_sumOf_11 : decode cX7_sumOf 11 = .ok (.if_icmp .ge 18, 3) := by decide +kernel
theorem dX7_sumOf_14 : decode cX7_sumOf 14 = .ok (.iload_n 2, 1) := by decide +kernel
theorem dX7_sumOf_15 : decode cX7_sumOf 15 = .ok (.aload_n 0, 1) := by decide +kernel
theorem dX7_sumOf_16 : decode cX7_sumOf 16 = .ok (.iload_n 3, 1) := by decide +kernel
theorem dX7_sumOf_17 : decode cX7_sumOf 17 = .ok (.iload_n 1, 1) := by decide +kernel
theorem dX7_sumOf_18 : decode cX7_sumOf 18 = .ok (.invokevirtual 133, 3) := by decide +kernel
theorem dX7_sumOf_21 : decode cX7_sumOf 21 = .ok (.iadd, 1) := by decide +kernel
theorem dX7_sumOf_22 : decode cX7_sumOf 22 = .ok (.istore_n 2, 1) := by decide +kernel
theorem dX7_sumOf_23 : decode cX7_sumOf 23 = .ok (.iinc 3 1, 3) := by decide +kernel
theorem dX7_sumOf_26 : decode cX7_sumOf 26 = .ok (.goto (-22), 3) := by decide +kernel
theorem dX7_sumOf_29 : decode cX7_sumOf 29 = .ok (.iload_n 2, 1) := by decide +kernel
theorem dX7_sumOf_30 : decode cX7_sumOf 30 = .ok (.ireturn, 1) := by decide +kernel
set_option maxHeartbeats 800000 in
set_option maxRecDepth 100000 in
theorem c_X7_sumOf {l : Launch} {ω : xO} {ks : Nat → Option Nat} (hm : xsh ω = mdS ks) {g : Int} {M : xMem} (hI : MInv M) (hg : 0 ≤ g ∧ g < 8) : Ct l ω yX7_sumOf ({ frames := 2, cells := 0, slots := 0, locals := 43 } : Room) 4 1 [.ref (xad ω 0), .int (iI g)] M (some (.int (iI (smN M g)))) M := by
  refine Ct.of (bytes := cX7_sumOf) (ret := (some .int)) (lv0 := [some (.ref (xad ω 0)), some (.int (iI g)), none, none]) m_cd_X7_sumOf m_in_X7 (by decide +kernel) (by decide +kernel) rfl rfl rfl rfl (fun hR => hR) ?_
  intro κ h he hR
  have hn := hI.1
  refine x_iconst h dX7_sumOf_0 ?_
  refine x_istore_n h dX7_sumOf_1 rfl rfl ?_
  dsimp only [xset]
  refine x_iconst h dX7_sumOf_2 ?_
  refine x_istore_n h dX7_sumOf_3 rfl rfl ?_
  dsimp only [xset]
  refine loop_up (fun k => X ω κ 4 [some (.ref (xad ω 0)), some (.int (iI g)), some (.int (iI (xfo (fun (p acc : Int) => acc + M 1 (113 + 8 * p + g)) 0 k))), some (.int (iI (k : Int)))] [] M) ((M 1 1).toNat) ?_ ?_
  · show X ω κ 4 [some (.ref (xad ω 0)), some (.int (iI g)), some (.int (iI (xfo (fun (p acc : Int) => acc + M 1 (113 + 8 * p + g)) 0 (M 1 1).toNat))), some (.int (iI (((M 1 1).toNat : Nat) : Int)))] [] M
    have g0 : (((M 1 1).toNat : Nat) : Int) = M 1 1 := by omega
    refine x_iload_n h dX7_sumOf_4 rfl ?_
    refine x_aload_n h dX7_sumOf_5 rfl ?_
    refine x_getr (j := 0) (q := 1) h dX7_sumOf_6 (sM0 hm) rfl in_X7 rfl (by decide) m_fl_X7_9 ?_
    refine x_iconst h dX7_sumOf_9 ?_
    refine x_iaload h dX7_sumOf_10 (sM1 hm) (by omega) (fun r10 => ?_)
    refine x_icmp_ge h dX7_sumOf_11 (tgt := 29) (by decide) (by omega) (by omega) (fun q11 => ?_) (fun q11 => ?_)
    · refine x_iload_n h dX7_sumOf_29 rfl ?_
      exact x_iret (ret := none) h he dX7_sumOf_30 rfl (by first | rfl | omega | exact (bI_t (by omega)).symm | exact (bI_f (by omega)).symm) rfl
    · exfalso; omega
  · intro k hk ih
    replace ih : X ω κ 4 [some (.ref (xad ω 0)), some (.int (iI g)), some (.int (iI (xfo (fun (p acc : Int) => acc + M 1 (113 + 8 * p + g)) 0 (k + 1)))), some (.int (iI ((k + 1 : Nat) : Int)))] [] M := ih
    show X ω κ 4 [some (.ref (xad ω 0)), some (.int (iI g)), some (.int (iI (xfo (fun (p acc : Int) => acc + M 1 (113 + 8 * p + g)) 0 k))), some (.int (iI (k : Int)))] [] M
    have g0 : (k : Int) < M 1 1 := by omega
    refine x_iload_n h dX7_sumOf_4 rfl ?_
    refine x_aload_n h dX7_sumOf_5 rfl ?_
    refine x_getr (j := 0) (q := 1) h dX7_sumOf_6 (sM0 hm) rfl in_X7 rfl (by decide) m_fl_X7_9 ?_
    refine x_iconst h dX7_sumOf_9 ?_
    refine x_iaload h dX7_sumOf_10 (sM1 hm) (by omega) (fun r10 => ?_)
    refine x_icmp_ge h dX7_sumOf_11 (tgt := 29) (by decide) (by omega) (by omega) (fun q11 => ?_) (fun q11 => ?_)
    · exfalso; omega
    · refine x_iload_n h dX7_sumOf_14 rfl ?_
      refine x_aload_n h dX7_sumOf_15 rfl ?_
      refine x_iload_n h dX7_sumOf_16 rfl ?_
      refine x_iload_n h dX7_sumOf_17 rfl ?_
      refine x_V2i h dX7_sumOf_18 m_ml_X7_133 m_im_X7_personIs m_se_X7_personIs (sM0 hm) rfl (by decide) rfl (c_X7_personIs hm (by omega) (by omega)) ?_
      refine x_iadd h dX7_sumOf_21 ?_
      refine x_istore_n h dX7_sumOf_22 rfl rfl ?_
      dsimp only [xset]
      refine x_iinc h dX7_sumOf_23 rfl rfl rfl ?_
      dsimp only [xset]
      refine x_goto h dX7_sumOf_26 (tgt := 4) (by decide) ?_
      exact ih

/-- the answers and the memories of the small acts -/
def nwaR (M : xMem) (a c v : Int) : Int := if (plc a ∧ plc c ∧ a ≠ c) ∧ 0 ≤ v ∧ v ≤ 9 then M 1 (13 + 10 * c + a) else -1000001
def nwaM (M : xMem) (a c v : Int) : xMem := if (plc a ∧ plc c ∧ a ≠ c) ∧ 0 ≤ v ∧ v ≤ 9 then lyM M a c v else fnM M (-1000001)
def nfaR (M : xMem) (a c : Int) : Int := if plc a ∧ plc c then dN M (10 * a + c) else -1000001
def nfaM (M : xMem) (a c : Int) : xMem := if plc a ∧ plc c then M else fnM M (-1000001)
def npeR (M : xMem) (k a : Int) : Int := if (0 ≤ k ∧ k ≤ 6) ∧ plc a then (if M 1 1 = 8 then -1000002 else M 1 1) else -1000001
def npeM (M : xMem) (k a : Int) : xMem := if (0 ≤ k ∧ k ≤ 6) ∧ plc a then (if M 1 1 = 8 then fnM M (-1000002) else coM M k a a 3) else fnM M (-1000001)
def nofR (M : xMem) (p x : Int) : Int := if (0 ≤ p ∧ p < M 1 1) ∧ 0 ≤ x ∧ x ≤ 8 then (if x < 5 then M 1 (113 + 8 * p + x) else if x = 5 then plN M p else if x = 6 then goF (M 1 (113 + 8 * p + 0)) else M 1 (113 + 8 * p + (x - 1))) else -1000001
def nofM (M : xMem) (p x : Int) : xMem := if (0 ≤ p ∧ p < M 1 1) ∧ 0 ≤ x ∧ x ≤ 8 then M else fnM M (-1000001)
abbrev chGd (x v : Int) : Prop := (x = 0 ∧ 0 ≤ v ∧ v ≤ 6) ∨ ((x = 1 ∨ x = 2) ∧ plc v) ∨ (x = 4 ∧ 0 ≤ v ∧ v ≤ 9)
noncomputable def nchR (M : xMem) (p x v : Int) : Int := if (0 ≤ p ∧ p < M 1 1) ∧ chGd x v then tI (x = 1 ∧ ¬ ltN M p v (pmN M p)) (-1000005) (M 1 (113 + 8 * p + x)) else -1000001
noncomputable def nchM (M : xMem) (p x v : Int) : xMem := if (0 ≤ p ∧ p < M 1 1) ∧ chGd x v then tI (x = 1 ∧ ¬ ltN M p v (pmN M p)) (fnM M (-1000005)) (up M 1 (113 + 8 * p + x) v) else fnM M (-1000001)
theorem dX7_way_0 : decode cX7_way 0 = .ok (.iload_n 1, 1) := by decide +kernel
theorem dX7_way_1 : decode cX7_way 1 = .ok (.iload_n 2, 1) := by decide +kernel
theorem dX7_way_2 : decode cX7_way 2 = .ok (.invokestatic 97, 3) := by decide +kernel
theorem dX7_way_5 : decode cX7_way 5 = .ok (.ifCond .eq 23, 3) := by decide +kernel
theorem dX7_way_8 : decode cX7_way 8 = .ok (.iload_n 3, 1) := by decide +kernel
theorem dX7_way_9 : decode cX7_way 9 = .ok (.iconst 0, 1) := by decide +kernel
theorem dX7_way_10 : decode cX7_way 10 = .ok (.bipush 9, 2) := by decide +kernel
theorem dX7_way_12 : decode cX7_way 12 = .ok (.invokestatic 81, 3) := by decide +kernel
theorem dX7_way_15 : decode cX7_way 15 = .ok (.ifCond .eq 13, 3) := by decide +kernel
theorem dX7_way_18 : decode cX7_way 18 = .ok (.aload_n 0, 1) := by decide +kernel
theorem dX7_way_19 : decode cX7_way 19 = .ok (.iload_n 1, 1) := by decide +kernel
theorem dX7_way_20 : decode cX7_way 20 = .ok (.iload_n 2, 1) := by decide +kernel
theorem dX7_way_21 : decode cX7_way 21 = .ok (.iload_n 3, 1) := by decide +kernel
theorem dX7_way_22 : decode cX7_way 22 = .ok (.invokevirtual 72, 3) := by decide +kernel
theorem dX7_way_25 : decode cX7_way 25 = .ok (.goto 9, 3) := by decide +kernel
theorem dX7_way_28 : decode cX7_way 28 = .ok (.aload_n 0, 1) := by decide +kernel
theorem dX7_way_29 : decode cX7_way 29 = .ok (.ldc 76, 2) := by decide +kernel
theorem dX7_way_31 : decode cX7_way 31 = .ok (.invokevirtual 101, 3) := by decide +kernel
theorem dX7_way_34 : decode cX7_way 34 = .ok (.ireturn, 1) := by decide +kernel
set_option maxHeartbeats 800000 in
set_option maxRecDepth 100000 in
theorem c_X7_way {l : Launch} {ω : xO} {ks : Nat → Option Nat} (hm : xsh ω = mdS ks) {a c v : Int} {M : xMem} (ha : inR a) (hc : inR c) (hv : inR v) : Ct l ω yX7_way ({ frames := 3, cells := 0, slots := 0, locals := 63 } : Room) 4 3 [.ref (xad ω 0), .int (iI a), .int (iI c), .int (iI v)] M (some (.int (iI (nwaR M a c v)))) (nwaM M a c v) := by
  refine Ct.of (bytes := cX7_way) (ret := (some .int)) (lv0 := [some (.ref (xad ω 0)), some (.int (iI a)), some (.int (iI c)), some (.int (iI v))]) m_cd_X7_way m_in_X7 (by decide +kernel) (by decide +kernel) rfl rfl rfl rfl (fun hR => by unfold nwaM; (repeat' split) <;> first | exact hR | exact fnM_R hR | (exact up_R (up_R (up_R hR (by decide)) (by omega)) (by omega))) ?_
  intro κ h he hR
  refine x_iload_n h dX7_way_0 rfl ?_
  refine x_iload_n h dX7_way_1 rfl ?_
  refine x_S2i h dX7_way_2 m_ml_X7_97 m_st_X7_areTwoPlaces (by decide) rfl (c_X7_areTwoPlaces hm (by omega) (by omega)) ?_
  refine x_ifeqB h dX7_way_5 (tgt := 28) (by decide) (fun q5 => ?_) (fun q5 => ?_)
  · refine x_aload_n h dX7_way_28 rfl ?_
    refine x_ldc h m_k_X7_76 dX7_way_29 ?_
    refine x_V1i h dX7_way_31 m_ml_X7_101 m_im_X7_finding m_se_X7_finding (sM0 hm) rfl (by decide) rfl (c_X7_finding hm (by omega)) ?_
    exact x_iret (ret := none) h he dX7_way_34 rfl (by unfold nwaR; first | (rw [if_pos (by omega), ur_n (by omega)]) | (rw [if_neg (by omega)])) (by unfold nwaM; (repeat' split) <;> first | rfl | (exfalso; omega))
  · refine x_iload_n h dX7_way_8 rfl ?_
    refine x_iconst h dX7_way_9 ?_
    refine x_bipush h dX7_way_10 (by decide) ?_
    refine x_S3i h dX7_way_12 m_ml_X7_81 m_st_X7_within (by decide) rfl (c_X7_within hm (by omega) (by omega) (by omega)) ?_
    refine x_ifeqB h dX7_way_15 (tgt := 28) (by decide) (fun q15 => ?_) (fun q15 => ?_)
    · refine x_aload_n h dX7_way_28 rfl ?_
      refine x_ldc h m_k_X7_76 dX7_way_29 ?_
      refine x_V1i h dX7_way_31 m_ml_X7_101 m_im_X7_finding m_se_X7_finding (sM0 hm) rfl (by decide) rfl (c_X7_finding hm (by omega)) ?_
      exact x_iret (ret := none) h he dX7_way_34 rfl (by unfold nwaR; first | (rw [if_pos (by omega), ur_n (by omega)]) | (rw [if_neg (by omega)])) (by unfold nwaM; (repeat' split) <;> first | rfl | (exfalso; omega))
    · refine x_aload_n h dX7_way_18 rfl ?_
      refine x_iload_n h dX7_way_19 rfl ?_
      refine x_iload_n h dX7_way_20 rfl ?_
      refine x_iload_n h dX7_way_21 rfl ?_
      refine x_V3i h dX7_way_22 m_ml_X7_72 m_im_X7_lays m_se_X7_lays (sM0 hm) rfl (by decide) rfl (c_X7_lays hm (by omega) (by omega) (by omega)) ?_
      refine x_goto h dX7_way_25 (tgt := 34) (by decide) ?_
      exact x_iret (ret := none) h he dX7_way_34 rfl (by unfold nwaR; first | (rw [if_pos (by omega), ur_n (by omega)]) | (rw [if_neg (by omega)])) (by unfold nwaM; (repeat' split) <;> first | rfl | (exfalso; omega))

theorem dX7_far_0 : decode cX7_far 0 = .ok (.iload_n 1, 1) := by decide +kernel
theorem dX7_far_1 : decode cX7_far 1 = .ok (.invokestatic 93, 3) := by decide +kernel
theorem dX7_far_4 : decode cX7_far 4 = .ok (.ifCond .eq 19, 3) := by decide +kernel
theorem dX7_far_7 : decode cX7_far 7 = .ok (.iload_n 2, 1) := by decide +kernel
theorem dX7_far_8 : decode cX7_far 8 = .ok (.invokestatic 93, 3) := by decide +kernel
theorem dX7_far_11 : decode cX7_far 11 = .ok (.ifCond .eq 12, 3) := by decide +kernel
theorem dX7_far_14 : decode cX7_far 14 = .ok (.aload_n 0, 1) := by decide +kernel
theorem dX7_far_15 : decode cX7_far 15 = .ok (.iload_n 1, 1) := by decide +kernel
theorem dX7_far_16 : decode cX7_far 16 = .ok (.iload_n 2, 1) := by decide +kernel
theorem dX7_far_17 : decode cX7_far 17 = .ok (.invokevirtual 116, 3) := by decide +kernel
theorem dX7_far_20 : decode cX7_far 20 = .ok (.goto 9, 3) := by decide +kernel
theorem dX7_far_23 : decode cX7_far 23 = .ok (.aload_n 0, 1) := by decide +kernel
theorem dX7_far_24 : decode cX7_far 24 = .ok (.ldc 76, 2) := by decide +kernel
theorem dX7_far_26 : decode cX7_far 26 = .ok (.invokevirtual 101, 3) := by decide +kernel
theorem dX7_far_29 : decode cX7_far 29 = .ok (.ireturn, 1) := by decide +kernel
set_option maxHeartbeats 800000 in
set_option maxRecDepth 100000 in
theorem c_X7_far {l : Launch} {ω : xO} {ks : Nat → Option Nat} (hm : xsh ω = mdS ks) {a c : Int} {M : xMem} (hI : MInv M) (hf : Fc M) (ha : inR a) (hc : inR c) : Cq l ω yX7_far ({ frames := 3, cells := 0, slots := 0, locals := 67 } : Room) 3 2 [.ref (xad ω 0), .int (iI a), .int (iI c)] M (pI1 (fun r N' => r = nfaR M a c ∧ CaE (nfaM M a c) N')) := by
  refine Cq.of (bytes := cX7_far) (ret := (some .int)) (lv0 := [some (.ref (xad ω 0)), some (.int (iI a)), some (.int (iI c))]) m_cd_X7_far m_in_X7 (by decide +kernel) (by decide +kernel) rfl rfl rfl rfl ?_
  intro κ h he hR
  have hL := hI.2.2.1
  refine x_iload_n h dX7_far_0 rfl ?_
  refine x_S1i h dX7_far_1 m_ml_X7_93 m_st_X7_isPlace (by decide) rfl (c_X7_isPlace hm (by omega)) ?_
  refine x_ifeqB h dX7_far_4 (tgt := 23) (by decide) (fun q4 => ?_) (fun q4 => ?_)
  · refine x_aload_n h dX7_far_23 rfl ?_
    refine x_ldc h m_k_X7_76 dX7_far_24 ?_
    refine x_V1i h dX7_far_26 m_ml_X7_101 m_im_X7_finding m_se_X7_finding (sM0 hm) rfl (by decide) rfl (c_X7_finding hm (by omega)) ?_
    exact x_iretq h he dX7_far_29 ⟨by unfold nfaR; first | rw [if_pos (by omega)] | rw [if_neg (by omega)], by unfold nfaM; first | (rw [if_pos (by omega)]; exact CaE.of (by assumption)) | (rw [if_neg (by omega)]; exact CaE.rf1 fnM_y rfl rfl hf)⟩
  · refine x_iload_n h dX7_far_7 rfl ?_
    refine x_S1i h dX7_far_8 m_ml_X7_93 m_st_X7_isPlace (by decide) rfl (c_X7_isPlace hm (by omega)) ?_
    refine x_ifeqB h dX7_far_11 (tgt := 23) (by decide) (fun q11 => ?_) (fun q11 => ?_)
    · refine x_aload_n h dX7_far_23 rfl ?_
      refine x_ldc h m_k_X7_76 dX7_far_24 ?_
      refine x_V1i h dX7_far_26 m_ml_X7_101 m_im_X7_finding m_se_X7_finding (sM0 hm) rfl (by decide) rfl (c_X7_finding hm (by omega)) ?_
      exact x_iretq h he dX7_far_29 ⟨by unfold nfaR; first | rw [if_pos (by omega)] | rw [if_neg (by omega)], by unfold nfaM; first | (rw [if_pos (by omega)]; exact CaE.of (by assumption)) | (rw [if_neg (by omega)]; exact CaE.rf1 fnM_y rfl rfl hf)⟩
    · refine x_aload_n h dX7_far_14 rfl ?_
      refine x_iload_n h dX7_far_15 rfl ?_
      refine x_iload_n h dX7_far_16 rfl ?_
      refine x_Q2i h dX7_far_17 m_ml_X7_116 m_im_X7_farFrom m_se_X7_farFrom (sM0 hm) rfl (by decide) rfl (c_X7_farFrom hm (by exact hL) (by assumption) (by first | omega | (simp only [ca_1]; omega)) (by first | omega | (simp only [ca_1]; omega))) (fun r17 N17 h17 => ?_)
      obtain ⟨rfl, f17, d17, rfl, c17⟩ := h17
      try simp only [ca_ca, ca_1, dN_ca, wyM_ca, plN_ca, rpN_ca, ltN_ca, pmN_ca, wnN_ca, nbN_ca, ca_07, ca_08, ca_09, ca_010, beN_ca, ctN_ca, gonN_ca, mvN_ca, stN_ca, thN_ca, fnM_ca, tiN_ca, smN_ca] at c17 ⊢
      refine x_goto h dX7_far_20 (tgt := 29) (by decide) ?_
      exact x_iretq h he dX7_far_29 ⟨by unfold nfaR; first | rw [if_pos (by omega)] | rw [if_neg (by omega)], by unfold nfaM; first | (rw [if_pos (by omega)]; exact CaE.of (by assumption)) | (rw [if_neg (by omega)]; exact CaE.rf1 fnM_y rfl rfl hf)⟩

theorem dX7_person_0 : decode cX7_person 0 = .ok (.iload_n 1, 1) := by decide +kernel
theorem dX7_person_1 : decode cX7_person 1 = .ok (.invokestatic 122, 3) := by decide +kernel
theorem dX7_person_4 : decode cX7_person 4 = .ok (.ifCond .eq 10, 3) := by decide +kernel
theorem dX7_person_7 : decode cX7_person 7 = .ok (.iload_n 2, 1) := by decide +kernel
theorem dX7_person_8 : decode cX7_person 8 = .ok (.invokestatic 93, 3) := by decide +kernel
theorem dX7_person_11 : decode cX7_person 11 = .ok (.ifCond .ne 10, 3) := by decide +kernel
theorem dX7_person_14 : decode cX7_person 14 = .ok (.aload_n 0, 1) := by decide +kernel
theorem dX7_person_15 : decode cX7_person 15 = .ok (.ldc 76, 2) := by decide +kernel
theorem dX7_person_17 : decode cX7_person 17 = .ok (.invokevirtual 101, 3) := by decide +kernel
theorem dX7_person_20 : decode cX7_person 20 = .ok (.ireturn, 1) := by decide +kernel
theorem dX7_person_21 : decode cX7_person 21 = .ok (.aload_n 0, 1) := by decide +kernel
theorem dX7_person_22 : decode cX7_person 22 = .ok (.getfield 9, 3) := by decide +kernel
theorem dX7_person_25 : decode cX7_person 25 = .ok (.iconst 1, 1) := by decide +kernel
theorem dX7_person_26 : decode cX7_person 26 = .ok (.iaload, 1) := by decide +kernel
theorem dX7_person_27 : decode cX7_person 27 = .ok (.bipush 8, 2) := by decide +kernel
theorem dX7_person_29 : decode cX7_person 29 = .ok (.if_icmp .ne 12, 3) := by decide +kernel
theorem dX7_person_32 : decode cX7_person 32 = .ok (.aload_n 0, 1) := by decide +kernel
theorem dX7_person_33 : decode cX7_person 33 = .ok (.ldc 125, 2) := by decide +kernel
theorem dX7_person_35 : decode cX7_person 35 = .ok (.invokevirtual 101, 3) := by decide +kernel
theorem dX7_person_38 : decode cX7_person 38 = .ok (.goto 11, 3) := by decide +kernel
theorem dX7_person_41 : decode cX7_person 41 = .ok (.aload_n 0, 1) := by decide +kernel
theorem dX7_person_42 : decode cX7_person 42 = .ok (.iload_n 1, 1) := by decide +kernel
theorem dX7_person_43 : decode cX7_person 43 = .ok (.iload_n 2, 1) := by decide +kernel
theorem dX7_person_44 : decode cX7_person 44 = .ok (.iload_n 2, 1) := by decide +kernel
theorem dX7_person_45 : decode cX7_person 45 = .ok (.iconst 3, 1) := by decide +kernel
theorem dX7_person_46 : decode cX7_person 46 = .ok (.invokevirtual 126, 3) := by decide +kernel
theorem dX7_person_49 : decode cX7_person 49 = .ok (.ireturn, 1) := by decide +kernel
set_option maxHeartbeats 800000 in
set_option maxRecDepth 100000 in
theorem c_X7_person {l : Launch} {ω : xO} {ks : Nat → Option Nat} (hm : xsh ω = mdS ks) {k a : Int} {M : xMem} (hI : MInv M) (hk : inR k) (ha : inR a) : Ct l ω yX7_person ({ frames := 2, cells := 0, slots := 0, locals := 46 } : Room) 3 2 [.ref (xad ω 0), .int (iI k), .int (iI a)] M (some (.int (iI (npeR M k a)))) (npeM M k a) := by
  refine Ct.of (bytes := cX7_person) (ret := (some .int)) (lv0 := [some (.ref (xad ω 0)), some (.int (iI k)), some (.int (iI a))]) m_cd_X7_person m_in_X7 (by decide +kernel) (by decide +kernel) rfl rfl rfl rfl (fun hR => by
  have hn := hI.1
  unfold npeM
  (repeat' split)
  · exact fnM_R hR
  · unfold coM; exact up_R (up_R (up_R (up_R (up_R (up_R (up_R (up_R (up_R hR hk) ha) ha) (by decide)) (by decide)) (by decide)) (by decide)) (by decide)) (by omega)
  · exact fnM_R hR) ?_
  intro κ h he hR
  have hn := hI.1
  refine x_iload_n h dX7_person_0 rfl ?_
  refine x_S1i h dX7_person_1 m_ml_X7_122 m_st_X7_isKind (by decide) rfl (c_X7_isKind hm (by omega)) ?_
  refine x_ifeqB h dX7_person_4 (tgt := 14) (by decide) (fun q4 => ?_) (fun q4 => ?_)
  · refine x_aload_n h dX7_person_14 rfl ?_
    refine x_ldc h m_k_X7_76 dX7_person_15 ?_
    refine x_V1i h dX7_person_17 m_ml_X7_101 m_im_X7_finding m_se_X7_finding (sM0 hm) rfl (by decide) rfl (c_X7_finding hm (by omega)) ?_
    exact x_iret (ret := none) h he dX7_person_20 rfl (by unfold npeR; (repeat' split) <;> first | rfl | omega) (by unfold npeM; (repeat' split) <;> first | rfl | (exfalso; omega))
  · refine x_iload_n h dX7_person_7 rfl ?_
    refine x_S1i h dX7_person_8 m_ml_X7_93 m_st_X7_isPlace (by decide) rfl (c_X7_isPlace hm (by omega)) ?_
    refine x_ifneB h dX7_person_11 (tgt := 21) (by decide) (fun q11 => ?_) (fun q11 => ?_)
    · refine x_aload_n h dX7_person_21 rfl ?_
      refine x_getr (j := 0) (q := 1) h dX7_person_22 (sM0 hm) rfl in_X7 rfl (by decide) m_fl_X7_9 ?_
      refine x_iconst h dX7_person_25 ?_
      refine x_iaload h dX7_person_26 (sM1 hm) (by omega) (fun r26 => ?_)
      refine x_bipush h dX7_person_27 (by decide) ?_
      refine x_icmp_ne h dX7_person_29 (tgt := 41) (by decide) (by omega) (by omega) (fun q29 => ?_) (fun q29 => ?_)
      · refine x_aload_n h dX7_person_41 rfl ?_
        refine x_iload_n h dX7_person_42 rfl ?_
        refine x_iload_n h dX7_person_43 rfl ?_
        refine x_iload_n h dX7_person_44 rfl ?_
        refine x_iconst h dX7_person_45 ?_
        refine x_V4i h dX7_person_46 m_ml_X7_126 m_im_X7_comes m_se_X7_comes (sM0 hm) rfl (by decide) rfl (c_X7_comes hm (by omega) (by omega) (by omega) (by omega) (by omega)) ?_
        exact x_iret (ret := none) h he dX7_person_49 rfl (by unfold npeR; (repeat' split) <;> first | rfl | omega) (by unfold npeM; (repeat' split) <;> first | rfl | (exfalso; omega))
      · refine x_aload_n h dX7_person_32 rfl ?_
        refine x_ldc h m_k_X7_125 dX7_person_33 ?_
        refine x_V1i h dX7_person_35 m_ml_X7_101 m_im_X7_finding m_se_X7_finding (sM0 hm) rfl (by decide) rfl (c_X7_finding hm (by omega)) ?_
        refine x_goto h dX7_person_38 (tgt := 49) (by decide) ?_
        exact x_iret (ret := none) h he dX7_person_49 rfl (by unfold npeR; (repeat' split) <;> first | rfl | omega) (by unfold npeM; (repeat' split) <;> first | rfl | (exfalso; omega))
    · refine x_aload_n h dX7_person_14 rfl ?_
      refine x_ldc h m_k_X7_76 dX7_person_15 ?_
      refine x_V1i h dX7_person_17 m_ml_X7_101 m_im_X7_finding m_se_X7_finding (sM0 hm) rfl (by decide) rfl (c_X7_finding hm (by omega)) ?_
      exact x_iret (ret := none) h he dX7_person_20 rfl (by unfold npeR; (repeat' split) <;> first | rfl | omega) (by unfold npeM; (repeat' split) <;> first | rfl | (exfalso; omega))

theorem dX7_of_0 : decode cX7_of 0 = .ok (.aload_n 0, 1) := by decide +kernel
theorem dX7_of_1 : decode cX7_of 1 = .ok (.iload_n 1, 1) := by decide +kernel
theorem dX7_of_2 : decode cX7_of 2 = .ok (.invokevirtual 148, 3) := by decide +kernel
theorem dX7_of_5 : decode cX7_of 5 = .ok (.ifCond .eq 13, 3) := by decide +kernel
theorem dX7_of_8 : decode cX7_of 8 = .ok (.iload_n 2, 1) := by decide +kernel
theorem dX7_of_9 : decode cX7_of 9 = .ok (.iconst 0, 1) := by decide +kernel
theorem dX7_of_10 : decode cX7_of 10 = .ok (.bipush 8, 2) := by decide +kernel
theorem dX7_of_12 : decode cX7_of 12 = .ok (.invokestatic 81, 3) := by decide +kernel
theorem dX7_of_15 : decode cX7_of 15 = .ok (.ifCond .ne 10, 3) := by decide +kernel
theorem dX7_of_18 : decode cX7_of 18 = .ok (.aload_n 0, 1) := by decide +kernel
theorem dX7_of_19 : decode cX7_of 19 = .ok (.ldc 76, 2) := by decide +kernel
theorem dX7_of_21 : decode cX7_of 21 = .ok (.invokevirtual 101, 3) := by decide +kernel
theorem dX7_of_24 : decode cX7_of 24 = .ok (.ireturn, 1) := by decide +kernel
theorem dX7_of_25 : decode cX7_of 25 = .ok (.iload_n 2, 1) := by decide +kernel
theorem dX7_of_26 : decode cX7_of 26 = .ok (.iconst 5, 1) := by decide +kernel
theorem dX7_of_27 : decode cX7_of 27 = .ok (.if_icmp .ge 10, 3) := by decide +kernel
theorem dX7_of_30 : decode cX7_of 30 = .ok (.aload_n 0, 1) := by decide +kernel
theorem dX7_of_31 : decode cX7_of 31 = .ok (.iload_n 1, 1) := by decide +kernel
theorem dX7_of_32 : decode cX7_of 32 = .ok (.iload_n 2, 1) := by decide +kernel
theorem dX7_of_33 : decode cX7_of 33 = .ok (.invokevirtual 133, 3) := by decide +kernel
theorem dX7_of_36 : decode cX7_of 36 = .ok (.ireturn, 1) := by decide +kernel
theorem dX7_of_37 : decode cX7_of 37 = .ok (.iload_n 2, 1) := by decide +kernel
theorem dX7_of_38 : decode cX7_of 38 = .ok (.iconst 5, 1) := by decide +kernel
theorem dX7_of_39 : decode cX7_of 39 = .ok (.if_icmp .ne 11, 3) := by decide +kernel
theorem dX7_of_42 : decode cX7_of 42 = .ok (.aload_n 0, 1) := by decide +kernel
theorem dX7_of_43 : decode cX7_of 43 = .ok (.iload_n 1, 1) := by decide +kernel
theorem dX7_of_44 : decode cX7_of 44 = .ok (.invokevirtual 151, 3) := by decide +kernel
theorem dX7_of_47 : decode cX7_of 47 = .ok (.goto 25, 3) := by decide +kernel
theorem dX7_of_50 : decode cX7_of 50 = .ok (.iload_n 2, 1) := by decide +kernel
theorem dX7_of_51 : decode cX7_of 51 = .ok (.bipush 6, 2) := by decide +kernel
theorem dX7_of_53 : decode cX7_of 53 = .ok (.if_icmp .ne 11, 3) := by decide +kernel
theorem dX7_of_56 : decode cX7_of 56 = .ok (.aload_n 0, 1) := by decide +kernel
theorem dX7_of_57 : decode cX7_of 57 = .ok (.iload_n 1, 1) := by decide +kernel
theorem dX7_of_58 : decode cX7_of 58 = .ok (.invokevirtual 154, 3) := by decide +kernel
theorem dX7_of_61 : decode cX7_of 61 = .ok (.goto 11, 3) := by decide +kernel
theorem dX7_of_64 : decode cX7_of 64 = .ok (.aload_n 0, 1) := by decide +kernel
theorem dX7_of_65 : decode cX7_of 65 = .ok (.iload_n 1, 1) := by decide +kernel
theorem dX7_of_66 : decode cX7_of 66 = .ok (.iload_n 2, 1) := by decide +kernel
theorem dX7_of_67 : decode cX7_of 67 = .ok (.iconst 1, 1) := by decide +kernel
theorem dX7_of_68 : decode cX7_of 68 = .ok (.isub, 1) := by decide +kernel
theorem dX7_of_69 : decode cX7_of 69 = .ok (.invokevirtual 133, 3) := by decide +kernel
theorem dX7_of_72 : decode cX7_of 72 = .ok (.ireturn, 1) := by decide +kernel
set_option maxHeartbeats 800000 in
set_option maxRecDepth 100000 in
theorem c_X7_of {l : Launch} {ω : xO} {ks : Nat → Option Nat} (hm : xsh ω = mdS ks) {p x : Int} {M : xMem} (hI : MInv M) (hp : inR p) (hx : inR x) : Ct l ω yX7_of ({ frames := 3, cells := 0, slots := 0, locals := 67 } : Room) 3 2 [.ref (xad ω 0), .int (iI p), .int (iI x)] M (some (.int (iI (nofR M p x)))) (nofM M p x) := by
  refine Ct.of (bytes := cX7_of) (ret := (some .int)) (lv0 := [some (.ref (xad ω 0)), some (.int (iI p)), some (.int (iI x))]) m_cd_X7_of m_in_X7 (by decide +kernel) (by decide +kernel) rfl rfl rfl rfl (fun hR => by unfold nofM; (repeat' split) <;> first | exact hR | exact fnM_R hR | (exact up_R (up_R (up_R hR (by decide)) (by omega)) (by omega))) ?_
  intro κ h he hR
  have hn := hI.1
  refine x_aload_n h dX7_of_0 rfl ?_
  refine x_iload_n h dX7_of_1 rfl ?_
  refine x_V1i h dX7_of_2 m_ml_X7_148 m_im_X7_isPerson m_se_X7_isPerson (sM0 hm) rfl (by decide) rfl (c_X7_isPerson hm (by omega) (by omega)) ?_
  refine x_ifeqB h dX7_of_5 (tgt := 18) (by decide) (fun q5 => ?_) (fun q5 => ?_)
  · refine x_aload_n h dX7_of_18 rfl ?_
    refine x_ldc h m_k_X7_76 dX7_of_19 ?_
    refine x_V1i h dX7_of_21 m_ml_X7_101 m_im_X7_finding m_se_X7_finding (sM0 hm) rfl (by decide) rfl (c_X7_finding hm (by omega)) ?_
    exact x_iret (ret := none) h he dX7_of_24 rfl (by unfold nofR; (repeat' split) <;> first | rfl | omega) (by unfold nofM; (repeat' split) <;> first | rfl | (exfalso; omega))
  · refine x_iload_n h dX7_of_8 rfl ?_
    refine x_iconst h dX7_of_9 ?_
    refine x_bipush h dX7_of_10 (by decide) ?_
    refine x_S3i h dX7_of_12 m_ml_X7_81 m_st_X7_within (by decide) rfl (c_X7_within hm (by omega) (by omega) (by omega)) ?_
    refine x_ifneB h dX7_of_15 (tgt := 25) (by decide) (fun q15 => ?_) (fun q15 => ?_)
    · refine x_iload_n h dX7_of_25 rfl ?_
      refine x_iconst h dX7_of_26 ?_
      refine x_icmp_ge h dX7_of_27 (tgt := 37) (by decide) (by omega) (by omega) (fun q27 => ?_) (fun q27 => ?_)
      · refine x_iload_n h dX7_of_37 rfl ?_
        refine x_iconst h dX7_of_38 ?_
        refine x_icmp_ne h dX7_of_39 (tgt := 50) (by decide) (by omega) (by omega) (fun q39 => ?_) (fun q39 => ?_)
        · refine x_iload_n h dX7_of_50 rfl ?_
          refine x_bipush h dX7_of_51 (by decide) ?_
          refine x_icmp_ne h dX7_of_53 (tgt := 64) (by decide) (by omega) (by omega) (fun q53 => ?_) (fun q53 => ?_)
          · refine x_aload_n h dX7_of_64 rfl ?_
            refine x_iload_n h dX7_of_65 rfl ?_
            refine x_iload_n h dX7_of_66 rfl ?_
            refine x_iconst h dX7_of_67 ?_
            refine x_isub h dX7_of_68 ?_
            refine x_V2i h dX7_of_69 m_ml_X7_133 m_im_X7_personIs m_se_X7_personIs (sM0 hm) rfl (by decide) rfl (c_X7_personIs hm (by omega) (by omega)) ?_
            exact x_iret (ret := none) h he dX7_of_72 rfl (by unfold nofR; (repeat' split) <;> first | rfl | omega) (by unfold nofM; (repeat' split) <;> first | rfl | (exfalso; omega))
          · refine x_aload_n h dX7_of_56 rfl ?_
            refine x_iload_n h dX7_of_57 rfl ?_
            refine x_V1i h dX7_of_58 m_ml_X7_154 m_im_X7_goesOf m_se_X7_goesOf (sM0 hm) rfl (by decide) rfl (c_X7_goesOf hm (by exact hI) (by first | omega | (simp only [ca_1]; omega))) ?_
            refine x_goto h dX7_of_61 (tgt := 72) (by decide) ?_
            exact x_iret (ret := none) h he dX7_of_72 rfl (by unfold nofR; (repeat' split) <;> first | rfl | omega) (by unfold nofM; (repeat' split) <;> first | rfl | (exfalso; omega))
        · refine x_aload_n h dX7_of_42 rfl ?_
          refine x_iload_n h dX7_of_43 rfl ?_
          refine x_V1i h dX7_of_44 m_ml_X7_151 m_im_X7_pullsOf m_se_X7_pullsOf (sM0 hm) rfl (by decide) rfl (c_X7_pullsOf hm (by exact hI) (by first | omega | (simp only [ca_1]; omega))) ?_
          refine x_goto h dX7_of_47 (tgt := 72) (by decide) ?_
          exact x_iret (ret := none) h he dX7_of_72 rfl (by unfold nofR; (repeat' split) <;> first | rfl | omega) (by unfold nofM; (repeat' split) <;> first | rfl | (exfalso; omega))
      · refine x_aload_n h dX7_of_30 rfl ?_
        refine x_iload_n h dX7_of_31 rfl ?_
        refine x_iload_n h dX7_of_32 rfl ?_
        refine x_V2i h dX7_of_33 m_ml_X7_133 m_im_X7_personIs m_se_X7_personIs (sM0 hm) rfl (by decide) rfl (c_X7_personIs hm (by omega) (by omega)) ?_
        exact x_iret (ret := none) h he dX7_of_36 rfl (by unfold nofR; (repeat' split) <;> first | rfl | omega) (by unfold nofM; (repeat' split) <;> first | rfl | (exfalso; omega))
    · refine x_aload_n h dX7_of_18 rfl ?_
      refine x_ldc h m_k_X7_76 dX7_of_19 ?_
      refine x_V1i h dX7_of_21 m_ml_X7_101 m_im_X7_finding m_se_X7_finding (sM0 hm) rfl (by decide) rfl (c_X7_finding hm (by omega)) ?_
      exact x_iret (ret := none) h he dX7_of_24 rfl (by unfold nofR; (repeat' split) <;> first | rfl | omega) (by unfold nofM; (repeat' split) <;> first | rfl | (exfalso; omega))
