/-! the class: PEOPLE: reads, ROPES, sets -/
def PeInv (M : xMem) (b : Nat) : Prop := (0 ≤ M b 1 ∧ M b 1 ≤ 8) ∧ (0 ≤ M b 2 ∧ M b 2 ≤ 99999) ∧ ∀ p, 0 ≤ p → p < M b 1 → ((0 ≤ M (b + 1) p ∧ M (b + 1) p ≤ 6) ∧ (0 ≤ M (b + 2) p ∧ M (b + 2) p < 10) ∧ (0 ≤ M (b + 3) p ∧ M (b + 3) p < 10) ∧ (-1 ≤ M (b + 4) p ∧ M (b + 4) p < M b 1) ∧ (0 ≤ M (b + 5) p ∧ M (b + 5) p ≤ 9) ∧ (0 ≤ M (b + 6) p ∧ M (b + 6) p ≤ 999) ∧ (0 ≤ M (b + 7) p ∧ M (b + 7) p ≤ 9999) ∧ (0 ≤ M (b + 8) p ∧ M (b + 8) p ≤ 9999))
abbrev mtC (M : xMem) (b : Nat) (p : Int) : Int := M (b + 4) p
abbrev plC (M : xMem) (b : Nat) (p : Int) : Int := pullsF (M (b + 1) p) (M (b + 5) p) (M b 2)
abbrev rchC (M : xMem) (b : Nat) (p : Int) : Int := M (b + 6) p + slk (M (b + 1) p) + slk (M (b + 1) (M (b + 4) p))
abbrev letC (M : xMem) (b r : Nat) (p a : Int) : Prop := ¬ clHas M b (M (b + 4) p) ∨ M (r + 2) (a * 10 + M (b + 2) (M (b + 4) p)) ≤ rchC M b p
theorem slk_R (k : Int) : 0 ≤ slk k ∧ slk k ≤ 3 := by unfold slk; split <;> omega

theorem dX1_isThere_0 : decode cX1_isThere 0 = .ok (.aload_n 0, 1) := by decide +kernel
theorem dX1_isThere_1 : decode cX1_isThere 1 = .ok (.iload_n 1, 1) := by decide +kernel
theorem dX1_isThere_2 : decode cX1_isThere 2 = .ok (.invokevirtual 70, 3) := by decide +kernel
theorem dX1_isThere_5 : decode cX1_isThere 5 = .ok (.aload_n 0, 1) := by decide +kernel
theorem dX1_isThere_6 : decode cX1_isThere 6 = .ok (.iload_n 1, 1) := by decide +kernel
theorem dX1_isThere_7 : decode cX1_isThere 7 = .ok (.invokevirtual 74, 3) := by decide +kernel
theorem dX1_isThere_10 : decode cX1_isThere 10 = .ok (.if_icmp .ne 7, 3) := by decide +kernel
theorem dX1_isThere_13 : decode cX1_isThere 13 = .ok (.iconst 1, 1) := by decide +kernel
theorem dX1_isThere_14 : decode cX1_isThere 14 = .ok (.goto 4, 3) := by decide +kernel
theorem dX1_isThere_17 : decode cX1_isThere 17 = .ok (.iconst 0, 1) := by decide +kernel
theorem dX1_isThere_18 : decode cX1_isThere 18 = .ok (.ireturn, 1) := by decide +kernel
set_option maxHeartbeats 4000000 in
set_option maxRecDepth 100000 in
theorem c_X1_isThere {l : Launch} {ω : xO} (hc : xsh ω = clS) {b r : Nat} {p : Int} {M : xMem} (hb : pI b r) (hp : clHas M b p) : Ct l ω yX1_isThere ({ frames := 2, cells := 0, slots := 0, locals := 42 } : Room) 2 1 [.ref (xad ω b), .int (iI p)] M (some (.int (iI (bI (M (b + 2) p = M (b + 3) p))))) M := by
  refine Ct.of (bytes := cX1_isThere) (ret := (some .boolean)) (lv0 := [some (.ref (xad ω b)), some (.int (iI p))]) m_cd_X1_isThere m_in_X1 (by decide +kernel) (by decide +kernel) rfl rfl rfl rfl (fun hR => hR) ?_
  intro κ h he hR
  have g1 := hR (b + 2) p
  have g2 := hR (b + 3) p
  refine x_aload_n h dX1_isThere_0 rfl ?_
  refine x_iload_n h dX1_isThere_1 rfl ?_
  refine x_V1i h dX1_isThere_2 m_ml_X1_70 m_im_X1_placeOf m_se_X1_placeOf (sPe hc hb) rfl (by decide) rfl (c_X1_placeOf hc hb (by omega)) ?_
  refine x_aload_n h dX1_isThere_5 rfl ?_
  refine x_iload_n h dX1_isThere_6 rfl ?_
  refine x_V1i h dX1_isThere_7 m_ml_X1_74 m_im_X1_errandOf m_se_X1_errandOf (sPe hc hb) rfl (by decide) rfl (c_X1_errandOf hc hb (by omega)) ?_
  refine x_icmp_ne h dX1_isThere_10 (tgt := 17) (by decide) (by omega) (by omega) (fun q10 => ?_) (fun q10 => ?_)
  · refine x_iconst h dX1_isThere_17 ?_
    exact x_zret h he dX1_isThere_18 (by first | exact Or.inl rfl | exact Or.inr rfl | exact bI_01 _ | omega) rfl (by first | rfl | omega | exact (bI_t (by omega)).symm | exact (bI_f (by omega)).symm) rfl
  · refine x_iconst h dX1_isThere_13 ?_
    refine x_goto h dX1_isThere_14 (tgt := 18) (by decide) ?_
    exact x_zret h he dX1_isThere_18 (by first | exact Or.inl rfl | exact Or.inr rfl | exact bI_01 _ | omega) rfl (by first | rfl | omega | exact (bI_t (by omega)).symm | exact (bI_f (by omega)).symm) rfl

theorem dX1_isTied_0 : decode cX1_isTied 0 = .ok (.aload_n 0, 1) := by decide +kernel
theorem dX1_isTied_1 : decode cX1_isTied 1 = .ok (.iload_n 1, 1) := by decide +kernel
theorem dX1_isTied_2 : decode cX1_isTied 2 = .ok (.invokevirtual 62, 3) := by decide +kernel
theorem dX1_isTied_5 : decode cX1_isTied 5 = .ok (.ifCond .eq 20, 3) := by decide +kernel
theorem dX1_isTied_8 : decode cX1_isTied 8 = .ok (.aload_n 0, 1) := by decide +kernel
theorem dX1_isTied_9 : decode cX1_isTied 9 = .ok (.aload_n 0, 1) := by decide +kernel
theorem dX1_isTied_10 : decode cX1_isTied 10 = .ok (.getfield 28, 3) := by decide +kernel
theorem dX1_isTied_13 : decode cX1_isTied 13 = .ok (.iload_n 1, 1) := by decide +kernel
theorem dX1_isTied_14 : decode cX1_isTied 14 = .ok (.iaload, 1) := by decide +kernel
theorem dX1_isTied_15 : decode cX1_isTied 15 = .ok (.invokevirtual 62, 3) := by decide +kernel
theorem dX1_isTied_18 : decode cX1_isTied 18 = .ok (.ifCond .eq 7, 3) := by decide +kernel
theorem dX1_isTied_21 : decode cX1_isTied 21 = .ok (.iconst 1, 1) := by decide +kernel
theorem dX1_isTied_22 : decode cX1_isTied 22 = .ok (.goto 4, 3) := by decide +kernel
theorem dX1_isTied_25 : decode cX1_isTied 25 = .ok (.iconst 0, 1) := by decide +kernel
theorem dX1_isTied_26 : decode cX1_isTied 26 = .ok (.ireturn, 1) := by decide +kernel
set_option maxHeartbeats 4000000 in
set_option maxRecDepth 100000 in
theorem c_X1_isTied {l : Launch} {ω : xO} (hc : xsh ω = clS) {b r : Nat} {p : Int} {M : xMem} (hb : pI b r) (hp : clHas M b p) : Ct l ω yX1_isTied ({ frames := 1, cells := 0, slots := 0, locals := 21 } : Room) 2 1 [.ref (xad ω b), .int (iI p)] M (some (.int (iI (bI (clHas M b (M (b + 4) p)))))) M := by
  refine Ct.of (bytes := cX1_isTied) (ret := (some .boolean)) (lv0 := [some (.ref (xad ω b)), some (.int (iI p))]) m_cd_X1_isTied m_in_X1 (by decide +kernel) (by decide +kernel) rfl rfl rfl rfl (fun hR => hR) ?_
  intro κ h he hR
  refine x_aload_n h dX1_isTied_0 rfl ?_
  refine x_iload_n h dX1_isTied_1 rfl ?_
  refine x_V1i h dX1_isTied_2 m_ml_X1_62 m_im_X1_has m_se_X1_has (sPe hc hb) rfl (by decide) rfl (c_X1_has hc hb (by omega)) ?_
  refine x_ifeqB h dX1_isTied_5 (tgt := 25) (by decide) (fun q5 => ?_) (fun q5 => ?_)
  · refine x_iconst h dX1_isTied_25 ?_
    exact x_zret h he dX1_isTied_26 (by first | exact Or.inl rfl | exact Or.inr rfl | exact bI_01 _ | omega) rfl (by first | rfl | omega | exact (bI_t (by omega)).symm | exact (bI_f (by omega)).symm) rfl
  · refine x_aload_n h dX1_isTied_8 rfl ?_
    refine x_aload_n h dX1_isTied_9 rfl ?_
    refine x_getr (j := 6) (q := b + 4) h dX1_isTied_10 (sPe hc hb) rfl in_X1 rfl (by decide) m_fl_X1_28 ?_
    refine x_iload_n h dX1_isTied_13 rfl ?_
    refine x_iaload h dX1_isTied_14 (sP4 hc hb) (by omega) (fun r14 => ?_)
    refine x_V1i h dX1_isTied_15 m_ml_X1_62 m_im_X1_has m_se_X1_has (sPe hc hb) rfl (by decide) rfl (c_X1_has hc hb (by omega)) ?_
    refine x_ifeqB h dX1_isTied_18 (tgt := 25) (by decide) (fun q18 => ?_) (fun q18 => ?_)
    · refine x_iconst h dX1_isTied_25 ?_
      exact x_zret h he dX1_isTied_26 (by first | exact Or.inl rfl | exact Or.inr rfl | exact bI_01 _ | omega) rfl (by first | rfl | omega | exact (bI_t (by omega)).symm | exact (bI_f (by omega)).symm) rfl
    · refine x_iconst h dX1_isTied_21 ?_
      refine x_goto h dX1_isTied_22 (tgt := 26) (by decide) ?_
      exact x_zret h he dX1_isTied_26 (by first | exact Or.inl rfl | exact Or.inr rfl | exact bI_01 _ | omega) rfl (by first | rfl | omega | exact (bI_t (by omega)).symm | exact (bI_f (by omega)).symm) rfl

theorem dX1_pullsOf_0 : decode cX1_pullsOf 0 = .ok (.aload_n 0, 1) := by decide +kernel
theorem dX1_pullsOf_1 : decode cX1_pullsOf 1 = .ok (.iload_n 1, 1) := by decide +kernel
theorem dX1_pullsOf_2 : decode cX1_pullsOf 2 = .ok (.invokevirtual 62, 3) := by decide +kernel
theorem dX1_pullsOf_5 : decode cX1_pullsOf 5 = .ok (.ifCond .eq 25, 3) := by decide +kernel
theorem dX1_pullsOf_8 : decode cX1_pullsOf 8 = .ok (.aload_n 0, 1) := by decide +kernel
theorem dX1_pullsOf_9 : decode cX1_pullsOf 9 = .ok (.getfield 18, 3) := by decide +kernel
theorem dX1_pullsOf_12 : decode cX1_pullsOf 12 = .ok (.iload_n 1, 1) := by decide +kernel
theorem dX1_pullsOf_13 : decode cX1_pullsOf 13 = .ok (.iaload, 1) := by decide +kernel
theorem dX1_pullsOf_14 : decode cX1_pullsOf 14 = .ok (.aload_n 0, 1) := by decide +kernel
theorem dX1_pullsOf_15 : decode cX1_pullsOf 15 = .ok (.getfield 31, 3) := by decide +kernel
theorem dX1_pullsOf_18 : decode cX1_pullsOf 18 = .ok (.iload_n 1, 1) := by decide +kernel
theorem dX1_pullsOf_19 : decode cX1_pullsOf 19 = .ok (.iaload, 1) := by decide +kernel
theorem dX1_pullsOf_20 : decode cX1_pullsOf 20 = .ok (.aload_n 0, 1) := by decide +kernel
theorem dX1_pullsOf_21 : decode cX1_pullsOf 21 = .ok (.getfield 15, 3) := by decide +kernel
theorem dX1_pullsOf_24 : decode cX1_pullsOf 24 = .ok (.invokestatic 66, 3) := by decide +kernel
theorem dX1_pullsOf_27 : decode cX1_pullsOf 27 = .ok (.goto 4, 3) := by decide +kernel
theorem dX1_pullsOf_30 : decode cX1_pullsOf 30 = .ok (.iconst 0, 1) := by decide +kernel
theorem dX1_pullsOf_31 : decode cX1_pullsOf 31 = .ok (.ireturn, 1) := by decide +kernel
set_option maxHeartbeats 4000000 in
set_option maxRecDepth 100000 in
theorem c_X1_pullsOf {l : Launch} {ω : xO} (hc : xsh ω = clS) {b r : Nat} {p : Int} {M : xMem} (hb : pI b r) (hI : PeInv M b) (hp : clHas M b p) : Ct l ω yX1_pullsOf ({ frames := 1, cells := 0, slots := 0, locals := 25 } : Room) 2 1 [.ref (xad ω b), .int (iI p)] M (some (.int (iI (plC M b p)))) M := by
  refine Ct.of (bytes := cX1_pullsOf) (ret := (some .int)) (lv0 := [some (.ref (xad ω b)), some (.int (iI p))]) m_cd_X1_pullsOf m_in_X1 (by decide +kernel) (by decide +kernel) rfl rfl rfl rfl (fun hR => hR) ?_
  intro κ h he hR
  have ip := hI.2.2 p hp.1 hp.2.1
  have ib := hI.1
  have ic := hI.2.1
  refine x_aload_n h dX1_pullsOf_0 rfl ?_
  refine x_iload_n h dX1_pullsOf_1 rfl ?_
  refine x_V1i h dX1_pullsOf_2 m_ml_X1_62 m_im_X1_has m_se_X1_has (sPe hc hb) rfl (by decide) rfl (c_X1_has hc hb (by omega)) ?_
  refine x_ifeqB h dX1_pullsOf_5 (tgt := 30) (by decide) (fun q5 => ?_) (fun q5 => ?_)
  · refine x_iconst h dX1_pullsOf_30 ?_
    exact x_iret (ret := none) h he dX1_pullsOf_31 rfl (by first | rfl | omega | exact (bI_t (by omega)).symm | exact (bI_f (by omega)).symm) rfl
  · refine x_aload_n h dX1_pullsOf_8 rfl ?_
    refine x_getr (j := 3) (q := b + 1) h dX1_pullsOf_9 (sPe hc hb) rfl in_X1 rfl (by decide) m_fl_X1_18 ?_
    refine x_iload_n h dX1_pullsOf_12 rfl ?_
    refine x_iaload h dX1_pullsOf_13 (sP1 hc hb) (by omega) (fun r13 => ?_)
    refine x_aload_n h dX1_pullsOf_14 rfl ?_
    refine x_getr (j := 7) (q := b + 5) h dX1_pullsOf_15 (sPe hc hb) rfl in_X1 rfl (by decide) m_fl_X1_31 ?_
    refine x_iload_n h dX1_pullsOf_18 rfl ?_
    refine x_iaload h dX1_pullsOf_19 (sP5 hc hb) (by omega) (fun r19 => ?_)
    refine x_aload_n h dX1_pullsOf_20 rfl ?_
    refine x_geti (j := 2) 2 h dX1_pullsOf_21 (sPe hc hb) rfl in_X1 rfl (by decide) m_fl_X1_15 rfl (fun r21 => ?_)
    refine x_N3i h dX1_pullsOf_24 m_nl_X1_66 m_st_X6_pullsAs (by decide) rfl (c_X6_pullsAs hc (by omega) (by omega) (by omega)) ?_
    refine x_goto h dX1_pullsOf_27 (tgt := 31) (by decide) ?_
    exact x_iret (ret := none) h he dX1_pullsOf_31 rfl (by first | rfl | omega | exact (bI_t (by omega)).symm | exact (bI_f (by omega)).symm) rfl

theorem dX1_reach_0 : decode cX1_reach 0 = .ok (.aload_n 0, 1) := by decide +kernel
theorem dX1_reach_1 : decode cX1_reach 1 = .ok (.iload_n 1, 1) := by decide +kernel
theorem dX1_reach_2 : decode cX1_reach 2 = .ok (.invokevirtual 62, 3) := by decide +kernel
theorem dX1_reach_5 : decode cX1_reach 5 = .ok (.ifCond .eq 16, 3) := by decide +kernel
theorem dX1_reach_8 : decode cX1_reach 8 = .ok (.aload_n 0, 1) := by decide +kernel
theorem dX1_reach_9 : decode cX1_reach 9 = .ok (.aload_n 0, 1) := by decide +kernel
theorem dX1_reach_10 : decode cX1_reach 10 = .ok (.getfield 28, 3) := by decide +kernel
theorem dX1_reach_13 : decode cX1_reach 13 = .ok (.iload_n 1, 1) := by decide +kernel
theorem dX1_reach_14 : decode cX1_reach 14 = .ok (.iaload, 1) := by decide +kernel
theorem dX1_reach_15 : decode cX1_reach 15 = .ok (.invokevirtual 62, 3) := by decide +kernel
theorem dX1_reach_18 : decode cX1_reach 18 = .ok (.ifCond .ne 7, 3) := by decide +kernel
theorem dX1_reach_21 : decode cX1_reach 21 = .ok (.sipush 999, 3) := by decide +kernel
theorem dX1_reach_24 : decode cX1_reach 24 = .ok (.ireturn, 1) := by decide +kernel
theorem dX1_reach_25 : decode cX1_reach 25 = .ok (.aload_n 0, 1) := by decide +kernel
theorem dX1_reach_26 : decode cX1_reach 26 = .ok (.getfield 34, 3) := by decide +kernel
theorem dX1_reach_29 : decode cX1_reach 29 = .ok (.iload_n 1, 1) := by decide +kernel
theorem dX1_reach_30 : decode cX1_reach 30 = .ok (.iaload, 1) := by decide +kernel
theorem dX1_reach_31 : decode cX1_reach 31 = .ok (.aload_n 0, 1) := by decide +kernel
theorem dX1_reach_32 : decode cX1_reach 32 = .ok (.getfield 18, 3) := by decide +kernel
theorem dX1_reach_35 : decode cX1_reach 35 = .ok (.iload_n 1, 1) := by decide +kernel
theorem dX1_reach_36 : decode cX1_reach 36 = .ok (.iaload, 1) := by decide +kernel
theorem dX1_reach_37 : decode cX1_reach 37 = .ok (.invokestatic 84, 3) := by decide +kernel
theorem dX1_reach_40 : decode cX1_reach 40 = .ok (.iadd, 1) := by decide +kernel
theorem dX1_reach_41 : decode cX1_reach 41 = .ok (.aload_n 0, 1) := by decide +kernel
theorem dX1_reach_42 : decode cX1_reach 42 = .ok (.getfield 18, 3) := by decide +kernel
theorem dX1_reach_45 : decode cX1_reach 45 = .ok (.aload_n 0, 1) := by decide +kernel
theorem dX1_reach_46 : decode cX1_reach 46 = .ok (.getfield 28, 3) := by decide +kernel
theorem dX1_reach_49 : decode cX1_reach 49 = .ok (.iload_n 1, 1) := by decide +kernel
theorem dX1_reach_50 : decode cX1_reach 50 = .ok (.iaload, 1) := by decide +kernel
theorem dX1_reach_51 : decode cX1_reach 51 = .ok (.iaload, 1) := by decide +kernel
theorem dX1_reach_52 : decode cX1_reach 52 = .ok (.invokestatic 84, 3) := by decide +kernel
theorem dX1_reach_55 : decode cX1_reach 55 = .ok (.iadd, 1) := by decide +kernel
theorem dX1_reach_56 : decode cX1_reach 56 = .ok (.ireturn, 1) := by decide +kernel
set_option maxHeartbeats 4000000 in
set_option maxRecDepth 100000 in
theorem c_X1_reach {l : Launch} {ω : xO} (hc : xsh ω = clS) {b r : Nat} {p : Int} {M : xMem} (hb : pI b r) (hI : PeInv M b) (hp : clHas M b p) (hm : clHas M b (M (b + 4) p)) : Ct l ω yX1_reach ({ frames := 1, cells := 0, slots := 0, locals := 21 } : Room) 2 1 [.ref (xad ω b), .int (iI p)] M (some (.int (iI (rchC M b p)))) M := by
  refine Ct.of (bytes := cX1_reach) (ret := (some .int)) (lv0 := [some (.ref (xad ω b)), some (.int (iI p))]) m_cd_X1_reach m_in_X1 (by decide +kernel) (by decide +kernel) rfl rfl rfl rfl (fun hR => hR) ?_
  intro κ h he hR
  have ip := hI.2.2 p hp.1 hp.2.1
  have ib := hI.1
  have ic := hI.2.1
  have g1 := hI.2.2 _ hm.1 hm.2.1
  refine x_aload_n h dX1_reach_0 rfl ?_
  refine x_iload_n h dX1_reach_1 rfl ?_
  refine x_V1i h dX1_reach_2 m_ml_X1_62 m_im_X1_has m_se_X1_has (sPe hc hb) rfl (by decide) rfl (c_X1_has hc hb (by omega)) ?_
  refine x_ifeqB h dX1_reach_5 (tgt := 21) (by decide) (fun q5 => ?_) (fun q5 => ?_)
  · refine x_sipush h dX1_reach_21 (by decide) ?_
    exact x_iret (ret := none) h he dX1_reach_24 rfl (by first | rfl | omega | exact (bI_t (by omega)).symm | exact (bI_f (by omega)).symm) rfl
  · refine x_aload_n h dX1_reach_8 rfl ?_
    refine x_aload_n h dX1_reach_9 rfl ?_
    refine x_getr (j := 6) (q := b + 4) h dX1_reach_10 (sPe hc hb) rfl in_X1 rfl (by decide) m_fl_X1_28 ?_
    refine x_iload_n h dX1_reach_13 rfl ?_
    refine x_iaload h dX1_reach_14 (sP4 hc hb) (by omega) (fun r14 => ?_)
    refine x_V1i h dX1_reach_15 m_ml_X1_62 m_im_X1_has m_se_X1_has (sPe hc hb) rfl (by decide) rfl (c_X1_has hc hb (by omega)) ?_
    refine x_ifneB h dX1_reach_18 (tgt := 25) (by decide) (fun q18 => ?_) (fun q18 => ?_)
    · refine x_aload_n h dX1_reach_25 rfl ?_
      refine x_getr (j := 8) (q := b + 6) h dX1_reach_26 (sPe hc hb) rfl in_X1 rfl (by decide) m_fl_X1_34 ?_
      refine x_iload_n h dX1_reach_29 rfl ?_
      refine x_iaload h dX1_reach_30 (sP6 hc hb) (by omega) (fun r30 => ?_)
      refine x_aload_n h dX1_reach_31 rfl ?_
      refine x_getr (j := 3) (q := b + 1) h dX1_reach_32 (sPe hc hb) rfl in_X1 rfl (by decide) m_fl_X1_18 ?_
      refine x_iload_n h dX1_reach_35 rfl ?_
      refine x_iaload h dX1_reach_36 (sP1 hc hb) (by omega) (fun r36 => ?_)
      refine x_N1i h dX1_reach_37 m_nl_X1_84 m_st_X6_slackOf (by decide) rfl (c_X6_slackOf hc (by omega)) ?_
      refine x_iadd h dX1_reach_40 ?_
      refine x_aload_n h dX1_reach_41 rfl ?_
      refine x_getr (j := 3) (q := b + 1) h dX1_reach_42 (sPe hc hb) rfl in_X1 rfl (by decide) m_fl_X1_18 ?_
      refine x_aload_n h dX1_reach_45 rfl ?_
      refine x_getr (j := 6) (q := b + 4) h dX1_reach_46 (sPe hc hb) rfl in_X1 rfl (by decide) m_fl_X1_28 ?_
      refine x_iload_n h dX1_reach_49 rfl ?_
      refine x_iaload h dX1_reach_50 (sP4 hc hb) (by omega) (fun r50 => ?_)
      refine x_iaload h dX1_reach_51 (sP1 hc hb) (by omega) (fun r51 => ?_)
      refine x_N1i h dX1_reach_52 m_nl_X1_84 m_st_X6_slackOf (by decide) rfl (c_X6_slackOf hc (by omega)) ?_
      refine x_iadd h dX1_reach_55 ?_
      exact x_iret (ret := none) h he dX1_reach_56 rfl (by first | rfl | omega | exact (bI_t (by omega)).symm | exact (bI_f (by omega)).symm) rfl
    · refine x_sipush h dX1_reach_21 (by decide) ?_
      exact x_iret (ret := none) h he dX1_reach_24 rfl (by first | rfl | omega | exact (bI_t (by omega)).symm | exact (bI_f (by omega)).symm) rfl

theorem dX1_ropeLets_0 : decode cX1_ropeLets 0 = .ok (.aload_n 0, 1) := by decide +kernel
theorem dX1_ropeLets_1 : decode cX1_ropeLets 1 = .ok (.iload_n 1, 1) := by decide +kernel
theorem dX1_ropeLets_2 : decode cX1_ropeLets 2 = .ok (.invokevirtual 62, 3) := by decide +kernel
theorem dX1_ropeLets_5 : decode cX1_ropeLets 5 = .ok (.ifCond .eq 16, 3) := by decide +kernel
theorem dX1_ropeLets_8 : decode cX1_ropeLets 8 = .ok (.aload_n 0, 1) := by decide +kernel
theorem dX1_ropeLets_9 : decode cX1_ropeLets 9 = .ok (.aload_n 0, 1) := by decide +kernel
theorem dX1_ropeLets_10 : decode cX1_ropeLets 10 = .ok (.getfield 28, 3) := by decide +kernel
theorem dX1_ropeLets_13 : decode cX1_ropeLets 13 = .ok (.iload_n 1, 1) := by decide +kernel
theorem dX1_ropeLets_14 : decode cX1_ropeLets 14 = .ok (.iaload, 1) := by decide +kernel
theorem dX1_ropeLets_15 : decode cX1_ropeLets 15 = .ok (.invokevirtual 62, 3) := by decide +kernel
theorem dX1_ropeLets_18 : decode cX1_ropeLets 18 = .ok (.ifCond .ne 5, 3) := by decide +kernel
theorem dX1_ropeLets_21 : decode cX1_ropeLets 21 = .ok (.iconst 1, 1) := by decide +kernel
theorem dX1_ropeLets_22 : decode cX1_ropeLets 22 = .ok (.ireturn, 1) := by decide +kernel
theorem dX1_ropeLets_23 : decode cX1_ropeLets 23 = .ok (.aload_n 0, 1) := by decide +kernel
theorem dX1_ropeLets_24 : decode cX1_ropeLets 24 = .ok (.getfield 52, 3) := by decide +kernel
theorem dX1_ropeLets_27 : decode cX1_ropeLets 27 = .ok (.iload_n 2, 1) := by decide +kernel
theorem dX1_ropeLets_28 : decode cX1_ropeLets 28 = .ok (.aload_n 0, 1) := by decide +kernel
theorem dX1_ropeLets_29 : decode cX1_ropeLets 29 = .ok (.getfield 22, 3) := by decide +kernel
theorem dX1_ropeLets_32 : decode cX1_ropeLets 32 = .ok (.aload_n 0, 1) := by decide +kernel
theorem dX1_ropeLets_33 : decode cX1_ropeLets 33 = .ok (.getfield 28, 3) := by decide +kernel
theorem dX1_ropeLets_36 : decode cX1_ropeLets 36 = .ok (.iload_n 1, 1) := by decide +kernel
theorem dX1_ropeLets_37 : decode cX1_ropeLets 37 = .ok (.iaload, 1) := by decide +kernel
theorem dX1_ropeLets_38 : decode cX1_ropeLets 38 = .ok (.iaload, 1) := by decide +kernel
theorem dX1_ropeLets_39 : decode cX1_ropeLets 39 = .ok (.invokevirtual 87, 3) := by decide +kernel
theorem dX1_ropeLets_42 : decode cX1_ropeLets 42 = .ok (.aload_n 0, 1) := by decide +kernel
theorem dX1_ropeLets_43 : decode cX1_ropeLets 43 = .ok (.iload_n 1, 1) := by decide +kernel
theorem dX1_ropeLets_44 : decode cX1_ropeLets 44 = .ok (.invokevirtual 93, 3) := by decide +kernel
theorem dX1_ropeLets_47 : decode cX1_ropeLets 47 = .ok (.if_icmp .gt 7, 3) := by decide +kernel
theorem dX1_ropeLets_50 : decode cX1_ropeLets 50 = .ok (.iconst 1, 1) := by decide +kernel
theorem dX1_ropeLets_51 : decode cX1_ropeLets 51 = .ok (.goto 4, 3) := by decide +kernel
theorem dX1_ropeLets_54 : decode cX1_ropeLets 54 = .ok (.iconst 0, 1) := by decide +kernel
theorem dX1_ropeLets_55 : decode cX1_ropeLets 55 = .ok (.ireturn, 1) := by decide +kernel
set_option maxHeartbeats 4000000 in
set_option maxRecDepth 100000 in
theorem c_X1_ropeLets {l : Launch} {ω : xO} (hc : xsh ω = clS) {b r : Nat} {p : Int} {a : Int} {M : xMem} (hb : pI b r) (hI : PeInv M b) (hp : clHas M b p) (ha : plc a) : Ct l ω yX1_ropeLets ({ frames := 2, cells := 0, slots := 0, locals := 42 } : Room) 3 2 [.ref (xad ω b), .int (iI p), .int (iI a)] M (some (.int (iI (bI (letC M b r p a))))) M := by
  refine Ct.of (bytes := cX1_ropeLets) (ret := (some .boolean)) (lv0 := [some (.ref (xad ω b)), some (.int (iI p)), some (.int (iI a))]) m_cd_X1_ropeLets m_in_X1 (by decide +kernel) (by decide +kernel) rfl rfl rfl rfl (fun hR => hR) ?_
  intro κ h he hR
  have ip := hI.2.2 p hp.1 hp.2.1
  have ib := hI.1
  have ic := hI.2.1
  refine x_aload_n h dX1_ropeLets_0 rfl ?_
  refine x_iload_n h dX1_ropeLets_1 rfl ?_
  refine x_V1i h dX1_ropeLets_2 m_ml_X1_62 m_im_X1_has m_se_X1_has (sPe hc hb) rfl (by decide) rfl (c_X1_has hc hb (by omega)) ?_
  refine x_ifeqB h dX1_ropeLets_5 (tgt := 21) (by decide) (fun q5 => ?_) (fun q5 => ?_)
  · refine x_iconst h dX1_ropeLets_21 ?_
    exact x_zret h he dX1_ropeLets_22 (by first | exact Or.inl rfl | exact Or.inr rfl | exact bI_01 _ | omega) rfl (by first | rfl | omega | exact (bI_t (by omega)).symm | exact (bI_f (by omega)).symm) rfl
  · refine x_aload_n h dX1_ropeLets_8 rfl ?_
    refine x_aload_n h dX1_ropeLets_9 rfl ?_
    refine x_getr (j := 6) (q := b + 4) h dX1_ropeLets_10 (sPe hc hb) rfl in_X1 rfl (by decide) m_fl_X1_28 ?_
    refine x_iload_n h dX1_ropeLets_13 rfl ?_
    refine x_iaload h dX1_ropeLets_14 (sP4 hc hb) (by omega) (fun r14 => ?_)
    refine x_V1i h dX1_ropeLets_15 m_ml_X1_62 m_im_X1_has m_se_X1_has (sPe hc hb) rfl (by decide) rfl (c_X1_has hc hb (by omega)) ?_
    refine x_ifneB h dX1_ropeLets_18 (tgt := 23) (by decide) (fun q18 => ?_) (fun q18 => ?_)
    · have hm : clHas M b (M (b + 4) p) := by assumption
      have im := hI.2.2 _ hm.1 hm.2.1
      have g3 := hR (r + 2) (a * 10 + M (b + 2) (M (b + 4) p))
      have g4 := slk_R (M (b + 1) p)
      have g5 := slk_R (M (b + 1) (M (b + 4) p))
      refine x_aload_n h dX1_ropeLets_23 rfl ?_
      refine x_getr (j := 0) (q := r) h dX1_ropeLets_24 (sPe hc hb) rfl in_X1 rfl (by decide) m_fl_X1_52 ?_
      refine x_iload_n h dX1_ropeLets_27 rfl ?_
      refine x_aload_n h dX1_ropeLets_28 rfl ?_
      refine x_getr (j := 4) (q := b + 2) h dX1_ropeLets_29 (sPe hc hb) rfl in_X1 rfl (by decide) m_fl_X1_22 ?_
      refine x_aload_n h dX1_ropeLets_32 rfl ?_
      refine x_getr (j := 6) (q := b + 4) h dX1_ropeLets_33 (sPe hc hb) rfl in_X1 rfl (by decide) m_fl_X1_28 ?_
      refine x_iload_n h dX1_ropeLets_36 rfl ?_
      refine x_iaload h dX1_ropeLets_37 (sP4 hc hb) (by omega) (fun r37 => ?_)
      refine x_iaload h dX1_ropeLets_38 (sP2 hc hb) (by omega) (fun r38 => ?_)
      refine x_V2i h dX1_ropeLets_39 m_ml_X1_87 m_im_X3_distance m_se_X3_distance (sRd hc ((pI_r hb))) rfl (by decide) rfl (c_X3_distance hc (pI_r hb) (by omega) (by omega)) ?_
      refine x_aload_n h dX1_ropeLets_42 rfl ?_
      refine x_iload_n h dX1_ropeLets_43 rfl ?_
      refine x_V1i h dX1_ropeLets_44 m_ml_X1_93 m_im_X1_reach m_se_X1_reach (sPe hc hb) rfl (by decide) rfl (c_X1_reach hc hb hI (by omega) (by omega)) ?_
      refine x_icmp_gt h dX1_ropeLets_47 (tgt := 54) (by decide) (by first | omega | (show inR (_ + _ + _); omega)) (by first | omega | (show inR (_ + _ + _); omega)) (fun q47 => ?_) (fun q47 => ?_)
      · refine x_iconst h dX1_ropeLets_54 ?_
        exact x_zret h he dX1_ropeLets_55 (by first | exact Or.inl rfl | exact Or.inr rfl | exact bI_01 _ | omega) rfl (by first | rfl | omega | exact (bI_t (by omega)).symm | exact (bI_f (by omega)).symm) rfl
      · refine x_iconst h dX1_ropeLets_50 ?_
        refine x_goto h dX1_ropeLets_51 (tgt := 55) (by decide) ?_
        exact x_zret h he dX1_ropeLets_55 (by first | exact Or.inl rfl | exact Or.inr rfl | exact bI_01 _ | omega) rfl (by first | rfl | omega | exact (bI_t (by omega)).symm | exact (bI_f (by omega)).symm) rfl
    · refine x_iconst h dX1_ropeLets_21 ?_
      exact x_zret h he dX1_ropeLets_22 (by first | exact Or.inl rfl | exact Or.inr rfl | exact bI_01 _ | omega) rfl (by first | rfl | omega | exact (bI_t (by omega)).symm | exact (bI_f (by omega)).symm) rfl

theorem dX1_apartness_0 : decode cX1_apartness 0 = .ok (.aload_n 0, 1) := by decide +kernel
theorem dX1_apartness_1 : decode cX1_apartness 1 = .ok (.getfield 52, 3) := by decide +kernel
theorem dX1_apartness_4 : decode cX1_apartness 4 = .ok (.aload_n 0, 1) := by decide +kernel
theorem dX1_apartness_5 : decode cX1_apartness 5 = .ok (.iload_n 1, 1) := by decide +kernel
theorem dX1_apartness_6 : decode cX1_apartness 6 = .ok (.invokevirtual 70, 3) := by decide +kernel
theorem dX1_apartness_9 : decode cX1_apartness 9 = .ok (.aload_n 0, 1) := by decide +kernel
theorem dX1_apartness_10 : decode cX1_apartness 10 = .ok (.iload_n 2, 1) := by decide +kernel
theorem dX1_apartness_11 : decode cX1_apartness 11 = .ok (.invokevirtual 70, 3) := by decide +kernel
theorem dX1_apartness_14 : decode cX1_apartness 14 = .ok (.invokevirtual 87, 3) := by decide +kernel
theorem dX1_apartness_17 : decode cX1_apartness 17 = .ok (.istore_n 3, 1) := by decide +kernel
theorem dX1_apartness_18 : decode cX1_apartness 18 = .ok (.aload_n 0, 1) := by decide +kernel
theorem dX1_apartness_19 : decode cX1_apartness 19 = .ok (.getfield 52, 3) := by decide +kernel
theorem dX1_apartness_22 : decode cX1_apartness 22 = .ok (.aload_n 0, 1) := by decide +kernel
theorem dX1_apartness_23 : decode cX1_apartness 23 = .ok (.iload_n 1, 1) := by decide +kernel
theorem dX1_apartness_24 : decode cX1_apartness 24 = .ok (.invokevirtual 74, 3) := by decide +kernel
theorem dX1_apartness_27 : decode cX1_apartness 27 = .ok (.aload_n 0, 1) := by decide +kernel
theorem dX1_apartness_28 : decode cX1_apartness 28 = .ok (.iload_n 2, 1) := by decide +kernel
theorem dX1_apartness_29 : decode cX1_apartness 29 = .ok (.invokevirtual 74, 3) := by decide +kernel
theorem dX1_apartness_32 : decode cX1_apartness 32 = .ok (.invokevirtual 87, 3) := by decide +kernel
theorem dX1_apartness_35 : decode cX1_apartness 35 = .ok (.istore 4, 2) := by decide +kernel
theorem dX1_apartness_37 : decode cX1_apartness 37 = .ok (.iload_n 3, 1) := by decide +kernel
theorem dX1_apartness_38 : decode cX1_apartness 38 = .ok (.iload 4, 2) := by decide +kernel
theorem dX1_apartness_40 : decode cX1_apartness 40 = .ok (.invokestatic 96, 3) := by decide +kernel
theorem dX1_apartness_43 : decode cX1_apartness 43 = .ok (.ireturn, 1) := by decide +kernel
set_option maxHeartbeats 4000000 in
set_option maxRecDepth 100000 in
theorem c_X1_apartness {l : Launch} {ω : xO} (hc : xsh ω = clS) {b r : Nat} {p s : Int} {M : xMem} (hb : pI b r) (hI : PeInv M b) (hp : clHas M b p) (hs : clHas M b s) : Ct l ω yX1_apartness ({ frames := 2, cells := 0, slots := 0, locals := 42 } : Room) 5 2 [.ref (xad ω b), .int (iI p), .int (iI s)] M (some (.int (iI (max (M (r + 2) (M (b + 2) p * 10 + M (b + 2) s)) (M (r + 2) (M (b + 3) p * 10 + M (b + 3) s)))))) M := by
  refine Ct.of (bytes := cX1_apartness) (ret := (some .int)) (lv0 := [some (.ref (xad ω b)), some (.int (iI p)), some (.int (iI s)), none, none]) m_cd_X1_apartness m_in_X1 (by decide +kernel) (by decide +kernel) rfl rfl rfl rfl (fun hR => hR) ?_
  intro κ h he hR
  have ip := hI.2.2 p hp.1 hp.2.1
  have ib := hI.1
  have ic := hI.2.1
  have iq := hI.2.2 s hs.1 hs.2.1
  have g1 := hR (r + 2) (M (b + 2) p * 10 + M (b + 2) s)
  have g2 := hR (r + 2) (M (b + 3) p * 10 + M (b + 3) s)
  refine x_aload_n h dX1_apartness_0 rfl ?_
  refine x_getr (j := 0) (q := r) h dX1_apartness_1 (sPe hc hb) rfl in_X1 rfl (by decide) m_fl_X1_52 ?_
  refine x_aload_n h dX1_apartness_4 rfl ?_
  refine x_iload_n h dX1_apartness_5 rfl ?_
  refine x_V1i h dX1_apartness_6 m_ml_X1_70 m_im_X1_placeOf m_se_X1_placeOf (sPe hc hb) rfl (by decide) rfl (c_X1_placeOf hc hb (by omega)) ?_
  refine x_aload_n h dX1_apartness_9 rfl ?_
  refine x_iload_n h dX1_apartness_10 rfl ?_
  refine x_V1i h dX1_apartness_11 m_ml_X1_70 m_im_X1_placeOf m_se_X1_placeOf (sPe hc hb) rfl (by decide) rfl (c_X1_placeOf hc hb (by omega)) ?_
  refine x_V2i h dX1_apartness_14 m_ml_X1_87 m_im_X3_distance m_se_X3_distance (sRd hc ((pI_r hb))) rfl (by decide) rfl (c_X3_distance hc (pI_r hb) (by omega) (by omega)) ?_
  refine x_istore_n h dX1_apartness_17 rfl rfl ?_
  dsimp only [xset]
  refine x_aload_n h dX1_apartness_18 rfl ?_
  refine x_getr (j := 0) (q := r) h dX1_apartness_19 (sPe hc hb) rfl in_X1 rfl (by decide) m_fl_X1_52 ?_
  refine x_aload_n h dX1_apartness_22 rfl ?_
  refine x_iload_n h dX1_apartness_23 rfl ?_
  refine x_V1i h dX1_apartness_24 m_ml_X1_74 m_im_X1_errandOf m_se_X1_errandOf (sPe hc hb) rfl (by decide) rfl (c_X1_errandOf hc hb (by omega)) ?_
  refine x_aload_n h dX1_apartness_27 rfl ?_
  refine x_iload_n h dX1_apartness_28 rfl ?_
  refine x_V1i h dX1_apartness_29 m_ml_X1_74 m_im_X1_errandOf m_se_X1_errandOf (sPe hc hb) rfl (by decide) rfl (c_X1_errandOf hc hb (by omega)) ?_
  refine x_V2i h dX1_apartness_32 m_ml_X1_87 m_im_X3_distance m_se_X3_distance (sRd hc ((pI_r hb))) rfl (by decide) rfl (c_X3_distance hc (pI_r hb) (by omega) (by omega)) ?_
  refine x_istore h dX1_apartness_35 rfl rfl ?_
  dsimp only [xset]
  refine x_iload_n h dX1_apartness_37 rfl ?_
  refine x_iload h dX1_apartness_38 rfl ?_
  refine x_max h dX1_apartness_40 m_ml_X1_96 rfl (by decide) (by omega) (by omega) ?_
  exact x_iret (ret := none) h he dX1_apartness_43 rfl (by first | rfl | omega | exact (bI_t (by omega)).symm | exact (bI_f (by omega)).symm) rfl

theorem dX1_moves_0 : decode cX1_moves 0 = .ok (.aload_n 0, 1) := by decide +kernel
theorem dX1_moves_1 : decode cX1_moves 1 = .ok (.getfield 46, 3) := by decide +kernel
theorem dX1_moves_4 : decode cX1_moves 4 = .ok (.ireturn, 1) := by decide +kernel
set_option maxHeartbeats 4000000 in
set_option maxRecDepth 100000 in
theorem c_X1_moves {l : Launch} {ω : xO} (hc : xsh ω = clS) {b r : Nat} {M : xMem} (hb : pI b r) : Ct l ω yX1_moves ({ frames := 0, cells := 0, slots := 0, locals := 0 } : Room) 1 0 [.ref (xad ω b)] M (some (.int (iI (M b 12)))) M := by
  refine Ct.of (bytes := cX1_moves) (ret := (some .int)) (lv0 := [some (.ref (xad ω b))]) m_cd_X1_moves m_in_X1 (by decide +kernel) (by decide +kernel) rfl rfl rfl rfl (fun hR => hR) ?_
  intro κ h he hR
  refine x_aload_n h dX1_moves_0 rfl ?_
  refine x_geti (j := 12) 12 h dX1_moves_1 (sPe hc hb) rfl in_X1 rfl (by decide) m_fl_X1_46 rfl (fun r1 => ?_)
  exact x_iret (ret := none) h he dX1_moves_4 rfl (by first | rfl | omega | exact (bI_t (by omega)).symm | exact (bI_f (by omega)).symm) rfl

theorem dX1_firstHeld_0 : decode cX1_firstHeld 0 = .ok (.aload_n 0, 1) := by decide +kernel
theorem dX1_firstHeld_1 : decode cX1_firstHeld 1 = .ok (.getfield 49, 3) := by decide +kernel
theorem dX1_firstHeld_4 : decode cX1_firstHeld 4 = .ok (.ireturn, 1) := by decide +kernel
set_option maxHeartbeats 4000000 in
set_option maxRecDepth 100000 in
theorem c_X1_firstHeld {l : Launch} {ω : xO} (hc : xsh ω = clS) {b r : Nat} {M : xMem} (hb : pI b r) : Ct l ω yX1_firstHeld ({ frames := 0, cells := 0, slots := 0, locals := 0 } : Room) 1 0 [.ref (xad ω b)] M (some (.int (iI (M b 13)))) M := by
  refine Ct.of (bytes := cX1_firstHeld) (ret := (some .int)) (lv0 := [some (.ref (xad ω b))]) m_cd_X1_firstHeld m_in_X1 (by decide +kernel) (by decide +kernel) rfl rfl rfl rfl (fun hR => hR) ?_
  intro κ h he hR
  refine x_aload_n h dX1_firstHeld_0 rfl ?_
  refine x_geti (j := 13) 13 h dX1_firstHeld_1 (sPe hc hb) rfl in_X1 rfl (by decide) m_fl_X1_49 rfl (fun r1 => ?_)
  exact x_iret (ret := none) h he dX1_firstHeld_4 rfl (by first | rfl | omega | exact (bI_t (by omega)).symm | exact (bI_f (by omega)).symm) rfl

theorem dX1_tugsInStep_0 : decode cX1_tugsInStep 0 = .ok (.aload_n 0, 1) := by decide +kernel
theorem dX1_tugsInStep_1 : decode cX1_tugsInStep 1 = .ok (.iload_n 1, 1) := by decide +kernel
theorem dX1_tugsInStep_2 : decode cX1_tugsInStep 2 = .ok (.invokevirtual 62, 3) := by decide +kernel
theorem dX1_tugsInStep_5 : decode cX1_tugsInStep 5 = .ok (.ifCond .eq 12, 3) := by decide +kernel
theorem dX1_tugsInStep_8 : decode cX1_tugsInStep 8 = .ok (.aload_n 0, 1) := by decide +kernel
theorem dX1_tugsInStep_9 : decode cX1_tugsInStep 9 = .ok (.getfield 43, 3) := by decide +kernel
theorem dX1_tugsInStep_12 : decode cX1_tugsInStep 12 = .ok (.iload_n 1, 1) := by decide +kernel
theorem dX1_tugsInStep_13 : decode cX1_tugsInStep 13 = .ok (.iaload, 1) := by decide +kernel
theorem dX1_tugsInStep_14 : decode cX1_tugsInStep 14 = .ok (.goto 4, 3) := by decide +kernel
theorem dX1_tugsInStep_17 : decode cX1_tugsInStep 17 = .ok (.iconst 0, 1) := by decide +kernel
theorem dX1_tugsInStep_18 : decode cX1_tugsInStep 18 = .ok (.ireturn, 1) := by decide +kernel
set_option maxHeartbeats 4000000 in
set_option maxRecDepth 100000 in
theorem c_X1_tugsInStep {l : Launch} {ω : xO} (hc : xsh ω = clS) {b r : Nat} {p : Int} {M : xMem} (hb : pI b r) (hp : clHas M b p) : Ct l ω yX1_tugsInStep ({ frames := 1, cells := 0, slots := 0, locals := 21 } : Room) 2 1 [.ref (xad ω b), .int (iI p)] M (some (.int (iI (M (b + 9) p)))) M := by
  refine Ct.of (bytes := cX1_tugsInStep) (ret := (some .int)) (lv0 := [some (.ref (xad ω b)), some (.int (iI p))]) m_cd_X1_tugsInStep m_in_X1 (by decide +kernel) (by decide +kernel) rfl rfl rfl rfl (fun hR => hR) ?_
  intro κ h he hR
  refine x_aload_n h dX1_tugsInStep_0 rfl ?_
  refine x_iload_n h dX1_tugsInStep_1 rfl ?_
  refine x_V1i h dX1_tugsInStep_2 m_ml_X1_62 m_im_X1_has m_se_X1_has (sPe hc hb) rfl (by decide) rfl (c_X1_has hc hb (by omega)) ?_
  refine x_ifeqB h dX1_tugsInStep_5 (tgt := 17) (by decide) (fun q5 => ?_) (fun q5 => ?_)
  · refine x_iconst h dX1_tugsInStep_17 ?_
    exact x_iret (ret := none) h he dX1_tugsInStep_18 rfl (by first | rfl | exact absurd hp (by assumption)) rfl
  · refine x_aload_n h dX1_tugsInStep_8 rfl ?_
    refine x_getr (j := 11) (q := b + 9) h dX1_tugsInStep_9 (sPe hc hb) rfl in_X1 rfl (by decide) m_fl_X1_43 ?_
    refine x_iload_n h dX1_tugsInStep_12 rfl ?_
    refine x_iaload h dX1_tugsInStep_13 (sP9 hc hb) (by omega) (fun r13 => ?_)
    refine x_goto h dX1_tugsInStep_14 (tgt := 18) (by decide) ?_
    exact x_iret (ret := none) h he dX1_tugsInStep_18 rfl (by first | rfl | exact absurd hp (by assumption)) rfl

theorem dX1_setKind_0 : decode cX1_setKind 0 = .ok (.aload_n 0, 1) := by decide +kernel
theorem dX1_setKind_1 : decode cX1_setKind 1 = .ok (.iload_n 1, 1) := by decide +kernel
theorem dX1_setKind_2 : decode cX1_setKind 2 = .ok (.invokevirtual 62, 3) := by decide +kernel
theorem dX1_setKind_5 : decode cX1_setKind 5 = .ok (.ifCond .ne 5, 3) := by decide +kernel
theorem dX1_setKind_8 : decode cX1_setKind 8 = .ok (.iconst (-1), 1) := by decide +kernel
theorem dX1_setKind_9 : decode cX1_setKind 9 = .ok (.ireturn, 1) := by decide +kernel
theorem dX1_setKind_10 : decode cX1_setKind 10 = .ok (.aload_n 0, 1) := by decide +kernel
theorem dX1_setKind_11 : decode cX1_setKind 11 = .ok (.getfield 18, 3) := by decide +kernel
theorem dX1_setKind_14 : decode cX1_setKind 14 = .ok (.iload_n 1, 1) := by decide +kernel
theorem dX1_setKind_15 : decode cX1_setKind 15 = .ok (.iaload, 1) := by decide +kernel
theorem dX1_setKind_16 : decode cX1_setKind 16 = .ok (.istore_n 3, 1) := by decide +kernel
theorem dX1_setKind_17 : decode cX1_setKind 17 = .ok (.aload_n 0, 1) := by decide +kernel
theorem dX1_setKind_18 : decode cX1_setKind 18 = .ok (.getfield 18, 3) := by decide +kernel
theorem dX1_setKind_21 : decode cX1_setKind 21 = .ok (.iload_n 1, 1) := by decide +kernel
theorem dX1_setKind_22 : decode cX1_setKind 22 = .ok (.iload_n 2, 1) := by decide +kernel
theorem dX1_setKind_23 : decode cX1_setKind 23 = .ok (.iastore, 1) := by decide +kernel
theorem dX1_setKind_24 : decode cX1_setKind 24 = .ok (.iload_n 3, 1) := by decide +kernel
theorem dX1_setKind_25 : decode cX1_setKind 25 = .ok (.ireturn, 1) := by decide +kernel
set_option maxHeartbeats 4000000 in
set_option maxRecDepth 100000 in
theorem c_X1_setKind {l : Launch} {ω : xO} (hc : xsh ω = clS) {b r : Nat} {p : Int} {v : Int} {M : xMem} (hb : pI b r) (hp : clHas M b p) (hv : inR v) : Ct l ω yX1_setKind ({ frames := 1, cells := 0, slots := 0, locals := 21 } : Room) 4 2 [.ref (xad ω b), .int (iI p), .int (iI v)] M (some (.int (iI (M (b + 1) p)))) (up M (b + 1) p v) := by
  refine Ct.of (bytes := cX1_setKind) (ret := (some .int)) (lv0 := [some (.ref (xad ω b)), some (.int (iI p)), some (.int (iI v)), none]) m_cd_X1_setKind m_in_X1 (by decide +kernel) (by decide +kernel) rfl rfl rfl rfl (fun hR => up_R hR hv) ?_
  intro κ h he hR
  refine x_aload_n h dX1_setKind_0 rfl ?_
  refine x_iload_n h dX1_setKind_1 rfl ?_
  refine x_V1i h dX1_setKind_2 m_ml_X1_62 m_im_X1_has m_se_X1_has (sPe hc hb) rfl (by decide) rfl (c_X1_has hc hb (by omega)) ?_
  refine x_ifneB h dX1_setKind_5 (tgt := 10) (by decide) (fun q5 => ?_) (fun q5 => ?_)
  · refine x_aload_n h dX1_setKind_10 rfl ?_
    refine x_getr (j := 3) (q := b + 1) h dX1_setKind_11 (sPe hc hb) rfl in_X1 rfl (by decide) m_fl_X1_18 ?_
    refine x_iload_n h dX1_setKind_14 rfl ?_
    refine x_iaload h dX1_setKind_15 (sP1 hc hb) (by omega) (fun r15 => ?_)
    refine x_istore_n h dX1_setKind_16 rfl rfl ?_
    dsimp only [xset]
    refine x_aload_n h dX1_setKind_17 rfl ?_
    refine x_getr (j := 3) (q := b + 1) h dX1_setKind_18 (sPe hc hb) rfl in_X1 rfl (by decide) m_fl_X1_18 ?_
    refine x_iload_n h dX1_setKind_21 rfl ?_
    refine x_iload_n h dX1_setKind_22 rfl ?_
    refine x_iastore h dX1_setKind_23 (sP1 hc hb) (by omega) (by omega) ?_
    refine x_iload_n h dX1_setKind_24 rfl ?_
    exact x_iret (ret := none) h he dX1_setKind_25 rfl (by first | rfl | exact absurd hp (by assumption)) (by first | rfl | exact absurd hp (by assumption))
  · refine x_iconst h dX1_setKind_8 ?_
    exact x_iret (ret := none) h he dX1_setKind_9 rfl (by first | rfl | exact absurd hp (by assumption)) (by first | rfl | exact absurd hp (by assumption))

theorem dX1_setPlace_0 : decode cX1_setPlace 0 = .ok (.aload_n 0, 1) := by decide +kernel
theorem dX1_setPlace_1 : decode cX1_setPlace 1 = .ok (.iload_n 1, 1) := by decide +kernel
theorem dX1_setPlace_2 : decode cX1_setPlace 2 = .ok (.invokevirtual 62, 3) := by decide +kernel
theorem dX1_setPlace_5 : decode cX1_setPlace 5 = .ok (.ifCond .ne 5, 3) := by decide +kernel
theorem dX1_setPlace_8 : decode cX1_setPlace 8 = .ok (.iconst (-1), 1) := by decide +kernel
theorem dX1_setPlace_9 : decode cX1_setPlace 9 = .ok (.ireturn, 1) := by decide +kernel
theorem dX1_setPlace_10 : decode cX1_setPlace 10 = .ok (.aload_n 0, 1) := by decide +kernel
theorem dX1_setPlace_11 : decode cX1_setPlace 11 = .ok (.getfield 22, 3) := by decide +kernel
theorem dX1_setPlace_14 : decode cX1_setPlace 14 = .ok (.iload_n 1, 1) := by decide +kernel
theorem dX1_setPlace_15 : decode cX1_setPlace 15 = .ok (.iaload, 1) := by decide +kernel
theorem dX1_setPlace_16 : decode cX1_setPlace 16 = .ok (.istore_n 3, 1) := by decide +kernel
theorem dX1_setPlace_17 : decode cX1_setPlace 17 = .ok (.aload_n 0, 1) := by decide +kernel
theorem dX1_setPlace_18 : decode cX1_setPlace 18 = .ok (.getfield 22, 3) := by decide +kernel
theorem dX1_setPlace_21 : decode cX1_setPlace 21 = .ok (.iload_n 1, 1) := by decide +kernel
theorem dX1_setPlace_22 : decode cX1_setPlace 22 = .ok (.iload_n 2, 1) := by decide +kernel
theorem dX1_setPlace_23 : decode cX1_setPlace 23 = .ok (.iastore, 1) := by decide +kernel
theorem dX1_setPlace_24 : decode cX1_setPlace 24 = .ok (.iload_n 3, 1) := by decide +kernel
theorem dX1_setPlace_25 : decode cX1_setPlace 25 = .ok (.ireturn, 1) := by decide +kernel
set_option maxHeartbeats 4000000 in
set_option maxRecDepth 100000 in
theorem c_X1_setPlace {l : Launch} {ω : xO} (hc : xsh ω = clS) {b r : Nat} {p : Int} {v : Int} {M : xMem} (hb : pI b r) (hp : clHas M b p) (hv : inR v) : Ct l ω yX1_setPlace ({ frames := 1, cells := 0, slots := 0, locals := 21 } : Room) 4 2 [.ref (xad ω b), .int (iI p), .int (iI v)] M (some (.int (iI (M (b + 2) p)))) (up M (b + 2) p v) := by
  refine Ct.of (bytes := cX1_setPlace) (ret := (some .int)) (lv0 := [some (.ref (xad ω b)), some (.int (iI p)), some (.int (iI v)), none]) m_cd_X1_setPlace m_in_X1 (by decide +kernel) (by decide +kernel) rfl rfl rfl rfl (fun hR => up_R hR hv) ?_
  intro κ h he hR
  refine x_aload_n h dX1_setPlace_0 rfl ?_
  refine x_iload_n h dX1_setPlace_1 rfl ?_
  refine x_V1i h dX1_setPlace_2 m_ml_X1_62 m_im_X1_has m_se_X1_has (sPe hc hb) rfl (by decide) rfl (c_X1_has hc hb (by omega)) ?_
  refine x_ifneB h dX1_setPlace_5 (tgt := 10) (by decide) (fun q5 => ?_) (fun q5 => ?_)
  · refine x_aload_n h dX1_setPlace_10 rfl ?_
    refine x_getr (j := 4) (q := b + 2) h dX1_setPlace_11 (sPe hc hb) rfl in_X1 rfl (by decide) m_fl_X1_22 ?_
    refine x_iload_n h dX1_setPlace_14 rfl ?_
    refine x_iaload h dX1_setPlace_15 (sP2 hc hb) (by omega) (fun r15 => ?_)
    refine x_istore_n h dX1_setPlace_16 rfl rfl ?_
    dsimp only [xset]
    refine x_aload_n h dX1_setPlace_17 rfl ?_
    refine x_getr (j := 4) (q := b + 2) h dX1_setPlace_18 (sPe hc hb) rfl in_X1 rfl (by decide) m_fl_X1_22 ?_
    refine x_iload_n h dX1_setPlace_21 rfl ?_
    refine x_iload_n h dX1_setPlace_22 rfl ?_
    refine x_iastore h dX1_setPlace_23 (sP2 hc hb) (by omega) (by omega) ?_
    refine x_iload_n h dX1_setPlace_24 rfl ?_
    exact x_iret (ret := none) h he dX1_setPlace_25 rfl (by first | rfl | exact absurd hp (by assumption)) (by first | rfl | exact absurd hp (by assumption))
  · refine x_iconst h dX1_setPlace_8 ?_
    exact x_iret (ret := none) h he dX1_setPlace_9 rfl (by first | rfl | exact absurd hp (by assumption)) (by first | rfl | exact absurd hp (by assumption))

theorem dX1_setErrand_0 : decode cX1_setErrand 0 = .ok (.aload_n 0, 1) := by decide +kernel
theorem dX1_setErrand_1 : decode cX1_setErrand 1 = .ok (.iload_n 1, 1) := by decide +kernel
theorem dX1_setErrand_2 : decode cX1_setErrand 2 = .ok (.invokevirtual 62, 3) := by decide +kernel
theorem dX1_setErrand_5 : decode cX1_setErrand 5 = .ok (.ifCond .ne 5, 3) := by decide +kernel
theorem dX1_setErrand_8 : decode cX1_setErrand 8 = .ok (.iconst (-1), 1) := by decide +kernel
theorem dX1_setErrand_9 : decode cX1_setErrand 9 = .ok (.ireturn, 1) := by decide +kernel
theorem dX1_setErrand_10 : decode cX1_setErrand 10 = .ok (.aload_n 0, 1) := by decide +kernel
theorem dX1_setErrand_11 : decode cX1_setErrand 11 = .ok (.getfield 25, 3) := by decide +kernel
theorem dX1_setErrand_14 : decode cX1_setErrand 14 = .ok (.iload_n 1, 1) := by decide +kernel
theorem dX1_setErrand_15 : decode cX1_setErrand 15 = .ok (.iaload, 1) := by decide +kernel
theorem dX1_setErrand_16 : decode cX1_setErrand 16 = .ok (.istore_n 3, 1) := by decide +kernel
theorem dX1_setErrand_17 : decode cX1_setErrand 17 = .ok (.aload_n 0, 1) := by decide +kernel
theorem dX1_setErrand_18 : decode cX1_setErrand 18 = .ok (.getfield 25, 3) := by decide +kernel
theorem dX1_setErrand_21 : decode cX1_setErrand 21 = .ok (.iload_n 1, 1) := by decide +kernel
theorem dX1_setErrand_22 : decode cX1_setErrand 22 = .ok (.iload_n 2, 1) := by decide +kernel
theorem dX1_setErrand_23 : decode cX1_setErrand 23 = .ok (.iastore, 1) := by decide +kernel
theorem dX1_setErrand_24 : decode cX1_setErrand 24 = .ok (.iload_n 3, 1) := by decide +kernel
theorem dX1_setErrand_25 : decode cX1_setErrand 25 = .ok (.ireturn, 1) := by decide +kernel
set_option maxHeartbeats 4000000 in
set_option maxRecDepth 100000 in
theorem c_X1_setErrand {l : Launch} {ω : xO} (hc : xsh ω = clS) {b r : Nat} {p : Int} {v : Int} {M : xMem} (hb : pI b r) (hp : clHas M b p) (hv : inR v) : Ct l ω yX1_setErrand ({ frames := 1, cells := 0, slots := 0, locals := 21 } : Room) 4 2 [.ref (xad ω b), .int (iI p), .int (iI v)] M (some (.int (iI (M (b + 3) p)))) (up M (b + 3) p v) := by
  refine Ct.of (bytes := cX1_setErrand) (ret := (some .int)) (lv0 := [some (.ref (xad ω b)), some (.int (iI p)), some (.int (iI v)), none]) m_cd_X1_setErrand m_in_X1 (by decide +kernel) (by decide +kernel) rfl rfl rfl rfl (fun hR => up_R hR hv) ?_
  intro κ h he hR
  refine x_aload_n h dX1_setErrand_0 rfl ?_
  refine x_iload_n h dX1_setErrand_1 rfl ?_
  refine x_V1i h dX1_setErrand_2 m_ml_X1_62 m_im_X1_has m_se_X1_has (sPe hc hb) rfl (by decide) rfl (c_X1_has hc hb (by omega)) ?_
  refine x_ifneB h dX1_setErrand_5 (tgt := 10) (by decide) (fun q5 => ?_) (fun q5 => ?_)
  · refine x_aload_n h dX1_setErrand_10 rfl ?_
    refine x_getr (j := 5) (q := b + 3) h dX1_setErrand_11 (sPe hc hb) rfl in_X1 rfl (by decide) m_fl_X1_25 ?_
    refine x_iload_n h dX1_setErrand_14 rfl ?_
    refine x_iaload h dX1_setErrand_15 (sP3 hc hb) (by omega) (fun r15 => ?_)
    refine x_istore_n h dX1_setErrand_16 rfl rfl ?_
    dsimp only [xset]
    refine x_aload_n h dX1_setErrand_17 rfl ?_
    refine x_getr (j := 5) (q := b + 3) h dX1_setErrand_18 (sPe hc hb) rfl in_X1 rfl (by decide) m_fl_X1_25 ?_
    refine x_iload_n h dX1_setErrand_21 rfl ?_
    refine x_iload_n h dX1_setErrand_22 rfl ?_
    refine x_iastore h dX1_setErrand_23 (sP3 hc hb) (by omega) (by omega) ?_
    refine x_iload_n h dX1_setErrand_24 rfl ?_
    exact x_iret (ret := none) h he dX1_setErrand_25 rfl (by first | rfl | exact absurd hp (by assumption)) (by first | rfl | exact absurd hp (by assumption))
  · refine x_iconst h dX1_setErrand_8 ?_
    exact x_iret (ret := none) h he dX1_setErrand_9 rfl (by first | rfl | exact absurd hp (by assumption)) (by first | rfl | exact absurd hp (by assumption))

theorem dX1_setStrength_0 : decode cX1_setStrength 0 = .ok (.aload_n 0, 1) := by decide +kernel
theorem dX1_setStrength_1 : decode cX1_setStrength 1 = .ok (.iload_n 1, 1) := by decide +kernel
theorem dX1_setStrength_2 : decode cX1_setStrength 2 = .ok (.invokevirtual 62, 3) := by decide +kernel
theorem dX1_setStrength_5 : decode cX1_setStrength 5 = .ok (.ifCond .ne 5, 3) := by decide +kernel
theorem dX1_setStrength_8 : decode cX1_setStrength 8 = .ok (.iconst (-1), 1) := by decide +kernel
theorem dX1_setStrength_9 : decode cX1_setStrength 9 = .ok (.ireturn, 1) := by decide +kernel
theorem dX1_setStrength_10 : decode cX1_setStrength 10 = .ok (.aload_n 0, 1) := by decide +kernel
theorem dX1_setStrength_11 : decode cX1_setStrength 11 = .ok (.getfield 31, 3) := by decide +kernel
theorem dX1_setStrength_14 : decode cX1_setStrength 14 = .ok (.iload_n 1, 1) := by decide +kernel
theorem dX1_setStrength_15 : decode cX1_setStrength 15 = .ok (.iaload, 1) := by decide +kernel
theorem dX1_setStrength_16 : decode cX1_setStrength 16 = .ok (.istore_n 3, 1) := by decide +kernel
theorem dX1_setStrength_17 : decode cX1_setStrength 17 = .ok (.aload_n 0, 1) := by decide +kernel
theorem dX1_setStrength_18 : decode cX1_setStrength 18 = .ok (.getfield 31, 3) := by decide +kernel
theorem dX1_setStrength_21 : decode cX1_setStrength 21 = .ok (.iload_n 1, 1) := by decide +kernel
theorem dX1_setStrength_22 : decode cX1_setStrength 22 = .ok (.iload_n 2, 1) := by decide +kernel
theorem dX1_setStrength_23 : decode cX1_setStrength 23 = .ok (.iastore, 1) := by decide +kernel
theorem dX1_setStrength_24 : decode cX1_setStrength 24 = .ok (.iload_n 3, 1) := by decide +kernel
theorem dX1_setStrength_25 : decode cX1_setStrength 25 = .ok (.ireturn, 1) := by decide +kernel
set_option maxHeartbeats 4000000 in
set_option maxRecDepth 100000 in
theorem c_X1_setStrength {l : Launch} {ω : xO} (hc : xsh ω = clS) {b r : Nat} {p : Int} {v : Int} {M : xMem} (hb : pI b r) (hp : clHas M b p) (hv : inR v) : Ct l ω yX1_setStrength ({ frames := 1, cells := 0, slots := 0, locals := 21 } : Room) 4 2 [.ref (xad ω b), .int (iI p), .int (iI v)] M (some (.int (iI (M (b + 5) p)))) (up M (b + 5) p v) := by
  refine Ct.of (bytes := cX1_setStrength) (ret := (some .int)) (lv0 := [some (.ref (xad ω b)), some (.int (iI p)), some (.int (iI v)), none]) m_cd_X1_setStrength m_in_X1 (by decide +kernel) (by decide +kernel) rfl rfl rfl rfl (fun hR => up_R hR hv) ?_
  intro κ h he hR
  refine x_aload_n h dX1_setStrength_0 rfl ?_
  refine x_iload_n h dX1_setStrength_1 rfl ?_
  refine x_V1i h dX1_setStrength_2 m_ml_X1_62 m_im_X1_has m_se_X1_has (sPe hc hb) rfl (by decide) rfl (c_X1_has hc hb (by omega)) ?_
  refine x_ifneB h dX1_setStrength_5 (tgt := 10) (by decide) (fun q5 => ?_) (fun q5 => ?_)
  · refine x_aload_n h dX1_setStrength_10 rfl ?_
    refine x_getr (j := 7) (q := b + 5) h dX1_setStrength_11 (sPe hc hb) rfl in_X1 rfl (by decide) m_fl_X1_31 ?_
    refine x_iload_n h dX1_setStrength_14 rfl ?_
    refine x_iaload h dX1_setStrength_15 (sP5 hc hb) (by omega) (fun r15 => ?_)
    refine x_istore_n h dX1_setStrength_16 rfl rfl ?_
    dsimp only [xset]
    refine x_aload_n h dX1_setStrength_17 rfl ?_
    refine x_getr (j := 7) (q := b + 5) h dX1_setStrength_18 (sPe hc hb) rfl in_X1 rfl (by decide) m_fl_X1_31 ?_
    refine x_iload_n h dX1_setStrength_21 rfl ?_
    refine x_iload_n h dX1_setStrength_22 rfl ?_
    refine x_iastore h dX1_setStrength_23 (sP5 hc hb) (by omega) (by omega) ?_
    refine x_iload_n h dX1_setStrength_24 rfl ?_
    exact x_iret (ret := none) h he dX1_setStrength_25 rfl (by first | rfl | exact absurd hp (by assumption)) (by first | rfl | exact absurd hp (by assumption))
  · refine x_iconst h dX1_setStrength_8 ?_
    exact x_iret (ret := none) h he dX1_setStrength_9 rfl (by first | rfl | exact absurd hp (by assumption)) (by first | rfl | exact absurd hp (by assumption))

def prtC (M : xMem) (b : Nat) (p : Int) : xMem := if clHas M b (M (b + 4) p) then up (up M (b + 4) p (-1)) (b + 4) (M (b + 4) p) (-1) else M
theorem prtC_R {M : xMem} {b : Nat} {p : Int} (h : xR M) : xR (prtC M b p) := by
  unfold prtC
  split
  · exact up_R (up_R h (by decide)) (by decide)
  · exact h
theorem prtC_n {M : xMem} {b k : Nat} {p : Int} (h : k ≠ b + 4) : prtC M b p k = M k := by
  unfold prtC
  split
  · rw [up_n h, up_n h]
  · rfl
def joiC (M : xMem) (b : Nat) (x y n : Int) : xMem := up (up (up (up (prtC (prtC M b x) b y) (b + 4) x y) (b + 4) y x) (b + 6) x n) (b + 6) y n

theorem dX1_part_0 : decode cX1_part 0 = .ok (.aload_n 0, 1) := by decide +kernel
theorem dX1_part_1 : decode cX1_part 1 = .ok (.iload_n 1, 1) := by decide +kernel
theorem dX1_part_2 : decode cX1_part 2 = .ok (.invokevirtual 81, 3) := by decide +kernel
theorem dX1_part_5 : decode cX1_part 5 = .ok (.istore_n 2, 1) := by decide +kernel
theorem dX1_part_6 : decode cX1_part 6 = .ok (.aload_n 0, 1) := by decide +kernel
theorem dX1_part_7 : decode cX1_part 7 = .ok (.iload_n 1, 1) := by decide +kernel
theorem dX1_part_8 : decode cX1_part 8 = .ok (.invokevirtual 62, 3) := by decide +kernel
theorem dX1_part_11 : decode cX1_part 11 = .ok (.ifCond .eq 11, 3) := by decide +kernel
theorem dX1_part_14 : decode cX1_part 14 = .ok (.aload_n 0, 1) := by decide +kernel
theorem dX1_part_15 : decode cX1_part 15 = .ok (.iload_n 2, 1) := by decide +kernel
theorem dX1_part_16 : decode cX1_part 16 = .ok (.invokevirtual 62, 3) := by decide +kernel
theorem dX1_part_19 : decode cX1_part 19 = .ok (.ifCond .ne 4, 3) := by decide +kernel
theorem dX1_part_22 : decode cX1_part 22 = .ok (.return_, 1) := by decide +kernel
theorem dX1_part_23 : decode cX1_part 23 = .ok (.aload_n 0, 1) := by decide +kernel
theorem dX1_part_24 : decode cX1_part 24 = .ok (.getfield 28, 3) := by decide +kernel
theorem dX1_part_27 : decode cX1_part 27 = .ok (.iload_n 1, 1) := by decide +kernel
theorem dX1_part_28 : decode cX1_part 28 = .ok (.iconst (-1), 1) := by decide +kernel
theorem dX1_part_29 : decode cX1_part 29 = .ok (.iastore, 1) := by decide +kernel
theorem dX1_part_30 : decode cX1_part 30 = .ok (.aload_n 0, 1) := by decide +kernel
theorem dX1_part_31 : decode cX1_part 31 = .ok (.getfield 28, 3) := by decide +kernel
theorem dX1_part_34 : decode cX1_part 34 = .ok (.iload_n 2, 1) := by decide +kernel
theorem dX1_part_35 : decode cX1_part 35 = .ok (.iconst (-1), 1) := by decide +kernel
theorem dX1_part_36 : decode cX1_part 36 = .ok (.iastore, 1) := by decide +kernel
theorem dX1_part_37 : decode cX1_part 37 = .ok (.return_, 1) := by decide +kernel
set_option maxHeartbeats 4000000 in
set_option maxRecDepth 100000 in
theorem c_X1_part {l : Launch} {ω : xO} (hc : xsh ω = clS) {b r : Nat} {p : Int} {M : xMem} (hb : pI b r) (hp : clHas M b p) : Ct l ω yX1_part ({ frames := 2, cells := 0, slots := 0, locals := 42 } : Room) 3 1 [.ref (xad ω b), .int (iI p)] M none (prtC M b p) := by
  refine Ct.of (bytes := cX1_part) (ret := none) (lv0 := [some (.ref (xad ω b)), some (.int (iI p)), none]) m_cd_X1_part m_in_X1 (by decide +kernel) (by decide +kernel) rfl rfl rfl rfl prtC_R ?_
  intro κ h he hR
  have g1 := hR (b + 4) p
  refine x_aload_n h dX1_part_0 rfl ?_
  refine x_iload_n h dX1_part_1 rfl ?_
  refine x_V1i h dX1_part_2 m_ml_X1_81 m_im_X1_mateOf m_se_X1_mateOf (sPe hc hb) rfl (by decide) rfl (c_X1_mateOf hc hb (by omega)) ?_
  refine x_istore_n h dX1_part_5 rfl rfl ?_
  dsimp only [xset]
  refine x_aload_n h dX1_part_6 rfl ?_
  refine x_iload_n h dX1_part_7 rfl ?_
  refine x_V1i h dX1_part_8 m_ml_X1_62 m_im_X1_has m_se_X1_has (sPe hc hb) rfl (by decide) rfl (c_X1_has hc hb (by omega)) ?_
  refine x_ifeqB h dX1_part_11 (tgt := 22) (by decide) (fun q11 => ?_) (fun q11 => ?_)
  · exact x_vret h he dX1_part_22 (by unfold prtC; first | rw [if_pos (by assumption)] | rw [if_neg (by assumption)] | exact absurd hp (by assumption))
  · refine x_aload_n h dX1_part_14 rfl ?_
    refine x_iload_n h dX1_part_15 rfl ?_
    refine x_V1i h dX1_part_16 m_ml_X1_62 m_im_X1_has m_se_X1_has (sPe hc hb) rfl (by decide) rfl (c_X1_has hc hb (by omega)) ?_
    refine x_ifneB h dX1_part_19 (tgt := 23) (by decide) (fun q19 => ?_) (fun q19 => ?_)
    · refine x_aload_n h dX1_part_23 rfl ?_
      refine x_getr (j := 6) (q := b + 4) h dX1_part_24 (sPe hc hb) rfl in_X1 rfl (by decide) m_fl_X1_28 ?_
      refine x_iload_n h dX1_part_27 rfl ?_
      refine x_iconst h dX1_part_28 ?_
      refine x_iastore h dX1_part_29 (sP4 hc hb) (by omega) (by omega) ?_
      refine x_aload_n h dX1_part_30 rfl ?_
      refine x_getr (j := 6) (q := b + 4) h dX1_part_31 (sPe hc hb) rfl in_X1 rfl (by decide) m_fl_X1_28 ?_
      refine x_iload_n h dX1_part_34 rfl ?_
      refine x_iconst h dX1_part_35 ?_
      refine x_iastore h dX1_part_36 (sP4 hc hb) (by omega) (by omega) ?_
      exact x_vret h he dX1_part_37 (by unfold prtC; first | rw [if_pos (by assumption)] | rw [if_neg (by assumption)] | exact absurd hp (by assumption))
    · exact x_vret h he dX1_part_22 (by unfold prtC; first | rw [if_pos (by assumption)] | rw [if_neg (by assumption)] | exact absurd hp (by assumption))

theorem dX1_join_0 : decode cX1_join 0 = .ok (.aload_n 0, 1) := by decide +kernel
theorem dX1_join_1 : decode cX1_join 1 = .ok (.iload_n 1, 1) := by decide +kernel
theorem dX1_join_2 : decode cX1_join 2 = .ok (.invokevirtual 62, 3) := by decide +kernel
theorem dX1_join_5 : decode cX1_join 5 = .ok (.ifCond .eq 16, 3) := by decide +kernel
theorem dX1_join_8 : decode cX1_join 8 = .ok (.aload_n 0, 1) := by decide +kernel
theorem dX1_join_9 : decode cX1_join 9 = .ok (.iload_n 2, 1) := by decide +kernel
theorem dX1_join_10 : decode cX1_join 10 = .ok (.invokevirtual 62, 3) := by decide +kernel
theorem dX1_join_13 : decode cX1_join 13 = .ok (.ifCond .eq 8, 3) := by decide +kernel
theorem dX1_join_16 : decode cX1_join 16 = .ok (.iload_n 1, 1) := by decide +kernel
theorem dX1_join_17 : decode cX1_join 17 = .ok (.iload_n 2, 1) := by decide +kernel
theorem dX1_join_18 : decode cX1_join 18 = .ok (.if_icmp .ne 4, 3) := by decide +kernel
theorem dX1_join_21 : decode cX1_join 21 = .ok (.return_, 1) := by decide +kernel
theorem dX1_join_22 : decode cX1_join 22 = .ok (.aload_n 0, 1) := by decide +kernel
theorem dX1_join_23 : decode cX1_join 23 = .ok (.iload_n 1, 1) := by decide +kernel
theorem dX1_join_24 : decode cX1_join 24 = .ok (.invokevirtual 77, 3) := by decide +kernel
theorem dX1_join_27 : decode cX1_join 27 = .ok (.aload_n 0, 1) := by decide +kernel
theorem dX1_join_28 : decode cX1_join 28 = .ok (.iload_n 2, 1) := by decide +kernel
theorem dX1_join_29 : decode cX1_join 29 = .ok (.invokevirtual 77, 3) := by decide +kernel
theorem dX1_join_32 : decode cX1_join 32 = .ok (.aload_n 0, 1) := by decide +kernel
theorem dX1_join_33 : decode cX1_join 33 = .ok (.getfield 28, 3) := by decide +kernel
theorem dX1_join_36 : decode cX1_join 36 = .ok (.iload_n 1, 1) := by decide +kernel
theorem dX1_join_37 : decode cX1_join 37 = .ok (.iload_n 2, 1) := by decide +kernel
theorem dX1_join_38 : decode cX1_join 38 = .ok (.iastore, 1) := by decide +kernel
theorem dX1_join_39 : decode cX1_join 39 = .ok (.aload_n 0, 1) := by decide +kernel
theorem dX1_join_40 : decode cX1_join 40 = .ok (.getfield 28, 3) := by decide +kernel
theorem dX1_join_43 : decode cX1_join 43 = .ok (.iload_n 2, 1) := by decide +kernel
theorem dX1_join_44 : decode cX1_join 44 = .ok (.iload_n 1, 1) := by decide +kernel
theorem dX1_join_45 : decode cX1_join 45 = .ok (.iastore, 1) := by decide +kernel
theorem dX1_join_46 : decode cX1_join 46 = .ok (.aload_n 0, 1) := by decide +kernel
theorem dX1_join_47 : decode cX1_join 47 = .ok (.getfield 34, 3) := by decide +kernel
theorem dX1_join_50 : decode cX1_join 50 = .ok (.iload_n 1, 1) := by decide +kernel
theorem dX1_join_51 : decode cX1_join 51 = .ok (.iload_n 3, 1) := by decide +kernel
theorem dX1_join_52 : decode cX1_join 52 = .ok (.iastore, 1) := by decide +kernel
theorem dX1_join_53 : decode cX1_join 53 = .ok (.aload_n 0, 1) := by decide +kernel
theorem dX1_join_54 : decode cX1_join 54 = .ok (.getfield 34, 3) := by decide +kernel
theorem dX1_join_57 : decode cX1_join 57 = .ok (.iload_n 2, 1) := by decide +kernel
theorem dX1_join_58 : decode cX1_join 58 = .ok (.iload_n 3, 1) := by decide +kernel
theorem dX1_join_59 : decode cX1_join 59 = .ok (.iastore, 1) := by decide +kernel
theorem dX1_join_60 : decode cX1_join 60 = .ok (.return_, 1) := by decide +kernel
set_option maxHeartbeats 4000000 in
set_option maxRecDepth 100000 in
theorem c_X1_join {l : Launch} {ω : xO} (hc : xsh ω = clS) {b r : Nat} {x y n : Int} {M : xMem} (hb : pI b r) (hx : clHas M b x) (hy : clHas M b y) (hn : inR n) (hxy : x ≠ y) : Ct l ω yX1_join ({ frames := 3, cells := 0, slots := 0, locals := 64 } : Room) 4 3 [.ref (xad ω b), .int (iI x), .int (iI y), .int (iI n)] M none (joiC M b x y n) := by
  refine Ct.of (bytes := cX1_join) (ret := none) (lv0 := [some (.ref (xad ω b)), some (.int (iI x)), some (.int (iI y)), some (.int (iI n))]) m_cd_X1_join m_in_X1 (by decide +kernel) (by decide +kernel) rfl rfl rfl rfl (fun hR => up_R (up_R (up_R (up_R (prtC_R (prtC_R hR)) (by omega)) (by omega)) hn) hn) ?_
  intro κ h he hR
  refine x_aload_n h dX1_join_0 rfl ?_
  refine x_iload_n h dX1_join_1 rfl ?_
  refine x_V1i h dX1_join_2 m_ml_X1_62 m_im_X1_has m_se_X1_has (sPe hc hb) rfl (by decide) rfl (c_X1_has hc hb (by omega)) ?_
  refine x_ifeqB h dX1_join_5 (tgt := 21) (by decide) (fun q5 => ?_) (fun q5 => ?_)
  · exact x_vret h he dX1_join_21 (by first | rfl | exact absurd hx (by assumption) | exact absurd hy (by assumption) | exact absurd (by assumption) hxy)
  · refine x_aload_n h dX1_join_8 rfl ?_
    refine x_iload_n h dX1_join_9 rfl ?_
    refine x_V1i h dX1_join_10 m_ml_X1_62 m_im_X1_has m_se_X1_has (sPe hc hb) rfl (by decide) rfl (c_X1_has hc hb (by omega)) ?_
    refine x_ifeqB h dX1_join_13 (tgt := 21) (by decide) (fun q13 => ?_) (fun q13 => ?_)
    · exact x_vret h he dX1_join_21 (by first | rfl | exact absurd hx (by assumption) | exact absurd hy (by assumption) | exact absurd (by assumption) hxy)
    · refine x_iload_n h dX1_join_16 rfl ?_
      refine x_iload_n h dX1_join_17 rfl ?_
      refine x_icmp_ne h dX1_join_18 (tgt := 22) (by decide) (by omega) (by omega) (fun q18 => ?_) (fun q18 => ?_)
      · refine x_aload_n h dX1_join_22 rfl ?_
        refine x_iload_n h dX1_join_23 rfl ?_
        refine x_V1v h dX1_join_24 m_ml_X1_77 m_im_X1_part m_se_X1_part (sPe hc hb) rfl (by decide) rfl (c_X1_part hc hb (by omega)) ?_
        refine x_aload_n h dX1_join_27 rfl ?_
        refine x_iload_n h dX1_join_28 rfl ?_
        refine x_V1v h dX1_join_29 m_ml_X1_77 m_im_X1_part m_se_X1_part (sPe hc hb) rfl (by decide) rfl (c_X1_part hc hb (by rw [show clHas (prtC M b x) b y = clHas M b y by unfold clHas; rw [prtC_n (by omega)]]; exact hy)) ?_
        refine x_aload_n h dX1_join_32 rfl ?_
        refine x_getr (j := 6) (q := b + 4) h dX1_join_33 (sPe hc hb) rfl in_X1 rfl (by decide) m_fl_X1_28 ?_
        refine x_iload_n h dX1_join_36 rfl ?_
        refine x_iload_n h dX1_join_37 rfl ?_
        refine x_iastore h dX1_join_38 (sP4 hc hb) (by omega) (by omega) ?_
        refine x_aload_n h dX1_join_39 rfl ?_
        refine x_getr (j := 6) (q := b + 4) h dX1_join_40 (sPe hc hb) rfl in_X1 rfl (by decide) m_fl_X1_28 ?_
        refine x_iload_n h dX1_join_43 rfl ?_
        refine x_iload_n h dX1_join_44 rfl ?_
        refine x_iastore h dX1_join_45 (sP4 hc hb) (by omega) (by omega) ?_
        refine x_aload_n h dX1_join_46 rfl ?_
        refine x_getr (j := 8) (q := b + 6) h dX1_join_47 (sPe hc hb) rfl in_X1 rfl (by decide) m_fl_X1_34 ?_
        refine x_iload_n h dX1_join_50 rfl ?_
        refine x_iload_n h dX1_join_51 rfl ?_
        refine x_iastore h dX1_join_52 (sP6 hc hb) (by omega) (by omega) ?_
        refine x_aload_n h dX1_join_53 rfl ?_
        refine x_getr (j := 8) (q := b + 6) h dX1_join_54 (sPe hc hb) rfl in_X1 rfl (by decide) m_fl_X1_34 ?_
        refine x_iload_n h dX1_join_57 rfl ?_
        refine x_iload_n h dX1_join_58 rfl ?_
        refine x_iastore h dX1_join_59 (sP6 hc hb) (by omega) (by omega) ?_
        exact x_vret h he dX1_join_60 (by first | rfl | exact absurd hx (by assumption) | exact absurd hy (by assumption) | exact absurd (by assumption) hxy)
      · exact x_vret h he dX1_join_21 (by first | rfl | exact absurd hx (by assumption) | exact absurd hy (by assumption) | exact absurd (by assumption) hxy)

def addC (M : xMem) (b : Nat) (k a : Int) : xMem := up (up (up (up (up (up (up (up (up M (b + 1) (M b 1) k) (b + 2) (M b 1) a) (b + 3) (M b 1) a) (b + 4) (M b 1) (-1)) (b + 5) (M b 1) 3) (b + 6) (M b 1) 0) (b + 7) (M b 1) 0) (b + 8) (M b 1) 0) b 1 (M b 1 + 1)

theorem dX1_add_0 : decode cX1_add 0 = .ok (.aload_n 0, 1) := by decide +kernel
theorem dX1_add_1 : decode cX1_add 1 = .ok (.getfield 9, 3) := by decide +kernel
theorem dX1_add_4 : decode cX1_add 4 = .ok (.ifCond .lt 12, 3) := by decide +kernel
theorem dX1_add_7 : decode cX1_add 7 = .ok (.aload_n 0, 1) := by decide +kernel
theorem dX1_add_8 : decode cX1_add 8 = .ok (.getfield 9, 3) := by decide +kernel
theorem dX1_add_11 : decode cX1_add 11 = .ok (.bipush 8, 2) := by decide +kernel
theorem dX1_add_13 : decode cX1_add 13 = .ok (.if_icmp .lt 5, 3) := by decide +kernel
theorem dX1_add_16 : decode cX1_add 16 = .ok (.iconst (-1), 1) := by decide +kernel
theorem dX1_add_17 : decode cX1_add 17 = .ok (.ireturn, 1) := by decide +kernel
theorem dX1_add_18 : decode cX1_add 18 = .ok (.aload_n 0, 1) := by decide +kernel
theorem dX1_add_19 : decode cX1_add 19 = .ok (.getfield 9, 3) := by decide +kernel
theorem dX1_add_22 : decode cX1_add 22 = .ok (.istore_n 3, 1) := by decide +kernel
theorem dX1_add_23 : decode cX1_add 23 = .ok (.aload_n 0, 1) := by decide +kernel
theorem dX1_add_24 : decode cX1_add 24 = .ok (.getfield 18, 3) := by decide +kernel
theorem dX1_add_27 : decode cX1_add 27 = .ok (.iload_n 3, 1) := by decide +kernel
theorem dX1_add_28 : decode cX1_add 28 = .ok (.iload_n 1, 1) := by decide +kernel
theorem dX1_add_29 : decode cX1_add 29 = .ok (.iastore, 1) := by decide +kernel
theorem dX1_add_30 : decode cX1_add 30 = .ok (.aload_n 0, 1) := by decide +kernel
theorem dX1_add_31 : decode cX1_add 31 = .ok (.getfield 22, 3) := by decide +kernel
theorem dX1_add_34 : decode cX1_add 34 = .ok (.iload_n 3, 1) := by decide +kernel
theorem dX1_add_35 : decode cX1_add 35 = .ok (.iload_n 2, 1) := by decide +kernel
theorem dX1_add_36 : decode cX1_add 36 = .ok (.iastore, 1) := by decide +kernel
theorem dX1_add_37 : decode cX1_add 37 = .ok (.aload_n 0, 1) := by decide +kernel
theorem dX1_add_38 : decode cX1_add 38 = .ok (.getfield 25, 3) := by decide +kernel
theorem dX1_add_41 : decode cX1_add 41 = .ok (.iload_n 3, 1) := by decide +kernel
theorem dX1_add_42 : decode cX1_add 42 = .ok (.iload_n 2, 1) := by decide +kernel
theorem dX1_add_43 : decode cX1_add 43 = .ok (.iastore, 1) := by decide +kernel
theorem dX1_add_44 : decode cX1_add 44 = .ok (.aload_n 0, 1) := by decide +kernel
theorem dX1_add_45 : decode cX1_add 45 = .ok (.getfield 28, 3) := by decide +kernel
theorem dX1_add_48 : decode cX1_add 48 = .ok (.iload_n 3, 1) := by decide +kernel
theorem dX1_add_49 : decode cX1_add 49 = .ok (.iconst (-1), 1) := by decide +kernel
theorem dX1_add_50 : decode cX1_add 50 = .ok (.iastore, 1) := by decide +kernel
theorem dX1_add_51 : decode cX1_add 51 = .ok (.aload_n 0, 1) := by decide +kernel
theorem dX1_add_52 : decode cX1_add 52 = .ok (.getfield 31, 3) := by decide +kernel
theorem dX1_add_55 : decode cX1_add 55 = .ok (.iload_n 3, 1) := by decide +kernel
theorem dX1_add_56 : decode cX1_add 56 = .ok (.iconst 3, 1) := by decide +kernel
theorem dX1_add_57 : decode cX1_add 57 = .ok (.iastore, 1) := by decide +kernel
theorem dX1_add_58 : decode cX1_add 58 = .ok (.aload_n 0, 1) := by decide +kernel
theorem dX1_add_59 : decode cX1_add 59 = .ok (.getfield 34, 3) := by decide +kernel
theorem dX1_add_62 : decode cX1_add 62 = .ok (.iload_n 3, 1) := by decide +kernel
theorem dX1_add_63 : decode cX1_add 63 = .ok (.iconst 0, 1) := by decide +kernel
theorem dX1_add_64 : decode cX1_add 64 = .ok (.iastore, 1) := by decide +kernel
theorem dX1_add_65 : decode cX1_add 65 = .ok (.aload_n 0, 1) := by decide +kernel
theorem dX1_add_66 : decode cX1_add 66 = .ok (.getfield 37, 3) := by decide +kernel
theorem dX1_add_69 : decode cX1_add 69 = .ok (.iload_n 3, 1) := by decide +kernel
theorem dX1_add_70 : decode cX1_add 70 = .ok (.iconst 0, 1) := by decide +kernel
theorem dX1_add_71 : decode cX1_add 71 = .ok (.iastore, 1) := by decide +kernel
theorem dX1_add_72 : decode cX1_add 72 = .ok (.aload_n 0, 1) := by decide +kernel
theorem dX1_add_73 : decode cX1_add 73 = .ok (.getfield 40, 3) := by decide +kernel
theorem dX1_add_76 : decode cX1_add 76 = .ok (.iload_n 3, 1) := by decide +kernel
theorem dX1_add_77 : decode cX1_add 77 = .ok (.iconst 0, 1) := by decide +kernel
theorem dX1_add_78 : decode cX1_add 78 = .ok (.iastore, 1) := by decide +kernel
theorem dX1_add_79 : decode cX1_add 79 = .ok (.aload_n 0, 1) := by decide +kernel
theorem dX1_add_80 : decode cX1_add 80 = .ok (.iload_n 3, 1) := by decide +kernel
theorem dX1_add_81 : decode cX1_add 81 = .ok (.iconst 1, 1) := by decide +kernel
theorem dX1_add_82 : decode cX1_add 82 = .ok (.iadd, 1) := by decide +kernel
theorem dX1_add_83 : decode cX1_add 83 = .ok (.putfield 9, 3) := by decide +kernel
theorem dX1_add_86 : decode cX1_add 86 = .ok (.iload_n 3, 1) := by decide +kernel
theorem dX1_add_87 : decode cX1_add 87 = .ok (.ireturn, 1) := by decide +kernel
set_option maxHeartbeats 4000000 in
set_option maxRecDepth 100000 in
theorem c_X1_add {l : Launch} {ω : xO} (hc : xsh ω = clS) {b r : Nat} {k a : Int} {M : xMem} (hb : pI b r) (hn : 0 ≤ M b 1 ∧ M b 1 < 8) (hk : inR k) (ha : inR a) : Ct l ω yX1_add ({ frames := 0, cells := 0, slots := 0, locals := 0 } : Room) 4 2 [.ref (xad ω b), .int (iI k), .int (iI a)] M (some (.int (iI (M b 1)))) (addC M b k a) := by
  refine Ct.of (bytes := cX1_add) (ret := (some .int)) (lv0 := [some (.ref (xad ω b)), some (.int (iI k)), some (.int (iI a)), none]) m_cd_X1_add m_in_X1 (by decide +kernel) (by decide +kernel) rfl rfl rfl rfl (fun hR => by unfold addC; exact up_R (up_R (up_R (up_R (up_R (up_R (up_R (up_R (up_R hR hk) ha) ha) (by decide)) (by decide)) (by decide)) (by decide)) (by decide)) (by omega)) ?_
  intro κ h he hR
  refine x_aload_n h dX1_add_0 rfl ?_
  refine x_geti (j := 1) 1 h dX1_add_1 (sPe hc hb) rfl in_X1 rfl (by decide) m_fl_X1_9 rfl (fun r1 => ?_)
  refine x_if_lt h dX1_add_4 (tgt := 16) (by decide) (by omega) (fun q4 => ?_) (fun q4 => ?_)
  · refine x_iconst h dX1_add_16 ?_
    exact x_iret (ret := none) h he dX1_add_17 rfl (by first | rfl | omega) (by first | rfl | (exfalso; omega))
  · refine x_aload_n h dX1_add_7 rfl ?_
    refine x_geti (j := 1) 1 h dX1_add_8 (sPe hc hb) rfl in_X1 rfl (by decide) m_fl_X1_9 rfl (fun r8 => ?_)
    refine x_bipush h dX1_add_11 (by decide) ?_
    refine x_icmp_lt h dX1_add_13 (tgt := 18) (by decide) (by omega) (by omega) (fun q13 => ?_) (fun q13 => ?_)
    · refine x_aload_n h dX1_add_18 rfl ?_
      refine x_geti (j := 1) 1 h dX1_add_19 (sPe hc hb) rfl in_X1 rfl (by decide) m_fl_X1_9 rfl (fun r19 => ?_)
      refine x_istore_n h dX1_add_22 rfl rfl ?_
      dsimp only [xset]
      refine x_aload_n h dX1_add_23 rfl ?_
      refine x_getr (j := 3) (q := b + 1) h dX1_add_24 (sPe hc hb) rfl in_X1 rfl (by decide) m_fl_X1_18 ?_
      refine x_iload_n h dX1_add_27 rfl ?_
      refine x_iload_n h dX1_add_28 rfl ?_
      refine x_iastore h dX1_add_29 (sP1 hc hb) (by omega) (by omega) ?_
      refine x_aload_n h dX1_add_30 rfl ?_
      refine x_getr (j := 4) (q := b + 2) h dX1_add_31 (sPe hc hb) rfl in_X1 rfl (by decide) m_fl_X1_22 ?_
      refine x_iload_n h dX1_add_34 rfl ?_
      refine x_iload_n h dX1_add_35 rfl ?_
      refine x_iastore h dX1_add_36 (sP2 hc hb) (by omega) (by omega) ?_
      refine x_aload_n h dX1_add_37 rfl ?_
      refine x_getr (j := 5) (q := b + 3) h dX1_add_38 (sPe hc hb) rfl in_X1 rfl (by decide) m_fl_X1_25 ?_
      refine x_iload_n h dX1_add_41 rfl ?_
      refine x_iload_n h dX1_add_42 rfl ?_
      refine x_iastore h dX1_add_43 (sP3 hc hb) (by omega) (by omega) ?_
      refine x_aload_n h dX1_add_44 rfl ?_
      refine x_getr (j := 6) (q := b + 4) h dX1_add_45 (sPe hc hb) rfl in_X1 rfl (by decide) m_fl_X1_28 ?_
      refine x_iload_n h dX1_add_48 rfl ?_
      refine x_iconst h dX1_add_49 ?_
      refine x_iastore h dX1_add_50 (sP4 hc hb) (by omega) (by omega) ?_
      refine x_aload_n h dX1_add_51 rfl ?_
      refine x_getr (j := 7) (q := b + 5) h dX1_add_52 (sPe hc hb) rfl in_X1 rfl (by decide) m_fl_X1_31 ?_
      refine x_iload_n h dX1_add_55 rfl ?_
      refine x_iconst h dX1_add_56 ?_
      refine x_iastore h dX1_add_57 (sP5 hc hb) (by omega) (by omega) ?_
      refine x_aload_n h dX1_add_58 rfl ?_
      refine x_getr (j := 8) (q := b + 6) h dX1_add_59 (sPe hc hb) rfl in_X1 rfl (by decide) m_fl_X1_34 ?_
      refine x_iload_n h dX1_add_62 rfl ?_
      refine x_iconst h dX1_add_63 ?_
      refine x_iastore h dX1_add_64 (sP6 hc hb) (by omega) (by omega) ?_
      refine x_aload_n h dX1_add_65 rfl ?_
      refine x_getr (j := 9) (q := b + 7) h dX1_add_66 (sPe hc hb) rfl in_X1 rfl (by decide) m_fl_X1_37 ?_
      refine x_iload_n h dX1_add_69 rfl ?_
      refine x_iconst h dX1_add_70 ?_
      refine x_iastore h dX1_add_71 (sP7 hc hb) (by omega) (by omega) ?_
      refine x_aload_n h dX1_add_72 rfl ?_
      refine x_getr (j := 10) (q := b + 8) h dX1_add_73 (sPe hc hb) rfl in_X1 rfl (by decide) m_fl_X1_40 ?_
      refine x_iload_n h dX1_add_76 rfl ?_
      refine x_iconst h dX1_add_77 ?_
      refine x_iastore h dX1_add_78 (sP8 hc hb) (by omega) (by omega) ?_
      refine x_aload_n h dX1_add_79 rfl ?_
      refine x_iload_n h dX1_add_80 rfl ?_
      refine x_iconst h dX1_add_81 ?_
      refine x_iadd h dX1_add_82 ?_
      refine x_puti (j := 1) 1 h dX1_add_83 (sPe hc hb) rfl in_X1 rfl (by decide) m_fl_X1_9 tyX1_ok nmX1 rfl (tyX1_ok 1 (by decide)) rfl rfl (by omega) rfl ?_
      refine x_iload_n h dX1_add_86 rfl ?_
      exact x_iret (ret := none) h he dX1_add_87 rfl (by first | rfl | omega) (by first | rfl | (exfalso; omega))
    · refine x_iconst h dX1_add_16 ?_
      exact x_iret (ret := none) h he dX1_add_17 rfl (by first | rfl | omega) (by first | rfl | (exfalso; omega))

theorem dX1_everybody_0 : decode cX1_everybody 0 = .ok (.iconst 1, 1) := by decide +kernel
theorem dX1_everybody_1 : decode cX1_everybody 1 = .ok (.aload_n 0, 1) := by decide +kernel
theorem dX1_everybody_2 : decode cX1_everybody 2 = .ok (.getfield 9, 3) := by decide +kernel
theorem dX1_everybody_5 : decode cX1_everybody 5 = .ok (.ishl, 1) := by decide +kernel
theorem dX1_everybody_6 : decode cX1_everybody 6 = .ok (.iconst 1, 1) := by decide +kernel
theorem dX1_everybody_7 : decode cX1_everybody 7 = .ok (.isub, 1) := by decide +kernel
theorem dX1_everybody_8 : decode cX1_everybody 8 = .ok (.ireturn, 1) := by decide +kernel
set_option maxHeartbeats 4000000 in
set_option maxRecDepth 100000 in
theorem c_X1_everybody {l : Launch} {ω : xO} (hc : xsh ω = clS) {b r : Nat} {M : xMem} (hb : pI b r) : Ct l ω yX1_everybody ({ frames := 0, cells := 0, slots := 0, locals := 0 } : Room) 1 0 [.ref (xad ω b)] M (some (.int (iI (bshl 1 (M b 1) - 1)))) M := by
  refine Ct.of (bytes := cX1_everybody) (ret := (some .int)) (lv0 := [some (.ref (xad ω b))]) m_cd_X1_everybody m_in_X1 (by decide +kernel) (by decide +kernel) rfl rfl rfl rfl (fun hR => hR) ?_
  intro κ h he hR
  refine x_iconst h dX1_everybody_0 ?_
  refine x_aload_n h dX1_everybody_1 rfl ?_
  refine x_geti (j := 1) 1 h dX1_everybody_2 (sPe hc hb) rfl in_X1 rfl (by decide) m_fl_X1_9 rfl (fun r2 => ?_)
  refine x_ishl h dX1_everybody_5 (fun r5 => ?_)
  refine x_iconst h dX1_everybody_6 ?_
  refine x_isub h dX1_everybody_7 ?_
  exact x_iret (ret := none) h he dX1_everybody_8 rfl (by first | rfl | omega | exact (bI_t (by omega)).symm | exact (bI_f (by omega)).symm) rfl

theorem dX1_thereSet_0 : decode cX1_thereSet 0 = .ok (.iconst 0, 1) := by decide +kernel
theorem dX1_thereSet_1 : decode cX1_thereSet 1 = .ok (.istore_n 1, 1) := by decide +kernel
theorem dX1_thereSet_2 : decode cX1_thereSet 2 = .ok (.iconst 0, 1) := by decide +kernel
theorem dX1_thereSet_3 : decode cX1_thereSet 3 = .ok (.istore_n 2, 1) := by decide +kernel
theorem dX1_thereSet_4 : decode cX1_thereSet 4 = .ok (.iload_n 2, 1) := by decide +kernel
theorem dX1_thereSet_5 : decode cX1_thereSet 5 = .ok (.aload_n 0, 1) := by decide +kernel
theorem dX1_thereSet_6 : decode cX1_thereSet 6 = .ok (.getfield 9, 3) := by decide +kernel
theorem dX1_thereSet_9 : decode cX1_thereSet 9 = .ok (.if_icmp .ge 23, 3) := by decide +kernel
theorem dX1_thereSet_12 : decode cX1_thereSet 12 = .ok (.aload_n 0, 1) := by decide +kernel
theorem dX1_thereSet_13 : decode cX1_thereSet 13 = .ok (.iload_n 2, 1) := by decide +kernel
theorem dX1_thereSet_14 : decode cX1_thereSet 14 = .ok (.invokevirtual 101, 3) := by decide +kernel
theorem dX1_thereSet_17 : decode cX1_thereSet 17 = .ok (.ifCond .eq 9, 3) := by decide +kernel
theorem dX1_thereSet_20 : decode cX1_thereSet 20 = .ok (.iload_n 1, 1) := by decide +kernel
theorem dX1_thereSet_21 : decode cX1_thereSet 21 = .ok (.iconst 1, 1) := by decide +kernel
theorem dX1_thereSet_22 : decode cX1_thereSet 22 = .ok (.iload_n 2, 1) := by decide +kernel
theorem dX1_thereSet_23 : decode cX1_thereSet 23 = .ok (.ishl, 1) := by decide +kernel
theorem dX1_thereSet_24 : decode cX1_thereSet 24 = .ok (.ior, 1) := by decide +kernel
theorem dX1_thereSet_25 : decode cX1_thereSet 25 = .ok (.istore_n 1, 1) := by decide +kernel
theorem dX1_thereSet_26 : decode cX1_thereSet 26 = .ok (.iinc 2 1, 3) := by decide +kernel
theorem dX1_thereSet_29 : decode cX1_thereSet 29 = .ok (.goto (-25), 3) := by decide +kernel
theorem dX1_thereSet_32 : decode cX1_thereSet 32 = .ok (.iload_n 1, 1) := by decide +kernel
theorem dX1_thereSet_33 : decode cX1_thereSet 33 = .ok (.ireturn, 1) := by decide +kernel
set_option maxHeartbeats 4000000 in
set_option maxRecDepth 100000 in
theorem c_X1_thereSet {l : Launch} {ω : xO} (hc : xsh ω = clS) {b r : Nat} {M : xMem} (hb : pI b r) (hI : PeInv M b) : Ct l ω yX1_thereSet ({ frames := 3, cells := 0, slots := 0, locals := 63 } : Room) 3 0 [.ref (xad ω b)] M (some (.int (iI (xfo (fun (p acc : Int) => if M (b + 2) p = M (b + 3) p then bor acc (bshl 1 p) else acc) 0 (M b 1).toNat)))) M := by
  refine Ct.of (bytes := cX1_thereSet) (ret := (some .int)) (lv0 := [some (.ref (xad ω b)), none, none]) m_cd_X1_thereSet m_in_X1 (by decide +kernel) (by decide +kernel) rfl rfl rfl rfl (fun hR => hR) ?_
  intro κ h he hR
  have ib := hI.1
  refine x_iconst h dX1_thereSet_0 ?_
  refine x_istore_n h dX1_thereSet_1 rfl rfl ?_
  dsimp only [xset]
  refine x_iconst h dX1_thereSet_2 ?_
  refine x_istore_n h dX1_thereSet_3 rfl rfl ?_
  dsimp only [xset]
  refine loop_up (fun k => X ω κ 4 [some (.ref (xad ω b)), some (.int (iI (xfo (fun (p acc : Int) => if M (b + 2) p = M (b + 3) p then bor acc (bshl 1 p) else acc) 0 k))), some (.int (iI (k : Int)))] [] M) ((M b 1).toNat) ?_ ?_
  · show X ω κ 4 [some (.ref (xad ω b)), some (.int (iI (xfo (fun (p acc : Int) => if M (b + 2) p = M (b + 3) p then bor acc (bshl 1 p) else acc) 0 (M b 1).toNat))), some (.int (iI (((M b 1).toNat : Nat) : Int)))] [] M
    have g0 : (((M b 1).toNat : Nat) : Int) = M b 1 := by omega
    refine x_iload_n h dX1_thereSet_4 rfl ?_
    refine x_aload_n h dX1_thereSet_5 rfl ?_
    refine x_geti (j := 1) 1 h dX1_thereSet_6 (sPe hc hb) rfl in_X1 rfl (by decide) m_fl_X1_9 rfl (fun r6 => ?_)
    refine x_icmp_ge h dX1_thereSet_9 (tgt := 32) (by decide) (by omega) (by omega) (fun q9 => ?_) (fun q9 => ?_)
    · refine x_iload_n h dX1_thereSet_32 rfl ?_
      exact x_iret (ret := none) h he dX1_thereSet_33 rfl (by first | rfl | omega | exact (bI_t (by omega)).symm | exact (bI_f (by omega)).symm) rfl
    · exfalso; omega
  · intro k hk ih
    replace ih : X ω κ 4 [some (.ref (xad ω b)), some (.int (iI (xfo (fun (p acc : Int) => if M (b + 2) p = M (b + 3) p then bor acc (bshl 1 p) else acc) 0 (k + 1)))), some (.int (iI ((k + 1 : Nat) : Int)))] [] M := ih
    show X ω κ 4 [some (.ref (xad ω b)), some (.int (iI (xfo (fun (p acc : Int) => if M (b + 2) p = M (b + 3) p then bor acc (bshl 1 p) else acc) 0 k))), some (.int (iI (k : Int)))] [] M
    have g0 : (k : Int) < M b 1 := by omega
    have hp : clHas M b (k : Int) := by omega
    have ip := hI.2.2 (k : Int) hp.1 hp.2.1
    refine x_iload_n h dX1_thereSet_4 rfl ?_
    refine x_aload_n h dX1_thereSet_5 rfl ?_
    refine x_geti (j := 1) 1 h dX1_thereSet_6 (sPe hc hb) rfl in_X1 rfl (by decide) m_fl_X1_9 rfl (fun r6 => ?_)
    refine x_icmp_ge h dX1_thereSet_9 (tgt := 32) (by decide) (by omega) (by omega) (fun q9 => ?_) (fun q9 => ?_)
    · exfalso; omega
    · refine x_aload_n h dX1_thereSet_12 rfl ?_
      refine x_iload_n h dX1_thereSet_13 rfl ?_
      refine x_V1i h dX1_thereSet_14 m_ml_X1_101 m_im_X1_isThere m_se_X1_isThere (sPe hc hb) rfl (by decide) rfl (c_X1_isThere hc hb (by omega)) ?_
      refine x_ifeqB h dX1_thereSet_17 (tgt := 26) (by decide) (fun q17 => ?_) (fun q17 => ?_)
      · refine x_iinc h dX1_thereSet_26 rfl rfl rfl ?_
        dsimp only [xset]
        refine x_goto h dX1_thereSet_29 (tgt := 4) (by decide) ?_
        refine x_same ih (by first | (simp only [xfo, if_pos q17] <;> rfl) | (simp only [xfo, if_neg q17] <;> rfl)) rfl rfl
      · refine x_iload_n h dX1_thereSet_20 rfl ?_
        refine x_iconst h dX1_thereSet_21 ?_
        refine x_iload_n h dX1_thereSet_22 rfl ?_
        refine x_ishl h dX1_thereSet_23 (fun r23 => ?_)
        refine x_ior h dX1_thereSet_24 (fun r24 => ?_)
        refine x_istore_n h dX1_thereSet_25 rfl rfl ?_
        dsimp only [xset]
        refine x_iinc h dX1_thereSet_26 rfl rfl rfl ?_
        dsimp only [xset]
        refine x_goto h dX1_thereSet_29 (tgt := 4) (by decide) ?_
        refine x_same ih (by first | (simp only [xfo, if_pos q17] <;> rfl) | (simp only [xfo, if_neg q17] <;> rfl)) rfl rfl

theorem dX1_lesserMates_0 : decode cX1_lesserMates 0 = .ok (.iconst 0, 1) := by decide +kernel
theorem dX1_lesserMates_1 : decode cX1_lesserMates 1 = .ok (.istore_n 1, 1) := by decide +kernel
theorem dX1_lesserMates_2 : decode cX1_lesserMates 2 = .ok (.iconst 0, 1) := by decide +kernel
theorem dX1_lesserMates_3 : decode cX1_lesserMates 3 = .ok (.istore_n 2, 1) := by decide +kernel
theorem dX1_lesserMates_4 : decode cX1_lesserMates 4 = .ok (.iload_n 2, 1) := by decide +kernel
theorem dX1_lesserMates_5 : decode cX1_lesserMates 5 = .ok (.aload_n 0, 1) := by decide +kernel
theorem dX1_lesserMates_6 : decode cX1_lesserMates 6 = .ok (.getfield 9, 3) := by decide +kernel
theorem dX1_lesserMates_9 : decode cX1_lesserMates 9 = .ok (.if_icmp .ge 24, 3) := by decide +kernel
theorem dX1_lesserMates_12 : decode cX1_lesserMates 12 = .ok (.aload_n 0, 1) := by decide +kernel
theorem dX1_lesserMates_13 : decode cX1_lesserMates 13 = .ok (.iload_n 2, 1) := by decide +kernel
theorem dX1_lesserMates_14 : decode cX1_lesserMates 14 = .ok (.invokevirtual 81, 3) := by decide +kernel
theorem dX1_lesserMates_17 : decode cX1_lesserMates 17 = .ok (.iload_n 2, 1) := by decide +kernel
theorem dX1_lesserMates_18 : decode cX1_lesserMates 18 = .ok (.if_icmp .le 9, 3) := by decide +kernel
theorem dX1_lesserMates_21 : decode cX1_lesserMates 21 = .ok (.iload_n 1, 1) := by decide +kernel
theorem dX1_lesserMates_22 : decode cX1_lesserMates 22 = .ok (.iconst 1, 1) := by decide +kernel
theorem dX1_lesserMates_23 : decode cX1_lesserMates 23 = .ok (.iload_n 2, 1) := by decide +kernel
theorem dX1_lesserMates_24 : decode cX1_lesserMates 24 = .ok (.ishl, 1) := by decide +kernel
theorem dX1_lesserMates_25 : decode cX1_lesserMates 25 = .ok (.ior, 1) := by decide +kernel
theorem dX1_lesserMates_26 : decode cX1_lesserMates 26 = .ok (.istore_n 1, 1) := by decide +kernel
theorem dX1_lesserMates_27 : decode cX1_lesserMates 27 = .ok (.iinc 2 1, 3) := by decide +kernel
theorem dX1_lesserMates_30 : decode cX1_lesserMates 30 = .ok (.goto (-26), 3) := by decide +kernel
theorem dX1_lesserMates_33 : decode cX1_lesserMates 33 = .ok (.iload_n 1, 1) := by decide +kernel
theorem dX1_lesserMates_34 : decode cX1_lesserMates 34 = .ok (.ireturn, 1) := by decide +kernel
set_option maxHeartbeats 4000000 in
set_option maxRecDepth 100000 in
theorem c_X1_lesserMates {l : Launch} {ω : xO} (hc : xsh ω = clS) {b r : Nat} {M : xMem} (hb : pI b r) (hI : PeInv M b) : Ct l ω yX1_lesserMates ({ frames := 2, cells := 0, slots := 0, locals := 42 } : Room) 3 0 [.ref (xad ω b)] M (some (.int (iI (xfo (fun (p acc : Int) => if p < M (b + 4) p then bor acc (bshl 1 p) else acc) 0 (M b 1).toNat)))) M := by
  refine Ct.of (bytes := cX1_lesserMates) (ret := (some .int)) (lv0 := [some (.ref (xad ω b)), none, none]) m_cd_X1_lesserMates m_in_X1 (by decide +kernel) (by decide +kernel) rfl rfl rfl rfl (fun hR => hR) ?_
  intro κ h he hR
  have ib := hI.1
  refine x_iconst h dX1_lesserMates_0 ?_
  refine x_istore_n h dX1_lesserMates_1 rfl rfl ?_
  dsimp only [xset]
  refine x_iconst h dX1_lesserMates_2 ?_
  refine x_istore_n h dX1_lesserMates_3 rfl rfl ?_
  dsimp only [xset]
  refine loop_up (fun k => X ω κ 4 [some (.ref (xad ω b)), some (.int (iI (xfo (fun (p acc : Int) => if p < M (b + 4) p then bor acc (bshl 1 p) else acc) 0 k))), some (.int (iI (k : Int)))] [] M) ((M b 1).toNat) ?_ ?_
  · show X ω κ 4 [some (.ref (xad ω b)), some (.int (iI (xfo (fun (p acc : Int) => if p < M (b + 4) p then bor acc (bshl 1 p) else acc) 0 (M b 1).toNat))), some (.int (iI (((M b 1).toNat : Nat) : Int)))] [] M
    have g0 : (((M b 1).toNat : Nat) : Int) = M b 1 := by omega
    refine x_iload_n h dX1_lesserMates_4 rfl ?_
    refine x_aload_n h dX1_lesserMates_5 rfl ?_
    refine x_geti (j := 1) 1 h dX1_lesserMates_6 (sPe hc hb) rfl in_X1 rfl (by decide) m_fl_X1_9 rfl (fun r6 => ?_)
    refine x_icmp_ge h dX1_lesserMates_9 (tgt := 33) (by decide) (by omega) (by omega) (fun q9 => ?_) (fun q9 => ?_)
    · refine x_iload_n h dX1_lesserMates_33 rfl ?_
      exact x_iret (ret := none) h he dX1_lesserMates_34 rfl (by first | rfl | omega | exact (bI_t (by omega)).symm | exact (bI_f (by omega)).symm) rfl
    · exfalso; omega
  · intro k hk ih
    replace ih : X ω κ 4 [some (.ref (xad ω b)), some (.int (iI (xfo (fun (p acc : Int) => if p < M (b + 4) p then bor acc (bshl 1 p) else acc) 0 (k + 1)))), some (.int (iI ((k + 1 : Nat) : Int)))] [] M := ih
    show X ω κ 4 [some (.ref (xad ω b)), some (.int (iI (xfo (fun (p acc : Int) => if p < M (b + 4) p then bor acc (bshl 1 p) else acc) 0 k))), some (.int (iI (k : Int)))] [] M
    have g0 : (k : Int) < M b 1 := by omega
    have hp : clHas M b (k : Int) := by omega
    have ip := hI.2.2 (k : Int) hp.1 hp.2.1
    refine x_iload_n h dX1_lesserMates_4 rfl ?_
    refine x_aload_n h dX1_lesserMates_5 rfl ?_
    refine x_geti (j := 1) 1 h dX1_lesserMates_6 (sPe hc hb) rfl in_X1 rfl (by decide) m_fl_X1_9 rfl (fun r6 => ?_)
    refine x_icmp_ge h dX1_lesserMates_9 (tgt := 33) (by decide) (by omega) (by omega) (fun q9 => ?_) (fun q9 => ?_)
    · exfalso; omega
    · refine x_aload_n h dX1_lesserMates_12 rfl ?_
      refine x_iload_n h dX1_lesserMates_13 rfl ?_
      refine x_V1i h dX1_lesserMates_14 m_ml_X1_81 m_im_X1_mateOf m_se_X1_mateOf (sPe hc hb) rfl (by decide) rfl (c_X1_mateOf hc hb (by omega)) ?_
      refine x_iload_n h dX1_lesserMates_17 rfl ?_
      refine x_icmp_le h dX1_lesserMates_18 (tgt := 27) (by decide) (by omega) (by omega) (fun q18 => ?_) (fun q18 => ?_)
      · refine x_iinc h dX1_lesserMates_27 rfl rfl rfl ?_
        dsimp only [xset]
        refine x_goto h dX1_lesserMates_30 (tgt := 4) (by decide) ?_
        refine x_same ih (by first | (simp only [xfo, if_neg (Int.not_lt.mpr q18)] <;> rfl) | (simp only [xfo, if_pos (Int.not_le.mp q18)] <;> rfl)) rfl rfl
      · refine x_iload_n h dX1_lesserMates_21 rfl ?_
        refine x_iconst h dX1_lesserMates_22 ?_
        refine x_iload_n h dX1_lesserMates_23 rfl ?_
        refine x_ishl h dX1_lesserMates_24 (fun r24 => ?_)
        refine x_ior h dX1_lesserMates_25 (fun r25 => ?_)
        refine x_istore_n h dX1_lesserMates_26 rfl rfl ?_
        dsimp only [xset]
        refine x_iinc h dX1_lesserMates_27 rfl rfl rfl ?_
        dsimp only [xset]
        refine x_goto h dX1_lesserMates_30 (tgt := 4) (by decide) ?_
        refine x_same ih (by first | (simp only [xfo, if_neg (Int.not_lt.mpr q18)] <;> rfl) | (simp only [xfo, if_pos (Int.not_le.mp q18)] <;> rfl)) rfl rfl

theorem dX1_ropeOfAll_0 : decode cX1_ropeOfAll 0 = .ok (.iconst 0, 1) := by decide +kernel
theorem dX1_ropeOfAll_1 : decode cX1_ropeOfAll 1 = .ok (.istore_n 1, 1) := by decide +kernel
theorem dX1_ropeOfAll_2 : decode cX1_ropeOfAll 2 = .ok (.iconst 0, 1) := by decide +kernel
theorem dX1_ropeOfAll_3 : decode cX1_ropeOfAll 3 = .ok (.istore_n 2, 1) := by decide +kernel
theorem dX1_ropeOfAll_4 : decode cX1_ropeOfAll 4 = .ok (.iload_n 2, 1) := by decide +kernel
theorem dX1_ropeOfAll_5 : decode cX1_ropeOfAll 5 = .ok (.aload_n 0, 1) := by decide +kernel
theorem dX1_ropeOfAll_6 : decode cX1_ropeOfAll 6 = .ok (.getfield 9, 3) := by decide +kernel
theorem dX1_ropeOfAll_9 : decode cX1_ropeOfAll 9 = .ok (.if_icmp .ge 26, 3) := by decide +kernel
theorem dX1_ropeOfAll_12 : decode cX1_ropeOfAll 12 = .ok (.aload_n 0, 1) := by decide +kernel
theorem dX1_ropeOfAll_13 : decode cX1_ropeOfAll 13 = .ok (.iload_n 2, 1) := by decide +kernel
theorem dX1_ropeOfAll_14 : decode cX1_ropeOfAll 14 = .ok (.invokevirtual 81, 3) := by decide +kernel
theorem dX1_ropeOfAll_17 : decode cX1_ropeOfAll 17 = .ok (.iload_n 2, 1) := by decide +kernel
theorem dX1_ropeOfAll_18 : decode cX1_ropeOfAll 18 = .ok (.if_icmp .le 11, 3) := by decide +kernel
theorem dX1_ropeOfAll_21 : decode cX1_ropeOfAll 21 = .ok (.iload_n 1, 1) := by decide +kernel
theorem dX1_ropeOfAll_22 : decode cX1_ropeOfAll 22 = .ok (.aload_n 0, 1) := by decide +kernel
theorem dX1_ropeOfAll_23 : decode cX1_ropeOfAll 23 = .ok (.iload_n 2, 1) := by decide +kernel
theorem dX1_ropeOfAll_24 : decode cX1_ropeOfAll 24 = .ok (.invokevirtual 107, 3) := by decide +kernel
theorem dX1_ropeOfAll_27 : decode cX1_ropeOfAll 27 = .ok (.iadd, 1) := by decide +kernel
theorem dX1_ropeOfAll_28 : decode cX1_ropeOfAll 28 = .ok (.istore_n 1, 1) := by decide +kernel
theorem dX1_ropeOfAll_29 : decode cX1_ropeOfAll 29 = .ok (.iinc 2 1, 3) := by decide +kernel
theorem dX1_ropeOfAll_32 : decode cX1_ropeOfAll 32 = .ok (.goto (-28), 3) := by decide +kernel
theorem dX1_ropeOfAll_35 : decode cX1_ropeOfAll 35 = .ok (.iload_n 1, 1) := by decide +kernel
theorem dX1_ropeOfAll_36 : decode cX1_ropeOfAll 36 = .ok (.ireturn, 1) := by decide +kernel
set_option maxHeartbeats 4000000 in
set_option maxRecDepth 100000 in
theorem c_X1_ropeOfAll {l : Launch} {ω : xO} (hc : xsh ω = clS) {b r : Nat} {M : xMem} (hb : pI b r) (hI : PeInv M b) : Ct l ω yX1_ropeOfAll ({ frames := 2, cells := 0, slots := 0, locals := 42 } : Room) 3 0 [.ref (xad ω b)] M (some (.int (iI (xfo (fun (p acc : Int) => if p < M (b + 4) p then acc + M (b + 6) p else acc) 0 (M b 1).toNat)))) M := by
  refine Ct.of (bytes := cX1_ropeOfAll) (ret := (some .int)) (lv0 := [some (.ref (xad ω b)), none, none]) m_cd_X1_ropeOfAll m_in_X1 (by decide +kernel) (by decide +kernel) rfl rfl rfl rfl (fun hR => hR) ?_
  intro κ h he hR
  have ib := hI.1
  refine x_iconst h dX1_ropeOfAll_0 ?_
  refine x_istore_n h dX1_ropeOfAll_1 rfl rfl ?_
  dsimp only [xset]
  refine x_iconst h dX1_ropeOfAll_2 ?_
  refine x_istore_n h dX1_ropeOfAll_3 rfl rfl ?_
  dsimp only [xset]
  refine loop_up (fun k => X ω κ 4 [some (.ref (xad ω b)), some (.int (iI (xfo (fun (p acc : Int) => if p < M (b + 4) p then acc + M (b + 6) p else acc) 0 k))), some (.int (iI (k : Int)))] [] M) ((M b 1).toNat) ?_ ?_
  · show X ω κ 4 [some (.ref (xad ω b)), some (.int (iI (xfo (fun (p acc : Int) => if p < M (b + 4) p then acc + M (b + 6) p else acc) 0 (M b 1).toNat))), some (.int (iI (((M b 1).toNat : Nat) : Int)))] [] M
    have g0 : (((M b 1).toNat : Nat) : Int) = M b 1 := by omega
    refine x_iload_n h dX1_ropeOfAll_4 rfl ?_
    refine x_aload_n h dX1_ropeOfAll_5 rfl ?_
    refine x_geti (j := 1) 1 h dX1_ropeOfAll_6 (sPe hc hb) rfl in_X1 rfl (by decide) m_fl_X1_9 rfl (fun r6 => ?_)
    refine x_icmp_ge h dX1_ropeOfAll_9 (tgt := 35) (by decide) (by omega) (by omega) (fun q9 => ?_) (fun q9 => ?_)
    · refine x_iload_n h dX1_ropeOfAll_35 rfl ?_
      exact x_iret (ret := none) h he dX1_ropeOfAll_36 rfl (by first | rfl | omega | exact (bI_t (by omega)).symm | exact (bI_f (by omega)).symm) rfl
    · exfalso; omega
  · intro k hk ih
    replace ih : X ω κ 4 [some (.ref (xad ω b)), some (.int (iI (xfo (fun (p acc : Int) => if p < M (b + 4) p then acc + M (b + 6) p else acc) 0 (k + 1)))), some (.int (iI ((k + 1 : Nat) : Int)))] [] M := ih
    show X ω κ 4 [some (.ref (xad ω b)), some (.int (iI (xfo (fun (p acc : Int) => if p < M (b + 4) p then acc + M (b + 6) p else acc) 0 k))), some (.int (iI (k : Int)))] [] M
    have g0 : (k : Int) < M b 1 := by omega
    have hp : clHas M b (k : Int) := by omega
    have ip := hI.2.2 (k : Int) hp.1 hp.2.1
    refine x_iload_n h dX1_ropeOfAll_4 rfl ?_
    refine x_aload_n h dX1_ropeOfAll_5 rfl ?_
    refine x_geti (j := 1) 1 h dX1_ropeOfAll_6 (sPe hc hb) rfl in_X1 rfl (by decide) m_fl_X1_9 rfl (fun r6 => ?_)
    refine x_icmp_ge h dX1_ropeOfAll_9 (tgt := 35) (by decide) (by omega) (by omega) (fun q9 => ?_) (fun q9 => ?_)
    · exfalso; omega
    · refine x_aload_n h dX1_ropeOfAll_12 rfl ?_
      refine x_iload_n h dX1_ropeOfAll_13 rfl ?_
      refine x_V1i h dX1_ropeOfAll_14 m_ml_X1_81 m_im_X1_mateOf m_se_X1_mateOf (sPe hc hb) rfl (by decide) rfl (c_X1_mateOf hc hb (by omega)) ?_
      refine x_iload_n h dX1_ropeOfAll_17 rfl ?_
      refine x_icmp_le h dX1_ropeOfAll_18 (tgt := 29) (by decide) (by omega) (by omega) (fun q18 => ?_) (fun q18 => ?_)
      · refine x_iinc h dX1_ropeOfAll_29 rfl rfl rfl ?_
        dsimp only [xset]
        refine x_goto h dX1_ropeOfAll_32 (tgt := 4) (by decide) ?_
        refine x_same ih (by first | (simp only [xfo, if_neg (Int.not_lt.mpr q18)] <;> rfl) | (simp only [xfo, if_pos (Int.not_le.mp q18)] <;> rfl)) rfl rfl
      · refine x_iload_n h dX1_ropeOfAll_21 rfl ?_
        refine x_aload_n h dX1_ropeOfAll_22 rfl ?_
        refine x_iload_n h dX1_ropeOfAll_23 rfl ?_
        refine x_V1i h dX1_ropeOfAll_24 m_ml_X1_107 m_im_X1_ropeOf m_se_X1_ropeOf (sPe hc hb) rfl (by decide) rfl (c_X1_ropeOf hc hb (by omega)) ?_
        refine x_iadd h dX1_ropeOfAll_27 ?_
        refine x_istore_n h dX1_ropeOfAll_28 rfl rfl ?_
        dsimp only [xset]
        refine x_iinc h dX1_ropeOfAll_29 rfl rfl rfl ?_
        dsimp only [xset]
        refine x_goto h dX1_ropeOfAll_32 (tgt := 4) (by decide) ?_
        refine x_same ih (by first | (simp only [xfo, if_neg (Int.not_lt.mpr q18)] <;> rfl) | (simp only [xfo, if_pos (Int.not_le.mp q18)] <;> rfl)) rfl rfl

theorem dX1_holdsOfAll_0 : decode cX1_holdsOfAll 0 = .ok (.iconst 0, 1) := by decide +kernel
theorem dX1_holdsOfAll_1 : decode cX1_holdsOfAll 1 = .ok (.istore_n 1, 1) := by decide +kernel
theorem dX1_holdsOfAll_2 : decode cX1_holdsOfAll 2 = .ok (.iconst 0, 1) := by decide +kernel
theorem dX1_holdsOfAll_3 : decode cX1_holdsOfAll 3 = .ok (.istore_n 2, 1) := by decide +kernel
theorem dX1_holdsOfAll_4 : decode cX1_holdsOfAll 4 = .ok (.iload_n 2, 1) := by decide +kernel
theorem dX1_holdsOfAll_5 : decode cX1_holdsOfAll 5 = .ok (.aload_n 0, 1) := by decide +kernel
theorem dX1_holdsOfAll_6 : decode cX1_holdsOfAll 6 = .ok (.getfield 9, 3) := by decide +kernel
theorem dX1_holdsOfAll_9 : decode cX1_holdsOfAll 9 = .ok (.if_icmp .ge 17, 3) := by decide +kernel
theorem dX1_holdsOfAll_12 : decode cX1_holdsOfAll 12 = .ok (.iload_n 1, 1) := by decide +kernel
theorem dX1_holdsOfAll_13 : decode cX1_holdsOfAll 13 = .ok (.aload_n 0, 1) := by decide +kernel
theorem dX1_holdsOfAll_14 : decode cX1_holdsOfAll 14 = .ok (.iload_n 2, 1) := by decide +kernel
theorem dX1_holdsOfAll_15 : decode cX1_holdsOfAll 15 = .ok (.invokevirtual 110, 3) := by decide +kernel
theorem dX1_holdsOfAll_18 : decode cX1_holdsOfAll 18 = .ok (.iadd, 1) := by decide +kernel
theorem dX1_holdsOfAll_19 : decode cX1_holdsOfAll 19 = .ok (.istore_n 1, 1) := by decide +kernel
theorem dX1_holdsOfAll_20 : decode cX1_holdsOfAll 20 = .ok (.iinc 2 1, 3) := by decide +kernel
theorem dX1_holdsOfAll_23 : decode cX1_holdsOfAll 23 = .ok (.goto (-19), 3) := by decide +kernel
theorem dX1_holdsOfAll_26 : decode cX1_holdsOfAll 26 = .ok (.iload_n 1, 1) := by decide +kernel
theorem dX1_holdsOfAll_27 : decode cX1_holdsOfAll 27 = .ok (.ireturn, 1) := by decide +kernel
set_option maxHeartbeats 4000000 in
set_option maxRecDepth 100000 in
theorem c_X1_holdsOfAll {l : Launch} {ω : xO} (hc : xsh ω = clS) {b r : Nat} {M : xMem} (hb : pI b r) (hI : PeInv M b) : Ct l ω yX1_holdsOfAll ({ frames := 2, cells := 0, slots := 0, locals := 42 } : Room) 3 0 [.ref (xad ω b)] M (some (.int (iI (xfo (fun (p acc : Int) => acc + M (b + 7) p) 0 (M b 1).toNat)))) M := by
  refine Ct.of (bytes := cX1_holdsOfAll) (ret := (some .int)) (lv0 := [some (.ref (xad ω b)), none, none]) m_cd_X1_holdsOfAll m_in_X1 (by decide +kernel) (by decide +kernel) rfl rfl rfl rfl (fun hR => hR) ?_
  intro κ h he hR
  have ib := hI.1
  refine x_iconst h dX1_holdsOfAll_0 ?_
  refine x_istore_n h dX1_holdsOfAll_1 rfl rfl ?_
  dsimp only [xset]
  refine x_iconst h dX1_holdsOfAll_2 ?_
  refine x_istore_n h dX1_holdsOfAll_3 rfl rfl ?_
  dsimp only [xset]
  refine loop_up (fun k => X ω κ 4 [some (.ref (xad ω b)), some (.int (iI (xfo (fun (p acc : Int) => acc + M (b + 7) p) 0 k))), some (.int (iI (k : Int)))] [] M) ((M b 1).toNat) ?_ ?_
  · show X ω κ 4 [some (.ref (xad ω b)), some (.int (iI (xfo (fun (p acc : Int) => acc + M (b + 7) p) 0 (M b 1).toNat))), some (.int (iI (((M b 1).toNat : Nat) : Int)))] [] M
    have g0 : (((M b 1).toNat : Nat) : Int) = M b 1 := by omega
    refine x_iload_n h dX1_holdsOfAll_4 rfl ?_
    refine x_aload_n h dX1_holdsOfAll_5 rfl ?_
    refine x_geti (j := 1) 1 h dX1_holdsOfAll_6 (sPe hc hb) rfl in_X1 rfl (by decide) m_fl_X1_9 rfl (fun r6 => ?_)
    refine x_icmp_ge h dX1_holdsOfAll_9 (tgt := 26) (by decide) (by omega) (by omega) (fun q9 => ?_) (fun q9 => ?_)
    · refine x_iload_n h dX1_holdsOfAll_26 rfl ?_
      exact x_iret (ret := none) h he dX1_holdsOfAll_27 rfl (by first | rfl | omega | exact (bI_t (by omega)).symm | exact (bI_f (by omega)).symm) rfl
    · exfalso; omega
  · intro k hk ih
    replace ih : X ω κ 4 [some (.ref (xad ω b)), some (.int (iI (xfo (fun (p acc : Int) => acc + M (b + 7) p) 0 (k + 1)))), some (.int (iI ((k + 1 : Nat) : Int)))] [] M := ih
    show X ω κ 4 [some (.ref (xad ω b)), some (.int (iI (xfo (fun (p acc : Int) => acc + M (b + 7) p) 0 k))), some (.int (iI (k : Int)))] [] M
    have g0 : (k : Int) < M b 1 := by omega
    have hp : clHas M b (k : Int) := by omega
    have ip := hI.2.2 (k : Int) hp.1 hp.2.1
    refine x_iload_n h dX1_holdsOfAll_4 rfl ?_
    refine x_aload_n h dX1_holdsOfAll_5 rfl ?_
    refine x_geti (j := 1) 1 h dX1_holdsOfAll_6 (sPe hc hb) rfl in_X1 rfl (by decide) m_fl_X1_9 rfl (fun r6 => ?_)
    refine x_icmp_ge h dX1_holdsOfAll_9 (tgt := 26) (by decide) (by omega) (by omega) (fun q9 => ?_) (fun q9 => ?_)
    · exfalso; omega
    · refine x_iload_n h dX1_holdsOfAll_12 rfl ?_
      refine x_aload_n h dX1_holdsOfAll_13 rfl ?_
      refine x_iload_n h dX1_holdsOfAll_14 rfl ?_
      refine x_V1i h dX1_holdsOfAll_15 m_ml_X1_110 m_im_X1_holdsOf m_se_X1_holdsOf (sPe hc hb) rfl (by decide) rfl (c_X1_holdsOf hc hb (by omega)) ?_
      refine x_iadd h dX1_holdsOfAll_18 ?_
      refine x_istore_n h dX1_holdsOfAll_19 rfl rfl ?_
      dsimp only [xset]
      refine x_iinc h dX1_holdsOfAll_20 rfl rfl rfl ?_
      dsimp only [xset]
      refine x_goto h dX1_holdsOfAll_23 (tgt := 4) (by decide) ?_
      exact ih

theorem dX1_tugsOfAll_0 : decode cX1_tugsOfAll 0 = .ok (.iconst 0, 1) := by decide +kernel
theorem dX1_tugsOfAll_1 : decode cX1_tugsOfAll 1 = .ok (.istore_n 1, 1) := by decide +kernel
theorem dX1_tugsOfAll_2 : decode cX1_tugsOfAll 2 = .ok (.iconst 0, 1) := by decide +kernel
theorem dX1_tugsOfAll_3 : decode cX1_tugsOfAll 3 = .ok (.istore_n 2, 1) := by decide +kernel
theorem dX1_tugsOfAll_4 : decode cX1_tugsOfAll 4 = .ok (.iload_n 2, 1) := by decide +kernel
theorem dX1_tugsOfAll_5 : decode cX1_tugsOfAll 5 = .ok (.aload_n 0, 1) := by decide +kernel
theorem dX1_tugsOfAll_6 : decode cX1_tugsOfAll 6 = .ok (.getfield 9, 3) := by decide +kernel
theorem dX1_tugsOfAll_9 : decode cX1_tugsOfAll 9 = .ok (.if_icmp .ge 17, 3) := by decide +kernel
theorem dX1_tugsOfAll_12 : decode cX1_tugsOfAll 12 = .ok (.iload_n 1, 1) := by decide +kernel
theorem dX1_tugsOfAll_13 : decode cX1_tugsOfAll 13 = .ok (.aload_n 0, 1) := by decide +kernel
theorem dX1_tugsOfAll_14 : decode cX1_tugsOfAll 14 = .ok (.iload_n 2, 1) := by decide +kernel
theorem dX1_tugsOfAll_15 : decode cX1_tugsOfAll 15 = .ok (.invokevirtual 113, 3) := by decide +kernel
theorem dX1_tugsOfAll_18 : decode cX1_tugsOfAll 18 = .ok (.iadd, 1) := by decide +kernel
theorem dX1_tugsOfAll_19 : decode cX1_tugsOfAll 19 = .ok (.istore_n 1, 1) := by decide +kernel
theorem dX1_tugsOfAll_20 : decode cX1_tugsOfAll 20 = .ok (.iinc 2 1, 3) := by decide +kernel
theorem dX1_tugsOfAll_23 : decode cX1_tugsOfAll 23 = .ok (.goto (-19), 3) := by decide +kernel
theorem dX1_tugsOfAll_26 : decode cX1_tugsOfAll 26 = .ok (.iload_n 1, 1) := by decide +kernel
theorem dX1_tugsOfAll_27 : decode cX1_tugsOfAll 27 = .ok (.ireturn, 1) := by decide +kernel
set_option maxHeartbeats 4000000 in
set_option maxRecDepth 100000 in
theorem c_X1_tugsOfAll {l : Launch} {ω : xO} (hc : xsh ω = clS) {b r : Nat} {M : xMem} (hb : pI b r) (hI : PeInv M b) : Ct l ω yX1_tugsOfAll ({ frames := 2, cells := 0, slots := 0, locals := 42 } : Room) 3 0 [.ref (xad ω b)] M (some (.int (iI (xfo (fun (p acc : Int) => acc + M (b + 8) p) 0 (M b 1).toNat)))) M := by
  refine Ct.of (bytes := cX1_tugsOfAll) (ret := (some .int)) (lv0 := [some (.ref (xad ω b)), none, none]) m_cd_X1_tugsOfAll m_in_X1 (by decide +kernel) (by decide +kernel) rfl rfl rfl rfl (fun hR => hR) ?_
  intro κ h he hR
  have ib := hI.1
  refine x_iconst h dX1_tugsOfAll_0 ?_
  refine x_istore_n h dX1_tugsOfAll_1 rfl rfl ?_
  dsimp only [xset]
  refine x_iconst h dX1_tugsOfAll_2 ?_
  refine x_istore_n h dX1_tugsOfAll_3 rfl rfl ?_
  dsimp only [xset]
  refine loop_up (fun k => X ω κ 4 [some (.ref (xad ω b)), some (.int (iI (xfo (fun (p acc : Int) => acc + M (b + 8) p) 0 k))), some (.int (iI (k : Int)))] [] M) ((M b 1).toNat) ?_ ?_
  · show X ω κ 4 [some (.ref (xad ω b)), some (.int (iI (xfo (fun (p acc : Int) => acc + M (b + 8) p) 0 (M b 1).toNat))), some (.int (iI (((M b 1).toNat : Nat) : Int)))] [] M
    have g0 : (((M b 1).toNat : Nat) : Int) = M b 1 := by omega
    refine x_iload_n h dX1_tugsOfAll_4 rfl ?_
    refine x_aload_n h dX1_tugsOfAll_5 rfl ?_
    refine x_geti (j := 1) 1 h dX1_tugsOfAll_6 (sPe hc hb) rfl in_X1 rfl (by decide) m_fl_X1_9 rfl (fun r6 => ?_)
    refine x_icmp_ge h dX1_tugsOfAll_9 (tgt := 26) (by decide) (by omega) (by omega) (fun q9 => ?_) (fun q9 => ?_)
    · refine x_iload_n h dX1_tugsOfAll_26 rfl ?_
      exact x_iret (ret := none) h he dX1_tugsOfAll_27 rfl (by first | rfl | omega | exact (bI_t (by omega)).symm | exact (bI_f (by omega)).symm) rfl
    · exfalso; omega
  · intro k hk ih
    replace ih : X ω κ 4 [some (.ref (xad ω b)), some (.int (iI (xfo (fun (p acc : Int) => acc + M (b + 8) p) 0 (k + 1)))), some (.int (iI ((k + 1 : Nat) : Int)))] [] M := ih
    show X ω κ 4 [some (.ref (xad ω b)), some (.int (iI (xfo (fun (p acc : Int) => acc + M (b + 8) p) 0 k))), some (.int (iI (k : Int)))] [] M
    have g0 : (k : Int) < M b 1 := by omega
    have hp : clHas M b (k : Int) := by omega
    have ip := hI.2.2 (k : Int) hp.1 hp.2.1
    refine x_iload_n h dX1_tugsOfAll_4 rfl ?_
    refine x_aload_n h dX1_tugsOfAll_5 rfl ?_
    refine x_geti (j := 1) 1 h dX1_tugsOfAll_6 (sPe hc hb) rfl in_X1 rfl (by decide) m_fl_X1_9 rfl (fun r6 => ?_)
    refine x_icmp_ge h dX1_tugsOfAll_9 (tgt := 26) (by decide) (by omega) (by omega) (fun q9 => ?_) (fun q9 => ?_)
    · exfalso; omega
    · refine x_iload_n h dX1_tugsOfAll_12 rfl ?_
      refine x_aload_n h dX1_tugsOfAll_13 rfl ?_
      refine x_iload_n h dX1_tugsOfAll_14 rfl ?_
      refine x_V1i h dX1_tugsOfAll_15 m_ml_X1_113 m_im_X1_tugsOf m_se_X1_tugsOf (sPe hc hb) rfl (by decide) rfl (c_X1_tugsOf hc hb (by omega)) ?_
      refine x_iadd h dX1_tugsOfAll_18 ?_
      refine x_istore_n h dX1_tugsOfAll_19 rfl rfl ?_
      dsimp only [xset]
      refine x_iinc h dX1_tugsOfAll_20 rfl rfl rfl ?_
      dsimp only [xset]
      refine x_goto h dX1_tugsOfAll_23 (tgt := 4) (by decide) ?_
      exact ih

theorem dX1_tightSet_0 : decode cX1_tightSet 0 = .ok (.iconst 0, 1) := by decide +kernel
theorem dX1_tightSet_1 : decode cX1_tightSet 1 = .ok (.istore_n 1, 1) := by decide +kernel
theorem dX1_tightSet_2 : decode cX1_tightSet 2 = .ok (.iconst 0, 1) := by decide +kernel
theorem dX1_tightSet_3 : decode cX1_tightSet 3 = .ok (.istore_n 2, 1) := by decide +kernel
theorem dX1_tightSet_4 : decode cX1_tightSet 4 = .ok (.iload_n 2, 1) := by decide +kernel
theorem dX1_tightSet_5 : decode cX1_tightSet 5 = .ok (.aload_n 0, 1) := by decide +kernel
theorem dX1_tightSet_6 : decode cX1_tightSet 6 = .ok (.getfield 9, 3) := by decide +kernel
theorem dX1_tightSet_9 : decode cX1_tightSet 9 = .ok (.if_icmp .ge 52, 3) := by decide +kernel
theorem dX1_tightSet_12 : decode cX1_tightSet 12 = .ok (.aload_n 0, 1) := by decide +kernel
theorem dX1_tightSet_13 : decode cX1_tightSet 13 = .ok (.iload_n 2, 1) := by decide +kernel
theorem dX1_tightSet_14 : decode cX1_tightSet 14 = .ok (.invokevirtual 104, 3) := by decide +kernel
theorem dX1_tightSet_17 : decode cX1_tightSet 17 = .ok (.ifCond .eq 38, 3) := by decide +kernel
theorem dX1_tightSet_20 : decode cX1_tightSet 20 = .ok (.aload_n 0, 1) := by decide +kernel
theorem dX1_tightSet_21 : decode cX1_tightSet 21 = .ok (.getfield 52, 3) := by decide +kernel
theorem dX1_tightSet_24 : decode cX1_tightSet 24 = .ok (.aload_n 0, 1) := by decide +kernel
theorem dX1_tightSet_25 : decode cX1_tightSet 25 = .ok (.iload_n 2, 1) := by decide +kernel
theorem dX1_tightSet_26 : decode cX1_tightSet 26 = .ok (.invokevirtual 70, 3) := by decide +kernel
theorem dX1_tightSet_29 : decode cX1_tightSet 29 = .ok (.aload_n 0, 1) := by decide +kernel
theorem dX1_tightSet_30 : decode cX1_tightSet 30 = .ok (.aload_n 0, 1) := by decide +kernel
theorem dX1_tightSet_31 : decode cX1_tightSet 31 = .ok (.iload_n 2, 1) := by decide +kernel
theorem dX1_tightSet_32 : decode cX1_tightSet 32 = .ok (.invokevirtual 81, 3) := by decide +kernel
theorem dX1_tightSet_35 : decode cX1_tightSet 35 = .ok (.invokevirtual 70, 3) := by decide +kernel
theorem dX1_tightSet_38 : decode cX1_tightSet 38 = .ok (.invokevirtual 87, 3) := by decide +kernel
theorem dX1_tightSet_41 : decode cX1_tightSet 41 = .ok (.aload_n 0, 1) := by decide +kernel
theorem dX1_tightSet_42 : decode cX1_tightSet 42 = .ok (.iload_n 2, 1) := by decide +kernel
theorem dX1_tightSet_43 : decode cX1_tightSet 43 = .ok (.invokevirtual 93, 3) := by decide +kernel
theorem dX1_tightSet_46 : decode cX1_tightSet 46 = .ok (.if_icmp .ne 9, 3) := by decide +kernel
theorem dX1_tightSet_49 : decode cX1_tightSet 49 = .ok (.iload_n 1, 1) := by decide +kernel
theorem dX1_tightSet_50 : decode cX1_tightSet 50 = .ok (.iconst 1, 1) := by decide +kernel
theorem dX1_tightSet_51 : decode cX1_tightSet 51 = .ok (.iload_n 2, 1) := by decide +kernel
theorem dX1_tightSet_52 : decode cX1_tightSet 52 = .ok (.ishl, 1) := by decide +kernel
theorem dX1_tightSet_53 : decode cX1_tightSet 53 = .ok (.ior, 1) := by decide +kernel
theorem dX1_tightSet_54 : decode cX1_tightSet 54 = .ok (.istore_n 1, 1) := by decide +kernel
theorem dX1_tightSet_55 : decode cX1_tightSet 55 = .ok (.iinc 2 1, 3) := by decide +kernel
theorem dX1_tightSet_58 : decode cX1_tightSet 58 = .ok (.goto (-54), 3) := by decide +kernel
theorem dX1_tightSet_61 : decode cX1_tightSet 61 = .ok (.iload_n 1, 1) := by decide +kernel
theorem dX1_tightSet_62 : decode cX1_tightSet 62 = .ok (.ireturn, 1) := by decide +kernel
set_option maxHeartbeats 4000000 in
set_option maxRecDepth 100000 in
theorem c_X1_tightSet {l : Launch} {ω : xO} (hc : xsh ω = clS) {b r : Nat} {M : xMem} (hb : pI b r) (hI : PeInv M b) : Ct l ω yX1_tightSet ({ frames := 2, cells := 0, slots := 0, locals := 42 } : Room) 3 0 [.ref (xad ω b)] M (some (.int (iI (xfo (fun (p acc : Int) => if clHas M b (M (b + 4) p) ∧ M (r + 2) (M (b + 2) p * 10 + M (b + 2) (M (b + 4) p)) = rchC M b p then bor acc (bshl 1 p) else acc) 0 (M b 1).toNat)))) M := by
  refine Ct.of (bytes := cX1_tightSet) (ret := (some .int)) (lv0 := [some (.ref (xad ω b)), none, none]) m_cd_X1_tightSet m_in_X1 (by decide +kernel) (by decide +kernel) rfl rfl rfl rfl (fun hR => hR) ?_
  intro κ h he hR
  have ib := hI.1
  refine x_iconst h dX1_tightSet_0 ?_
  refine x_istore_n h dX1_tightSet_1 rfl rfl ?_
  dsimp only [xset]
  refine x_iconst h dX1_tightSet_2 ?_
  refine x_istore_n h dX1_tightSet_3 rfl rfl ?_
  dsimp only [xset]
  refine loop_up (fun k => X ω κ 4 [some (.ref (xad ω b)), some (.int (iI (xfo (fun (p acc : Int) => if clHas M b (M (b + 4) p) ∧ M (r + 2) (M (b + 2) p * 10 + M (b + 2) (M (b + 4) p)) = rchC M b p then bor acc (bshl 1 p) else acc) 0 k))), some (.int (iI (k : Int)))] [] M) ((M b 1).toNat) ?_ ?_
  · show X ω κ 4 [some (.ref (xad ω b)), some (.int (iI (xfo (fun (p acc : Int) => if clHas M b (M (b + 4) p) ∧ M (r + 2) (M (b + 2) p * 10 + M (b + 2) (M (b + 4) p)) = rchC M b p then bor acc (bshl 1 p) else acc) 0 (M b 1).toNat))), some (.int (iI (((M b 1).toNat : Nat) : Int)))] [] M
    have g0 : (((M b 1).toNat : Nat) : Int) = M b 1 := by omega
    refine x_iload_n h dX1_tightSet_4 rfl ?_
    refine x_aload_n h dX1_tightSet_5 rfl ?_
    refine x_geti (j := 1) 1 h dX1_tightSet_6 (sPe hc hb) rfl in_X1 rfl (by decide) m_fl_X1_9 rfl (fun r6 => ?_)
    refine x_icmp_ge h dX1_tightSet_9 (tgt := 61) (by decide) (by omega) (by omega) (fun q9 => ?_) (fun q9 => ?_)
    · refine x_iload_n h dX1_tightSet_61 rfl ?_
      exact x_iret (ret := none) h he dX1_tightSet_62 rfl (by first | rfl | omega | exact (bI_t (by omega)).symm | exact (bI_f (by omega)).symm) rfl
    · exfalso; omega
  · intro k hk ih
    replace ih : X ω κ 4 [some (.ref (xad ω b)), some (.int (iI (xfo (fun (p acc : Int) => if clHas M b (M (b + 4) p) ∧ M (r + 2) (M (b + 2) p * 10 + M (b + 2) (M (b + 4) p)) = rchC M b p then bor acc (bshl 1 p) else acc) 0 (k + 1)))), some (.int (iI ((k + 1 : Nat) : Int)))] [] M := ih
    show X ω κ 4 [some (.ref (xad ω b)), some (.int (iI (xfo (fun (p acc : Int) => if clHas M b (M (b + 4) p) ∧ M (r + 2) (M (b + 2) p * 10 + M (b + 2) (M (b + 4) p)) = rchC M b p then bor acc (bshl 1 p) else acc) 0 k))), some (.int (iI (k : Int)))] [] M
    have g0 : (k : Int) < M b 1 := by omega
    have hp : clHas M b (k : Int) := by omega
    have ip := hI.2.2 (k : Int) hp.1 hp.2.1
    have g3 := hR (r + 2) (M (b + 2) (k : Int) * 10 + M (b + 2) (M (b + 4) (k : Int)))
    have g4 := slk_R (M (b + 1) (k : Int))
    have g5 := slk_R (M (b + 1) (M (b + 4) (k : Int)))
    have im := hI.2.2 (M (b + 4) (k : Int))
    refine x_iload_n h dX1_tightSet_4 rfl ?_
    refine x_aload_n h dX1_tightSet_5 rfl ?_
    refine x_geti (j := 1) 1 h dX1_tightSet_6 (sPe hc hb) rfl in_X1 rfl (by decide) m_fl_X1_9 rfl (fun r6 => ?_)
    refine x_icmp_ge h dX1_tightSet_9 (tgt := 61) (by decide) (by omega) (by omega) (fun q9 => ?_) (fun q9 => ?_)
    · exfalso; omega
    · refine x_aload_n h dX1_tightSet_12 rfl ?_
      refine x_iload_n h dX1_tightSet_13 rfl ?_
      refine x_V1i h dX1_tightSet_14 m_ml_X1_104 m_im_X1_isTied m_se_X1_isTied (sPe hc hb) rfl (by decide) rfl (c_X1_isTied hc hb (by omega)) ?_
      refine x_ifeqB h dX1_tightSet_17 (tgt := 55) (by decide) (fun q17 => ?_) (fun q17 => ?_)
      · refine x_iinc h dX1_tightSet_55 rfl rfl rfl ?_
        dsimp only [xset]
        refine x_goto h dX1_tightSet_58 (tgt := 4) (by decide) ?_
        refine x_same ih (by first | (simp only [xfo, if_neg (show ¬ (clHas M b (M (b + 4) (k : Int)) ∧ M (r + 2) (M (b + 2) (k : Int) * 10 + M (b + 2) (M (b + 4) (k : Int))) = rchC M b (k : Int)) from fun z => q17 z.1)] <;> rfl) | (simp only [xfo, if_neg (show ¬ (clHas M b (M (b + 4) (k : Int)) ∧ M (r + 2) (M (b + 2) (k : Int) * 10 + M (b + 2) (M (b + 4) (k : Int))) = rchC M b (k : Int)) from fun z => q46 z.2)] <;> rfl) | (simp only [xfo, if_pos (And.intro q17 q46)] <;> rfl)) rfl rfl
      · refine x_aload_n h dX1_tightSet_20 rfl ?_
        refine x_getr (j := 0) (q := r) h dX1_tightSet_21 (sPe hc hb) rfl in_X1 rfl (by decide) m_fl_X1_52 ?_
        refine x_aload_n h dX1_tightSet_24 rfl ?_
        refine x_iload_n h dX1_tightSet_25 rfl ?_
        refine x_V1i h dX1_tightSet_26 m_ml_X1_70 m_im_X1_placeOf m_se_X1_placeOf (sPe hc hb) rfl (by decide) rfl (c_X1_placeOf hc hb (by omega)) ?_
        refine x_aload_n h dX1_tightSet_29 rfl ?_
        refine x_aload_n h dX1_tightSet_30 rfl ?_
        refine x_iload_n h dX1_tightSet_31 rfl ?_
        refine x_V1i h dX1_tightSet_32 m_ml_X1_81 m_im_X1_mateOf m_se_X1_mateOf (sPe hc hb) rfl (by decide) rfl (c_X1_mateOf hc hb (by omega)) ?_
        refine x_V1i h dX1_tightSet_35 m_ml_X1_70 m_im_X1_placeOf m_se_X1_placeOf (sPe hc hb) rfl (by decide) rfl (c_X1_placeOf hc hb (by omega)) ?_
        refine x_V2i h dX1_tightSet_38 m_ml_X1_87 m_im_X3_distance m_se_X3_distance (sRd hc ((pI_r hb))) rfl (by decide) rfl (c_X3_distance hc (pI_r hb) (by omega) (by omega)) ?_
        refine x_aload_n h dX1_tightSet_41 rfl ?_
        refine x_iload_n h dX1_tightSet_42 rfl ?_
        refine x_V1i h dX1_tightSet_43 m_ml_X1_93 m_im_X1_reach m_se_X1_reach (sPe hc hb) rfl (by decide) rfl (c_X1_reach hc hb hI (by omega) (by omega)) ?_
        refine x_icmp_ne h dX1_tightSet_46 (tgt := 55) (by decide) (by first | omega | (show inR (_ + _ + _); omega)) (by first | omega | (show inR (_ + _ + _); omega)) (fun q46 => ?_) (fun q46 => ?_)
        · refine x_iinc h dX1_tightSet_55 rfl rfl rfl ?_
          dsimp only [xset]
          refine x_goto h dX1_tightSet_58 (tgt := 4) (by decide) ?_
          refine x_same ih (by first | (simp only [xfo, if_neg (show ¬ (clHas M b (M (b + 4) (k : Int)) ∧ M (r + 2) (M (b + 2) (k : Int) * 10 + M (b + 2) (M (b + 4) (k : Int))) = rchC M b (k : Int)) from fun z => q17 z.1)] <;> rfl) | (simp only [xfo, if_neg (show ¬ (clHas M b (M (b + 4) (k : Int)) ∧ M (r + 2) (M (b + 2) (k : Int) * 10 + M (b + 2) (M (b + 4) (k : Int))) = rchC M b (k : Int)) from fun z => q46 z.2)] <;> rfl) | (simp only [xfo, if_pos (And.intro q17 q46)] <;> rfl)) rfl rfl
        · refine x_iload_n h dX1_tightSet_49 rfl ?_
          refine x_iconst h dX1_tightSet_50 ?_
          refine x_iload_n h dX1_tightSet_51 rfl ?_
          refine x_ishl h dX1_tightSet_52 (fun r52 => ?_)
          refine x_ior h dX1_tightSet_53 (fun r53 => ?_)
          refine x_istore_n h dX1_tightSet_54 rfl rfl ?_
          dsimp only [xset]
          refine x_iinc h dX1_tightSet_55 rfl rfl rfl ?_
          dsimp only [xset]
          refine x_goto h dX1_tightSet_58 (tgt := 4) (by decide) ?_
          refine x_same ih (by first | (simp only [xfo, if_neg (show ¬ (clHas M b (M (b + 4) (k : Int)) ∧ M (r + 2) (M (b + 2) (k : Int) * 10 + M (b + 2) (M (b + 4) (k : Int))) = rchC M b (k : Int)) from fun z => q17 z.1)] <;> rfl) | (simp only [xfo, if_neg (show ¬ (clHas M b (M (b + 4) (k : Int)) ∧ M (r + 2) (M (b + 2) (k : Int) * 10 + M (b + 2) (M (b + 4) (k : Int))) = rchC M b (k : Int)) from fun z => q46 z.2)] <;> rfl) | (simp only [xfo, if_pos (And.intro q17 q46)] <;> rfl)) rfl rfl
