/-! the class: its own methods, four: pairs, the tape, spots, sheets, images, counts -/
theorem rcC_3 {M : xMem} (hR : xR M) (hI : PeInv M 11) : rcC M 43 3 = M 11 1 ∧ xR (rcC M) := by
  have hK := rcK_R hR hI.1 (evF (M 11 1)).toNat
  exact ⟨by unfold rcC; rw [hK.2 43 (by decide) (by decide)]; exact rcH_3 hI.1, hK.1⟩
theorem evF_e {n : Int} : bshl 1 n - 1 = evF n := rfl
noncomputable def leastR (M : xMem) : Int := loF (rcC M 44) (evF (rcC M 43 3))
noncomputable def leastM (M : xMem) : xMem := rcC M
theorem dX6_least_0 : decode cX6_least 0 = .ok (.aload_n 0, 1) := by decide +kernel
theorem dX6_least_1 : decode cX6_least 1 = .ok (.getfield 55, 3) := by decide +kernel
theorem dX6_least_4 : decode cX6_least 4 = .ok (.aload_n 0, 1) := by decide +kernel
theorem dX6_least_5 : decode cX6_least 5 = .ok (.getfield 21, 3) := by decide +kernel
theorem dX6_least_8 : decode cX6_least 8 = .ok (.invokevirtual 237, 3) := by decide +kernel
theorem dX6_least_11 : decode cX6_least 11 = .ok (.aload_n 0, 1) := by decide +kernel
theorem dX6_least_12 : decode cX6_least 12 = .ok (.getfield 55, 3) := by decide +kernel
theorem dX6_least_15 : decode cX6_least 15 = .ok (.invokevirtual 240, 3) := by decide +kernel
theorem dX6_least_18 : decode cX6_least 18 = .ok (.ireturn, 1) := by decide +kernel
set_option maxHeartbeats 4000000 in
set_option maxRecDepth 100000 in
theorem c_X6_least {l : Launch} {ω : xO} (hc : xsh ω = clS)  {M : xMem} (hJ : CInv M)  : Ct l ω yX6_least ({ frames := 4, cells := 0, slots := 0, locals := 96 } : Room) 1 0 [.ref (xad ω 0)] M (some (.int (iI (leastR M)))) (leastM M) := by
  refine Ct.of (bytes := cX6_least) (ret := (some .int)) (lv0 := [some (.ref (xad ω 0))]) m_cd_X6_least m_in_X6 (by decide +kernel) (by decide +kernel) rfl rfl rfl rfl (fun hR => (rcC_3 hR hJ.1).2) ?_
  intro κ h he hR
  have hI := hJ.1
  have hD := hJ.2.1
  have hL := hJ.2.2.1
  have hn := hI.1
  have hck := hI.2.1
  have hrc := rcC_3 hR hI
  have hrn : 0 ≤ rcC M 43 3 ∧ rcC M 43 3 ≤ 8 := by rw [hrc.1]; exact hn
  refine x_aload_n h dX6_least_0 rfl ?_
  refine x_getr (j := 10) (q := 43) h dX6_least_1 (sC0 hc) rfl in_X6 rfl (by decide) m_fl_X6_55 ?_
  refine x_aload_n h dX6_least_4 rfl ?_
  refine x_getr (j := 1) (q := 11) h dX6_least_5 (sC0 hc) rfl in_X6 rfl (by decide) m_fl_X6_21 ?_
  refine x_V1v h dX6_least_8 m_ml_X6_237 m_im_X0_reckon m_se_X0_reckon (sC43 hc) rfl (by decide) rfl (c_X0_reckon hc hI) ?_
  refine x_aload_n h dX6_least_11 rfl ?_
  refine x_getr (j := 10) (q := 43) h dX6_least_12 (sC0 hc) rfl in_X6 rfl (by decide) m_fl_X6_55 ?_
  refine x_V0i h dX6_least_15 m_ml_X6_240 m_im_X0_leastOfAll m_se_X0_leastOfAll (sC43 hc) rfl (by decide) rfl (c_X0_leastOfAll hc hrn) ?_
  exact x_iret (ret := none) h he dX6_least_18 rfl rfl rfl

noncomputable def waysR (M : xMem) : Int := loF (rcC M 45) (evF (rcC M 43 3))
noncomputable def waysM (M : xMem) : xMem := rcC M
theorem dX6_ways_0 : decode cX6_ways 0 = .ok (.aload_n 0, 1) := by decide +kernel
theorem dX6_ways_1 : decode cX6_ways 1 = .ok (.getfield 55, 3) := by decide +kernel
theorem dX6_ways_4 : decode cX6_ways 4 = .ok (.aload_n 0, 1) := by decide +kernel
theorem dX6_ways_5 : decode cX6_ways 5 = .ok (.getfield 21, 3) := by decide +kernel
theorem dX6_ways_8 : decode cX6_ways 8 = .ok (.invokevirtual 237, 3) := by decide +kernel
theorem dX6_ways_11 : decode cX6_ways 11 = .ok (.aload_n 0, 1) := by decide +kernel
theorem dX6_ways_12 : decode cX6_ways 12 = .ok (.getfield 55, 3) := by decide +kernel
theorem dX6_ways_15 : decode cX6_ways 15 = .ok (.invokevirtual 246, 3) := by decide +kernel
theorem dX6_ways_18 : decode cX6_ways 18 = .ok (.ireturn, 1) := by decide +kernel
set_option maxHeartbeats 4000000 in
set_option maxRecDepth 100000 in
theorem c_X6_ways {l : Launch} {ω : xO} (hc : xsh ω = clS)  {M : xMem} (hJ : CInv M)  : Ct l ω yX6_ways ({ frames := 4, cells := 0, slots := 0, locals := 96 } : Room) 1 0 [.ref (xad ω 0)] M (some (.int (iI (waysR M)))) (waysM M) := by
  refine Ct.of (bytes := cX6_ways) (ret := (some .int)) (lv0 := [some (.ref (xad ω 0))]) m_cd_X6_ways m_in_X6 (by decide +kernel) (by decide +kernel) rfl rfl rfl rfl (fun hR => (rcC_3 hR hJ.1).2) ?_
  intro κ h he hR
  have hI := hJ.1
  have hD := hJ.2.1
  have hL := hJ.2.2.1
  have hn := hI.1
  have hck := hI.2.1
  have hrc := rcC_3 hR hI
  have hrn : 0 ≤ rcC M 43 3 ∧ rcC M 43 3 ≤ 8 := by rw [hrc.1]; exact hn
  refine x_aload_n h dX6_ways_0 rfl ?_
  refine x_getr (j := 10) (q := 43) h dX6_ways_1 (sC0 hc) rfl in_X6 rfl (by decide) m_fl_X6_55 ?_
  refine x_aload_n h dX6_ways_4 rfl ?_
  refine x_getr (j := 1) (q := 11) h dX6_ways_5 (sC0 hc) rfl in_X6 rfl (by decide) m_fl_X6_21 ?_
  refine x_V1v h dX6_ways_8 m_ml_X6_237 m_im_X0_reckon m_se_X0_reckon (sC43 hc) rfl (by decide) rfl (c_X0_reckon hc hI) ?_
  refine x_aload_n h dX6_ways_11 rfl ?_
  refine x_getr (j := 10) (q := 43) h dX6_ways_12 (sC0 hc) rfl in_X6 rfl (by decide) m_fl_X6_55 ?_
  refine x_V0i h dX6_ways_15 m_ml_X6_246 m_im_X0_numberOfBest m_se_X0_numberOfBest (sC43 hc) rfl (by decide) rfl (c_X0_numberOfBest hc hrn) ?_
  exact x_iret (ret := none) h he dX6_ways_18 rfl rfl rfl

noncomputable def mateR (M : xMem) (p : Int) : Int := if clHas M 11 p then poF (rcC M 44) (rcC M 46) (rcC M 43 3) p (rcC M 43 3).toNat 0 (evF (rcC M 43 3)) else -1000001
noncomputable def mateM (M : xMem) (p : Int) : xMem := if clHas M 11 p then rcC M else fndC M 0
theorem dX6_mate_0 : decode cX6_mate 0 = .ok (.aload_n 0, 1) := by decide +kernel
theorem dX6_mate_1 : decode cX6_mate 1 = .ok (.getfield 21, 3) := by decide +kernel
theorem dX6_mate_4 : decode cX6_mate 4 = .ok (.iload_n 1, 1) := by decide +kernel
theorem dX6_mate_5 : decode cX6_mate 5 = .ok (.invokevirtual 120, 3) := by decide +kernel
theorem dX6_mate_8 : decode cX6_mate 8 = .ok (.ifCond .ne 9, 3) := by decide +kernel
theorem dX6_mate_11 : decode cX6_mate 11 = .ok (.aload_n 0, 1) := by decide +kernel
theorem dX6_mate_12 : decode cX6_mate 12 = .ok (.iconst 0, 1) := by decide +kernel
theorem dX6_mate_13 : decode cX6_mate 13 = .ok (.invokevirtual 95, 3) := by decide +kernel
theorem dX6_mate_16 : decode cX6_mate 16 = .ok (.ireturn, 1) := by decide +kernel
theorem dX6_mate_17 : decode cX6_mate 17 = .ok (.aload_n 0, 1) := by decide +kernel
theorem dX6_mate_18 : decode cX6_mate 18 = .ok (.getfield 55, 3) := by decide +kernel
theorem dX6_mate_21 : decode cX6_mate 21 = .ok (.aload_n 0, 1) := by decide +kernel
theorem dX6_mate_22 : decode cX6_mate 22 = .ok (.getfield 21, 3) := by decide +kernel
theorem dX6_mate_25 : decode cX6_mate 25 = .ok (.invokevirtual 237, 3) := by decide +kernel
theorem dX6_mate_28 : decode cX6_mate 28 = .ok (.aload_n 0, 1) := by decide +kernel
theorem dX6_mate_29 : decode cX6_mate 29 = .ok (.getfield 55, 3) := by decide +kernel
theorem dX6_mate_32 : decode cX6_mate 32 = .ok (.iload_n 1, 1) := by decide +kernel
theorem dX6_mate_33 : decode cX6_mate 33 = .ok (.invokevirtual 243, 3) := by decide +kernel
theorem dX6_mate_36 : decode cX6_mate 36 = .ok (.ireturn, 1) := by decide +kernel
set_option maxHeartbeats 4000000 in
set_option maxRecDepth 100000 in
theorem c_X6_mate {l : Launch} {ω : xO} (hc : xsh ω = clS) {p : Int} {M : xMem} (hJ : CInv M) (h_p : inR p) : Ct l ω yX6_mate ({ frames := 4, cells := 0, slots := 0, locals := 96 } : Room) 2 1 [.ref (xad ω 0), .int (iI p)] M (some (.int (iI (mateR M p)))) (mateM M p) := by
  refine Ct.of (bytes := cX6_mate) (ret := (some .int)) (lv0 := [some (.ref (xad ω 0)), some (.int (iI p))]) m_cd_X6_mate m_in_X6 (by decide +kernel) (by decide +kernel) rfl rfl rfl rfl (fun hR => by unfold mateM; split; exact (rcC_3 hR hJ.1).2; exact fndC_R hR) ?_
  intro κ h he hR
  have hI := hJ.1
  have hD := hJ.2.1
  have hL := hJ.2.2.1
  have hn := hI.1
  have hck := hI.2.1
  have hrc := rcC_3 hR hI
  have hrn : 0 ≤ rcC M 43 3 ∧ rcC M 43 3 ≤ 8 := by rw [hrc.1]; exact hn
  refine x_aload_n h dX6_mate_0 rfl ?_
  refine x_getr (j := 1) (q := 11) h dX6_mate_1 (sC0 hc) rfl in_X6 rfl (by decide) m_fl_X6_21 ?_
  refine x_iload_n h dX6_mate_4 rfl ?_
  refine x_V1i h dX6_mate_5 m_ml_X6_120 m_im_X1_has m_se_X1_has (sPe hc ((Or.inl ⟨rfl, rfl⟩))) rfl (by decide) rfl (c_X1_has hc (Or.inl ⟨rfl, rfl⟩) (by omega)) ?_
  refine x_ifneB h dX6_mate_8 (tgt := 17) (by decide) (fun q8 => ?_) (fun q8 => ?_)
  · refine x_aload_n h dX6_mate_17 rfl ?_
    refine x_getr (j := 10) (q := 43) h dX6_mate_18 (sC0 hc) rfl in_X6 rfl (by decide) m_fl_X6_55 ?_
    refine x_aload_n h dX6_mate_21 rfl ?_
    refine x_getr (j := 1) (q := 11) h dX6_mate_22 (sC0 hc) rfl in_X6 rfl (by decide) m_fl_X6_21 ?_
    refine x_V1v h dX6_mate_25 m_ml_X6_237 m_im_X0_reckon m_se_X0_reckon (sC43 hc) rfl (by decide) rfl (c_X0_reckon hc hI) ?_
    refine x_aload_n h dX6_mate_28 rfl ?_
    refine x_getr (j := 10) (q := 43) h dX6_mate_29 (sC0 hc) rfl in_X6 rfl (by decide) m_fl_X6_55 ?_
    refine x_iload_n h dX6_mate_32 rfl ?_
    refine x_V1i h dX6_mate_33 m_ml_X6_243 m_im_X0_partnerOf m_se_X0_partnerOf (sC43 hc) rfl (by decide) rfl (c_X0_partnerOf hc hrn h_p) ?_
    exact x_iret (ret := none) h he dX6_mate_36 rfl (by unfold mateR; (repeat (first | rw [if_pos (by first | assumption | omega)] | rw [if_neg (by first | assumption | omega)])) <;> first | rfl | omega) (by unfold mateM; (repeat (first | rw [if_pos (by first | assumption | omega)] | rw [if_neg (by first | assumption | omega)])) <;> first | rfl | omega)
  · refine x_aload_n h dX6_mate_11 rfl ?_
    refine x_iconst h dX6_mate_12 ?_
    refine x_V1i h dX6_mate_13 m_ml_X6_95 m_im_X6_found m_se_X6_found (sC0 hc) rfl (by decide) rfl (c_X6_found hc (by omega)) ?_
    exact x_iret (ret := none) h he dX6_mate_16 rfl (by unfold mateR; (repeat (first | rw [if_pos (by first | assumption | omega)] | rw [if_neg (by first | assumption | omega)])) <;> first | rfl | omega) (by unfold mateM; (repeat (first | rw [if_pos (by first | assumption | omega)] | rw [if_neg (by first | assumption | omega)])) <;> first | rfl | omega)

noncomputable def fotF (M : xMem) (s p v : Int) : Int := if shI s then (if M 52 s = 0 then 5 else if clHas M 11 p ∧ 0 ≤ v ∧ v ≤ 99 then -1 else 0) else 0
theorem dX6_findingOfTold_0 : decode cX6_findingOfTold 0 = .ok (.iload_n 1, 1) := by decide +kernel
theorem dX6_findingOfTold_1 : decode cX6_findingOfTold 1 = .ok (.invokestatic 256, 3) := by decide +kernel
theorem dX6_findingOfTold_4 : decode cX6_findingOfTold 4 = .ok (.ifCond .ne 5, 3) := by decide +kernel
theorem dX6_findingOfTold_7 : decode cX6_findingOfTold 7 = .ok (.iconst 0, 1) := by decide +kernel
theorem dX6_findingOfTold_8 : decode cX6_findingOfTold 8 = .ok (.ireturn, 1) := by decide +kernel
theorem dX6_findingOfTold_9 : decode cX6_findingOfTold 9 = .ok (.aload_n 0, 1) := by decide +kernel
theorem dX6_findingOfTold_10 : decode cX6_findingOfTold 10 = .ok (.getfield 78, 3) := by decide +kernel
theorem dX6_findingOfTold_13 : decode cX6_findingOfTold 13 = .ok (.iload_n 1, 1) := by decide +kernel
theorem dX6_findingOfTold_14 : decode cX6_findingOfTold 14 = .ok (.invokevirtual 259, 3) := by decide +kernel
theorem dX6_findingOfTold_17 : decode cX6_findingOfTold 17 = .ok (.ifCond .eq 5, 3) := by decide +kernel
theorem dX6_findingOfTold_20 : decode cX6_findingOfTold 20 = .ok (.iconst 5, 1) := by decide +kernel
theorem dX6_findingOfTold_21 : decode cX6_findingOfTold 21 = .ok (.ireturn, 1) := by decide +kernel
theorem dX6_findingOfTold_22 : decode cX6_findingOfTold 22 = .ok (.aload_n 0, 1) := by decide +kernel
theorem dX6_findingOfTold_23 : decode cX6_findingOfTold 23 = .ok (.getfield 21, 3) := by decide +kernel
theorem dX6_findingOfTold_26 : decode cX6_findingOfTold 26 = .ok (.iload_n 2, 1) := by decide +kernel
theorem dX6_findingOfTold_27 : decode cX6_findingOfTold 27 = .ok (.invokevirtual 120, 3) := by decide +kernel
theorem dX6_findingOfTold_30 : decode cX6_findingOfTold 30 = .ok (.ifCond .eq 13, 3) := by decide +kernel
theorem dX6_findingOfTold_33 : decode cX6_findingOfTold 33 = .ok (.iload_n 3, 1) := by decide +kernel
theorem dX6_findingOfTold_34 : decode cX6_findingOfTold 34 = .ok (.ifCond .lt 9, 3) := by decide +kernel
theorem dX6_findingOfTold_37 : decode cX6_findingOfTold 37 = .ok (.iload_n 3, 1) := by decide +kernel
theorem dX6_findingOfTold_38 : decode cX6_findingOfTold 38 = .ok (.bipush 99, 2) := by decide +kernel
theorem dX6_findingOfTold_40 : decode cX6_findingOfTold 40 = .ok (.if_icmp .le 5, 3) := by decide +kernel
theorem dX6_findingOfTold_43 : decode cX6_findingOfTold 43 = .ok (.iconst 0, 1) := by decide +kernel
theorem dX6_findingOfTold_44 : decode cX6_findingOfTold 44 = .ok (.ireturn, 1) := by decide +kernel
theorem dX6_findingOfTold_45 : decode cX6_findingOfTold 45 = .ok (.iconst (-1), 1) := by decide +kernel
theorem dX6_findingOfTold_46 : decode cX6_findingOfTold 46 = .ok (.ireturn, 1) := by decide +kernel
set_option maxHeartbeats 4000000 in
set_option maxRecDepth 100000 in
theorem c_X6_findingOfTold {l : Launch} {ω : xO} (hc : xsh ω = clS) {s p v : Int} {M : xMem} (hs : inR s) (hp : inR p) (hv : inR v) : Ct l ω yX6_findingOfTold ({ frames := 3, cells := 0, slots := 0, locals := 62 } : Room) 4 3 [.ref (xad ω 0), .int (iI s), .int (iI p), .int (iI v)] M (some (.int (iI (fotF M s p v)))) M := by
  refine Ct.of (bytes := cX6_findingOfTold) (ret := (some .int)) (lv0 := [some (.ref (xad ω 0)), some (.int (iI s)), some (.int (iI p)), some (.int (iI v))]) m_cd_X6_findingOfTold m_in_X6 (by decide +kernel) (by decide +kernel) rfl rfl rfl rfl (fun hR => hR) ?_
  intro κ h he hR
  refine x_iload_n h dX6_findingOfTold_0 rfl ?_
  refine x_S1i h dX6_findingOfTold_1 m_ml_X6_256 m_st_X6_isSheet (by decide) rfl (c_X6_isSheet hc (by omega)) ?_
  refine x_ifneB h dX6_findingOfTold_4 (tgt := 9) (by decide) (fun q4 => ?_) (fun q4 => ?_)
  · refine x_aload_n h dX6_findingOfTold_9 rfl ?_
    refine x_getr (j := 13) (q := 51) h dX6_findingOfTold_10 (sC0 hc) rfl in_X6 rfl (by decide) m_fl_X6_78 ?_
    refine x_iload_n h dX6_findingOfTold_13 rfl ?_
    refine x_V1i h dX6_findingOfTold_14 m_ml_X6_259 m_im_X4_isMissing m_se_X4_isMissing (sC51 hc) rfl (by decide) rfl (c_X4_isMissing hc (by omega)) ?_
    refine x_ifeqB h dX6_findingOfTold_17 (tgt := 22) (by decide) (fun q17 => ?_) (fun q17 => ?_)
    · refine x_aload_n h dX6_findingOfTold_22 rfl ?_
      refine x_getr (j := 1) (q := 11) h dX6_findingOfTold_23 (sC0 hc) rfl in_X6 rfl (by decide) m_fl_X6_21 ?_
      refine x_iload_n h dX6_findingOfTold_26 rfl ?_
      refine x_V1i h dX6_findingOfTold_27 m_ml_X6_120 m_im_X1_has m_se_X1_has (sPe hc ((Or.inl ⟨rfl, rfl⟩))) rfl (by decide) rfl (c_X1_has hc (Or.inl ⟨rfl, rfl⟩) (by omega)) ?_
      refine x_ifeqB h dX6_findingOfTold_30 (tgt := 43) (by decide) (fun q30 => ?_) (fun q30 => ?_)
      · refine x_iconst h dX6_findingOfTold_43 ?_
        exact x_iret (ret := none) h he dX6_findingOfTold_44 rfl (by unfold fotF; (repeat (first | rw [if_pos (by first | assumption | omega)] | rw [if_neg (by first | assumption | omega)])) <;> first | rfl | omega) rfl
      · refine x_iload_n h dX6_findingOfTold_33 rfl ?_
        refine x_if_lt h dX6_findingOfTold_34 (tgt := 43) (by decide) (by omega) (fun q34 => ?_) (fun q34 => ?_)
        · refine x_iconst h dX6_findingOfTold_43 ?_
          exact x_iret (ret := none) h he dX6_findingOfTold_44 rfl (by unfold fotF; (repeat (first | rw [if_pos (by first | assumption | omega)] | rw [if_neg (by first | assumption | omega)])) <;> first | rfl | omega) rfl
        · refine x_iload_n h dX6_findingOfTold_37 rfl ?_
          refine x_bipush h dX6_findingOfTold_38 (by decide) ?_
          refine x_icmp_le h dX6_findingOfTold_40 (tgt := 45) (by decide) (by omega) (by omega) (fun q40 => ?_) (fun q40 => ?_)
          · refine x_iconst h dX6_findingOfTold_45 ?_
            exact x_iret (ret := none) h he dX6_findingOfTold_46 rfl (by unfold fotF; (repeat (first | rw [if_pos (by first | assumption | omega)] | rw [if_neg (by first | assumption | omega)])) <;> first | rfl | omega) rfl
          · refine x_iconst h dX6_findingOfTold_43 ?_
            exact x_iret (ret := none) h he dX6_findingOfTold_44 rfl (by unfold fotF; (repeat (first | rw [if_pos (by first | assumption | omega)] | rw [if_neg (by first | assumption | omega)])) <;> first | rfl | omega) rfl
    · refine x_iconst h dX6_findingOfTold_20 ?_
      exact x_iret (ret := none) h he dX6_findingOfTold_21 rfl (by unfold fotF; (repeat (first | rw [if_pos (by first | assumption | omega)] | rw [if_neg (by first | assumption | omega)])) <;> first | rfl | omega) rfl
  · refine x_iconst h dX6_findingOfTold_7 ?_
    exact x_iret (ret := none) h he dX6_findingOfTold_8 rfl (by unfold fotF; (repeat (first | rw [if_pos (by first | assumption | omega)] | rw [if_neg (by first | assumption | omega)])) <;> first | rfl | omega) rfl

def drM (M : xMem) : xMem := up M 0 3 (wr (M 0 3 * 1103515245 + 12345))
def drN (M : xMem) : Int := bushr (wr (M 0 3 * 1103515245 + 12345)) 8
theorem dX6_drawn_0 : decode cX6_drawn 0 = .ok (.aload_n 0, 1) := by decide +kernel
theorem dX6_drawn_1 : decode cX6_drawn 1 = .ok (.aload_n 0, 1) := by decide +kernel
theorem dX6_drawn_2 : decode cX6_drawn 2 = .ok (.getfield 29, 3) := by decide +kernel
theorem dX6_drawn_5 : decode cX6_drawn 5 = .ok (.ldc_w 281, 3) := by decide +kernel
theorem dX6_drawn_8 : decode cX6_drawn 8 = .ok (.imul, 1) := by decide +kernel
theorem dX6_drawn_9 : decode cX6_drawn 9 = .ok (.sipush 12345, 3) := by decide +kernel
theorem dX6_drawn_12 : decode cX6_drawn 12 = .ok (.iadd, 1) := by decide +kernel
theorem dX6_drawn_13 : decode cX6_drawn 13 = .ok (.putfield 29, 3) := by decide +kernel
theorem dX6_drawn_16 : decode cX6_drawn 16 = .ok (.aload_n 0, 1) := by decide +kernel
theorem dX6_drawn_17 : decode cX6_drawn 17 = .ok (.getfield 29, 3) := by decide +kernel
theorem dX6_drawn_20 : decode cX6_drawn 20 = .ok (.bipush 8, 2) := by decide +kernel
theorem dX6_drawn_22 : decode cX6_drawn 22 = .ok (.iushr, 1) := by decide +kernel
theorem dX6_drawn_23 : decode cX6_drawn 23 = .ok (.ireturn, 1) := by decide +kernel
set_option maxHeartbeats 4000000 in
set_option maxRecDepth 100000 in
theorem c_X6_drawn {l : Launch} {ω : xO} (hc : xsh ω = clS)  {M : xMem}  : Ct l ω yX6_drawn ({ frames := 0, cells := 0, slots := 0, locals := 0 } : Room) 1 0 [.ref (xad ω 0)] M (some (.int (iI (drN M)))) (drM M) := by
  refine Ct.of (bytes := cX6_drawn) (ret := (some .int)) (lv0 := [some (.ref (xad ω 0))]) m_cd_X6_drawn m_in_X6 (by decide +kernel) (by decide +kernel) rfl rfl rfl rfl (fun hR => up_R hR (wr_R _)) ?_
  intro κ h he hR
  refine x_aload_n h dX6_drawn_0 rfl ?_
  refine x_aload_n h dX6_drawn_1 rfl ?_
  refine x_geti (j := 3) 3 h dX6_drawn_2 (sC0 hc) rfl in_X6 rfl (by decide) m_fl_X6_29 rfl (fun r2 => ?_)
  refine x_ldcw h m_k_X6_281 dX6_drawn_5 ?_
  refine x_imul h dX6_drawn_8 ?_
  refine x_sipush h dX6_drawn_9 (by decide) ?_
  refine x_iadd h dX6_drawn_12 ?_
  refine x_wr (fun r13 => ?_)
  refine x_puti (j := 3) 3 h dX6_drawn_13 (sC0 hc) rfl in_X6 rfl (by decide) m_fl_X6_29 tyX6_ok nmX6 rfl (tyX6_ok 3 (by decide)) rfl rfl (by omega) rfl ?_
  refine x_aload_n h dX6_drawn_16 rfl ?_
  refine x_geti (j := 3) 3 h dX6_drawn_17 (sC0 hc) rfl in_X6 rfl (by decide) m_fl_X6_29 rfl (fun r17 => ?_)
  rw [show up M 0 3 (wr (M 0 3 * 1103515245 + 12345)) 0 3 = wr (M 0 3 * 1103515245 + 12345) from up_ss _ _ _ _]
  refine x_bipush h dX6_drawn_20 (by decide) ?_
  refine x_iushr h dX6_drawn_22 (fun r22 => ?_)
  exact x_iret (ret := none) h he dX6_drawn_23 rfl rfl rfl

noncomputable def feedR (M : xMem) (x n : Int) : Int := if 1 ≤ n ∧ n ≤ 4 then (if M 47 1 + n ≤ 120 then apC x n M n.toNat 47 1 else -1000002) else -1000001
noncomputable def feedM (M : xMem) (x n : Int) : xMem := if 1 ≤ n ∧ n ≤ 4 then (if M 47 1 + n ≤ 120 then apC x n M n.toNat else fndC M 1) else fndC M 0
theorem dX6_feed_0 : decode cX6_feed 0 = .ok (.iload_n 2, 1) := by decide +kernel
theorem dX6_feed_1 : decode cX6_feed 1 = .ok (.iconst 1, 1) := by decide +kernel
theorem dX6_feed_2 : decode cX6_feed 2 = .ok (.if_icmp .lt 8, 3) := by decide +kernel
theorem dX6_feed_5 : decode cX6_feed 5 = .ok (.iload_n 2, 1) := by decide +kernel
theorem dX6_feed_6 : decode cX6_feed 6 = .ok (.iconst 4, 1) := by decide +kernel
theorem dX6_feed_7 : decode cX6_feed 7 = .ok (.if_icmp .le 9, 3) := by decide +kernel
theorem dX6_feed_10 : decode cX6_feed 10 = .ok (.aload_n 0, 1) := by decide +kernel
theorem dX6_feed_11 : decode cX6_feed 11 = .ok (.iconst 0, 1) := by decide +kernel
theorem dX6_feed_12 : decode cX6_feed 12 = .ok (.invokevirtual 95, 3) := by decide +kernel
theorem dX6_feed_15 : decode cX6_feed 15 = .ok (.ireturn, 1) := by decide +kernel
theorem dX6_feed_16 : decode cX6_feed 16 = .ok (.aload_n 0, 1) := by decide +kernel
theorem dX6_feed_17 : decode cX6_feed 17 = .ok (.getfield 62, 3) := by decide +kernel
theorem dX6_feed_20 : decode cX6_feed 20 = .ok (.invokevirtual 282, 3) := by decide +kernel
theorem dX6_feed_23 : decode cX6_feed 23 = .ok (.iload_n 2, 1) := by decide +kernel
theorem dX6_feed_24 : decode cX6_feed 24 = .ok (.iadd, 1) := by decide +kernel
theorem dX6_feed_25 : decode cX6_feed 25 = .ok (.bipush 120, 2) := by decide +kernel
theorem dX6_feed_27 : decode cX6_feed 27 = .ok (.if_icmp .le 9, 3) := by decide +kernel
theorem dX6_feed_30 : decode cX6_feed 30 = .ok (.aload_n 0, 1) := by decide +kernel
theorem dX6_feed_31 : decode cX6_feed 31 = .ok (.iconst 1, 1) := by decide +kernel
theorem dX6_feed_32 : decode cX6_feed 32 = .ok (.invokevirtual 95, 3) := by decide +kernel
theorem dX6_feed_35 : decode cX6_feed 35 = .ok (.ireturn, 1) := by decide +kernel
theorem dX6_feed_36 : decode cX6_feed 36 = .ok (.aload_n 0, 1) := by decide +kernel
theorem dX6_feed_37 : decode cX6_feed 37 = .ok (.getfield 62, 3) := by decide +kernel
theorem dX6_feed_40 : decode cX6_feed 40 = .ok (.iload_n 1, 1) := by decide +kernel
theorem dX6_feed_41 : decode cX6_feed 41 = .ok (.iload_n 2, 1) := by decide +kernel
theorem dX6_feed_42 : decode cX6_feed 42 = .ok (.invokevirtual 285, 3) := by decide +kernel
theorem dX6_feed_45 : decode cX6_feed 45 = .ok (.aload_n 0, 1) := by decide +kernel
theorem dX6_feed_46 : decode cX6_feed 46 = .ok (.getfield 62, 3) := by decide +kernel
theorem dX6_feed_49 : decode cX6_feed 49 = .ok (.invokevirtual 282, 3) := by decide +kernel
theorem dX6_feed_52 : decode cX6_feed 52 = .ok (.ireturn, 1) := by decide +kernel
set_option maxHeartbeats 4000000 in
set_option maxRecDepth 100000 in
theorem c_X6_feed {l : Launch} {ω : xO} (hc : xsh ω = clS) {x n : Int} {M : xMem} (hJ : CInv M) (h_x : inR x) (h_n : inR n) : Ct l ω yX6_feed ({ frames := 1, cells := 0, slots := 0, locals := 23 } : Room) 3 2 [.ref (xad ω 0), .int (iI x), .int (iI n)] M (some (.int (iI (feedR M x n)))) (feedM M x n) := by
  refine Ct.of (bytes := cX6_feed) (ret := (some .int)) (lv0 := [some (.ref (xad ω 0)), some (.int (iI x)), some (.int (iI n))]) m_cd_X6_feed m_in_X6 (by decide +kernel) (by decide +kernel) rfl rfl rfl rfl (fun hR => by have ht := hJ.2.2.2.1; unfold feedM; (repeat' split) <;> first | exact fndC_R hR | exact apC_R hR (by omega) n.toNat (by omega)) ?_
  intro κ h he hR
  have hI := hJ.1
  have hD := hJ.2.1
  have hL := hJ.2.2.1
  have hn := hI.1
  have hck := hI.2.1
  have ht := hJ.2.2.2.1
  refine x_iload_n h dX6_feed_0 rfl ?_
  refine x_iconst h dX6_feed_1 ?_
  refine x_icmp_lt h dX6_feed_2 (tgt := 10) (by decide) (by omega) (by omega) (fun q2 => ?_) (fun q2 => ?_)
  · refine x_aload_n h dX6_feed_10 rfl ?_
    refine x_iconst h dX6_feed_11 ?_
    refine x_V1i h dX6_feed_12 m_ml_X6_95 m_im_X6_found m_se_X6_found (sC0 hc) rfl (by decide) rfl (c_X6_found hc (by omega)) ?_
    exact x_iret (ret := none) h he dX6_feed_15 rfl (by unfold feedR; (repeat (first | rw [if_pos (by first | assumption | omega)] | rw [if_neg (by first | assumption | omega)])) <;> first | rfl | omega) (by unfold feedM; (repeat (first | rw [if_pos (by first | assumption | omega)] | rw [if_neg (by first | assumption | omega)])) <;> first | rfl | omega)
  · refine x_iload_n h dX6_feed_5 rfl ?_
    refine x_iconst h dX6_feed_6 ?_
    refine x_icmp_le h dX6_feed_7 (tgt := 16) (by decide) (by omega) (by omega) (fun q7 => ?_) (fun q7 => ?_)
    · refine x_aload_n h dX6_feed_16 rfl ?_
      refine x_getr (j := 11) (q := 47) h dX6_feed_17 (sC0 hc) rfl in_X6 rfl (by decide) m_fl_X6_62 ?_
      refine x_V0i h dX6_feed_20 m_ml_X6_282 m_im_X5_size m_se_X5_size (sC47 hc) rfl (by decide) rfl (c_X5_size hc) ?_
      refine x_iload_n h dX6_feed_23 rfl ?_
      refine x_iadd h dX6_feed_24 ?_
      refine x_bipush h dX6_feed_25 (by decide) ?_
      refine x_icmp_le h dX6_feed_27 (tgt := 36) (by decide) (by omega) (by omega) (fun q27 => ?_) (fun q27 => ?_)
      · refine x_aload_n h dX6_feed_36 rfl ?_
        refine x_getr (j := 11) (q := 47) h dX6_feed_37 (sC0 hc) rfl in_X6 rfl (by decide) m_fl_X6_62 ?_
        refine x_iload_n h dX6_feed_40 rfl ?_
        refine x_iload_n h dX6_feed_41 rfl ?_
        refine x_V2v h dX6_feed_42 m_ml_X6_285 m_im_X5_append m_se_X5_append (sC47 hc) rfl (by decide) rfl (c_X5_append hc (by omega) (by omega)) ?_
        refine x_aload_n h dX6_feed_45 rfl ?_
        refine x_getr (j := 11) (q := 47) h dX6_feed_46 (sC0 hc) rfl in_X6 rfl (by decide) m_fl_X6_62 ?_
        refine x_V0i h dX6_feed_49 m_ml_X6_282 m_im_X5_size m_se_X5_size (sC47 hc) rfl (by decide) rfl (c_X5_size hc) ?_
        exact x_iret (ret := none) h he dX6_feed_52 rfl (by unfold feedR; (repeat (first | rw [if_pos (by first | assumption | omega)] | rw [if_neg (by first | assumption | omega)])) <;> first | rfl | omega) (by unfold feedM; (repeat (first | rw [if_pos (by first | assumption | omega)] | rw [if_neg (by first | assumption | omega)])) <;> first | rfl | omega)
      · refine x_aload_n h dX6_feed_30 rfl ?_
        refine x_iconst h dX6_feed_31 ?_
        refine x_V1i h dX6_feed_32 m_ml_X6_95 m_im_X6_found m_se_X6_found (sC0 hc) rfl (by decide) rfl (c_X6_found hc (by omega)) ?_
        exact x_iret (ret := none) h he dX6_feed_35 rfl (by unfold feedR; (repeat (first | rw [if_pos (by first | assumption | omega)] | rw [if_neg (by first | assumption | omega)])) <;> first | rfl | omega) (by unfold feedM; (repeat (first | rw [if_pos (by first | assumption | omega)] | rw [if_neg (by first | assumption | omega)])) <;> first | rfl | omega)
    · refine x_aload_n h dX6_feed_10 rfl ?_
      refine x_iconst h dX6_feed_11 ?_
      refine x_V1i h dX6_feed_12 m_ml_X6_95 m_im_X6_found m_se_X6_found (sC0 hc) rfl (by decide) rfl (c_X6_found hc (by omega)) ?_
      exact x_iret (ret := none) h he dX6_feed_15 rfl (by unfold feedR; (repeat (first | rw [if_pos (by first | assumption | omega)] | rw [if_neg (by first | assumption | omega)])) <;> first | rfl | omega) (by unfold feedM; (repeat (first | rw [if_pos (by first | assumption | omega)] | rw [if_neg (by first | assumption | omega)])) <;> first | rfl | omega)

noncomputable def wipeR (M : xMem) : Int := M 47 1
noncomputable def wipeM (M : xMem) : xMem := up M 47 1 0
theorem dX6_wipe_0 : decode cX6_wipe 0 = .ok (.aload_n 0, 1) := by decide +kernel
theorem dX6_wipe_1 : decode cX6_wipe 1 = .ok (.getfield 62, 3) := by decide +kernel
theorem dX6_wipe_4 : decode cX6_wipe 4 = .ok (.invokevirtual 282, 3) := by decide +kernel
theorem dX6_wipe_7 : decode cX6_wipe 7 = .ok (.istore_n 1, 1) := by decide +kernel
theorem dX6_wipe_8 : decode cX6_wipe 8 = .ok (.aload_n 0, 1) := by decide +kernel
theorem dX6_wipe_9 : decode cX6_wipe 9 = .ok (.getfield 62, 3) := by decide +kernel
theorem dX6_wipe_12 : decode cX6_wipe 12 = .ok (.invokevirtual 289, 3) := by decide +kernel
theorem dX6_wipe_15 : decode cX6_wipe 15 = .ok (.iload_n 1, 1) := by decide +kernel
theorem dX6_wipe_16 : decode cX6_wipe 16 = .ok (.ireturn, 1) := by decide +kernel
set_option maxHeartbeats 4000000 in
set_option maxRecDepth 100000 in
theorem c_X6_wipe {l : Launch} {ω : xO} (hc : xsh ω = clS)  {M : xMem} (hJ : CInv M)  : Ct l ω yX6_wipe ({ frames := 1, cells := 0, slots := 0, locals := 20 } : Room) 2 0 [.ref (xad ω 0)] M (some (.int (iI (wipeR M)))) (wipeM M) := by
  refine Ct.of (bytes := cX6_wipe) (ret := (some .int)) (lv0 := [some (.ref (xad ω 0)), none]) m_cd_X6_wipe m_in_X6 (by decide +kernel) (by decide +kernel) rfl rfl rfl rfl (fun hR => up_R hR (by decide)) ?_
  intro κ h he hR
  have hI := hJ.1
  have hD := hJ.2.1
  have hL := hJ.2.2.1
  have hn := hI.1
  have hck := hI.2.1
  refine x_aload_n h dX6_wipe_0 rfl ?_
  refine x_getr (j := 11) (q := 47) h dX6_wipe_1 (sC0 hc) rfl in_X6 rfl (by decide) m_fl_X6_62 ?_
  refine x_V0i h dX6_wipe_4 m_ml_X6_282 m_im_X5_size m_se_X5_size (sC47 hc) rfl (by decide) rfl (c_X5_size hc) ?_
  refine x_istore_n h dX6_wipe_7 rfl rfl ?_
  dsimp only [xset]
  refine x_aload_n h dX6_wipe_8 rfl ?_
  refine x_getr (j := 11) (q := 47) h dX6_wipe_9 (sC0 hc) rfl in_X6 rfl (by decide) m_fl_X6_62 ?_
  refine x_V0v h dX6_wipe_12 m_ml_X6_289 m_im_X5_clear m_se_X5_clear (sC47 hc) rfl (by decide) rfl (c_X5_clear hc) ?_
  refine x_iload_n h dX6_wipe_15 rfl ?_
  exact x_iret (ret := none) h he dX6_wipe_16 rfl rfl rfl

noncomputable def holdR (M : xMem) (i p : Int) : Int := if (0 ≤ i ∧ i < 10) ∧ (p = -1 ∨ clHas M 11 p) then 1 else -1000001
noncomputable def holdM (M : xMem) (i p : Int) : xMem := if (0 ≤ i ∧ i < 10) ∧ (p = -1 ∨ clHas M 11 p) then up M 41 i p else fndC M 0
theorem dX6_hold_0 : decode cX6_hold 0 = .ok (.iload_n 1, 1) := by decide +kernel
theorem dX6_hold_1 : decode cX6_hold 1 = .ok (.invokestatic 303, 3) := by decide +kernel
theorem dX6_hold_4 : decode cX6_hold 4 = .ok (.ifCond .eq 19, 3) := by decide +kernel
theorem dX6_hold_7 : decode cX6_hold 7 = .ok (.iload_n 2, 1) := by decide +kernel
theorem dX6_hold_8 : decode cX6_hold 8 = .ok (.iconst (-1), 1) := by decide +kernel
theorem dX6_hold_9 : decode cX6_hold 9 = .ok (.if_icmp .eq 20, 3) := by decide +kernel
theorem dX6_hold_12 : decode cX6_hold 12 = .ok (.aload_n 0, 1) := by decide +kernel
theorem dX6_hold_13 : decode cX6_hold 13 = .ok (.getfield 21, 3) := by decide +kernel
theorem dX6_hold_16 : decode cX6_hold 16 = .ok (.iload_n 2, 1) := by decide +kernel
theorem dX6_hold_17 : decode cX6_hold 17 = .ok (.invokevirtual 120, 3) := by decide +kernel
theorem dX6_hold_20 : decode cX6_hold 20 = .ok (.ifCond .ne 9, 3) := by decide +kernel
theorem dX6_hold_23 : decode cX6_hold 23 = .ok (.aload_n 0, 1) := by decide +kernel
theorem dX6_hold_24 : decode cX6_hold 24 = .ok (.iconst 0, 1) := by decide +kernel
theorem dX6_hold_25 : decode cX6_hold 25 = .ok (.invokevirtual 95, 3) := by decide +kernel
theorem dX6_hold_28 : decode cX6_hold 28 = .ok (.ireturn, 1) := by decide +kernel
theorem dX6_hold_29 : decode cX6_hold 29 = .ok (.aload_n 0, 1) := by decide +kernel
theorem dX6_hold_30 : decode cX6_hold 30 = .ok (.getfield 25, 3) := by decide +kernel
theorem dX6_hold_33 : decode cX6_hold 33 = .ok (.iload_n 1, 1) := by decide +kernel
theorem dX6_hold_34 : decode cX6_hold 34 = .ok (.iload_n 2, 1) := by decide +kernel
theorem dX6_hold_35 : decode cX6_hold 35 = .ok (.iastore, 1) := by decide +kernel
theorem dX6_hold_36 : decode cX6_hold 36 = .ok (.iconst 1, 1) := by decide +kernel
theorem dX6_hold_37 : decode cX6_hold 37 = .ok (.ireturn, 1) := by decide +kernel
set_option maxHeartbeats 4000000 in
set_option maxRecDepth 100000 in
theorem c_X6_hold {l : Launch} {ω : xO} (hc : xsh ω = clS) {i p : Int} {M : xMem} (hJ : CInv M) (h_i : inR i) (h_p : inR p) : Ct l ω yX6_hold ({ frames := 1, cells := 0, slots := 0, locals := 21 } : Room) 3 2 [.ref (xad ω 0), .int (iI i), .int (iI p)] M (some (.int (iI (holdR M i p)))) (holdM M i p) := by
  refine Ct.of (bytes := cX6_hold) (ret := (some .int)) (lv0 := [some (.ref (xad ω 0)), some (.int (iI i)), some (.int (iI p))]) m_cd_X6_hold m_in_X6 (by decide +kernel) (by decide +kernel) rfl rfl rfl rfl (fun hR => by unfold holdM; (repeat' split) <;> first | exact hR | exact fndC_R hR | (repeat' (first | exact hR | exact fndC_R hR | (with_reducible apply up_R) | (show inR _; omega)))) ?_
  intro κ h he hR
  have hI := hJ.1
  have hD := hJ.2.1
  have hL := hJ.2.2.1
  have hn := hI.1
  have hck := hI.2.1
  refine x_iload_n h dX6_hold_0 rfl ?_
  refine x_S1i h dX6_hold_1 m_ml_X6_303 m_st_X6_isSpot (by decide) rfl (c_X6_isSpot hc (by omega)) ?_
  refine x_ifeqB h dX6_hold_4 (tgt := 23) (by decide) (fun q4 => ?_) (fun q4 => ?_)
  · refine x_aload_n h dX6_hold_23 rfl ?_
    refine x_iconst h dX6_hold_24 ?_
    refine x_V1i h dX6_hold_25 m_ml_X6_95 m_im_X6_found m_se_X6_found (sC0 hc) rfl (by decide) rfl (c_X6_found hc (by omega)) ?_
    exact x_iret (ret := none) h he dX6_hold_28 rfl (by unfold holdR; (repeat (first | rw [if_pos (by first | assumption | omega)] | rw [if_neg (by first | assumption | omega)])) <;> first | rfl | omega) (by unfold holdM; (repeat (first | rw [if_pos (by first | assumption | omega)] | rw [if_neg (by first | assumption | omega)])) <;> first | rfl | omega)
  · refine x_iload_n h dX6_hold_7 rfl ?_
    refine x_iconst h dX6_hold_8 ?_
    refine x_icmp_eq h dX6_hold_9 (tgt := 29) (by decide) (by omega) (by omega) (fun q9 => ?_) (fun q9 => ?_)
    · refine x_aload_n h dX6_hold_29 rfl ?_
      refine x_getr (j := 2) (q := 41) h dX6_hold_30 (sC0 hc) rfl in_X6 rfl (by decide) m_fl_X6_25 ?_
      refine x_iload_n h dX6_hold_33 rfl ?_
      refine x_iload_n h dX6_hold_34 rfl ?_
      refine x_iastore h dX6_hold_35 (sC41 hc) (by omega) (by omega) ?_
      refine x_iconst h dX6_hold_36 ?_
      exact x_iret (ret := none) h he dX6_hold_37 rfl (by unfold holdR; (repeat (first | rw [if_pos (by first | assumption | omega)] | rw [if_neg (by first | assumption | omega)])) <;> first | rfl | omega) (by unfold holdM; (repeat (first | rw [if_pos (by first | assumption | omega)] | rw [if_neg (by first | assumption | omega)])) <;> first | rfl | omega)
    · refine x_aload_n h dX6_hold_12 rfl ?_
      refine x_getr (j := 1) (q := 11) h dX6_hold_13 (sC0 hc) rfl in_X6 rfl (by decide) m_fl_X6_21 ?_
      refine x_iload_n h dX6_hold_16 rfl ?_
      refine x_V1i h dX6_hold_17 m_ml_X6_120 m_im_X1_has m_se_X1_has (sPe hc ((Or.inl ⟨rfl, rfl⟩))) rfl (by decide) rfl (c_X1_has hc (Or.inl ⟨rfl, rfl⟩) (by omega)) ?_
      refine x_ifneB h dX6_hold_20 (tgt := 29) (by decide) (fun q20 => ?_) (fun q20 => ?_)
      · refine x_aload_n h dX6_hold_29 rfl ?_
        refine x_getr (j := 2) (q := 41) h dX6_hold_30 (sC0 hc) rfl in_X6 rfl (by decide) m_fl_X6_25 ?_
        refine x_iload_n h dX6_hold_33 rfl ?_
        refine x_iload_n h dX6_hold_34 rfl ?_
        refine x_iastore h dX6_hold_35 (sC41 hc) (by omega) (by omega) ?_
        refine x_iconst h dX6_hold_36 ?_
        exact x_iret (ret := none) h he dX6_hold_37 rfl (by unfold holdR; (repeat (first | rw [if_pos (by first | assumption | omega)] | rw [if_neg (by first | assumption | omega)])) <;> first | rfl | omega) (by unfold holdM; (repeat (first | rw [if_pos (by first | assumption | omega)] | rw [if_neg (by first | assumption | omega)])) <;> first | rfl | omega)
      · refine x_aload_n h dX6_hold_23 rfl ?_
        refine x_iconst h dX6_hold_24 ?_
        refine x_V1i h dX6_hold_25 m_ml_X6_95 m_im_X6_found m_se_X6_found (sC0 hc) rfl (by decide) rfl (c_X6_found hc (by omega)) ?_
        exact x_iret (ret := none) h he dX6_hold_28 rfl (by unfold holdR; (repeat (first | rw [if_pos (by first | assumption | omega)] | rw [if_neg (by first | assumption | omega)])) <;> first | rfl | omega) (by unfold holdM; (repeat (first | rw [if_pos (by first | assumption | omega)] | rw [if_neg (by first | assumption | omega)])) <;> first | rfl | omega)

def kaF (k : Int) : Int := if k = 1 then 0 else if k = 2 then 0 else if k = 3 then 2 else if k = 4 then 3 else if k = 5 then 0 else if k = 6 then 1 else -1
theorem kaF_R (k : Int) : -1 ≤ kaF k ∧ kaF k ≤ 6 := by unfold kaF; (repeat' split) <;> omega
def unP : Nat → Int → Int → Prop
  | 0, _, _ => False
  | d + 1, k, a => k = a ∨ unP d (kaF k) a
theorem dX6_kindAbove_0 : decode cX6_kindAbove 0 = .ok (.iload_n 0, 1) := by decide +kernel
theorem dX6_kindAbove_1 : decode cX6_kindAbove 1 = .ok (.tableswitch 51 1 6 #[39, 41, 45, 47, 43, 49], 39) := by decide +kernel
theorem dX6_kindAbove_40 : decode cX6_kindAbove 40 = .ok (.iconst 0, 1) := by decide +kernel
theorem dX6_kindAbove_41 : decode cX6_kindAbove 41 = .ok (.ireturn, 1) := by decide +kernel
theorem dX6_kindAbove_42 : decode cX6_kindAbove 42 = .ok (.iconst 0, 1) := by decide +kernel
theorem dX6_kindAbove_43 : decode cX6_kindAbove 43 = .ok (.ireturn, 1) := by decide +kernel
theorem dX6_kindAbove_44 : decode cX6_kindAbove 44 = .ok (.iconst 0, 1) := by decide +kernel
theorem dX6_kindAbove_45 : decode cX6_kindAbove 45 = .ok (.ireturn, 1) := by decide +kernel
theorem dX6_kindAbove_46 : decode cX6_kindAbove 46 = .ok (.iconst 2, 1) := by decide +kernel
theorem dX6_kindAbove_47 : decode cX6_kindAbove 47 = .ok (.ireturn, 1) := by decide +kernel
theorem dX6_kindAbove_48 : decode cX6_kindAbove 48 = .ok (.iconst 3, 1) := by decide +kernel
theorem dX6_kindAbove_49 : decode cX6_kindAbove 49 = .ok (.ireturn, 1) := by decide +kernel
theorem dX6_kindAbove_50 : decode cX6_kindAbove 50 = .ok (.iconst 1, 1) := by decide +kernel
theorem dX6_kindAbove_51 : decode cX6_kindAbove 51 = .ok (.ireturn, 1) := by decide +kernel
theorem dX6_kindAbove_52 : decode cX6_kindAbove 52 = .ok (.iconst (-1), 1) := by decide +kernel
theorem dX6_kindAbove_53 : decode cX6_kindAbove 53 = .ok (.ireturn, 1) := by decide +kernel
set_option maxHeartbeats 4000000 in
set_option maxRecDepth 100000 in
theorem c_X6_kindAbove {l : Launch} {ω : xO} (hc : xsh ω = clS) {k : Int} {M : xMem} (hk : inR k) : Ct l ω yX6_kindAbove ({ frames := 0, cells := 0, slots := 0, locals := 0 } : Room) 1 1 [.int (iI k)] M (some (.int (iI (kaF k)))) M := by
  refine Ct.of (bytes := cX6_kindAbove) (ret := (some .int)) (lv0 := [some (.int (iI k))]) m_cd_X6_kindAbove m_in_X6 (by decide +kernel) (by decide +kernel) rfl rfl rfl rfl (fun hR => hR) ?_
  intro κ h he hR
  refine x_iload_n h dX6_kindAbove_0 rfl ?_
  by_cases sw1 : k < 1 ∨ 6 < k
  · refine x_tsOut h dX6_kindAbove_1 (by omega) sw1 (tgt := 52) (by decide) ?_
    refine x_iconst h dX6_kindAbove_52 ?_
    exact x_iret (ret := none) h he dX6_kindAbove_53 rfl (by unfold kaF; (repeat' split) <;> first | rfl | omega) rfl
  rcases (show k = 1 ∨ k = 2 ∨ k = 3 ∨ k = 4 ∨ k = 5 ∨ k = 6 by omega) with q1 | q1 | q1 | q1 | q1 | q1
  · refine x_tsIn 1 h dX6_kindAbove_1 q1 (by decide) rfl (tgt := 40) (by decide) ?_
    refine x_iconst h dX6_kindAbove_40 ?_
    exact x_iret (ret := none) h he dX6_kindAbove_41 rfl (by unfold kaF; (repeat' split) <;> first | rfl | omega) rfl
  · refine x_tsIn 2 h dX6_kindAbove_1 q1 (by decide) rfl (tgt := 42) (by decide) ?_
    refine x_iconst h dX6_kindAbove_42 ?_
    exact x_iret (ret := none) h he dX6_kindAbove_43 rfl (by unfold kaF; (repeat' split) <;> first | rfl | omega) rfl
  · refine x_tsIn 3 h dX6_kindAbove_1 q1 (by decide) rfl (tgt := 46) (by decide) ?_
    refine x_iconst h dX6_kindAbove_46 ?_
    exact x_iret (ret := none) h he dX6_kindAbove_47 rfl (by unfold kaF; (repeat' split) <;> first | rfl | omega) rfl
  · refine x_tsIn 4 h dX6_kindAbove_1 q1 (by decide) rfl (tgt := 48) (by decide) ?_
    refine x_iconst h dX6_kindAbove_48 ?_
    exact x_iret (ret := none) h he dX6_kindAbove_49 rfl (by unfold kaF; (repeat' split) <;> first | rfl | omega) rfl
  · refine x_tsIn 5 h dX6_kindAbove_1 q1 (by decide) rfl (tgt := 44) (by decide) ?_
    refine x_iconst h dX6_kindAbove_44 ?_
    exact x_iret (ret := none) h he dX6_kindAbove_45 rfl (by unfold kaF; (repeat' split) <;> first | rfl | omega) rfl
  · refine x_tsIn 6 h dX6_kindAbove_1 q1 (by decide) rfl (tgt := 50) (by decide) ?_
    refine x_iconst h dX6_kindAbove_50 ?_
    exact x_iret (ret := none) h he dX6_kindAbove_51 rfl (by unfold kaF; (repeat' split) <;> first | rfl | omega) rfl

theorem dX6_isUnder_0 : decode cX6_isUnder 0 = .ok (.iload_n 0, 1) := by decide +kernel
theorem dX6_isUnder_1 : decode cX6_isUnder 1 = .ok (.istore_n 2, 1) := by decide +kernel
theorem dX6_isUnder_2 : decode cX6_isUnder 2 = .ok (.iconst 0, 1) := by decide +kernel
theorem dX6_isUnder_3 : decode cX6_isUnder 3 = .ok (.istore_n 3, 1) := by decide +kernel
theorem dX6_isUnder_4 : decode cX6_isUnder 4 = .ok (.iload_n 3, 1) := by decide +kernel
theorem dX6_isUnder_5 : decode cX6_isUnder 5 = .ok (.bipush 7, 2) := by decide +kernel
theorem dX6_isUnder_7 : decode cX6_isUnder 7 = .ok (.if_icmp .ge 21, 3) := by decide +kernel
theorem dX6_isUnder_10 : decode cX6_isUnder 10 = .ok (.iload_n 2, 1) := by decide +kernel
theorem dX6_isUnder_11 : decode cX6_isUnder 11 = .ok (.iload_n 1, 1) := by decide +kernel
theorem dX6_isUnder_12 : decode cX6_isUnder 12 = .ok (.if_icmp .ne 5, 3) := by decide +kernel
theorem dX6_isUnder_15 : decode cX6_isUnder 15 = .ok (.iconst 1, 1) := by decide +kernel
theorem dX6_isUnder_16 : decode cX6_isUnder 16 = .ok (.ireturn, 1) := by decide +kernel
theorem dX6_isUnder_17 : decode cX6_isUnder 17 = .ok (.iload_n 2, 1) := by decide +kernel
theorem dX6_isUnder_18 : decode cX6_isUnder 18 = .ok (.invokestatic 347, 3) := by decide +kernel
theorem dX6_isUnder_21 : decode cX6_isUnder 21 = .ok (.istore_n 2, 1) := by decide +kernel
theorem dX6_isUnder_22 : decode cX6_isUnder 22 = .ok (.iinc 3 1, 3) := by decide +kernel
theorem dX6_isUnder_25 : decode cX6_isUnder 25 = .ok (.goto (-21), 3) := by decide +kernel
theorem dX6_isUnder_28 : decode cX6_isUnder 28 = .ok (.iconst 0, 1) := by decide +kernel
theorem dX6_isUnder_29 : decode cX6_isUnder 29 = .ok (.ireturn, 1) := by decide +kernel
set_option maxHeartbeats 4000000 in
set_option maxRecDepth 100000 in
theorem c_X6_isUnder {l : Launch} {ω : xO} (hc : xsh ω = clS) {k a : Int} {M : xMem} (hk : -1 ≤ k ∧ k ≤ 6) (ha : inR a) : Ct l ω yX6_isUnder ({ frames := 1, cells := 0, slots := 0, locals := 20 } : Room) 4 2 [.int (iI k), .int (iI a)] M (some (.int (iI (bI (unP 7 k a))))) M := by
  refine Ct.of (bytes := cX6_isUnder) (ret := (some .boolean)) (lv0 := [some (.int (iI k)), some (.int (iI a)), none, none]) m_cd_X6_isUnder m_in_X6 (by decide +kernel) (by decide +kernel) rfl rfl rfl rfl (fun hR => hR) ?_
  intro κ h he hR
  refine x_iload_n h dX6_isUnder_0 rfl ?_
  refine x_istore_n h dX6_isUnder_1 rfl rfl ?_
  dsimp only [xset]
  refine x_iconst h dX6_isUnder_2 ?_
  refine x_istore_n h dX6_isUnder_3 rfl rfl ?_
  dsimp only [xset]
  have H : ∀ (d : Nat) (i c' : Int), 0 ≤ i → i + d = 7 → -1 ≤ c' ∧ c' ≤ 6 → (unP d c' a ↔ unP 7 k a) → X ω κ 4 [some (.int (iI k)), some (.int (iI a)), some (.int (iI c')), some (.int (iI i))] [] M := by
    intro d
    induction d with
    | zero =>
      intro i c' hi0 hid hc' e
      refine x_iload_n h dX6_isUnder_4 rfl ?_
      refine x_bipush h dX6_isUnder_5 (by decide) ?_
      refine x_icmp_ge h dX6_isUnder_7 (tgt := 28) (by decide) (by omega) (by omega) (fun q7 => ?_) (fun q7 => ?_)
      · refine x_iconst h dX6_isUnder_28 ?_
        exact x_zret h he dX6_isUnder_29 (by first | exact Or.inl rfl | exact Or.inr rfl | exact bI_01 _ | omega) rfl (bI_f (fun z => e.mpr z)).symm rfl
      · exfalso; omega
    | succ d ih =>
      intro i c' hi0 hid hc' e
      have hk2 := kaF_R c'
      refine x_iload_n h dX6_isUnder_4 rfl ?_
      refine x_bipush h dX6_isUnder_5 (by decide) ?_
      refine x_icmp_ge h dX6_isUnder_7 (tgt := 28) (by decide) (by omega) (by omega) (fun q7 => ?_) (fun q7 => ?_)
      · exfalso; omega
      · refine x_iload_n h dX6_isUnder_10 rfl ?_
        refine x_iload_n h dX6_isUnder_11 rfl ?_
        refine x_icmp_ne h dX6_isUnder_12 (tgt := 17) (by decide) (by omega) (by omega) (fun q12 => ?_) (fun q12 => ?_)
        · refine x_iload_n h dX6_isUnder_17 rfl ?_
          refine x_S1i h dX6_isUnder_18 m_ml_X6_347 m_st_X6_kindAbove (by decide) rfl (c_X6_kindAbove hc (by omega)) ?_
          refine x_istore_n h dX6_isUnder_21 rfl rfl ?_
          dsimp only [xset]
          refine x_iinc h dX6_isUnder_22 rfl rfl rfl ?_
          dsimp only [xset]
          refine x_goto h dX6_isUnder_25 (tgt := 4) (by decide) ?_
          exact ih (i + 1) (kaF c') (by omega) (by omega) hk2 ⟨fun z => e.mp (Or.inr z), fun z => (e.mpr z).elim (fun y => absurd y q12) id⟩
        · refine x_iconst h dX6_isUnder_15 ?_
          exact x_zret h he dX6_isUnder_16 (by first | exact Or.inl rfl | exact Or.inr rfl | exact bI_01 _ | omega) rfl (bI_t (e.mp (Or.inl q12))).symm rfl
  exact H 7 0 k (by omega) (by omega) (by omega) Iff.rfl

noncomputable def asR (M : xMem) (i k : Int) : Int := if (0 ≤ i ∧ i < 10) ∧ (0 ≤ k ∧ k < 7) then (if M 41 i = -1 then -1000006 else tI (unP 7 (M (11 + 1) (M 41 i)) k) (M 41 i) (-1000003)) else -1000001
noncomputable def asM (M : xMem) (i k : Int) : xMem := if (0 ≤ i ∧ i < 10) ∧ (0 ≤ k ∧ k < 7) then (if M 41 i = -1 then fndC M 5 else tI (unP 7 (M (11 + 1) (M 41 i)) k) M (fndC M 2)) else fndC M 0
theorem dX6_as_0 : decode cX6_as 0 = .ok (.iload_n 1, 1) := by decide +kernel
theorem dX6_as_1 : decode cX6_as 1 = .ok (.invokestatic 303, 3) := by decide +kernel
theorem dX6_as_4 : decode cX6_as 4 = .ok (.ifCond .eq 10, 3) := by decide +kernel
theorem dX6_as_7 : decode cX6_as 7 = .ok (.iload_n 2, 1) := by decide +kernel
theorem dX6_as_8 : decode cX6_as 8 = .ok (.invokestatic 110, 3) := by decide +kernel
theorem dX6_as_11 : decode cX6_as 11 = .ok (.ifCond .ne 9, 3) := by decide +kernel
theorem dX6_as_14 : decode cX6_as 14 = .ok (.aload_n 0, 1) := by decide +kernel
theorem dX6_as_15 : decode cX6_as 15 = .ok (.iconst 0, 1) := by decide +kernel
theorem dX6_as_16 : decode cX6_as 16 = .ok (.invokevirtual 95, 3) := by decide +kernel
theorem dX6_as_19 : decode cX6_as 19 = .ok (.ireturn, 1) := by decide +kernel
theorem dX6_as_20 : decode cX6_as 20 = .ok (.aload_n 0, 1) := by decide +kernel
theorem dX6_as_21 : decode cX6_as 21 = .ok (.getfield 25, 3) := by decide +kernel
theorem dX6_as_24 : decode cX6_as 24 = .ok (.iload_n 1, 1) := by decide +kernel
theorem dX6_as_25 : decode cX6_as 25 = .ok (.iaload, 1) := by decide +kernel
theorem dX6_as_26 : decode cX6_as 26 = .ok (.istore_n 3, 1) := by decide +kernel
theorem dX6_as_27 : decode cX6_as 27 = .ok (.iload_n 3, 1) := by decide +kernel
theorem dX6_as_28 : decode cX6_as 28 = .ok (.iconst (-1), 1) := by decide +kernel
theorem dX6_as_29 : decode cX6_as 29 = .ok (.if_icmp .ne 9, 3) := by decide +kernel
theorem dX6_as_32 : decode cX6_as 32 = .ok (.aload_n 0, 1) := by decide +kernel
theorem dX6_as_33 : decode cX6_as 33 = .ok (.iconst 5, 1) := by decide +kernel
theorem dX6_as_34 : decode cX6_as 34 = .ok (.invokevirtual 95, 3) := by decide +kernel
theorem dX6_as_37 : decode cX6_as 37 = .ok (.ireturn, 1) := by decide +kernel
theorem dX6_as_38 : decode cX6_as 38 = .ok (.aload_n 0, 1) := by decide +kernel
theorem dX6_as_39 : decode cX6_as 39 = .ok (.getfield 21, 3) := by decide +kernel
theorem dX6_as_42 : decode cX6_as 42 = .ok (.iload_n 3, 1) := by decide +kernel
theorem dX6_as_43 : decode cX6_as 43 = .ok (.invokevirtual 123, 3) := by decide +kernel
theorem dX6_as_46 : decode cX6_as 46 = .ok (.iload_n 2, 1) := by decide +kernel
theorem dX6_as_47 : decode cX6_as 47 = .ok (.invokestatic 306, 3) := by decide +kernel
theorem dX6_as_50 : decode cX6_as 50 = .ok (.ifCond .eq 7, 3) := by decide +kernel
theorem dX6_as_53 : decode cX6_as 53 = .ok (.iload_n 3, 1) := by decide +kernel
theorem dX6_as_54 : decode cX6_as 54 = .ok (.goto 8, 3) := by decide +kernel
theorem dX6_as_57 : decode cX6_as 57 = .ok (.aload_n 0, 1) := by decide +kernel
theorem dX6_as_58 : decode cX6_as 58 = .ok (.iconst 2, 1) := by decide +kernel
theorem dX6_as_59 : decode cX6_as 59 = .ok (.invokevirtual 95, 3) := by decide +kernel
theorem dX6_as_62 : decode cX6_as 62 = .ok (.ireturn, 1) := by decide +kernel
set_option maxHeartbeats 4000000 in
set_option maxRecDepth 100000 in
theorem c_X6_as {l : Launch} {ω : xO} (hc : xsh ω = clS) {i k : Int} {M : xMem} (hJ : CInv M) (h_i : inR i) (h_k : inR k) (hsp : ∀ i, 0 ≤ i → i < 10 → -1 ≤ M 41 i ∧ M 41 i < M 11 1) : Ct l ω yX6_as ({ frames := 2, cells := 0, slots := 0, locals := 43 } : Room) 4 2 [.ref (xad ω 0), .int (iI i), .int (iI k)] M (some (.int (iI (asR M i k)))) (asM M i k) := by
  refine Ct.of (bytes := cX6_as) (ret := (some .int)) (lv0 := [some (.ref (xad ω 0)), some (.int (iI i)), some (.int (iI k)), none]) m_cd_X6_as m_in_X6 (by decide +kernel) (by decide +kernel) rfl rfl rfl rfl (fun hR => by unfold asM tI; (repeat' split) <;> first | exact fndC_R hR | exact hR) ?_
  intro κ h he hR
  have hI := hJ.1
  have hD := hJ.2.1
  have hL := hJ.2.2.1
  have hn := hI.1
  have hck := hI.2.1
  refine x_iload_n h dX6_as_0 rfl ?_
  refine x_S1i h dX6_as_1 m_ml_X6_303 m_st_X6_isSpot (by decide) rfl (c_X6_isSpot hc (by omega)) ?_
  refine x_ifeqB h dX6_as_4 (tgt := 14) (by decide) (fun q4 => ?_) (fun q4 => ?_)
  · refine x_aload_n h dX6_as_14 rfl ?_
    refine x_iconst h dX6_as_15 ?_
    refine x_V1i h dX6_as_16 m_ml_X6_95 m_im_X6_found m_se_X6_found (sC0 hc) rfl (by decide) rfl (c_X6_found hc (by omega)) ?_
    exact x_iret (ret := none) h he dX6_as_19 rfl (by unfold asR; first | (rw [if_neg (by omega)] <;> rfl) | (rw [if_pos (by omega), if_pos (by assumption)] <;> rfl) | (rw [if_pos (by omega), if_neg (by assumption), tI_p (by assumption)] <;> rfl) | (rw [if_pos (by omega), if_neg (by assumption), tI_n (by assumption)] <;> rfl)) (by unfold asM; first | rw [if_neg (by omega)] | rw [if_pos (by omega), if_pos (by assumption)] | rw [if_pos (by omega), if_neg (by assumption), tI_p (by assumption)] | rw [if_pos (by omega), if_neg (by assumption), tI_n (by assumption)])
  · refine x_iload_n h dX6_as_7 rfl ?_
    refine x_S1i h dX6_as_8 m_ml_X6_110 m_st_X6_isKind (by decide) rfl (c_X6_isKind hc (by omega)) ?_
    refine x_ifneB h dX6_as_11 (tgt := 20) (by decide) (fun q11 => ?_) (fun q11 => ?_)
    · refine x_aload_n h dX6_as_20 rfl ?_
      refine x_getr (j := 2) (q := 41) h dX6_as_21 (sC0 hc) rfl in_X6 rfl (by decide) m_fl_X6_25 ?_
      refine x_iload_n h dX6_as_24 rfl ?_
      refine x_iaload h dX6_as_25 (sC41 hc) (by omega) (fun r25 => ?_)
      refine x_istore_n h dX6_as_26 rfl rfl ?_
      dsimp only [xset]
      refine x_iload_n h dX6_as_27 rfl ?_
      refine x_iconst h dX6_as_28 ?_
      refine x_icmp_ne h dX6_as_29 (tgt := 38) (by decide) (by omega) (by omega) (fun q29 => ?_) (fun q29 => ?_)
      · have hs1 := hsp i (by omega) (by omega)
        have ip := hI.2.2 (M 41 i) (by omega) (by omega)
        refine x_aload_n h dX6_as_38 rfl ?_
        refine x_getr (j := 1) (q := 11) h dX6_as_39 (sC0 hc) rfl in_X6 rfl (by decide) m_fl_X6_21 ?_
        refine x_iload_n h dX6_as_42 rfl ?_
        refine x_V1i h dX6_as_43 m_ml_X6_123 m_im_X1_kindOf m_se_X1_kindOf (sPe hc ((Or.inl ⟨rfl, rfl⟩))) rfl (by decide) rfl (c_X1_kindOf hc (Or.inl ⟨rfl, rfl⟩) (by omega)) ?_
        refine x_iload_n h dX6_as_46 rfl ?_
        refine x_S2i h dX6_as_47 m_ml_X6_306 m_st_X6_isUnder (by decide) rfl (c_X6_isUnder hc (by omega) (by omega)) ?_
        refine x_ifeqB h dX6_as_50 (tgt := 57) (by decide) (fun q50 => ?_) (fun q50 => ?_)
        · refine x_aload_n h dX6_as_57 rfl ?_
          refine x_iconst h dX6_as_58 ?_
          refine x_V1i h dX6_as_59 m_ml_X6_95 m_im_X6_found m_se_X6_found (sC0 hc) rfl (by decide) rfl (c_X6_found hc (by omega)) ?_
          exact x_iret (ret := none) h he dX6_as_62 rfl (by unfold asR; first | (rw [if_neg (by omega)] <;> rfl) | (rw [if_pos (by omega), if_pos (by assumption)] <;> rfl) | (rw [if_pos (by omega), if_neg (by assumption), tI_p (by assumption)] <;> rfl) | (rw [if_pos (by omega), if_neg (by assumption), tI_n (by assumption)] <;> rfl)) (by unfold asM; first | rw [if_neg (by omega)] | rw [if_pos (by omega), if_pos (by assumption)] | rw [if_pos (by omega), if_neg (by assumption), tI_p (by assumption)] | rw [if_pos (by omega), if_neg (by assumption), tI_n (by assumption)])
        · refine x_iload_n h dX6_as_53 rfl ?_
          refine x_goto h dX6_as_54 (tgt := 62) (by decide) ?_
          exact x_iret (ret := none) h he dX6_as_62 rfl (by unfold asR; first | (rw [if_neg (by omega)] <;> rfl) | (rw [if_pos (by omega), if_pos (by assumption)] <;> rfl) | (rw [if_pos (by omega), if_neg (by assumption), tI_p (by assumption)] <;> rfl) | (rw [if_pos (by omega), if_neg (by assumption), tI_n (by assumption)] <;> rfl)) (by unfold asM; first | rw [if_neg (by omega)] | rw [if_pos (by omega), if_pos (by assumption)] | rw [if_pos (by omega), if_neg (by assumption), tI_p (by assumption)] | rw [if_pos (by omega), if_neg (by assumption), tI_n (by assumption)])
      · refine x_aload_n h dX6_as_32 rfl ?_
        refine x_iconst h dX6_as_33 ?_
        refine x_V1i h dX6_as_34 m_ml_X6_95 m_im_X6_found m_se_X6_found (sC0 hc) rfl (by decide) rfl (c_X6_found hc (by omega)) ?_
        exact x_iret (ret := none) h he dX6_as_37 rfl (by unfold asR; first | (rw [if_neg (by omega)] <;> rfl) | (rw [if_pos (by omega), if_pos (by assumption)] <;> rfl) | (rw [if_pos (by omega), if_neg (by assumption), tI_p (by assumption)] <;> rfl) | (rw [if_pos (by omega), if_neg (by assumption), tI_n (by assumption)] <;> rfl)) (by unfold asM; first | rw [if_neg (by omega)] | rw [if_pos (by omega), if_pos (by assumption)] | rw [if_pos (by omega), if_neg (by assumption), tI_p (by assumption)] | rw [if_pos (by omega), if_neg (by assumption), tI_n (by assumption)])
    · refine x_aload_n h dX6_as_14 rfl ?_
      refine x_iconst h dX6_as_15 ?_
      refine x_V1i h dX6_as_16 m_ml_X6_95 m_im_X6_found m_se_X6_found (sC0 hc) rfl (by decide) rfl (c_X6_found hc (by omega)) ?_
      exact x_iret (ret := none) h he dX6_as_19 rfl (by unfold asR; first | (rw [if_neg (by omega)] <;> rfl) | (rw [if_pos (by omega), if_pos (by assumption)] <;> rfl) | (rw [if_pos (by omega), if_neg (by assumption), tI_p (by assumption)] <;> rfl) | (rw [if_pos (by omega), if_neg (by assumption), tI_n (by assumption)] <;> rfl)) (by unfold asM; first | rw [if_neg (by omega)] | rw [if_pos (by omega), if_pos (by assumption)] | rw [if_pos (by omega), if_neg (by assumption), tI_p (by assumption)] | rw [if_pos (by omega), if_neg (by assumption), tI_n (by assumption)])

noncomputable def sheetR (M : xMem) (s b n : Int) : Int := if shI s ∧ (b = 0 ∨ b = 8 ∨ b = 16 ∨ b = 32) then (if n < 0 then -1000007 else if n ≤ 40 then slC M s b n 53 s else -1000001) else -1000001
noncomputable def sheetM (M : xMem) (s b n : Int) : xMem := if shI s ∧ (b = 0 ∨ b = 8 ∨ b = 16 ∨ b = 32) then (if n < 0 then fndC M 6 else if n ≤ 40 then slC M s b n else fndC M 0) else fndC M 0
theorem dX6_sheet_0 : decode cX6_sheet 0 = .ok (.iload_n 1, 1) := by decide +kernel
theorem dX6_sheet_1 : decode cX6_sheet 1 = .ok (.invokestatic 256, 3) := by decide +kernel
theorem dX6_sheet_4 : decode cX6_sheet 4 = .ok (.ifCond .eq 25, 3) := by decide +kernel
theorem dX6_sheet_7 : decode cX6_sheet 7 = .ok (.iload_n 2, 1) := by decide +kernel
theorem dX6_sheet_8 : decode cX6_sheet 8 = .ok (.ifCond .eq 27, 3) := by decide +kernel
theorem dX6_sheet_11 : decode cX6_sheet 11 = .ok (.iload_n 2, 1) := by decide +kernel
theorem dX6_sheet_12 : decode cX6_sheet 12 = .ok (.bipush 8, 2) := by decide +kernel
theorem dX6_sheet_14 : decode cX6_sheet 14 = .ok (.if_icmp .eq 21, 3) := by decide +kernel
theorem dX6_sheet_17 : decode cX6_sheet 17 = .ok (.iload_n 2, 1) := by decide +kernel
theorem dX6_sheet_18 : decode cX6_sheet 18 = .ok (.bipush 16, 2) := by decide +kernel
theorem dX6_sheet_20 : decode cX6_sheet 20 = .ok (.if_icmp .eq 15, 3) := by decide +kernel
theorem dX6_sheet_23 : decode cX6_sheet 23 = .ok (.iload_n 2, 1) := by decide +kernel
theorem dX6_sheet_24 : decode cX6_sheet 24 = .ok (.bipush 32, 2) := by decide +kernel
theorem dX6_sheet_26 : decode cX6_sheet 26 = .ok (.if_icmp .eq 9, 3) := by decide +kernel
theorem dX6_sheet_29 : decode cX6_sheet 29 = .ok (.aload_n 0, 1) := by decide +kernel
theorem dX6_sheet_30 : decode cX6_sheet 30 = .ok (.iconst 0, 1) := by decide +kernel
theorem dX6_sheet_31 : decode cX6_sheet 31 = .ok (.invokevirtual 95, 3) := by decide +kernel
theorem dX6_sheet_34 : decode cX6_sheet 34 = .ok (.ireturn, 1) := by decide +kernel
theorem dX6_sheet_35 : decode cX6_sheet 35 = .ok (.iload_n 3, 1) := by decide +kernel
theorem dX6_sheet_36 : decode cX6_sheet 36 = .ok (.ifCond .ge 10, 3) := by decide +kernel
theorem dX6_sheet_39 : decode cX6_sheet 39 = .ok (.aload_n 0, 1) := by decide +kernel
theorem dX6_sheet_40 : decode cX6_sheet 40 = .ok (.bipush 6, 2) := by decide +kernel
theorem dX6_sheet_42 : decode cX6_sheet 42 = .ok (.invokevirtual 95, 3) := by decide +kernel
theorem dX6_sheet_45 : decode cX6_sheet 45 = .ok (.ireturn, 1) := by decide +kernel
theorem dX6_sheet_46 : decode cX6_sheet 46 = .ok (.iload_n 3, 1) := by decide +kernel
theorem dX6_sheet_47 : decode cX6_sheet 47 = .ok (.bipush 40, 2) := by decide +kernel
theorem dX6_sheet_49 : decode cX6_sheet 49 = .ok (.if_icmp .le 9, 3) := by decide +kernel
theorem dX6_sheet_52 : decode cX6_sheet 52 = .ok (.aload_n 0, 1) := by decide +kernel
theorem dX6_sheet_53 : decode cX6_sheet 53 = .ok (.iconst 0, 1) := by decide +kernel
theorem dX6_sheet_54 : decode cX6_sheet 54 = .ok (.invokevirtual 95, 3) := by decide +kernel
theorem dX6_sheet_57 : decode cX6_sheet 57 = .ok (.ireturn, 1) := by decide +kernel
theorem dX6_sheet_58 : decode cX6_sheet 58 = .ok (.aload_n 0, 1) := by decide +kernel
theorem dX6_sheet_59 : decode cX6_sheet 59 = .ok (.getfield 78, 3) := by decide +kernel
theorem dX6_sheet_62 : decode cX6_sheet 62 = .ok (.iload_n 1, 1) := by decide +kernel
theorem dX6_sheet_63 : decode cX6_sheet 63 = .ok (.iload_n 2, 1) := by decide +kernel
theorem dX6_sheet_64 : decode cX6_sheet 64 = .ok (.iload_n 3, 1) := by decide +kernel
theorem dX6_sheet_65 : decode cX6_sheet 65 = .ok (.invokevirtual 309, 3) := by decide +kernel
theorem dX6_sheet_68 : decode cX6_sheet 68 = .ok (.aload_n 0, 1) := by decide +kernel
theorem dX6_sheet_69 : decode cX6_sheet 69 = .ok (.getfield 78, 3) := by decide +kernel
theorem dX6_sheet_72 : decode cX6_sheet 72 = .ok (.iload_n 1, 1) := by decide +kernel
theorem dX6_sheet_73 : decode cX6_sheet 73 = .ok (.invokevirtual 266, 3) := by decide +kernel
theorem dX6_sheet_76 : decode cX6_sheet 76 = .ok (.ireturn, 1) := by decide +kernel
set_option maxHeartbeats 4000000 in
set_option maxRecDepth 100000 in
theorem c_X6_sheet {l : Launch} {ω : xO} (hc : xsh ω = clS) {s b n : Int} {M : xMem} (hJ : CInv M) (h_s : inR s) (h_b : inR b) (h_n : inR n) : Ct l ω yX6_sheet ({ frames := 2, cells := 0, slots := 0, locals := 44 } : Room) 4 3 [.ref (xad ω 0), .int (iI s), .int (iI b), .int (iI n)] M (some (.int (iI (sheetR M s b n)))) (sheetM M s b n) := by
  refine Ct.of (bytes := cX6_sheet) (ret := (some .int)) (lv0 := [some (.ref (xad ω 0)), some (.int (iI s)), some (.int (iI b)), some (.int (iI n))]) m_cd_X6_sheet m_in_X6 (by decide +kernel) (by decide +kernel) rfl rfl rfl rfl (fun hR => by unfold sheetM; (repeat' split) <;> first | exact fndC_R hR | exact upr_R (up_R (up_R hR h_b) (by split <;> omega)) (fun i => by unfold zrC; split; decide; exact hR 54 i)) ?_
  intro κ h he hR
  have hI := hJ.1
  have hD := hJ.2.1
  have hL := hJ.2.2.1
  have hn := hI.1
  have hck := hI.2.1
  refine x_iload_n h dX6_sheet_0 rfl ?_
  refine x_S1i h dX6_sheet_1 m_ml_X6_256 m_st_X6_isSheet (by decide) rfl (c_X6_isSheet hc (by omega)) ?_
  refine x_ifeqB h dX6_sheet_4 (tgt := 29) (by decide) (fun q4 => ?_) (fun q4 => ?_)
  · refine x_aload_n h dX6_sheet_29 rfl ?_
    refine x_iconst h dX6_sheet_30 ?_
    refine x_V1i h dX6_sheet_31 m_ml_X6_95 m_im_X6_found m_se_X6_found (sC0 hc) rfl (by decide) rfl (c_X6_found hc (by omega)) ?_
    exact x_iret (ret := none) h he dX6_sheet_34 rfl (by unfold sheetR; (repeat (first | rw [if_pos (by first | assumption | omega)] | rw [if_neg (by first | assumption | omega)])) <;> first | rfl | omega) (by unfold sheetM; (repeat (first | rw [if_pos (by first | assumption | omega)] | rw [if_neg (by first | assumption | omega)])) <;> first | rfl | omega)
  · refine x_iload_n h dX6_sheet_7 rfl ?_
    refine x_if_eq h dX6_sheet_8 (tgt := 35) (by decide) (by omega) (fun q8 => ?_) (fun q8 => ?_)
    · refine x_iload_n h dX6_sheet_35 rfl ?_
      refine x_if_ge h dX6_sheet_36 (tgt := 46) (by decide) (by omega) (fun q36 => ?_) (fun q36 => ?_)
      · refine x_iload_n h dX6_sheet_46 rfl ?_
        refine x_bipush h dX6_sheet_47 (by decide) ?_
        refine x_icmp_le h dX6_sheet_49 (tgt := 58) (by decide) (by omega) (by omega) (fun q49 => ?_) (fun q49 => ?_)
        · refine x_aload_n h dX6_sheet_58 rfl ?_
          refine x_getr (j := 13) (q := 51) h dX6_sheet_59 (sC0 hc) rfl in_X6 rfl (by decide) m_fl_X6_78 ?_
          refine x_iload_n h dX6_sheet_62 rfl ?_
          refine x_iload_n h dX6_sheet_63 rfl ?_
          refine x_iload_n h dX6_sheet_64 rfl ?_
          refine x_V3v h dX6_sheet_65 m_ml_X6_309 m_im_X4_lay m_se_X4_lay (sC51 hc) rfl (by decide) rfl (c_X4_lay hc (by omega) (by omega) (by omega)) ?_
          refine x_aload_n h dX6_sheet_68 rfl ?_
          refine x_getr (j := 13) (q := 51) h dX6_sheet_69 (sC0 hc) rfl in_X6 rfl (by decide) m_fl_X6_78 ?_
          refine x_iload_n h dX6_sheet_72 rfl ?_
          refine x_V1i h dX6_sheet_73 m_ml_X6_266 m_im_X4_sizeOf m_se_X4_sizeOf (sC51 hc) rfl (by decide) rfl (c_X4_sizeOf hc (by omega)) ?_
          exact x_iret (ret := none) h he dX6_sheet_76 rfl (by unfold sheetR; (repeat (first | rw [if_pos (by first | assumption | omega)] | rw [if_neg (by first | assumption | omega)])) <;> first | rfl | omega) (by unfold sheetM; (repeat (first | rw [if_pos (by first | assumption | omega)] | rw [if_neg (by first | assumption | omega)])) <;> first | rfl | omega)
        · refine x_aload_n h dX6_sheet_52 rfl ?_
          refine x_iconst h dX6_sheet_53 ?_
          refine x_V1i h dX6_sheet_54 m_ml_X6_95 m_im_X6_found m_se_X6_found (sC0 hc) rfl (by decide) rfl (c_X6_found hc (by omega)) ?_
          exact x_iret (ret := none) h he dX6_sheet_57 rfl (by unfold sheetR; (repeat (first | rw [if_pos (by first | assumption | omega)] | rw [if_neg (by first | assumption | omega)])) <;> first | rfl | omega) (by unfold sheetM; (repeat (first | rw [if_pos (by first | assumption | omega)] | rw [if_neg (by first | assumption | omega)])) <;> first | rfl | omega)
      · refine x_aload_n h dX6_sheet_39 rfl ?_
        refine x_bipush h dX6_sheet_40 (by decide) ?_
        refine x_V1i h dX6_sheet_42 m_ml_X6_95 m_im_X6_found m_se_X6_found (sC0 hc) rfl (by decide) rfl (c_X6_found hc (by omega)) ?_
        exact x_iret (ret := none) h he dX6_sheet_45 rfl (by unfold sheetR; (repeat (first | rw [if_pos (by first | assumption | omega)] | rw [if_neg (by first | assumption | omega)])) <;> first | rfl | omega) (by unfold sheetM; (repeat (first | rw [if_pos (by first | assumption | omega)] | rw [if_neg (by first | assumption | omega)])) <;> first | rfl | omega)
    · refine x_iload_n h dX6_sheet_11 rfl ?_
      refine x_bipush h dX6_sheet_12 (by decide) ?_
      refine x_icmp_eq h dX6_sheet_14 (tgt := 35) (by decide) (by omega) (by omega) (fun q14 => ?_) (fun q14 => ?_)
      · refine x_iload_n h dX6_sheet_35 rfl ?_
        refine x_if_ge h dX6_sheet_36 (tgt := 46) (by decide) (by omega) (fun q36 => ?_) (fun q36 => ?_)
        · refine x_iload_n h dX6_sheet_46 rfl ?_
          refine x_bipush h dX6_sheet_47 (by decide) ?_
          refine x_icmp_le h dX6_sheet_49 (tgt := 58) (by decide) (by omega) (by omega) (fun q49 => ?_) (fun q49 => ?_)
          · refine x_aload_n h dX6_sheet_58 rfl ?_
            refine x_getr (j := 13) (q := 51) h dX6_sheet_59 (sC0 hc) rfl in_X6 rfl (by decide) m_fl_X6_78 ?_
            refine x_iload_n h dX6_sheet_62 rfl ?_
            refine x_iload_n h dX6_sheet_63 rfl ?_
            refine x_iload_n h dX6_sheet_64 rfl ?_
            refine x_V3v h dX6_sheet_65 m_ml_X6_309 m_im_X4_lay m_se_X4_lay (sC51 hc) rfl (by decide) rfl (c_X4_lay hc (by omega) (by omega) (by omega)) ?_
            refine x_aload_n h dX6_sheet_68 rfl ?_
            refine x_getr (j := 13) (q := 51) h dX6_sheet_69 (sC0 hc) rfl in_X6 rfl (by decide) m_fl_X6_78 ?_
            refine x_iload_n h dX6_sheet_72 rfl ?_
            refine x_V1i h dX6_sheet_73 m_ml_X6_266 m_im_X4_sizeOf m_se_X4_sizeOf (sC51 hc) rfl (by decide) rfl (c_X4_sizeOf hc (by omega)) ?_
            exact x_iret (ret := none) h he dX6_sheet_76 rfl (by unfold sheetR; (repeat (first | rw [if_pos (by first | assumption | omega)] | rw [if_neg (by first | assumption | omega)])) <;> first | rfl | omega) (by unfold sheetM; (repeat (first | rw [if_pos (by first | assumption | omega)] | rw [if_neg (by first | assumption | omega)])) <;> first | rfl | omega)
          · refine x_aload_n h dX6_sheet_52 rfl ?_
            refine x_iconst h dX6_sheet_53 ?_
            refine x_V1i h dX6_sheet_54 m_ml_X6_95 m_im_X6_found m_se_X6_found (sC0 hc) rfl (by decide) rfl (c_X6_found hc (by omega)) ?_
            exact x_iret (ret := none) h he dX6_sheet_57 rfl (by unfold sheetR; (repeat (first | rw [if_pos (by first | assumption | omega)] | rw [if_neg (by first | assumption | omega)])) <;> first | rfl | omega) (by unfold sheetM; (repeat (first | rw [if_pos (by first | assumption | omega)] | rw [if_neg (by first | assumption | omega)])) <;> first | rfl | omega)
        · refine x_aload_n h dX6_sheet_39 rfl ?_
          refine x_bipush h dX6_sheet_40 (by decide) ?_
          refine x_V1i h dX6_sheet_42 m_ml_X6_95 m_im_X6_found m_se_X6_found (sC0 hc) rfl (by decide) rfl (c_X6_found hc (by omega)) ?_
          exact x_iret (ret := none) h he dX6_sheet_45 rfl (by unfold sheetR; (repeat (first | rw [if_pos (by first | assumption | omega)] | rw [if_neg (by first | assumption | omega)])) <;> first | rfl | omega) (by unfold sheetM; (repeat (first | rw [if_pos (by first | assumption | omega)] | rw [if_neg (by first | assumption | omega)])) <;> first | rfl | omega)
      · refine x_iload_n h dX6_sheet_17 rfl ?_
        refine x_bipush h dX6_sheet_18 (by decide) ?_
        refine x_icmp_eq h dX6_sheet_20 (tgt := 35) (by decide) (by omega) (by omega) (fun q20 => ?_) (fun q20 => ?_)
        · refine x_iload_n h dX6_sheet_35 rfl ?_
          refine x_if_ge h dX6_sheet_36 (tgt := 46) (by decide) (by omega) (fun q36 => ?_) (fun q36 => ?_)
          · refine x_iload_n h dX6_sheet_46 rfl ?_
            refine x_bipush h dX6_sheet_47 (by decide) ?_
            refine x_icmp_le h dX6_sheet_49 (tgt := 58) (by decide) (by omega) (by omega) (fun q49 => ?_) (fun q49 => ?_)
            · refine x_aload_n h dX6_sheet_58 rfl ?_
              refine x_getr (j := 13) (q := 51) h dX6_sheet_59 (sC0 hc) rfl in_X6 rfl (by decide) m_fl_X6_78 ?_
              refine x_iload_n h dX6_sheet_62 rfl ?_
              refine x_iload_n h dX6_sheet_63 rfl ?_
              refine x_iload_n h dX6_sheet_64 rfl ?_
              refine x_V3v h dX6_sheet_65 m_ml_X6_309 m_im_X4_lay m_se_X4_lay (sC51 hc) rfl (by decide) rfl (c_X4_lay hc (by omega) (by omega) (by omega)) ?_
              refine x_aload_n h dX6_sheet_68 rfl ?_
              refine x_getr (j := 13) (q := 51) h dX6_sheet_69 (sC0 hc) rfl in_X6 rfl (by decide) m_fl_X6_78 ?_
              refine x_iload_n h dX6_sheet_72 rfl ?_
              refine x_V1i h dX6_sheet_73 m_ml_X6_266 m_im_X4_sizeOf m_se_X4_sizeOf (sC51 hc) rfl (by decide) rfl (c_X4_sizeOf hc (by omega)) ?_
              exact x_iret (ret := none) h he dX6_sheet_76 rfl (by unfold sheetR; (repeat (first | rw [if_pos (by first | assumption | omega)] | rw [if_neg (by first | assumption | omega)])) <;> first | rfl | omega) (by unfold sheetM; (repeat (first | rw [if_pos (by first | assumption | omega)] | rw [if_neg (by first | assumption | omega)])) <;> first | rfl | omega)
            · refine x_aload_n h dX6_sheet_52 rfl ?_
              refine x_iconst h dX6_sheet_53 ?_
              refine x_V1i h dX6_sheet_54 m_ml_X6_95 m_im_X6_found m_se_X6_found (sC0 hc) rfl (by decide) rfl (c_X6_found hc (by omega)) ?_
              exact x_iret (ret := none) h he dX6_sheet_57 rfl (by unfold sheetR; (repeat (first | rw [if_pos (by first | assumption | omega)] | rw [if_neg (by first | assumption | omega)])) <;> first | rfl | omega) (by unfold sheetM; (repeat (first | rw [if_pos (by first | assumption | omega)] | rw [if_neg (by first | assumption | omega)])) <;> first | rfl | omega)
          · refine x_aload_n h dX6_sheet_39 rfl ?_
            refine x_bipush h dX6_sheet_40 (by decide) ?_
            refine x_V1i h dX6_sheet_42 m_ml_X6_95 m_im_X6_found m_se_X6_found (sC0 hc) rfl (by decide) rfl (c_X6_found hc (by omega)) ?_
            exact x_iret (ret := none) h he dX6_sheet_45 rfl (by unfold sheetR; (repeat (first | rw [if_pos (by first | assumption | omega)] | rw [if_neg (by first | assumption | omega)])) <;> first | rfl | omega) (by unfold sheetM; (repeat (first | rw [if_pos (by first | assumption | omega)] | rw [if_neg (by first | assumption | omega)])) <;> first | rfl | omega)
        · refine x_iload_n h dX6_sheet_23 rfl ?_
          refine x_bipush h dX6_sheet_24 (by decide) ?_
          refine x_icmp_eq h dX6_sheet_26 (tgt := 35) (by decide) (by omega) (by omega) (fun q26 => ?_) (fun q26 => ?_)
          · refine x_iload_n h dX6_sheet_35 rfl ?_
            refine x_if_ge h dX6_sheet_36 (tgt := 46) (by decide) (by omega) (fun q36 => ?_) (fun q36 => ?_)
            · refine x_iload_n h dX6_sheet_46 rfl ?_
              refine x_bipush h dX6_sheet_47 (by decide) ?_
              refine x_icmp_le h dX6_sheet_49 (tgt := 58) (by decide) (by omega) (by omega) (fun q49 => ?_) (fun q49 => ?_)
              · refine x_aload_n h dX6_sheet_58 rfl ?_
                refine x_getr (j := 13) (q := 51) h dX6_sheet_59 (sC0 hc) rfl in_X6 rfl (by decide) m_fl_X6_78 ?_
                refine x_iload_n h dX6_sheet_62 rfl ?_
                refine x_iload_n h dX6_sheet_63 rfl ?_
                refine x_iload_n h dX6_sheet_64 rfl ?_
                refine x_V3v h dX6_sheet_65 m_ml_X6_309 m_im_X4_lay m_se_X4_lay (sC51 hc) rfl (by decide) rfl (c_X4_lay hc (by omega) (by omega) (by omega)) ?_
                refine x_aload_n h dX6_sheet_68 rfl ?_
                refine x_getr (j := 13) (q := 51) h dX6_sheet_69 (sC0 hc) rfl in_X6 rfl (by decide) m_fl_X6_78 ?_
                refine x_iload_n h dX6_sheet_72 rfl ?_
                refine x_V1i h dX6_sheet_73 m_ml_X6_266 m_im_X4_sizeOf m_se_X4_sizeOf (sC51 hc) rfl (by decide) rfl (c_X4_sizeOf hc (by omega)) ?_
                exact x_iret (ret := none) h he dX6_sheet_76 rfl (by unfold sheetR; (repeat (first | rw [if_pos (by first | assumption | omega)] | rw [if_neg (by first | assumption | omega)])) <;> first | rfl | omega) (by unfold sheetM; (repeat (first | rw [if_pos (by first | assumption | omega)] | rw [if_neg (by first | assumption | omega)])) <;> first | rfl | omega)
              · refine x_aload_n h dX6_sheet_52 rfl ?_
                refine x_iconst h dX6_sheet_53 ?_
                refine x_V1i h dX6_sheet_54 m_ml_X6_95 m_im_X6_found m_se_X6_found (sC0 hc) rfl (by decide) rfl (c_X6_found hc (by omega)) ?_
                exact x_iret (ret := none) h he dX6_sheet_57 rfl (by unfold sheetR; (repeat (first | rw [if_pos (by first | assumption | omega)] | rw [if_neg (by first | assumption | omega)])) <;> first | rfl | omega) (by unfold sheetM; (repeat (first | rw [if_pos (by first | assumption | omega)] | rw [if_neg (by first | assumption | omega)])) <;> first | rfl | omega)
            · refine x_aload_n h dX6_sheet_39 rfl ?_
              refine x_bipush h dX6_sheet_40 (by decide) ?_
              refine x_V1i h dX6_sheet_42 m_ml_X6_95 m_im_X6_found m_se_X6_found (sC0 hc) rfl (by decide) rfl (c_X6_found hc (by omega)) ?_
              exact x_iret (ret := none) h he dX6_sheet_45 rfl (by unfold sheetR; (repeat (first | rw [if_pos (by first | assumption | omega)] | rw [if_neg (by first | assumption | omega)])) <;> first | rfl | omega) (by unfold sheetM; (repeat (first | rw [if_pos (by first | assumption | omega)] | rw [if_neg (by first | assumption | omega)])) <;> first | rfl | omega)
          · refine x_aload_n h dX6_sheet_29 rfl ?_
            refine x_iconst h dX6_sheet_30 ?_
            refine x_V1i h dX6_sheet_31 m_ml_X6_95 m_im_X6_found m_se_X6_found (sC0 hc) rfl (by decide) rfl (c_X6_found hc (by omega)) ?_
            exact x_iret (ret := none) h he dX6_sheet_34 rfl (by unfold sheetR; (repeat (first | rw [if_pos (by first | assumption | omega)] | rw [if_neg (by first | assumption | omega)])) <;> first | rfl | omega) (by unfold sheetM; (repeat (first | rw [if_pos (by first | assumption | omega)] | rw [if_neg (by first | assumption | omega)])) <;> first | rfl | omega)

noncomputable def writeR (M : xMem) (s i v : Int) : Int := if shI s then (if M 52 s = 0 then -1000006 else if 0 ≤ i ∧ i < M 53 s then 1 else -1000001) else -1000001
noncomputable def writeM (M : xMem) (s i v : Int) : xMem := if shI s then (if M 52 s = 0 then fndC M 5 else if 0 ≤ i ∧ i < M 53 s then up M 54 (s * 40 + i) (lwF v (M 52 s)) else fndC M 0) else fndC M 0
theorem dX6_write_0 : decode cX6_write 0 = .ok (.iload_n 1, 1) := by decide +kernel
theorem dX6_write_1 : decode cX6_write 1 = .ok (.invokestatic 256, 3) := by decide +kernel
theorem dX6_write_4 : decode cX6_write 4 = .ok (.ifCond .ne 9, 3) := by decide +kernel
theorem dX6_write_7 : decode cX6_write 7 = .ok (.aload_n 0, 1) := by decide +kernel
theorem dX6_write_8 : decode cX6_write 8 = .ok (.iconst 0, 1) := by decide +kernel
theorem dX6_write_9 : decode cX6_write 9 = .ok (.invokevirtual 95, 3) := by decide +kernel
theorem dX6_write_12 : decode cX6_write 12 = .ok (.ireturn, 1) := by decide +kernel
theorem dX6_write_13 : decode cX6_write 13 = .ok (.aload_n 0, 1) := by decide +kernel
theorem dX6_write_14 : decode cX6_write 14 = .ok (.getfield 78, 3) := by decide +kernel
theorem dX6_write_17 : decode cX6_write 17 = .ok (.iload_n 1, 1) := by decide +kernel
theorem dX6_write_18 : decode cX6_write 18 = .ok (.invokevirtual 259, 3) := by decide +kernel
theorem dX6_write_21 : decode cX6_write 21 = .ok (.ifCond .eq 9, 3) := by decide +kernel
theorem dX6_write_24 : decode cX6_write 24 = .ok (.aload_n 0, 1) := by decide +kernel
theorem dX6_write_25 : decode cX6_write 25 = .ok (.iconst 5, 1) := by decide +kernel
theorem dX6_write_26 : decode cX6_write 26 = .ok (.invokevirtual 95, 3) := by decide +kernel
theorem dX6_write_29 : decode cX6_write 29 = .ok (.ireturn, 1) := by decide +kernel
theorem dX6_write_30 : decode cX6_write 30 = .ok (.iload_n 2, 1) := by decide +kernel
theorem dX6_write_31 : decode cX6_write 31 = .ok (.ifCond .lt 15, 3) := by decide +kernel
theorem dX6_write_34 : decode cX6_write 34 = .ok (.iload_n 2, 1) := by decide +kernel
theorem dX6_write_35 : decode cX6_write 35 = .ok (.aload_n 0, 1) := by decide +kernel
theorem dX6_write_36 : decode cX6_write 36 = .ok (.getfield 78, 3) := by decide +kernel
theorem dX6_write_39 : decode cX6_write 39 = .ok (.iload_n 1, 1) := by decide +kernel
theorem dX6_write_40 : decode cX6_write 40 = .ok (.invokevirtual 266, 3) := by decide +kernel
theorem dX6_write_43 : decode cX6_write 43 = .ok (.if_icmp .lt 9, 3) := by decide +kernel
theorem dX6_write_46 : decode cX6_write 46 = .ok (.aload_n 0, 1) := by decide +kernel
theorem dX6_write_47 : decode cX6_write 47 = .ok (.iconst 0, 1) := by decide +kernel
theorem dX6_write_48 : decode cX6_write 48 = .ok (.invokevirtual 95, 3) := by decide +kernel
theorem dX6_write_51 : decode cX6_write 51 = .ok (.ireturn, 1) := by decide +kernel
theorem dX6_write_52 : decode cX6_write 52 = .ok (.aload_n 0, 1) := by decide +kernel
theorem dX6_write_53 : decode cX6_write 53 = .ok (.getfield 78, 3) := by decide +kernel
theorem dX6_write_56 : decode cX6_write 56 = .ok (.iload_n 1, 1) := by decide +kernel
theorem dX6_write_57 : decode cX6_write 57 = .ok (.iload_n 2, 1) := by decide +kernel
theorem dX6_write_58 : decode cX6_write 58 = .ok (.iload_n 3, 1) := by decide +kernel
theorem dX6_write_59 : decode cX6_write 59 = .ok (.invokevirtual 310, 3) := by decide +kernel
theorem dX6_write_62 : decode cX6_write 62 = .ok (.iconst 1, 1) := by decide +kernel
theorem dX6_write_63 : decode cX6_write 63 = .ok (.ireturn, 1) := by decide +kernel
set_option maxHeartbeats 4000000 in
set_option maxRecDepth 100000 in
theorem c_X6_write {l : Launch} {ω : xO} (hc : xsh ω = clS) {s i v : Int} {M : xMem} (hJ : CInv M) (h_s : inR s) (h_i : inR i) (h_v : inR v) : Ct l ω yX6_write ({ frames := 4, cells := 0, slots := 0, locals := 87 } : Room) 4 3 [.ref (xad ω 0), .int (iI s), .int (iI i), .int (iI v)] M (some (.int (iI (writeR M s i v)))) (writeM M s i v) := by
  refine Ct.of (bytes := cX6_write) (ret := (some .int)) (lv0 := [some (.ref (xad ω 0)), some (.int (iI s)), some (.int (iI i)), some (.int (iI v))]) m_cd_X6_write m_in_X6 (by decide +kernel) (by decide +kernel) rfl rfl rfl rfl (fun hR => by unfold writeM; (repeat' split) <;> first | exact fndC_R hR | exact up_R hR (lwF_R h_v)) ?_
  intro κ h he hR
  have hI := hJ.1
  have hD := hJ.2.1
  have hL := hJ.2.2.1
  have hn := hI.1
  have hck := hI.2.1
  have hz := hJ.2.2.2.2
  have g53 := hR 53 s
  refine x_iload_n h dX6_write_0 rfl ?_
  refine x_S1i h dX6_write_1 m_ml_X6_256 m_st_X6_isSheet (by decide) rfl (c_X6_isSheet hc (by omega)) ?_
  refine x_ifneB h dX6_write_4 (tgt := 13) (by decide) (fun q4 => ?_) (fun q4 => ?_)
  · refine x_aload_n h dX6_write_13 rfl ?_
    refine x_getr (j := 13) (q := 51) h dX6_write_14 (sC0 hc) rfl in_X6 rfl (by decide) m_fl_X6_78 ?_
    refine x_iload_n h dX6_write_17 rfl ?_
    refine x_V1i h dX6_write_18 m_ml_X6_259 m_im_X4_isMissing m_se_X4_isMissing (sC51 hc) rfl (by decide) rfl (c_X4_isMissing hc (by omega)) ?_
    refine x_ifeqB h dX6_write_21 (tgt := 30) (by decide) (fun q21 => ?_) (fun q21 => ?_)
    · have hz1 := hz s (by omega) (by omega)
      refine x_iload_n h dX6_write_30 rfl ?_
      refine x_if_lt h dX6_write_31 (tgt := 46) (by decide) (by omega) (fun q31 => ?_) (fun q31 => ?_)
      · refine x_aload_n h dX6_write_46 rfl ?_
        refine x_iconst h dX6_write_47 ?_
        refine x_V1i h dX6_write_48 m_ml_X6_95 m_im_X6_found m_se_X6_found (sC0 hc) rfl (by decide) rfl (c_X6_found hc (by omega)) ?_
        exact x_iret (ret := none) h he dX6_write_51 rfl (by unfold writeR; (repeat (first | rw [if_pos (by first | assumption | omega)] | rw [if_neg (by first | assumption | omega)])) <;> first | rfl | omega) (by unfold writeM; (repeat (first | rw [if_pos (by first | assumption | omega)] | rw [if_neg (by first | assumption | omega)])) <;> first | rfl | omega)
      · refine x_iload_n h dX6_write_34 rfl ?_
        refine x_aload_n h dX6_write_35 rfl ?_
        refine x_getr (j := 13) (q := 51) h dX6_write_36 (sC0 hc) rfl in_X6 rfl (by decide) m_fl_X6_78 ?_
        refine x_iload_n h dX6_write_39 rfl ?_
        refine x_V1i h dX6_write_40 m_ml_X6_266 m_im_X4_sizeOf m_se_X4_sizeOf (sC51 hc) rfl (by decide) rfl (c_X4_sizeOf hc (by omega)) ?_
        refine x_icmp_lt h dX6_write_43 (tgt := 52) (by decide) (by omega) (by omega) (fun q43 => ?_) (fun q43 => ?_)
        · refine x_aload_n h dX6_write_52 rfl ?_
          refine x_getr (j := 13) (q := 51) h dX6_write_53 (sC0 hc) rfl in_X6 rfl (by decide) m_fl_X6_78 ?_
          refine x_iload_n h dX6_write_56 rfl ?_
          refine x_iload_n h dX6_write_57 rfl ?_
          refine x_iload_n h dX6_write_58 rfl ?_
          refine x_V3v h dX6_write_59 m_ml_X6_310 m_im_X4_put m_se_X4_put (sC51 hc) rfl (by decide) rfl (c_X4_put hc (by omega) (by omega) (by omega)) ?_
          refine x_iconst h dX6_write_62 ?_
          exact x_iret (ret := none) h he dX6_write_63 rfl (by unfold writeR; (repeat (first | rw [if_pos (by first | assumption | omega)] | rw [if_neg (by first | assumption | omega)])) <;> first | rfl | omega) (by unfold writeM; (repeat (first | rw [if_pos (by first | assumption | omega)] | rw [if_neg (by first | assumption | omega)])) <;> first | rfl | omega)
        · refine x_aload_n h dX6_write_46 rfl ?_
          refine x_iconst h dX6_write_47 ?_
          refine x_V1i h dX6_write_48 m_ml_X6_95 m_im_X6_found m_se_X6_found (sC0 hc) rfl (by decide) rfl (c_X6_found hc (by omega)) ?_
          exact x_iret (ret := none) h he dX6_write_51 rfl (by unfold writeR; (repeat (first | rw [if_pos (by first | assumption | omega)] | rw [if_neg (by first | assumption | omega)])) <;> first | rfl | omega) (by unfold writeM; (repeat (first | rw [if_pos (by first | assumption | omega)] | rw [if_neg (by first | assumption | omega)])) <;> first | rfl | omega)
    · refine x_aload_n h dX6_write_24 rfl ?_
      refine x_iconst h dX6_write_25 ?_
      refine x_V1i h dX6_write_26 m_ml_X6_95 m_im_X6_found m_se_X6_found (sC0 hc) rfl (by decide) rfl (c_X6_found hc (by omega)) ?_
      exact x_iret (ret := none) h he dX6_write_29 rfl (by unfold writeR; (repeat (first | rw [if_pos (by first | assumption | omega)] | rw [if_neg (by first | assumption | omega)])) <;> first | rfl | omega) (by unfold writeM; (repeat (first | rw [if_pos (by first | assumption | omega)] | rw [if_neg (by first | assumption | omega)])) <;> first | rfl | omega)
  · refine x_aload_n h dX6_write_7 rfl ?_
    refine x_iconst h dX6_write_8 ?_
    refine x_V1i h dX6_write_9 m_ml_X6_95 m_im_X6_found m_se_X6_found (sC0 hc) rfl (by decide) rfl (c_X6_found hc (by omega)) ?_
    exact x_iret (ret := none) h he dX6_write_12 rfl (by unfold writeR; (repeat (first | rw [if_pos (by first | assumption | omega)] | rw [if_neg (by first | assumption | omega)])) <;> first | rfl | omega) (by unfold writeM; (repeat (first | rw [if_pos (by first | assumption | omega)] | rw [if_neg (by first | assumption | omega)])) <;> first | rfl | omega)

noncomputable def copyR (M : xMem) (s f t u n : Int) : Int := if shI s ∧ shI t then (if M 52 s = 0 ∨ M 52 t = 0 then -1000006 else if M 52 s = M 52 t then (if hrC M s f n ∧ hrC M t u n then n else -1000001) else -1000003) else -1000001
noncomputable def copyM (M : xMem) (s f t u n : Int) : xMem := if shI s ∧ shI t then (if M 52 s = 0 ∨ M 52 t = 0 then fndC M 5 else if M 52 s = M 52 t then (if hrC M s f n ∧ hrC M t u n then upr M 54 (rcp (M 54) (M 54) (s * 40 + f) (t * 40 + u) n) else fndC M 0) else fndC M 2) else fndC M 0
theorem dX6_copy_0 : decode cX6_copy 0 = .ok (.iload_n 1, 1) := by decide +kernel
theorem dX6_copy_1 : decode cX6_copy 1 = .ok (.invokestatic 256, 3) := by decide +kernel
theorem dX6_copy_4 : decode cX6_copy 4 = .ok (.ifCond .eq 10, 3) := by decide +kernel
theorem dX6_copy_7 : decode cX6_copy 7 = .ok (.iload_n 3, 1) := by decide +kernel
theorem dX6_copy_8 : decode cX6_copy 8 = .ok (.invokestatic 256, 3) := by decide +kernel
theorem dX6_copy_11 : decode cX6_copy 11 = .ok (.ifCond .ne 9, 3) := by decide +kernel
theorem dX6_copy_14 : decode cX6_copy 14 = .ok (.aload_n 0, 1) := by decide +kernel
theorem dX6_copy_15 : decode cX6_copy 15 = .ok (.iconst 0, 1) := by decide +kernel
theorem dX6_copy_16 : decode cX6_copy 16 = .ok (.invokevirtual 95, 3) := by decide +kernel
theorem dX6_copy_19 : decode cX6_copy 19 = .ok (.ireturn, 1) := by decide +kernel
theorem dX6_copy_20 : decode cX6_copy 20 = .ok (.aload_n 0, 1) := by decide +kernel
theorem dX6_copy_21 : decode cX6_copy 21 = .ok (.getfield 78, 3) := by decide +kernel
theorem dX6_copy_24 : decode cX6_copy 24 = .ok (.iload_n 1, 1) := by decide +kernel
theorem dX6_copy_25 : decode cX6_copy 25 = .ok (.invokevirtual 259, 3) := by decide +kernel
theorem dX6_copy_28 : decode cX6_copy 28 = .ok (.ifCond .ne 14, 3) := by decide +kernel
theorem dX6_copy_31 : decode cX6_copy 31 = .ok (.aload_n 0, 1) := by decide +kernel
theorem dX6_copy_32 : decode cX6_copy 32 = .ok (.getfield 78, 3) := by decide +kernel
theorem dX6_copy_35 : decode cX6_copy 35 = .ok (.iload_n 3, 1) := by decide +kernel
theorem dX6_copy_36 : decode cX6_copy 36 = .ok (.invokevirtual 259, 3) := by decide +kernel
theorem dX6_copy_39 : decode cX6_copy 39 = .ok (.ifCond .eq 9, 3) := by decide +kernel
theorem dX6_copy_42 : decode cX6_copy 42 = .ok (.aload_n 0, 1) := by decide +kernel
theorem dX6_copy_43 : decode cX6_copy 43 = .ok (.iconst 5, 1) := by decide +kernel
theorem dX6_copy_44 : decode cX6_copy 44 = .ok (.invokevirtual 95, 3) := by decide +kernel
theorem dX6_copy_47 : decode cX6_copy 47 = .ok (.ireturn, 1) := by decide +kernel
theorem dX6_copy_48 : decode cX6_copy 48 = .ok (.aload_n 0, 1) := by decide +kernel
theorem dX6_copy_49 : decode cX6_copy 49 = .ok (.getfield 78, 3) := by decide +kernel
theorem dX6_copy_52 : decode cX6_copy 52 = .ok (.iload_n 1, 1) := by decide +kernel
theorem dX6_copy_53 : decode cX6_copy 53 = .ok (.invokevirtual 313, 3) := by decide +kernel
theorem dX6_copy_56 : decode cX6_copy 56 = .ok (.aload_n 0, 1) := by decide +kernel
theorem dX6_copy_57 : decode cX6_copy 57 = .ok (.getfield 78, 3) := by decide +kernel
theorem dX6_copy_60 : decode cX6_copy 60 = .ok (.iload_n 3, 1) := by decide +kernel
theorem dX6_copy_61 : decode cX6_copy 61 = .ok (.invokevirtual 313, 3) := by decide +kernel
theorem dX6_copy_64 : decode cX6_copy 64 = .ok (.if_icmp .eq 9, 3) := by decide +kernel
theorem dX6_copy_67 : decode cX6_copy 67 = .ok (.aload_n 0, 1) := by decide +kernel
theorem dX6_copy_68 : decode cX6_copy 68 = .ok (.iconst 2, 1) := by decide +kernel
theorem dX6_copy_69 : decode cX6_copy 69 = .ok (.invokevirtual 95, 3) := by decide +kernel
theorem dX6_copy_72 : decode cX6_copy 72 = .ok (.ireturn, 1) := by decide +kernel
theorem dX6_copy_73 : decode cX6_copy 73 = .ok (.aload_n 0, 1) := by decide +kernel
theorem dX6_copy_74 : decode cX6_copy 74 = .ok (.getfield 78, 3) := by decide +kernel
theorem dX6_copy_77 : decode cX6_copy 77 = .ok (.iload_n 1, 1) := by decide +kernel
theorem dX6_copy_78 : decode cX6_copy 78 = .ok (.iload_n 2, 1) := by decide +kernel
theorem dX6_copy_79 : decode cX6_copy 79 = .ok (.iload 5, 2) := by decide +kernel
theorem dX6_copy_81 : decode cX6_copy 81 = .ok (.invokevirtual 316, 3) := by decide +kernel
theorem dX6_copy_84 : decode cX6_copy 84 = .ok (.ifCond .eq 18, 3) := by decide +kernel
theorem dX6_copy_87 : decode cX6_copy 87 = .ok (.aload_n 0, 1) := by decide +kernel
theorem dX6_copy_88 : decode cX6_copy 88 = .ok (.getfield 78, 3) := by decide +kernel
theorem dX6_copy_91 : decode cX6_copy 91 = .ok (.iload_n 3, 1) := by decide +kernel
theorem dX6_copy_92 : decode cX6_copy 92 = .ok (.iload 4, 2) := by decide +kernel
theorem dX6_copy_94 : decode cX6_copy 94 = .ok (.iload 5, 2) := by decide +kernel
theorem dX6_copy_96 : decode cX6_copy 96 = .ok (.invokevirtual 316, 3) := by decide +kernel
theorem dX6_copy_99 : decode cX6_copy 99 = .ok (.ifCond .ne 9, 3) := by decide +kernel
theorem dX6_copy_102 : decode cX6_copy 102 = .ok (.aload_n 0, 1) := by decide +kernel
theorem dX6_copy_103 : decode cX6_copy 103 = .ok (.iconst 0, 1) := by decide +kernel
theorem dX6_copy_104 : decode cX6_copy 104 = .ok (.invokevirtual 95, 3) := by decide +kernel
theorem dX6_copy_107 : decode cX6_copy 107 = .ok (.ireturn, 1) := by decide +kernel
theorem dX6_copy_108 : decode cX6_copy 108 = .ok (.aload_n 0, 1) := by decide +kernel
theorem dX6_copy_109 : decode cX6_copy 109 = .ok (.getfield 78, 3) := by decide +kernel
theorem dX6_copy_112 : decode cX6_copy 112 = .ok (.iload_n 1, 1) := by decide +kernel
theorem dX6_copy_113 : decode cX6_copy 113 = .ok (.iload_n 2, 1) := by decide +kernel
theorem dX6_copy_114 : decode cX6_copy 114 = .ok (.iload_n 3, 1) := by decide +kernel
theorem dX6_copy_115 : decode cX6_copy 115 = .ok (.iload 4, 2) := by decide +kernel
theorem dX6_copy_117 : decode cX6_copy 117 = .ok (.iload 5, 2) := by decide +kernel
theorem dX6_copy_119 : decode cX6_copy 119 = .ok (.invokevirtual 320, 3) := by decide +kernel
theorem dX6_copy_122 : decode cX6_copy 122 = .ok (.iload 5, 2) := by decide +kernel
theorem dX6_copy_124 : decode cX6_copy 124 = .ok (.ireturn, 1) := by decide +kernel
set_option maxHeartbeats 4000000 in
set_option maxRecDepth 100000 in
theorem c_X6_copy {l : Launch} {ω : xO} (hc : xsh ω = clS) {s f t u n : Int} {M : xMem} (hJ : CInv M) (h_s : inR s) (h_f : inR f) (h_t : inR t) (h_u : inR u) (h_n : inR n) : Ct l ω yX6_copy ({ frames := 4, cells := 0, slots := 0, locals := 89 } : Room) 6 5 [.ref (xad ω 0), .int (iI s), .int (iI f), .int (iI t), .int (iI u), .int (iI n)] M (some (.int (iI (copyR M s f t u n)))) (copyM M s f t u n) := by
  refine Ct.of (bytes := cX6_copy) (ret := (some .int)) (lv0 := [some (.ref (xad ω 0)), some (.int (iI s)), some (.int (iI f)), some (.int (iI t)), some (.int (iI u)), some (.int (iI n))]) m_cd_X6_copy m_in_X6 (by decide +kernel) (by decide +kernel) rfl rfl rfl rfl (fun hR => by unfold copyM; (repeat' split) <;> first | exact fndC_R hR | exact upr_R hR fun i => rcp_R (hR _) (hR _) i) ?_
  intro κ h he hR
  have hI := hJ.1
  have hD := hJ.2.1
  have hL := hJ.2.2.1
  have hn := hI.1
  have hck := hI.2.1
  have hz := hJ.2.2.2.2
  have g1 := hR 52 s
  have g2 := hR 52 t
  refine x_iload_n h dX6_copy_0 rfl ?_
  refine x_S1i h dX6_copy_1 m_ml_X6_256 m_st_X6_isSheet (by decide) rfl (c_X6_isSheet hc (by omega)) ?_
  refine x_ifeqB h dX6_copy_4 (tgt := 14) (by decide) (fun q4 => ?_) (fun q4 => ?_)
  · refine x_aload_n h dX6_copy_14 rfl ?_
    refine x_iconst h dX6_copy_15 ?_
    refine x_V1i h dX6_copy_16 m_ml_X6_95 m_im_X6_found m_se_X6_found (sC0 hc) rfl (by decide) rfl (c_X6_found hc (by omega)) ?_
    exact x_iret (ret := none) h he dX6_copy_19 rfl (by unfold copyR; (repeat (first | rw [if_pos (by first | assumption | omega)] | rw [if_neg (by first | assumption | omega)])) <;> first | rfl | omega) (by unfold copyM; (repeat (first | rw [if_pos (by first | assumption | omega)] | rw [if_neg (by first | assumption | omega)])) <;> first | rfl | omega)
  · refine x_iload_n h dX6_copy_7 rfl ?_
    refine x_S1i h dX6_copy_8 m_ml_X6_256 m_st_X6_isSheet (by decide) rfl (c_X6_isSheet hc (by omega)) ?_
    refine x_ifneB h dX6_copy_11 (tgt := 20) (by decide) (fun q11 => ?_) (fun q11 => ?_)
    · refine x_aload_n h dX6_copy_20 rfl ?_
      refine x_getr (j := 13) (q := 51) h dX6_copy_21 (sC0 hc) rfl in_X6 rfl (by decide) m_fl_X6_78 ?_
      refine x_iload_n h dX6_copy_24 rfl ?_
      refine x_V1i h dX6_copy_25 m_ml_X6_259 m_im_X4_isMissing m_se_X4_isMissing (sC51 hc) rfl (by decide) rfl (c_X4_isMissing hc (by omega)) ?_
      refine x_ifneB h dX6_copy_28 (tgt := 42) (by decide) (fun q28 => ?_) (fun q28 => ?_)
      · refine x_aload_n h dX6_copy_42 rfl ?_
        refine x_iconst h dX6_copy_43 ?_
        refine x_V1i h dX6_copy_44 m_ml_X6_95 m_im_X6_found m_se_X6_found (sC0 hc) rfl (by decide) rfl (c_X6_found hc (by omega)) ?_
        exact x_iret (ret := none) h he dX6_copy_47 rfl (by unfold copyR; (repeat (first | rw [if_pos (by first | assumption | omega)] | rw [if_neg (by first | assumption | omega)])) <;> first | rfl | omega) (by unfold copyM; (repeat (first | rw [if_pos (by first | assumption | omega)] | rw [if_neg (by first | assumption | omega)])) <;> first | rfl | omega)
      · refine x_aload_n h dX6_copy_31 rfl ?_
        refine x_getr (j := 13) (q := 51) h dX6_copy_32 (sC0 hc) rfl in_X6 rfl (by decide) m_fl_X6_78 ?_
        refine x_iload_n h dX6_copy_35 rfl ?_
        refine x_V1i h dX6_copy_36 m_ml_X6_259 m_im_X4_isMissing m_se_X4_isMissing (sC51 hc) rfl (by decide) rfl (c_X4_isMissing hc (by omega)) ?_
        refine x_ifeqB h dX6_copy_39 (tgt := 48) (by decide) (fun q39 => ?_) (fun q39 => ?_)
        · have hz1 := hz s (by omega) (by omega)
          have hz2 := hz t (by omega) (by omega)
          refine x_aload_n h dX6_copy_48 rfl ?_
          refine x_getr (j := 13) (q := 51) h dX6_copy_49 (sC0 hc) rfl in_X6 rfl (by decide) m_fl_X6_78 ?_
          refine x_iload_n h dX6_copy_52 rfl ?_
          refine x_V1i h dX6_copy_53 m_ml_X6_313 m_im_X4_bitsOf m_se_X4_bitsOf (sC51 hc) rfl (by decide) rfl (c_X4_bitsOf hc (by omega)) ?_
          refine x_aload_n h dX6_copy_56 rfl ?_
          refine x_getr (j := 13) (q := 51) h dX6_copy_57 (sC0 hc) rfl in_X6 rfl (by decide) m_fl_X6_78 ?_
          refine x_iload_n h dX6_copy_60 rfl ?_
          refine x_V1i h dX6_copy_61 m_ml_X6_313 m_im_X4_bitsOf m_se_X4_bitsOf (sC51 hc) rfl (by decide) rfl (c_X4_bitsOf hc (by omega)) ?_
          refine x_icmp_eq h dX6_copy_64 (tgt := 73) (by decide) (by omega) (by omega) (fun q64 => ?_) (fun q64 => ?_)
          · refine x_aload_n h dX6_copy_73 rfl ?_
            refine x_getr (j := 13) (q := 51) h dX6_copy_74 (sC0 hc) rfl in_X6 rfl (by decide) m_fl_X6_78 ?_
            refine x_iload_n h dX6_copy_77 rfl ?_
            refine x_iload_n h dX6_copy_78 rfl ?_
            refine x_iload h dX6_copy_79 rfl ?_
            refine x_V3i h dX6_copy_81 m_ml_X6_316 m_im_X4_hasRow m_se_X4_hasRow (sC51 hc) rfl (by decide) rfl (c_X4_hasRow hc (by omega) (by omega) (by omega)) ?_
            refine x_ifeqB h dX6_copy_84 (tgt := 102) (by decide) (fun q84 => ?_) (fun q84 => ?_)
            · refine x_aload_n h dX6_copy_102 rfl ?_
              refine x_iconst h dX6_copy_103 ?_
              refine x_V1i h dX6_copy_104 m_ml_X6_95 m_im_X6_found m_se_X6_found (sC0 hc) rfl (by decide) rfl (c_X6_found hc (by omega)) ?_
              exact x_iret (ret := none) h he dX6_copy_107 rfl (by unfold copyR; (repeat (first | rw [if_pos (by first | assumption | omega)] | rw [if_neg (by first | assumption | omega)])) <;> first | rfl | omega) (by unfold copyM; (repeat (first | rw [if_pos (by first | assumption | omega)] | rw [if_neg (by first | assumption | omega)])) <;> first | rfl | omega)
            · refine x_aload_n h dX6_copy_87 rfl ?_
              refine x_getr (j := 13) (q := 51) h dX6_copy_88 (sC0 hc) rfl in_X6 rfl (by decide) m_fl_X6_78 ?_
              refine x_iload_n h dX6_copy_91 rfl ?_
              refine x_iload h dX6_copy_92 rfl ?_
              refine x_iload h dX6_copy_94 rfl ?_
              refine x_V3i h dX6_copy_96 m_ml_X6_316 m_im_X4_hasRow m_se_X4_hasRow (sC51 hc) rfl (by decide) rfl (c_X4_hasRow hc (by omega) (by omega) (by omega)) ?_
              refine x_ifneB h dX6_copy_99 (tgt := 108) (by decide) (fun q99 => ?_) (fun q99 => ?_)
              · refine x_aload_n h dX6_copy_108 rfl ?_
                refine x_getr (j := 13) (q := 51) h dX6_copy_109 (sC0 hc) rfl in_X6 rfl (by decide) m_fl_X6_78 ?_
                refine x_iload_n h dX6_copy_112 rfl ?_
                refine x_iload_n h dX6_copy_113 rfl ?_
                refine x_iload_n h dX6_copy_114 rfl ?_
                refine x_iload h dX6_copy_115 rfl ?_
                refine x_iload h dX6_copy_117 rfl ?_
                refine x_V5v h dX6_copy_119 m_ml_X6_320 m_im_X4_bring m_se_X4_bring (sC51 hc) rfl (by decide) rfl (c_X4_bring hc (by omega) (by omega) (by omega) (by omega) (by omega)) ?_
                refine x_iload h dX6_copy_122 rfl ?_
                exact x_iret (ret := none) h he dX6_copy_124 rfl (by unfold copyR; (repeat (first | rw [if_pos (by first | assumption | omega)] | rw [if_neg (by first | assumption | omega)])) <;> first | rfl | omega) (by unfold copyM; (repeat (first | rw [if_pos (by first | assumption | omega)] | rw [if_neg (by first | assumption | omega)])) <;> first | rfl | omega)
              · refine x_aload_n h dX6_copy_102 rfl ?_
                refine x_iconst h dX6_copy_103 ?_
                refine x_V1i h dX6_copy_104 m_ml_X6_95 m_im_X6_found m_se_X6_found (sC0 hc) rfl (by decide) rfl (c_X6_found hc (by omega)) ?_
                exact x_iret (ret := none) h he dX6_copy_107 rfl (by unfold copyR; (repeat (first | rw [if_pos (by first | assumption | omega)] | rw [if_neg (by first | assumption | omega)])) <;> first | rfl | omega) (by unfold copyM; (repeat (first | rw [if_pos (by first | assumption | omega)] | rw [if_neg (by first | assumption | omega)])) <;> first | rfl | omega)
          · refine x_aload_n h dX6_copy_67 rfl ?_
            refine x_iconst h dX6_copy_68 ?_
            refine x_V1i h dX6_copy_69 m_ml_X6_95 m_im_X6_found m_se_X6_found (sC0 hc) rfl (by decide) rfl (c_X6_found hc (by omega)) ?_
            exact x_iret (ret := none) h he dX6_copy_72 rfl (by unfold copyR; (repeat (first | rw [if_pos (by first | assumption | omega)] | rw [if_neg (by first | assumption | omega)])) <;> first | rfl | omega) (by unfold copyM; (repeat (first | rw [if_pos (by first | assumption | omega)] | rw [if_neg (by first | assumption | omega)])) <;> first | rfl | omega)
        · refine x_aload_n h dX6_copy_42 rfl ?_
          refine x_iconst h dX6_copy_43 ?_
          refine x_V1i h dX6_copy_44 m_ml_X6_95 m_im_X6_found m_se_X6_found (sC0 hc) rfl (by decide) rfl (c_X6_found hc (by omega)) ?_
          exact x_iret (ret := none) h he dX6_copy_47 rfl (by unfold copyR; (repeat (first | rw [if_pos (by first | assumption | omega)] | rw [if_neg (by first | assumption | omega)])) <;> first | rfl | omega) (by unfold copyM; (repeat (first | rw [if_pos (by first | assumption | omega)] | rw [if_neg (by first | assumption | omega)])) <;> first | rfl | omega)
    · refine x_aload_n h dX6_copy_14 rfl ?_
      refine x_iconst h dX6_copy_15 ?_
      refine x_V1i h dX6_copy_16 m_ml_X6_95 m_im_X6_found m_se_X6_found (sC0 hc) rfl (by decide) rfl (c_X6_found hc (by omega)) ?_
      exact x_iret (ret := none) h he dX6_copy_19 rfl (by unfold copyR; (repeat (first | rw [if_pos (by first | assumption | omega)] | rw [if_neg (by first | assumption | omega)])) <;> first | rfl | omega) (by unfold copyM; (repeat (first | rw [if_pos (by first | assumption | omega)] | rw [if_neg (by first | assumption | omega)])) <;> first | rfl | omega)

def im2 (M : xMem) : xMem := bcC (rdC M 6 1) 21 11
def im3 (M : xMem) : xMem := upr (im2 M) 42 (rcp (im2 M 41) (im2 M 42) 0 0 10)
def im4 (M : xMem) : xMem := up (im3 M) 0 7 (im3 M 0 3)
def un2 (M : xMem) : xMem := bcC (rdC M 1 6) 11 21
def un3 (M : xMem) : xMem := upr (un2 M) 41 (rcp (un2 M 42) (un2 M 41) 0 0 10)
def un4 (M : xMem) : xMem := up (un3 M) 0 3 (un3 M 0 7)
theorem rdC_R {M : xMem} {r s : Nat} (h : xR M) : xR (rdC M r s) := rbC_R (rbC_R (rbC_R (rbC_R h)))
theorem im4_R {M : xMem} (h : xR M) : xR (im4 M) := by
  have h2 : xR (im2 M) := bcC_R (rdC_R h)
  have h3 : xR (im3 M) := upr_R h2 fun i => rcp_R (h2 _) (h2 _) i
  exact up_R h3 (h3 0 3)
theorem un4_R {M : xMem} (h : xR M) : xR (un4 M) := by
  have h2 : xR (un2 M) := bcC_R (rdC_R h)
  have h3 : xR (un3 M) := upr_R h2 fun i => rcp_R (h2 _) (h2 _) i
  exact up_R h3 (h3 0 7)
noncomputable def imageR (M : xMem) : Int := 1
noncomputable def imageM (M : xMem) : xMem := up (im4 M) 0 8 1
theorem dX6_image_0 : decode cX6_image 0 = .ok (.aload_n 0, 1) := by decide +kernel
theorem dX6_image_1 : decode cX6_image 1 = .ok (.getfield 33, 3) := by decide +kernel
theorem dX6_image_4 : decode cX6_image 4 = .ok (.aload_n 0, 1) := by decide +kernel
theorem dX6_image_5 : decode cX6_image 5 = .ok (.getfield 10, 3) := by decide +kernel
theorem dX6_image_8 : decode cX6_image 8 = .ok (.invokevirtual 329, 3) := by decide +kernel
theorem dX6_image_11 : decode cX6_image 11 = .ok (.aload_n 0, 1) := by decide +kernel
theorem dX6_image_12 : decode cX6_image 12 = .ok (.getfield 36, 3) := by decide +kernel
theorem dX6_image_15 : decode cX6_image 15 = .ok (.aload_n 0, 1) := by decide +kernel
theorem dX6_image_16 : decode cX6_image 16 = .ok (.getfield 21, 3) := by decide +kernel
theorem dX6_image_19 : decode cX6_image 19 = .ok (.invokevirtual 204, 3) := by decide +kernel
theorem dX6_image_22 : decode cX6_image 22 = .ok (.aload_n 0, 1) := by decide +kernel
theorem dX6_image_23 : decode cX6_image 23 = .ok (.getfield 25, 3) := by decide +kernel
theorem dX6_image_26 : decode cX6_image 26 = .ok (.iconst 0, 1) := by decide +kernel
theorem dX6_image_27 : decode cX6_image 27 = .ok (.aload_n 0, 1) := by decide +kernel
theorem dX6_image_28 : decode cX6_image 28 = .ok (.getfield 39, 3) := by decide +kernel
theorem dX6_image_31 : decode cX6_image 31 = .ok (.iconst 0, 1) := by decide +kernel
theorem dX6_image_32 : decode cX6_image 32 = .ok (.bipush 10, 2) := by decide +kernel
theorem dX6_image_34 : decode cX6_image 34 = .ok (.invokestatic 331, 3) := by decide +kernel
theorem dX6_image_37 : decode cX6_image 37 = .ok (.aload_n 0, 1) := by decide +kernel
theorem dX6_image_38 : decode cX6_image 38 = .ok (.aload_n 0, 1) := by decide +kernel
theorem dX6_image_39 : decode cX6_image 39 = .ok (.getfield 29, 3) := by decide +kernel
theorem dX6_image_42 : decode cX6_image 42 = .ok (.putfield 42, 3) := by decide +kernel
theorem dX6_image_45 : decode cX6_image 45 = .ok (.aload_n 0, 1) := by decide +kernel
theorem dX6_image_46 : decode cX6_image 46 = .ok (.iconst 1, 1) := by decide +kernel
theorem dX6_image_47 : decode cX6_image 47 = .ok (.putfield 45, 3) := by decide +kernel
theorem dX6_image_50 : decode cX6_image 50 = .ok (.iconst 1, 1) := by decide +kernel
theorem dX6_image_51 : decode cX6_image 51 = .ok (.ireturn, 1) := by decide +kernel
set_option maxHeartbeats 4000000 in
set_option maxRecDepth 100000 in
theorem c_X6_image {l : Launch} {ω : xO} (hc : xsh ω = clS)  {M : xMem} (hJ : CInv M)  : Ct l ω yX6_image ({ frames := 2, cells := 0, slots := 0, locals := 81 } : Room) 1 0 [.ref (xad ω 0)] M (some (.int (iI (imageR M)))) (imageM M) := by
  refine Ct.of (bytes := cX6_image) (ret := (some .int)) (lv0 := [some (.ref (xad ω 0))]) m_cd_X6_image m_in_X6 (by decide +kernel) (by decide +kernel) rfl rfl rfl rfl (fun hR => up_R (im4_R hR) (by decide)) ?_
  intro κ h he hR
  have hI := hJ.1
  have hD := hJ.2.1
  have hL := hJ.2.2.1
  have hn := hI.1
  have hck := hI.2.1
  refine x_aload_n h dX6_image_0 rfl ?_
  refine x_getr (j := 4) (q := 6) h dX6_image_1 (sC0 hc) rfl in_X6 rfl (by decide) m_fl_X6_33 ?_
  refine x_aload_n h dX6_image_4 rfl ?_
  refine x_getr (j := 0) (q := 1) h dX6_image_5 (sC0 hc) rfl in_X6 rfl (by decide) m_fl_X6_10 ?_
  refine x_V1v h dX6_image_8 m_ml_X6_329 m_im_X3_become m_se_X3_become (sRd hc ((Or.inr rfl))) rfl (by decide) rfl (c_X3_become hc ((Or.inr rfl)) ((Or.inl rfl))) ?_
  refine x_aload_n h dX6_image_11 rfl ?_
  refine x_getr (j := 5) (q := 21) h dX6_image_12 (sC0 hc) rfl in_X6 rfl (by decide) m_fl_X6_36 ?_
  refine x_aload_n h dX6_image_15 rfl ?_
  refine x_getr (j := 1) (q := 11) h dX6_image_16 (sC0 hc) rfl in_X6 rfl (by decide) m_fl_X6_21 ?_
  refine x_V1v h dX6_image_19 m_ml_X6_204 m_im_X1_become m_se_X1_become (sPe hc ((Or.inr (Or.inl ⟨rfl, rfl⟩)))) rfl (by decide) rfl (c_X1_become hc ((Or.inr (Or.inl ⟨rfl, rfl⟩))) ((Or.inl ⟨rfl, rfl⟩))) ?_
  refine x_aload_n h dX6_image_22 rfl ?_
  refine x_getr (j := 2) (q := 41) h dX6_image_23 (sC0 hc) rfl in_X6 rfl (by decide) m_fl_X6_25 ?_
  refine x_iconst h dX6_image_26 ?_
  refine x_aload_n h dX6_image_27 rfl ?_
  refine x_getr (j := 6) (q := 42) h dX6_image_28 (sC0 hc) rfl in_X6 rfl (by decide) m_fl_X6_39 ?_
  refine x_iconst h dX6_image_31 ?_
  refine x_bipush h dX6_image_32 (by decide) ?_
  refine x_copy h dX6_image_34 m_ml_X6_331 (sC41 hc) (sC42 hc) (by omega) rfl (by decide) ?_
  refine x_aload_n h dX6_image_37 rfl ?_
  refine x_aload_n h dX6_image_38 rfl ?_
  refine x_geti (j := 3) 3 h dX6_image_39 (sC0 hc) rfl in_X6 rfl (by decide) m_fl_X6_29 rfl (fun r39 => ?_)
  refine x_puti (j := 7) 7 h dX6_image_42 (sC0 hc) rfl in_X6 rfl (by decide) m_fl_X6_42 tyX6_ok nmX6 rfl (tyX6_ok 7 (by decide)) rfl rfl (by omega) rfl ?_
  refine x_aload_n h dX6_image_45 rfl ?_
  refine x_iconst h dX6_image_46 ?_
  refine x_puti (j := 8) 8 h dX6_image_47 (sC0 hc) rfl in_X6 rfl (by decide) m_fl_X6_45 tyX6_ok nmX6 rfl (tyX6_ok 8 (by decide)) rfl rfl (by omega) rfl ?_
  refine x_iconst h dX6_image_50 ?_
  exact x_iret (ret := none) h he dX6_image_51 rfl rfl rfl

noncomputable def undoR (M : xMem) : Int := if M 0 8 = 0 then -1000004 else un4 M 11 2
noncomputable def undoM (M : xMem) : xMem := if M 0 8 = 0 then fndC M 3 else un4 M
theorem dX6_undo_0 : decode cX6_undo 0 = .ok (.aload_n 0, 1) := by decide +kernel
theorem dX6_undo_1 : decode cX6_undo 1 = .ok (.getfield 45, 3) := by decide +kernel
theorem dX6_undo_4 : decode cX6_undo 4 = .ok (.ifCond .ne 9, 3) := by decide +kernel
theorem dX6_undo_7 : decode cX6_undo 7 = .ok (.aload_n 0, 1) := by decide +kernel
theorem dX6_undo_8 : decode cX6_undo 8 = .ok (.iconst 3, 1) := by decide +kernel
theorem dX6_undo_9 : decode cX6_undo 9 = .ok (.invokevirtual 95, 3) := by decide +kernel
theorem dX6_undo_12 : decode cX6_undo 12 = .ok (.ireturn, 1) := by decide +kernel
theorem dX6_undo_13 : decode cX6_undo 13 = .ok (.aload_n 0, 1) := by decide +kernel
theorem dX6_undo_14 : decode cX6_undo 14 = .ok (.getfield 10, 3) := by decide +kernel
theorem dX6_undo_17 : decode cX6_undo 17 = .ok (.aload_n 0, 1) := by decide +kernel
theorem dX6_undo_18 : decode cX6_undo 18 = .ok (.getfield 33, 3) := by decide +kernel
theorem dX6_undo_21 : decode cX6_undo 21 = .ok (.invokevirtual 329, 3) := by decide +kernel
theorem dX6_undo_24 : decode cX6_undo 24 = .ok (.aload_n 0, 1) := by decide +kernel
theorem dX6_undo_25 : decode cX6_undo 25 = .ok (.getfield 21, 3) := by decide +kernel
theorem dX6_undo_28 : decode cX6_undo 28 = .ok (.aload_n 0, 1) := by decide +kernel
theorem dX6_undo_29 : decode cX6_undo 29 = .ok (.getfield 36, 3) := by decide +kernel
theorem dX6_undo_32 : decode cX6_undo 32 = .ok (.invokevirtual 204, 3) := by decide +kernel
theorem dX6_undo_35 : decode cX6_undo 35 = .ok (.aload_n 0, 1) := by decide +kernel
theorem dX6_undo_36 : decode cX6_undo 36 = .ok (.getfield 39, 3) := by decide +kernel
theorem dX6_undo_39 : decode cX6_undo 39 = .ok (.iconst 0, 1) := by decide +kernel
theorem dX6_undo_40 : decode cX6_undo 40 = .ok (.aload_n 0, 1) := by decide +kernel
theorem dX6_undo_41 : decode cX6_undo 41 = .ok (.getfield 25, 3) := by decide +kernel
theorem dX6_undo_44 : decode cX6_undo 44 = .ok (.iconst 0, 1) := by decide +kernel
theorem dX6_undo_45 : decode cX6_undo 45 = .ok (.bipush 10, 2) := by decide +kernel
theorem dX6_undo_47 : decode cX6_undo 47 = .ok (.invokestatic 331, 3) := by decide +kernel
theorem dX6_undo_50 : decode cX6_undo 50 = .ok (.aload_n 0, 1) := by decide +kernel
theorem dX6_undo_51 : decode cX6_undo 51 = .ok (.aload_n 0, 1) := by decide +kernel
theorem dX6_undo_52 : decode cX6_undo 52 = .ok (.getfield 42, 3) := by decide +kernel
theorem dX6_undo_55 : decode cX6_undo 55 = .ok (.putfield 29, 3) := by decide +kernel
theorem dX6_undo_58 : decode cX6_undo 58 = .ok (.aload_n 0, 1) := by decide +kernel
theorem dX6_undo_59 : decode cX6_undo 59 = .ok (.getfield 21, 3) := by decide +kernel
theorem dX6_undo_62 : decode cX6_undo 62 = .ok (.invokevirtual 182, 3) := by decide +kernel
theorem dX6_undo_65 : decode cX6_undo 65 = .ok (.ireturn, 1) := by decide +kernel
set_option maxHeartbeats 4000000 in
set_option maxRecDepth 100000 in
theorem c_X6_undo {l : Launch} {ω : xO} (hc : xsh ω = clS)  {M : xMem} (hJ : CInv M)  : Ct l ω yX6_undo ({ frames := 2, cells := 0, slots := 0, locals := 81 } : Room) 1 0 [.ref (xad ω 0)] M (some (.int (iI (undoR M)))) (undoM M) := by
  refine Ct.of (bytes := cX6_undo) (ret := (some .int)) (lv0 := [some (.ref (xad ω 0))]) m_cd_X6_undo m_in_X6 (by decide +kernel) (by decide +kernel) rfl rfl rfl rfl (fun hR => by unfold undoM; split; exact fndC_R hR; exact un4_R hR) ?_
  intro κ h he hR
  have hI := hJ.1
  have hD := hJ.2.1
  have hL := hJ.2.2.1
  have hn := hI.1
  have hck := hI.2.1
  refine x_aload_n h dX6_undo_0 rfl ?_
  refine x_geti (j := 8) 8 h dX6_undo_1 (sC0 hc) rfl in_X6 rfl (by decide) m_fl_X6_45 rfl (fun r1 => ?_)
  refine x_if_ne h dX6_undo_4 (tgt := 13) (by decide) (by omega) (fun q4 => ?_) (fun q4 => ?_)
  · refine x_aload_n h dX6_undo_13 rfl ?_
    refine x_getr (j := 0) (q := 1) h dX6_undo_14 (sC0 hc) rfl in_X6 rfl (by decide) m_fl_X6_10 ?_
    refine x_aload_n h dX6_undo_17 rfl ?_
    refine x_getr (j := 4) (q := 6) h dX6_undo_18 (sC0 hc) rfl in_X6 rfl (by decide) m_fl_X6_33 ?_
    refine x_V1v h dX6_undo_21 m_ml_X6_329 m_im_X3_become m_se_X3_become (sRd hc ((Or.inl rfl))) rfl (by decide) rfl (c_X3_become hc ((Or.inl rfl)) ((Or.inr rfl))) ?_
    refine x_aload_n h dX6_undo_24 rfl ?_
    refine x_getr (j := 1) (q := 11) h dX6_undo_25 (sC0 hc) rfl in_X6 rfl (by decide) m_fl_X6_21 ?_
    refine x_aload_n h dX6_undo_28 rfl ?_
    refine x_getr (j := 5) (q := 21) h dX6_undo_29 (sC0 hc) rfl in_X6 rfl (by decide) m_fl_X6_36 ?_
    refine x_V1v h dX6_undo_32 m_ml_X6_204 m_im_X1_become m_se_X1_become (sPe hc ((Or.inl ⟨rfl, rfl⟩))) rfl (by decide) rfl (c_X1_become hc ((Or.inl ⟨rfl, rfl⟩)) ((Or.inr (Or.inl ⟨rfl, rfl⟩)))) ?_
    refine x_aload_n h dX6_undo_35 rfl ?_
    refine x_getr (j := 6) (q := 42) h dX6_undo_36 (sC0 hc) rfl in_X6 rfl (by decide) m_fl_X6_39 ?_
    refine x_iconst h dX6_undo_39 ?_
    refine x_aload_n h dX6_undo_40 rfl ?_
    refine x_getr (j := 2) (q := 41) h dX6_undo_41 (sC0 hc) rfl in_X6 rfl (by decide) m_fl_X6_25 ?_
    refine x_iconst h dX6_undo_44 ?_
    refine x_bipush h dX6_undo_45 (by decide) ?_
    refine x_copy h dX6_undo_47 m_ml_X6_331 (sC42 hc) (sC41 hc) (by omega) rfl (by decide) ?_
    refine x_aload_n h dX6_undo_50 rfl ?_
    refine x_aload_n h dX6_undo_51 rfl ?_
    refine x_geti (j := 7) 7 h dX6_undo_52 (sC0 hc) rfl in_X6 rfl (by decide) m_fl_X6_42 rfl (fun r52 => ?_)
    refine x_puti (j := 3) 3 h dX6_undo_55 (sC0 hc) rfl in_X6 rfl (by decide) m_fl_X6_29 tyX6_ok nmX6 rfl (tyX6_ok 3 (by decide)) rfl rfl (by omega) rfl ?_
    refine x_aload_n h dX6_undo_58 rfl ?_
    refine x_getr (j := 1) (q := 11) h dX6_undo_59 (sC0 hc) rfl in_X6 rfl (by decide) m_fl_X6_21 ?_
    refine x_V0i h dX6_undo_62 m_ml_X6_182 m_im_X1_clock m_se_X1_clock (sPe hc ((Or.inl ⟨rfl, rfl⟩))) rfl (by decide) rfl (c_X1_clock hc (Or.inl ⟨rfl, rfl⟩)) ?_
    exact x_iret (ret := none) h he dX6_undo_65 rfl (by unfold undoR; (repeat (first | rw [if_pos (by first | assumption | omega)] | rw [if_neg (by first | assumption | omega)])) <;> first | rfl | omega) (by unfold undoM; (repeat (first | rw [if_pos (by first | assumption | omega)] | rw [if_neg (by first | assumption | omega)])) <;> first | rfl | omega)
  · refine x_aload_n h dX6_undo_7 rfl ?_
    refine x_iconst h dX6_undo_8 ?_
    refine x_V1i h dX6_undo_9 m_ml_X6_95 m_im_X6_found m_se_X6_found (sC0 hc) rfl (by decide) rfl (c_X6_found hc (by omega)) ?_
    exact x_iret (ret := none) h he dX6_undo_12 rfl (by unfold undoR; (repeat (first | rw [if_pos (by first | assumption | omega)] | rw [if_neg (by first | assumption | omega)])) <;> first | rfl | omega) (by unfold undoM; (repeat (first | rw [if_pos (by first | assumption | omega)] | rw [if_neg (by first | assumption | omega)])) <;> first | rfl | omega)

noncomputable def tearR (M : xMem) : Int := if M 0 8 = 0 then 0 else 1
noncomputable def tearM (M : xMem) : xMem := up M 0 8 0
theorem dX6_tear_0 : decode cX6_tear 0 = .ok (.aload_n 0, 1) := by decide +kernel
theorem dX6_tear_1 : decode cX6_tear 1 = .ok (.getfield 45, 3) := by decide +kernel
theorem dX6_tear_4 : decode cX6_tear 4 = .ok (.ifCond .eq 7, 3) := by decide +kernel
theorem dX6_tear_7 : decode cX6_tear 7 = .ok (.iconst 1, 1) := by decide +kernel
theorem dX6_tear_8 : decode cX6_tear 8 = .ok (.goto 4, 3) := by decide +kernel
theorem dX6_tear_11 : decode cX6_tear 11 = .ok (.iconst 0, 1) := by decide +kernel
theorem dX6_tear_12 : decode cX6_tear 12 = .ok (.istore_n 1, 1) := by decide +kernel
theorem dX6_tear_13 : decode cX6_tear 13 = .ok (.aload_n 0, 1) := by decide +kernel
theorem dX6_tear_14 : decode cX6_tear 14 = .ok (.iconst 0, 1) := by decide +kernel
theorem dX6_tear_15 : decode cX6_tear 15 = .ok (.putfield 45, 3) := by decide +kernel
theorem dX6_tear_18 : decode cX6_tear 18 = .ok (.iload_n 1, 1) := by decide +kernel
theorem dX6_tear_19 : decode cX6_tear 19 = .ok (.ireturn, 1) := by decide +kernel
set_option maxHeartbeats 4000000 in
set_option maxRecDepth 100000 in
theorem c_X6_tear {l : Launch} {ω : xO} (hc : xsh ω = clS)  {M : xMem} (hJ : CInv M)  : Ct l ω yX6_tear ({ frames := 0, cells := 0, slots := 0, locals := 0 } : Room) 2 0 [.ref (xad ω 0)] M (some (.int (iI (tearR M)))) (tearM M) := by
  refine Ct.of (bytes := cX6_tear) (ret := (some .int)) (lv0 := [some (.ref (xad ω 0)), none]) m_cd_X6_tear m_in_X6 (by decide +kernel) (by decide +kernel) rfl rfl rfl rfl (fun hR => up_R hR (by decide)) ?_
  intro κ h he hR
  have hI := hJ.1
  have hD := hJ.2.1
  have hL := hJ.2.2.1
  have hn := hI.1
  have hck := hI.2.1
  refine x_aload_n h dX6_tear_0 rfl ?_
  refine x_geti (j := 8) 8 h dX6_tear_1 (sC0 hc) rfl in_X6 rfl (by decide) m_fl_X6_45 rfl (fun r1 => ?_)
  refine x_if_eq h dX6_tear_4 (tgt := 11) (by decide) (by omega) (fun q4 => ?_) (fun q4 => ?_)
  · refine x_iconst h dX6_tear_11 ?_
    refine x_istore_n h dX6_tear_12 rfl rfl ?_
    dsimp only [xset]
    refine x_aload_n h dX6_tear_13 rfl ?_
    refine x_iconst h dX6_tear_14 ?_
    refine x_puti (j := 8) 8 h dX6_tear_15 (sC0 hc) rfl in_X6 rfl (by decide) m_fl_X6_45 tyX6_ok nmX6 rfl (tyX6_ok 8 (by decide)) rfl rfl (by omega) rfl ?_
    refine x_iload_n h dX6_tear_18 rfl ?_
    exact x_iret (ret := none) h he dX6_tear_19 rfl (by unfold tearR; (repeat (first | rw [if_pos (by first | assumption | omega)] | rw [if_neg (by first | assumption | omega)])) <;> first | rfl | omega) rfl
  · refine x_iconst h dX6_tear_7 ?_
    refine x_goto h dX6_tear_8 (tgt := 12) (by decide) ?_
    refine x_istore_n h dX6_tear_12 rfl rfl ?_
    dsimp only [xset]
    refine x_aload_n h dX6_tear_13 rfl ?_
    refine x_iconst h dX6_tear_14 ?_
    refine x_puti (j := 8) 8 h dX6_tear_15 (sC0 hc) rfl in_X6 rfl (by decide) m_fl_X6_45 tyX6_ok nmX6 rfl (tyX6_ok 8 (by decide)) rfl rfl (by omega) rfl ?_
    refine x_iload_n h dX6_tear_18 rfl ?_
    exact x_iret (ret := none) h he dX6_tear_19 rfl (by unfold tearR; (repeat (first | rw [if_pos (by first | assumption | omega)] | rw [if_neg (by first | assumption | omega)])) <;> first | rfl | omega) rfl

def fsG (M : xMem) (i acc : Int) : Int := if M 41 i = -1 then acc else acc + 1
def fsS (M : xMem) (n : Nat) : Int := xfo (fsG M) 0 n
theorem fsS_s (M : xMem) (n : Nat) : fsS M (n + 1) = fsG M (n : Int) (fsS M n) := by
  unfold fsS
  rw [xfo_s (fsG M) 0 n]
theorem dX6_fullSpots_0 : decode cX6_fullSpots 0 = .ok (.iconst 0, 1) := by decide +kernel
theorem dX6_fullSpots_1 : decode cX6_fullSpots 1 = .ok (.istore_n 1, 1) := by decide +kernel
theorem dX6_fullSpots_2 : decode cX6_fullSpots 2 = .ok (.iconst 0, 1) := by decide +kernel
theorem dX6_fullSpots_3 : decode cX6_fullSpots 3 = .ok (.istore_n 2, 1) := by decide +kernel
theorem dX6_fullSpots_4 : decode cX6_fullSpots 4 = .ok (.iload_n 2, 1) := by decide +kernel
theorem dX6_fullSpots_5 : decode cX6_fullSpots 5 = .ok (.bipush 10, 2) := by decide +kernel
theorem dX6_fullSpots_7 : decode cX6_fullSpots 7 = .ok (.if_icmp .ge 22, 3) := by decide +kernel
theorem dX6_fullSpots_10 : decode cX6_fullSpots 10 = .ok (.aload_n 0, 1) := by decide +kernel
theorem dX6_fullSpots_11 : decode cX6_fullSpots 11 = .ok (.getfield 25, 3) := by decide +kernel
theorem dX6_fullSpots_14 : decode cX6_fullSpots 14 = .ok (.iload_n 2, 1) := by decide +kernel
theorem dX6_fullSpots_15 : decode cX6_fullSpots 15 = .ok (.iaload, 1) := by decide +kernel
theorem dX6_fullSpots_16 : decode cX6_fullSpots 16 = .ok (.iconst (-1), 1) := by decide +kernel
theorem dX6_fullSpots_17 : decode cX6_fullSpots 17 = .ok (.if_icmp .eq 6, 3) := by decide +kernel
theorem dX6_fullSpots_20 : decode cX6_fullSpots 20 = .ok (.iinc 1 1, 3) := by decide +kernel
theorem dX6_fullSpots_23 : decode cX6_fullSpots 23 = .ok (.iinc 2 1, 3) := by decide +kernel
theorem dX6_fullSpots_26 : decode cX6_fullSpots 26 = .ok (.goto (-22), 3) := by decide +kernel
theorem dX6_fullSpots_29 : decode cX6_fullSpots 29 = .ok (.iload_n 1, 1) := by decide +kernel
theorem dX6_fullSpots_30 : decode cX6_fullSpots 30 = .ok (.ireturn, 1) := by decide +kernel
set_option maxHeartbeats 4000000 in
set_option maxRecDepth 100000 in
theorem c_X6_fullSpots {l : Launch} {ω : xO} (hc : xsh ω = clS)  {M : xMem}  : Ct l ω yX6_fullSpots ({ frames := 0, cells := 0, slots := 0, locals := 0 } : Room) 3 0 [.ref (xad ω 0)] M (some (.int (iI (fsS M 10)))) M := by
  refine Ct.of (bytes := cX6_fullSpots) (ret := (some .int)) (lv0 := [some (.ref (xad ω 0)), none, none]) m_cd_X6_fullSpots m_in_X6 (by decide +kernel) (by decide +kernel) rfl rfl rfl rfl (fun hR => hR) ?_
  intro κ h he hR
  refine x_iconst h dX6_fullSpots_0 ?_
  refine x_istore_n h dX6_fullSpots_1 rfl rfl ?_
  dsimp only [xset]
  refine x_iconst h dX6_fullSpots_2 ?_
  refine x_istore_n h dX6_fullSpots_3 rfl rfl ?_
  dsimp only [xset]
  refine x_same (lv' := [some (.ref (xad ω 0)), some (.int (iI (fsS M 0))), some (.int (iI ((0 : Nat) : Int)))]) (st' := []) (M' := M) ?_ rfl rfl rfl
  refine loop_up (fun k => X ω κ 4 [some (.ref (xad ω 0)), some (.int (iI (fsS M k))), some (.int (iI (k : Int)))] [] M) 10 ?_ ?_
  · show X ω κ 4 [some (.ref (xad ω 0)), some (.int (iI (fsS M 10))), some (.int (iI ((10 : Nat) : Int)))] [] M
    refine x_iload_n h dX6_fullSpots_4 rfl ?_
    refine x_bipush h dX6_fullSpots_5 (by decide) ?_
    refine x_icmp_ge h dX6_fullSpots_7 (tgt := 29) (by decide) (by omega) (by omega) (fun q7 => ?_) (fun q7 => ?_)
    · refine x_iload_n h dX6_fullSpots_29 rfl ?_
      exact x_iret (ret := none) h he dX6_fullSpots_30 rfl rfl rfl
    · exfalso; omega
  · intro k hk ihk
    replace ihk : X ω κ 4 [some (.ref (xad ω 0)), some (.int (iI (fsS M (k + 1)))), some (.int (iI ((k + 1 : Nat) : Int)))] [] M := ihk
    show X ω κ 4 [some (.ref (xad ω 0)), some (.int (iI (fsS M k))), some (.int (iI (k : Int)))] [] M
    refine x_iload_n h dX6_fullSpots_4 rfl ?_
    refine x_bipush h dX6_fullSpots_5 (by decide) ?_
    refine x_icmp_ge h dX6_fullSpots_7 (tgt := 29) (by decide) (by omega) (by omega) (fun q7 => ?_) (fun q7 => ?_)
    · exfalso; omega
    · refine x_aload_n h dX6_fullSpots_10 rfl ?_
      refine x_getr (j := 2) (q := 41) h dX6_fullSpots_11 (sC0 hc) rfl in_X6 rfl (by decide) m_fl_X6_25 ?_
      refine x_iload_n h dX6_fullSpots_14 rfl ?_
      refine x_iaload h dX6_fullSpots_15 (sC41 hc) (by omega) (fun r15 => ?_)
      refine x_iconst h dX6_fullSpots_16 ?_
      refine x_icmp_eq h dX6_fullSpots_17 (tgt := 23) (by decide) (by omega) (by omega) (fun q17 => ?_) (fun q17 => ?_)
      · refine x_iinc h dX6_fullSpots_23 rfl rfl rfl ?_
        dsimp only [xset]
        refine x_goto h dX6_fullSpots_26 (tgt := 4) (by decide) ?_
        first
          | exact x_same ihk (by rw [fsS_s, fsG, if_pos q17]; rfl) rfl rfl
          | exact x_same ihk (by rw [fsS_s, fsG, if_neg q17]; rfl) rfl rfl
      · refine x_iinc h dX6_fullSpots_20 rfl rfl rfl ?_
        dsimp only [xset]
        refine x_iinc h dX6_fullSpots_23 rfl rfl rfl ?_
        dsimp only [xset]
        refine x_goto h dX6_fullSpots_26 (tgt := 4) (by decide) ?_
        first
          | exact x_same ihk (by rw [fsS_s, fsG, if_pos q17]; rfl) rfl rfl
          | exact x_same ihk (by rw [fsS_s, fsG, if_neg q17]; rfl) rfl rfl

noncomputable def countR (M : xMem) (v : Int) : Int := if v = 0 then M 11 2 else if v = 1 then M 11 1 else if v = 2 then pc8 (lmS M 11) else if v = 3 then laO (M (1 + 1)) 10 else if v = 4 then roS M 11 else if v = 5 then M 47 1 else if v = 6 then M 0 3 else if v = 7 then fsS M 10 else -1000001
noncomputable def countM (M : xMem) (v : Int) : xMem := if 0 ≤ v ∧ v ≤ 7 then M else fndC M 0
theorem dX6_count_0 : decode cX6_count 0 = .ok (.iload_n 1, 1) := by decide +kernel
theorem dX6_count_1 : decode cX6_count 1 = .ok (.tableswitch 108 0 7 #[47, 55, 63, 74, 82, 90, 98, 103], 47) := by decide +kernel
theorem dX6_count_48 : decode cX6_count 48 = .ok (.aload_n 0, 1) := by decide +kernel
theorem dX6_count_49 : decode cX6_count 49 = .ok (.getfield 21, 3) := by decide +kernel
theorem dX6_count_52 : decode cX6_count 52 = .ok (.invokevirtual 182, 3) := by decide +kernel
theorem dX6_count_55 : decode cX6_count 55 = .ok (.ireturn, 1) := by decide +kernel
theorem dX6_count_56 : decode cX6_count 56 = .ok (.aload_n 0, 1) := by decide +kernel
theorem dX6_count_57 : decode cX6_count 57 = .ok (.getfield 21, 3) := by decide +kernel
theorem dX6_count_60 : decode cX6_count 60 = .ok (.invokevirtual 113, 3) := by decide +kernel
theorem dX6_count_63 : decode cX6_count 63 = .ok (.ireturn, 1) := by decide +kernel
theorem dX6_count_64 : decode cX6_count 64 = .ok (.aload_n 0, 1) := by decide +kernel
theorem dX6_count_65 : decode cX6_count 65 = .ok (.getfield 21, 3) := by decide +kernel
theorem dX6_count_68 : decode cX6_count 68 = .ok (.invokevirtual 217, 3) := by decide +kernel
theorem dX6_count_71 : decode cX6_count 71 = .ok (.invokestatic 223, 3) := by decide +kernel
theorem dX6_count_74 : decode cX6_count 74 = .ok (.ireturn, 1) := by decide +kernel
theorem dX6_count_75 : decode cX6_count 75 = .ok (.aload_n 0, 1) := by decide +kernel
theorem dX6_count_76 : decode cX6_count 76 = .ok (.getfield 10, 3) := by decide +kernel
theorem dX6_count_79 : decode cX6_count 79 = .ok (.invokevirtual 337, 3) := by decide +kernel
theorem dX6_count_82 : decode cX6_count 82 = .ok (.ireturn, 1) := by decide +kernel
theorem dX6_count_83 : decode cX6_count 83 = .ok (.aload_n 0, 1) := by decide +kernel
theorem dX6_count_84 : decode cX6_count 84 = .ok (.getfield 21, 3) := by decide +kernel
theorem dX6_count_87 : decode cX6_count 87 = .ok (.invokevirtual 340, 3) := by decide +kernel
theorem dX6_count_90 : decode cX6_count 90 = .ok (.ireturn, 1) := by decide +kernel
theorem dX6_count_91 : decode cX6_count 91 = .ok (.aload_n 0, 1) := by decide +kernel
theorem dX6_count_92 : decode cX6_count 92 = .ok (.getfield 62, 3) := by decide +kernel
theorem dX6_count_95 : decode cX6_count 95 = .ok (.invokevirtual 282, 3) := by decide +kernel
theorem dX6_count_98 : decode cX6_count 98 = .ok (.ireturn, 1) := by decide +kernel
theorem dX6_count_99 : decode cX6_count 99 = .ok (.aload_n 0, 1) := by decide +kernel
theorem dX6_count_100 : decode cX6_count 100 = .ok (.getfield 29, 3) := by decide +kernel
theorem dX6_count_103 : decode cX6_count 103 = .ok (.ireturn, 1) := by decide +kernel
theorem dX6_count_104 : decode cX6_count 104 = .ok (.aload_n 0, 1) := by decide +kernel
theorem dX6_count_105 : decode cX6_count 105 = .ok (.invokevirtual 343, 3) := by decide +kernel
theorem dX6_count_108 : decode cX6_count 108 = .ok (.ireturn, 1) := by decide +kernel
theorem dX6_count_109 : decode cX6_count 109 = .ok (.aload_n 0, 1) := by decide +kernel
theorem dX6_count_110 : decode cX6_count 110 = .ok (.iconst 0, 1) := by decide +kernel
theorem dX6_count_111 : decode cX6_count 111 = .ok (.invokevirtual 95, 3) := by decide +kernel
theorem dX6_count_114 : decode cX6_count 114 = .ok (.ireturn, 1) := by decide +kernel
set_option maxHeartbeats 4000000 in
set_option maxRecDepth 100000 in
theorem c_X6_count {l : Launch} {ω : xO} (hc : xsh ω = clS) {v : Int} {M : xMem} (hJ : CInv M) (h_v : inR v) : Ct l ω yX6_count ({ frames := 3, cells := 0, slots := 0, locals := 65 } : Room) 2 1 [.ref (xad ω 0), .int (iI v)] M (some (.int (iI (countR M v)))) (countM M v) := by
  refine Ct.of (bytes := cX6_count) (ret := (some .int)) (lv0 := [some (.ref (xad ω 0)), some (.int (iI v))]) m_cd_X6_count m_in_X6 (by decide +kernel) (by decide +kernel) rfl rfl rfl rfl (fun hR => by unfold countM; (repeat' split) <;> first | exact hR | exact fndC_R hR | (repeat' (first | exact hR | exact fndC_R hR | (with_reducible apply up_R) | (show inR _; omega)))) ?_
  intro κ h he hR
  have hI := hJ.1
  have hD := hJ.2.1
  have hL := hJ.2.2.1
  have hn := hI.1
  have hck := hI.2.1
  have hlm := (lmS_R (M := M) (b := 11) hn).1
  refine x_iload_n h dX6_count_0 rfl ?_
  by_cases sw1 : v < 0 ∨ 7 < v
  · refine x_tsOut h dX6_count_1 (by omega) sw1 (tgt := 109) (by decide) ?_
    refine x_aload_n h dX6_count_109 rfl ?_
    refine x_iconst h dX6_count_110 ?_
    refine x_V1i h dX6_count_111 m_ml_X6_95 m_im_X6_found m_se_X6_found (sC0 hc) rfl (by decide) rfl (c_X6_found hc (by omega)) ?_
    exact x_iret (ret := none) h he dX6_count_114 rfl (by unfold countR; (repeat (first | rw [if_pos (by first | assumption | omega)] | rw [if_neg (by first | assumption | omega)])) <;> first | rfl | omega) (by unfold countM; (repeat (first | rw [if_pos (by first | assumption | omega)] | rw [if_neg (by first | assumption | omega)])) <;> first | rfl | omega)
  rcases (show v = 0 ∨ v = 1 ∨ v = 2 ∨ v = 3 ∨ v = 4 ∨ v = 5 ∨ v = 6 ∨ v = 7 by omega) with q1 | q1 | q1 | q1 | q1 | q1 | q1 | q1
  · refine x_tsIn 0 h dX6_count_1 q1 (by decide) rfl (tgt := 48) (by decide) ?_
    refine x_aload_n h dX6_count_48 rfl ?_
    refine x_getr (j := 1) (q := 11) h dX6_count_49 (sC0 hc) rfl in_X6 rfl (by decide) m_fl_X6_21 ?_
    refine x_V0i h dX6_count_52 m_ml_X6_182 m_im_X1_clock m_se_X1_clock (sPe hc ((Or.inl ⟨rfl, rfl⟩))) rfl (by decide) rfl (c_X1_clock hc (Or.inl ⟨rfl, rfl⟩)) ?_
    exact x_iret (ret := none) h he dX6_count_55 rfl (by unfold countR; (repeat (first | rw [if_pos (by first | assumption | omega)] | rw [if_neg (by first | assumption | omega)])) <;> first | rfl | omega) (by unfold countM; (repeat (first | rw [if_pos (by first | assumption | omega)] | rw [if_neg (by first | assumption | omega)])) <;> first | rfl | omega)
  · refine x_tsIn 1 h dX6_count_1 q1 (by decide) rfl (tgt := 56) (by decide) ?_
    refine x_aload_n h dX6_count_56 rfl ?_
    refine x_getr (j := 1) (q := 11) h dX6_count_57 (sC0 hc) rfl in_X6 rfl (by decide) m_fl_X6_21 ?_
    refine x_V0i h dX6_count_60 m_ml_X6_113 m_im_X1_number m_se_X1_number (sPe hc ((Or.inl ⟨rfl, rfl⟩))) rfl (by decide) rfl (c_X1_number hc (Or.inl ⟨rfl, rfl⟩)) ?_
    exact x_iret (ret := none) h he dX6_count_63 rfl (by unfold countR; (repeat (first | rw [if_pos (by first | assumption | omega)] | rw [if_neg (by first | assumption | omega)])) <;> first | rfl | omega) (by unfold countM; (repeat (first | rw [if_pos (by first | assumption | omega)] | rw [if_neg (by first | assumption | omega)])) <;> first | rfl | omega)
  · refine x_tsIn 2 h dX6_count_1 q1 (by decide) rfl (tgt := 64) (by decide) ?_
    refine x_aload_n h dX6_count_64 rfl ?_
    refine x_getr (j := 1) (q := 11) h dX6_count_65 (sC0 hc) rfl in_X6 rfl (by decide) m_fl_X6_21 ?_
    refine x_V0i h dX6_count_68 m_ml_X6_217 m_im_X1_lesserMates m_se_X1_lesserMates (sPe hc ((Or.inl ⟨rfl, rfl⟩))) rfl (by decide) rfl (c_X1_lesserMates hc ((Or.inl ⟨rfl, rfl⟩)) hI) ?_
    refine x_S1i h dX6_count_71 m_ml_X6_223 m_st_J6_bitCount_0f7a4 (by decide) rfl (c_J6_bitCount_0f7a4 hlm) ?_
    exact x_iret (ret := none) h he dX6_count_74 rfl (by unfold countR; (repeat (first | rw [if_pos (by first | assumption | omega)] | rw [if_neg (by first | assumption | omega)])) <;> first | rfl | omega) (by unfold countM; (repeat (first | rw [if_pos (by first | assumption | omega)] | rw [if_neg (by first | assumption | omega)])) <;> first | rfl | omega)
  · refine x_tsIn 3 h dX6_count_1 q1 (by decide) rfl (tgt := 75) (by decide) ?_
    refine x_aload_n h dX6_count_75 rfl ?_
    refine x_getr (j := 0) (q := 1) h dX6_count_76 (sC0 hc) rfl in_X6 rfl (by decide) m_fl_X6_10 ?_
    refine x_V0i h dX6_count_79 m_ml_X6_337 m_im_X3_lengthOfAll m_se_X3_lengthOfAll (sRd hc ((Or.inl rfl))) rfl (by decide) rfl (c_X3_lengthOfAll hc ((Or.inl rfl))) ?_
    exact x_iret (ret := none) h he dX6_count_82 rfl (by unfold countR; (repeat (first | rw [if_pos (by first | assumption | omega)] | rw [if_neg (by first | assumption | omega)])) <;> first | rfl | omega) (by unfold countM; (repeat (first | rw [if_pos (by first | assumption | omega)] | rw [if_neg (by first | assumption | omega)])) <;> first | rfl | omega)
  · refine x_tsIn 4 h dX6_count_1 q1 (by decide) rfl (tgt := 83) (by decide) ?_
    refine x_aload_n h dX6_count_83 rfl ?_
    refine x_getr (j := 1) (q := 11) h dX6_count_84 (sC0 hc) rfl in_X6 rfl (by decide) m_fl_X6_21 ?_
    refine x_V0i h dX6_count_87 m_ml_X6_340 m_im_X1_ropeOfAll m_se_X1_ropeOfAll (sPe hc ((Or.inl ⟨rfl, rfl⟩))) rfl (by decide) rfl (c_X1_ropeOfAll hc ((Or.inl ⟨rfl, rfl⟩)) hI) ?_
    exact x_iret (ret := none) h he dX6_count_90 rfl (by unfold countR; (repeat (first | rw [if_pos (by first | assumption | omega)] | rw [if_neg (by first | assumption | omega)])) <;> first | rfl | omega) (by unfold countM; (repeat (first | rw [if_pos (by first | assumption | omega)] | rw [if_neg (by first | assumption | omega)])) <;> first | rfl | omega)
  · refine x_tsIn 5 h dX6_count_1 q1 (by decide) rfl (tgt := 91) (by decide) ?_
    refine x_aload_n h dX6_count_91 rfl ?_
    refine x_getr (j := 11) (q := 47) h dX6_count_92 (sC0 hc) rfl in_X6 rfl (by decide) m_fl_X6_62 ?_
    refine x_V0i h dX6_count_95 m_ml_X6_282 m_im_X5_size m_se_X5_size (sC47 hc) rfl (by decide) rfl (c_X5_size hc) ?_
    exact x_iret (ret := none) h he dX6_count_98 rfl (by unfold countR; (repeat (first | rw [if_pos (by first | assumption | omega)] | rw [if_neg (by first | assumption | omega)])) <;> first | rfl | omega) (by unfold countM; (repeat (first | rw [if_pos (by first | assumption | omega)] | rw [if_neg (by first | assumption | omega)])) <;> first | rfl | omega)
  · refine x_tsIn 6 h dX6_count_1 q1 (by decide) rfl (tgt := 99) (by decide) ?_
    refine x_aload_n h dX6_count_99 rfl ?_
    refine x_geti (j := 3) 3 h dX6_count_100 (sC0 hc) rfl in_X6 rfl (by decide) m_fl_X6_29 rfl (fun r100 => ?_)
    exact x_iret (ret := none) h he dX6_count_103 rfl (by unfold countR; (repeat (first | rw [if_pos (by first | assumption | omega)] | rw [if_neg (by first | assumption | omega)])) <;> first | rfl | omega) (by unfold countM; (repeat (first | rw [if_pos (by first | assumption | omega)] | rw [if_neg (by first | assumption | omega)])) <;> first | rfl | omega)
  · refine x_tsIn 7 h dX6_count_1 q1 (by decide) rfl (tgt := 104) (by decide) ?_
    refine x_aload_n h dX6_count_104 rfl ?_
    refine x_V0i h dX6_count_105 m_ml_X6_343 m_im_X6_fullSpots m_se_X6_fullSpots (sC0 hc) rfl (by decide) rfl (c_X6_fullSpots hc) ?_
    exact x_iret (ret := none) h he dX6_count_108 rfl (by unfold countR; (repeat (first | rw [if_pos (by first | assumption | omega)] | rw [if_neg (by first | assumption | omega)])) <;> first | rfl | omega) (by unfold countM; (repeat (first | rw [if_pos (by first | assumption | omega)] | rw [if_neg (by first | assumption | omega)])) <;> first | rfl | omega)

def tyS (M : xMem) (n : Nat) : Int := xfo (fun (i acc : Int) => acc + M 55 i) 0 n
noncomputable def statusR (M : xMem) (w : Int) : Int := if 0 ≤ w ∧ w < 7 then M 55 w else if w = -1 then tyS M 7 else -1000001
noncomputable def statusM (M : xMem) (w : Int) : xMem := if 0 ≤ w ∧ w < 7 then M else if w = -1 then M else fndC M 0
theorem dX6_status_0 : decode cX6_status 0 = .ok (.iload_n 1, 1) := by decide +kernel
theorem dX6_status_1 : decode cX6_status 1 = .ok (.ifCond .lt 16, 3) := by decide +kernel
theorem dX6_status_4 : decode cX6_status 4 = .ok (.iload_n 1, 1) := by decide +kernel
theorem dX6_status_5 : decode cX6_status 5 = .ok (.bipush 7, 2) := by decide +kernel
theorem dX6_status_7 : decode cX6_status 7 = .ok (.if_icmp .ge 10, 3) := by decide +kernel
theorem dX6_status_10 : decode cX6_status 10 = .ok (.aload_n 0, 1) := by decide +kernel
theorem dX6_status_11 : decode cX6_status 11 = .ok (.getfield 82, 3) := by decide +kernel
theorem dX6_status_14 : decode cX6_status 14 = .ok (.iload_n 1, 1) := by decide +kernel
theorem dX6_status_15 : decode cX6_status 15 = .ok (.iaload, 1) := by decide +kernel
theorem dX6_status_16 : decode cX6_status 16 = .ok (.ireturn, 1) := by decide +kernel
theorem dX6_status_17 : decode cX6_status 17 = .ok (.iload_n 1, 1) := by decide +kernel
theorem dX6_status_18 : decode cX6_status 18 = .ok (.iconst (-1), 1) := by decide +kernel
theorem dX6_status_19 : decode cX6_status 19 = .ok (.if_icmp .eq 9, 3) := by decide +kernel
theorem dX6_status_22 : decode cX6_status 22 = .ok (.aload_n 0, 1) := by decide +kernel
theorem dX6_status_23 : decode cX6_status 23 = .ok (.iconst 0, 1) := by decide +kernel
theorem dX6_status_24 : decode cX6_status 24 = .ok (.invokevirtual 95, 3) := by decide +kernel
theorem dX6_status_27 : decode cX6_status 27 = .ok (.ireturn, 1) := by decide +kernel
theorem dX6_status_28 : decode cX6_status 28 = .ok (.iconst 0, 1) := by decide +kernel
theorem dX6_status_29 : decode cX6_status 29 = .ok (.istore_n 2, 1) := by decide +kernel
theorem dX6_status_30 : decode cX6_status 30 = .ok (.iconst 0, 1) := by decide +kernel
theorem dX6_status_31 : decode cX6_status 31 = .ok (.istore_n 3, 1) := by decide +kernel
theorem dX6_status_32 : decode cX6_status 32 = .ok (.iload_n 3, 1) := by decide +kernel
theorem dX6_status_33 : decode cX6_status 33 = .ok (.bipush 7, 2) := by decide +kernel
theorem dX6_status_35 : decode cX6_status 35 = .ok (.if_icmp .ge 18, 3) := by decide +kernel
theorem dX6_status_38 : decode cX6_status 38 = .ok (.iload_n 2, 1) := by decide +kernel
theorem dX6_status_39 : decode cX6_status 39 = .ok (.aload_n 0, 1) := by decide +kernel
theorem dX6_status_40 : decode cX6_status 40 = .ok (.getfield 82, 3) := by decide +kernel
theorem dX6_status_43 : decode cX6_status 43 = .ok (.iload_n 3, 1) := by decide +kernel
theorem dX6_status_44 : decode cX6_status 44 = .ok (.iaload, 1) := by decide +kernel
theorem dX6_status_45 : decode cX6_status 45 = .ok (.iadd, 1) := by decide +kernel
theorem dX6_status_46 : decode cX6_status 46 = .ok (.istore_n 2, 1) := by decide +kernel
theorem dX6_status_47 : decode cX6_status 47 = .ok (.iinc 3 1, 3) := by decide +kernel
theorem dX6_status_50 : decode cX6_status 50 = .ok (.goto (-18), 3) := by decide +kernel
theorem dX6_status_53 : decode cX6_status 53 = .ok (.iload_n 2, 1) := by decide +kernel
theorem dX6_status_54 : decode cX6_status 54 = .ok (.ireturn, 1) := by decide +kernel
set_option maxHeartbeats 4000000 in
set_option maxRecDepth 100000 in
theorem c_X6_status {l : Launch} {ω : xO} (hc : xsh ω = clS) {w : Int} {M : xMem} (hJ : CInv M) (h_w : inR w) : Ct l ω yX6_status ({ frames := 1, cells := 0, slots := 0, locals := 21 } : Room) 4 1 [.ref (xad ω 0), .int (iI w)] M (some (.int (iI (statusR M w)))) (statusM M w) := by
  refine Ct.of (bytes := cX6_status) (ret := (some .int)) (lv0 := [some (.ref (xad ω 0)), some (.int (iI w)), none, none]) m_cd_X6_status m_in_X6 (by decide +kernel) (by decide +kernel) rfl rfl rfl rfl (fun hR => by unfold statusM; (repeat' split) <;> first | exact hR | exact fndC_R hR | (repeat' (first | exact hR | exact fndC_R hR | (with_reducible apply up_R) | (show inR _; omega)))) ?_
  intro κ h he hR
  have hI := hJ.1
  have hD := hJ.2.1
  have hL := hJ.2.2.1
  have hn := hI.1
  have hck := hI.2.1
  refine x_iload_n h dX6_status_0 rfl ?_
  refine x_if_lt h dX6_status_1 (tgt := 17) (by decide) (by omega) (fun q1 => ?_) (fun q1 => ?_)
  · refine x_iload_n h dX6_status_17 rfl ?_
    refine x_iconst h dX6_status_18 ?_
    refine x_icmp_eq h dX6_status_19 (tgt := 28) (by decide) (by omega) (by omega) (fun q19 => ?_) (fun q19 => ?_)
    · refine x_iconst h dX6_status_28 ?_
      refine x_istore_n h dX6_status_29 rfl rfl ?_
      dsimp only [xset]
      refine x_iconst h dX6_status_30 ?_
      refine x_istore_n h dX6_status_31 rfl rfl ?_
      dsimp only [xset]
      refine x_same (lv' := [some (.ref (xad ω 0)), some (.int (iI w)), some (.int (iI (tyS M 0))), some (.int (iI ((0 : Nat) : Int)))]) (st' := []) (M' := M) ?_ rfl rfl rfl
      refine loop_up (fun k => X ω κ 32 [some (.ref (xad ω 0)), some (.int (iI w)), some (.int (iI (tyS M k))), some (.int (iI (k : Int)))] [] M) 7 ?_ ?_
      · show X ω κ 32 [some (.ref (xad ω 0)), some (.int (iI w)), some (.int (iI (tyS M 7))), some (.int (iI ((7 : Nat) : Int)))] [] M
        refine x_iload_n h dX6_status_32 rfl ?_
        refine x_bipush h dX6_status_33 (by decide) ?_
        refine x_icmp_ge h dX6_status_35 (tgt := 53) (by decide) (by omega) (by omega) (fun q35 => ?_) (fun q35 => ?_)
        · refine x_iload_n h dX6_status_53 rfl ?_
          exact x_iret (ret := none) h he dX6_status_54 rfl (by unfold statusR; rw [if_neg (by omega), if_pos q19]) (by unfold statusM; rw [if_neg (by omega), if_pos q19] <;> rfl)
        · exfalso; omega
      · intro k hk ihk
        replace ihk : X ω κ 32 [some (.ref (xad ω 0)), some (.int (iI w)), some (.int (iI (tyS M (k + 1)))), some (.int (iI ((k + 1 : Nat) : Int)))] [] M := ihk
        show X ω κ 32 [some (.ref (xad ω 0)), some (.int (iI w)), some (.int (iI (tyS M k))), some (.int (iI (k : Int)))] [] M
        refine x_iload_n h dX6_status_32 rfl ?_
        refine x_bipush h dX6_status_33 (by decide) ?_
        refine x_icmp_ge h dX6_status_35 (tgt := 53) (by decide) (by omega) (by omega) (fun q35 => ?_) (fun q35 => ?_)
        · exfalso; omega
        · refine x_iload_n h dX6_status_38 rfl ?_
          refine x_aload_n h dX6_status_39 rfl ?_
          refine x_getr (j := 14) (q := 55) h dX6_status_40 (sC0 hc) rfl in_X6 rfl (by decide) m_fl_X6_82 ?_
          refine x_iload_n h dX6_status_43 rfl ?_
          refine x_iaload h dX6_status_44 (sC55 hc) (by omega) (fun r44 => ?_)
          refine x_iadd h dX6_status_45 ?_
          refine x_istore_n h dX6_status_46 rfl rfl ?_
          dsimp only [xset]
          refine x_iinc h dX6_status_47 rfl rfl rfl ?_
          dsimp only [xset]
          refine x_goto h dX6_status_50 (tgt := 32) (by decide) ?_
          exact ihk
    · refine x_aload_n h dX6_status_22 rfl ?_
      refine x_iconst h dX6_status_23 ?_
      refine x_V1i h dX6_status_24 m_ml_X6_95 m_im_X6_found m_se_X6_found (sC0 hc) rfl (by decide) rfl (c_X6_found hc (by omega)) ?_
      exact x_iret (ret := none) h he dX6_status_27 rfl (by unfold statusR; (repeat (first | rw [if_pos (by first | assumption | omega)] | rw [if_neg (by first | assumption | omega)])) <;> first | rfl | omega) (by unfold statusM; (repeat (first | rw [if_pos (by first | assumption | omega)] | rw [if_neg (by first | assumption | omega)])) <;> first | rfl | omega)
  · refine x_iload_n h dX6_status_4 rfl ?_
    refine x_bipush h dX6_status_5 (by decide) ?_
    refine x_icmp_ge h dX6_status_7 (tgt := 17) (by decide) (by omega) (by omega) (fun q7 => ?_) (fun q7 => ?_)
    · refine x_iload_n h dX6_status_17 rfl ?_
      refine x_iconst h dX6_status_18 ?_
      refine x_icmp_eq h dX6_status_19 (tgt := 28) (by decide) (by omega) (by omega) (fun q19 => ?_) (fun q19 => ?_)
      · refine x_iconst h dX6_status_28 ?_
        refine x_istore_n h dX6_status_29 rfl rfl ?_
        dsimp only [xset]
        refine x_iconst h dX6_status_30 ?_
        refine x_istore_n h dX6_status_31 rfl rfl ?_
        dsimp only [xset]
        refine x_same (lv' := [some (.ref (xad ω 0)), some (.int (iI w)), some (.int (iI (tyS M 0))), some (.int (iI ((0 : Nat) : Int)))]) (st' := []) (M' := M) ?_ rfl rfl rfl
        refine loop_up (fun k => X ω κ 32 [some (.ref (xad ω 0)), some (.int (iI w)), some (.int (iI (tyS M k))), some (.int (iI (k : Int)))] [] M) 7 ?_ ?_
        · show X ω κ 32 [some (.ref (xad ω 0)), some (.int (iI w)), some (.int (iI (tyS M 7))), some (.int (iI ((7 : Nat) : Int)))] [] M
          refine x_iload_n h dX6_status_32 rfl ?_
          refine x_bipush h dX6_status_33 (by decide) ?_
          refine x_icmp_ge h dX6_status_35 (tgt := 53) (by decide) (by omega) (by omega) (fun q35 => ?_) (fun q35 => ?_)
          · refine x_iload_n h dX6_status_53 rfl ?_
            exact x_iret (ret := none) h he dX6_status_54 rfl (by unfold statusR; rw [if_neg (by omega), if_pos q19]) (by unfold statusM; rw [if_neg (by omega), if_pos q19] <;> rfl)
          · exfalso; omega
        · intro k hk ihk
          replace ihk : X ω κ 32 [some (.ref (xad ω 0)), some (.int (iI w)), some (.int (iI (tyS M (k + 1)))), some (.int (iI ((k + 1 : Nat) : Int)))] [] M := ihk
          show X ω κ 32 [some (.ref (xad ω 0)), some (.int (iI w)), some (.int (iI (tyS M k))), some (.int (iI (k : Int)))] [] M
          refine x_iload_n h dX6_status_32 rfl ?_
          refine x_bipush h dX6_status_33 (by decide) ?_
          refine x_icmp_ge h dX6_status_35 (tgt := 53) (by decide) (by omega) (by omega) (fun q35 => ?_) (fun q35 => ?_)
          · exfalso; omega
          · refine x_iload_n h dX6_status_38 rfl ?_
            refine x_aload_n h dX6_status_39 rfl ?_
            refine x_getr (j := 14) (q := 55) h dX6_status_40 (sC0 hc) rfl in_X6 rfl (by decide) m_fl_X6_82 ?_
            refine x_iload_n h dX6_status_43 rfl ?_
            refine x_iaload h dX6_status_44 (sC55 hc) (by omega) (fun r44 => ?_)
            refine x_iadd h dX6_status_45 ?_
            refine x_istore_n h dX6_status_46 rfl rfl ?_
            dsimp only [xset]
            refine x_iinc h dX6_status_47 rfl rfl rfl ?_
            dsimp only [xset]
            refine x_goto h dX6_status_50 (tgt := 32) (by decide) ?_
            exact ihk
      · refine x_aload_n h dX6_status_22 rfl ?_
        refine x_iconst h dX6_status_23 ?_
        refine x_V1i h dX6_status_24 m_ml_X6_95 m_im_X6_found m_se_X6_found (sC0 hc) rfl (by decide) rfl (c_X6_found hc (by omega)) ?_
        exact x_iret (ret := none) h he dX6_status_27 rfl (by unfold statusR; (repeat (first | rw [if_pos (by first | assumption | omega)] | rw [if_neg (by first | assumption | omega)])) <;> first | rfl | omega) (by unfold statusM; (repeat (first | rw [if_pos (by first | assumption | omega)] | rw [if_neg (by first | assumption | omega)])) <;> first | rfl | omega)
    · refine x_aload_n h dX6_status_10 rfl ?_
      refine x_getr (j := 14) (q := 55) h dX6_status_11 (sC0 hc) rfl in_X6 rfl (by decide) m_fl_X6_82 ?_
      refine x_iload_n h dX6_status_14 rfl ?_
      refine x_iaload h dX6_status_15 (sC55 hc) (by omega) (fun r15 => ?_)
      exact x_iret (ret := none) h he dX6_status_16 rfl (by unfold statusR; (repeat (first | rw [if_pos (by first | assumption | omega)] | rw [if_neg (by first | assumption | omega)])) <;> first | rfl | omega) (by unfold statusM; (repeat (first | rw [if_pos (by first | assumption | omega)] | rw [if_neg (by first | assumption | omega)])) <;> first | rfl | omega)
