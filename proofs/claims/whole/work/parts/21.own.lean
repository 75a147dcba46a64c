/-! the class: its own methods, one -/
def fndC (M : xMem) (f : Int) : xMem := up M 55 f (wr (M 55 f + 1))
theorem fndC_R {M : xMem} {f : Int} (h : xR M) : xR (fndC M f) := up_R h (wr_R _)
/-- the parts of the class's state that its methods lean on -/
def CInv (M : xMem) : Prop := PeInv M 11 ∧ RdInv M 1 ∧ LB (M (1 + 1)) ∧ (0 ≤ M 47 1 ∧ M 47 1 ≤ 120) ∧ ∀ s, 0 ≤ s → s < 4 → 0 ≤ M 53 s ∧ M 53 s ≤ 40
theorem dX6_found_0 : decode cX6_found 0 = .ok (.iload_n 1, 1) := by decide +kernel
theorem dX6_found_1 : decode cX6_found 1 = .ok (.ifCond .lt 19, 3) := by decide +kernel
theorem dX6_found_4 : decode cX6_found 4 = .ok (.iload_n 1, 1) := by decide +kernel
theorem dX6_found_5 : decode cX6_found 5 = .ok (.bipush 7, 2) := by decide +kernel
theorem dX6_found_7 : decode cX6_found 7 = .ok (.if_icmp .ge 13, 3) := by decide +kernel
theorem dX6_found_10 : decode cX6_found 10 = .ok (.aload_n 0, 1) := by decide +kernel
theorem dX6_found_11 : decode cX6_found 11 = .ok (.getfield 82, 3) := by decide +kernel
theorem dX6_found_14 : decode cX6_found 14 = .ok (.iload_n 1, 1) := by decide +kernel
theorem dX6_found_15 : decode cX6_found 15 = .ok (.dup2, 1) := by decide +kernel
theorem dX6_found_16 : decode cX6_found 16 = .ok (.iaload, 1) := by decide +kernel
theorem dX6_found_17 : decode cX6_found 17 = .ok (.iconst 1, 1) := by decide +kernel
theorem dX6_found_18 : decode cX6_found 18 = .ok (.iadd, 1) := by decide +kernel
theorem dX6_found_19 : decode cX6_found 19 = .ok (.iastore, 1) := by decide +kernel
theorem dX6_found_20 : decode cX6_found 20 = .ok (.ldc_w 346, 3) := by decide +kernel
theorem dX6_found_23 : decode cX6_found 23 = .ok (.iload_n 1, 1) := by decide +kernel
theorem dX6_found_24 : decode cX6_found 24 = .ok (.isub, 1) := by decide +kernel
theorem dX6_found_25 : decode cX6_found 25 = .ok (.ireturn, 1) := by decide +kernel
set_option maxHeartbeats 4000000 in
set_option maxRecDepth 100000 in
theorem c_X6_found {l : Launch} {ω : xO} (hc : xsh ω = clS) {f : Int} {M : xMem} (hf : 0 ≤ f ∧ f < 7) : Ct l ω yX6_found ({ frames := 0, cells := 0, slots := 0, locals := 0 } : Room) 2 1 [.ref (xad ω 0), .int (iI f)] M (some (.int (iI (-1000001 - f)))) (fndC M f) := by
  refine Ct.of (bytes := cX6_found) (ret := (some .int)) (lv0 := [some (.ref (xad ω 0)), some (.int (iI f))]) m_cd_X6_found m_in_X6 (by decide +kernel) (by decide +kernel) rfl rfl rfl rfl fndC_R ?_
  intro κ h he hR
  refine x_iload_n h dX6_found_0 rfl ?_
  refine x_if_lt h dX6_found_1 (tgt := 20) (by decide) (by omega) (fun q1 => ?_) (fun q1 => ?_)
  · refine x_ldcw h m_k_X6_346 dX6_found_20 ?_
    refine x_iload_n h dX6_found_23 rfl ?_
    refine x_isub h dX6_found_24 ?_
    exact x_iret (ret := none) h he dX6_found_25 rfl (by first | rfl | omega | exact (bI_t (by omega)).symm | exact (bI_f (by omega)).symm) (by first | rfl | (exfalso; omega))
  · refine x_iload_n h dX6_found_4 rfl ?_
    refine x_bipush h dX6_found_5 (by decide) ?_
    refine x_icmp_ge h dX6_found_7 (tgt := 20) (by decide) (by omega) (by omega) (fun q7 => ?_) (fun q7 => ?_)
    · refine x_ldcw h m_k_X6_346 dX6_found_20 ?_
      refine x_iload_n h dX6_found_23 rfl ?_
      refine x_isub h dX6_found_24 ?_
      exact x_iret (ret := none) h he dX6_found_25 rfl (by first | rfl | omega | exact (bI_t (by omega)).symm | exact (bI_f (by omega)).symm) (by first | rfl | (exfalso; omega))
    · refine x_aload_n h dX6_found_10 rfl ?_
      refine x_getr (j := 14) (q := 55) h dX6_found_11 (sC0 hc) rfl in_X6 rfl (by decide) m_fl_X6_82 ?_
      refine x_iload_n h dX6_found_14 rfl ?_
      refine x_dup2 h dX6_found_15 rfl rfl ?_
      refine x_iaload h dX6_found_16 (sC55 hc) (by omega) (fun r16 => ?_)
      refine x_iconst h dX6_found_17 ?_
      refine x_iadd h dX6_found_18 ?_
      refine x_wr (fun r19 => ?_)
      refine x_iastore h dX6_found_19 (sC55 hc) (by omega) (by omega) ?_
      refine x_ldcw h m_k_X6_346 dX6_found_20 ?_
      refine x_iload_n h dX6_found_23 rfl ?_
      refine x_isub h dX6_found_24 ?_
      exact x_iret (ret := none) h he dX6_found_25 rfl (by first | rfl | omega | exact (bI_t (by omega)).symm | exact (bI_f (by omega)).symm) (by first | rfl | (exfalso; omega))

noncomputable def farR (M : xMem) (a c : Int) : Int := if plc a ∧ plc c then M (1 + 2) (a * 10 + c) else -1000001
noncomputable def farM (M : xMem) (a c : Int) : xMem := if plc a ∧ plc c then M else fndC M 0
theorem dX6_far_0 : decode cX6_far 0 = .ok (.iload_n 1, 1) := by decide +kernel
theorem dX6_far_1 : decode cX6_far 1 = .ok (.invokestatic 91, 3) := by decide +kernel
theorem dX6_far_4 : decode cX6_far 4 = .ok (.ifCond .eq 10, 3) := by decide +kernel
theorem dX6_far_7 : decode cX6_far 7 = .ok (.iload_n 2, 1) := by decide +kernel
theorem dX6_far_8 : decode cX6_far 8 = .ok (.invokestatic 91, 3) := by decide +kernel
theorem dX6_far_11 : decode cX6_far 11 = .ok (.ifCond .ne 9, 3) := by decide +kernel
theorem dX6_far_14 : decode cX6_far 14 = .ok (.aload_n 0, 1) := by decide +kernel
theorem dX6_far_15 : decode cX6_far 15 = .ok (.iconst 0, 1) := by decide +kernel
theorem dX6_far_16 : decode cX6_far 16 = .ok (.invokevirtual 95, 3) := by decide +kernel
theorem dX6_far_19 : decode cX6_far 19 = .ok (.ireturn, 1) := by decide +kernel
theorem dX6_far_20 : decode cX6_far 20 = .ok (.aload_n 0, 1) := by decide +kernel
theorem dX6_far_21 : decode cX6_far 21 = .ok (.getfield 10, 3) := by decide +kernel
theorem dX6_far_24 : decode cX6_far 24 = .ok (.iload_n 1, 1) := by decide +kernel
theorem dX6_far_25 : decode cX6_far 25 = .ok (.iload_n 2, 1) := by decide +kernel
theorem dX6_far_26 : decode cX6_far 26 = .ok (.invokevirtual 107, 3) := by decide +kernel
theorem dX6_far_29 : decode cX6_far 29 = .ok (.ireturn, 1) := by decide +kernel
set_option maxHeartbeats 4000000 in
set_option maxRecDepth 100000 in
theorem c_X6_far {l : Launch} {ω : xO} (hc : xsh ω = clS) {a c : Int} {M : xMem} (hJ : CInv M) (h_a : inR a) (h_c : inR c) : Ct l ω yX6_far ({ frames := 2, cells := 0, slots := 0, locals := 42 } : Room) 3 2 [.ref (xad ω 0), .int (iI a), .int (iI c)] M (some (.int (iI (farR M a c)))) (farM M a c) := by
  refine Ct.of (bytes := cX6_far) (ret := (some .int)) (lv0 := [some (.ref (xad ω 0)), some (.int (iI a)), some (.int (iI c))]) m_cd_X6_far m_in_X6 (by decide +kernel) (by decide +kernel) rfl rfl rfl rfl (fun hR => by unfold farM; (repeat' split) <;> first | exact hR | exact fndC_R hR | (repeat' (first | exact hR | exact fndC_R hR | (with_reducible apply up_R) | (show inR _; omega)))) ?_
  intro κ h he hR
  have hI := hJ.1
  have hD := hJ.2.1
  have hL := hJ.2.2.1
  have hn := hI.1
  have hck := hI.2.1
  refine x_iload_n h dX6_far_0 rfl ?_
  refine x_S1i h dX6_far_1 m_ml_X6_91 m_st_X6_isPlace (by decide) rfl (c_X6_isPlace hc (by omega)) ?_
  refine x_ifeqB h dX6_far_4 (tgt := 14) (by decide) (fun q4 => ?_) (fun q4 => ?_)
  · refine x_aload_n h dX6_far_14 rfl ?_
    refine x_iconst h dX6_far_15 ?_
    refine x_V1i h dX6_far_16 m_ml_X6_95 m_im_X6_found m_se_X6_found (sC0 hc) rfl (by decide) rfl (c_X6_found hc (by omega)) ?_
    exact x_iret (ret := none) h he dX6_far_19 rfl (by unfold farR; (repeat (first | rw [if_pos (by first | assumption | omega)] | rw [if_neg (by first | assumption | omega)])) <;> first | rfl | omega) (by unfold farM; (repeat (first | rw [if_pos (by first | assumption | omega)] | rw [if_neg (by first | assumption | omega)])) <;> first | rfl | omega)
  · refine x_iload_n h dX6_far_7 rfl ?_
    refine x_S1i h dX6_far_8 m_ml_X6_91 m_st_X6_isPlace (by decide) rfl (c_X6_isPlace hc (by omega)) ?_
    refine x_ifneB h dX6_far_11 (tgt := 20) (by decide) (fun q11 => ?_) (fun q11 => ?_)
    · refine x_aload_n h dX6_far_20 rfl ?_
      refine x_getr (j := 0) (q := 1) h dX6_far_21 (sC0 hc) rfl in_X6 rfl (by decide) m_fl_X6_10 ?_
      refine x_iload_n h dX6_far_24 rfl ?_
      refine x_iload_n h dX6_far_25 rfl ?_
      refine x_V2i h dX6_far_26 m_ml_X6_107 m_im_X3_distance m_se_X3_distance (sRd hc ((Or.inl rfl))) rfl (by decide) rfl (c_X3_distance hc (Or.inl rfl) (by omega) (by omega)) ?_
      exact x_iret (ret := none) h he dX6_far_29 rfl (by unfold farR; (repeat (first | rw [if_pos (by first | assumption | omega)] | rw [if_neg (by first | assumption | omega)])) <;> first | rfl | omega) (by unfold farM; (repeat (first | rw [if_pos (by first | assumption | omega)] | rw [if_neg (by first | assumption | omega)])) <;> first | rfl | omega)
    · refine x_aload_n h dX6_far_14 rfl ?_
      refine x_iconst h dX6_far_15 ?_
      refine x_V1i h dX6_far_16 m_ml_X6_95 m_im_X6_found m_se_X6_found (sC0 hc) rfl (by decide) rfl (c_X6_found hc (by omega)) ?_
      exact x_iret (ret := none) h he dX6_far_19 rfl (by unfold farR; (repeat (first | rw [if_pos (by first | assumption | omega)] | rw [if_neg (by first | assumption | omega)])) <;> first | rfl | omega) (by unfold farM; (repeat (first | rw [if_pos (by first | assumption | omega)] | rw [if_neg (by first | assumption | omega)])) <;> first | rfl | omega)

noncomputable def wayR (M : xMem) (a c v : Int) : Int := if plc a ∧ plc c ∧ a ≠ c ∧ 0 ≤ v ∧ v ≤ 9 then M (1 + 1) (a * 10 + c) else -1000001
noncomputable def wayM (M : xMem) (a c v : Int) : xMem := if plc a ∧ plc c ∧ a ≠ c ∧ 0 ≤ v ∧ v ≤ 9 then layC M 1 a c v else fndC M 0
theorem dX6_way_0 : decode cX6_way 0 = .ok (.iload_n 1, 1) := by decide +kernel
theorem dX6_way_1 : decode cX6_way 1 = .ok (.invokestatic 91, 3) := by decide +kernel
theorem dX6_way_4 : decode cX6_way 4 = .ok (.ifCond .eq 25, 3) := by decide +kernel
theorem dX6_way_7 : decode cX6_way 7 = .ok (.iload_n 2, 1) := by decide +kernel
theorem dX6_way_8 : decode cX6_way 8 = .ok (.invokestatic 91, 3) := by decide +kernel
theorem dX6_way_11 : decode cX6_way 11 = .ok (.ifCond .eq 18, 3) := by decide +kernel
theorem dX6_way_14 : decode cX6_way 14 = .ok (.iload_n 1, 1) := by decide +kernel
theorem dX6_way_15 : decode cX6_way 15 = .ok (.iload_n 2, 1) := by decide +kernel
theorem dX6_way_16 : decode cX6_way 16 = .ok (.if_icmp .eq 13, 3) := by decide +kernel
theorem dX6_way_19 : decode cX6_way 19 = .ok (.iload_n 3, 1) := by decide +kernel
theorem dX6_way_20 : decode cX6_way 20 = .ok (.ifCond .lt 9, 3) := by decide +kernel
theorem dX6_way_23 : decode cX6_way 23 = .ok (.iload_n 3, 1) := by decide +kernel
theorem dX6_way_24 : decode cX6_way 24 = .ok (.bipush 9, 2) := by decide +kernel
theorem dX6_way_26 : decode cX6_way 26 = .ok (.if_icmp .le 9, 3) := by decide +kernel
theorem dX6_way_29 : decode cX6_way 29 = .ok (.aload_n 0, 1) := by decide +kernel
theorem dX6_way_30 : decode cX6_way 30 = .ok (.iconst 0, 1) := by decide +kernel
theorem dX6_way_31 : decode cX6_way 31 = .ok (.invokevirtual 95, 3) := by decide +kernel
theorem dX6_way_34 : decode cX6_way 34 = .ok (.ireturn, 1) := by decide +kernel
theorem dX6_way_35 : decode cX6_way 35 = .ok (.aload_n 0, 1) := by decide +kernel
theorem dX6_way_36 : decode cX6_way 36 = .ok (.getfield 10, 3) := by decide +kernel
theorem dX6_way_39 : decode cX6_way 39 = .ok (.iload_n 1, 1) := by decide +kernel
theorem dX6_way_40 : decode cX6_way 40 = .ok (.iload_n 2, 1) := by decide +kernel
theorem dX6_way_41 : decode cX6_way 41 = .ok (.invokevirtual 99, 3) := by decide +kernel
theorem dX6_way_44 : decode cX6_way 44 = .ok (.istore 4, 2) := by decide +kernel
theorem dX6_way_46 : decode cX6_way 46 = .ok (.aload_n 0, 1) := by decide +kernel
theorem dX6_way_47 : decode cX6_way 47 = .ok (.getfield 10, 3) := by decide +kernel
theorem dX6_way_50 : decode cX6_way 50 = .ok (.iload_n 1, 1) := by decide +kernel
theorem dX6_way_51 : decode cX6_way 51 = .ok (.iload_n 2, 1) := by decide +kernel
theorem dX6_way_52 : decode cX6_way 52 = .ok (.iload_n 3, 1) := by decide +kernel
theorem dX6_way_53 : decode cX6_way 53 = .ok (.invokevirtual 103, 3) := by decide +kernel
theorem dX6_way_56 : decode cX6_way 56 = .ok (.iload 4, 2) := by decide +kernel
theorem dX6_way_58 : decode cX6_way 58 = .ok (.ireturn, 1) := by decide +kernel
set_option maxHeartbeats 4000000 in
set_option maxRecDepth 100000 in
theorem c_X6_way {l : Launch} {ω : xO} (hc : xsh ω = clS) {a c v : Int} {M : xMem} (hJ : CInv M) (h_a : inR a) (h_c : inR c) (h_v : inR v) : Ct l ω yX6_way ({ frames := 5, cells := 0, slots := 0, locals := 112 } : Room) 5 3 [.ref (xad ω 0), .int (iI a), .int (iI c), .int (iI v)] M (some (.int (iI (wayR M a c v)))) (wayM M a c v) := by
  refine Ct.of (bytes := cX6_way) (ret := (some .int)) (lv0 := [some (.ref (xad ω 0)), some (.int (iI a)), some (.int (iI c)), some (.int (iI v)), none]) m_cd_X6_way m_in_X6 (by decide +kernel) (by decide +kernel) rfl rfl rfl rfl (fun hR => by unfold wayM; split; exact suA_R (up_R (up_R hR (by omega)) (by omega)) (by rw [up_s, up_s]; exact LB_ur (LB_ur hJ.2.2.1 (by omega)) (by omega)) (by omega); exact fndC_R hR) ?_
  intro κ h he hR
  have hI := hJ.1
  have hD := hJ.2.1
  have hL := hJ.2.2.1
  have hn := hI.1
  have hck := hI.2.1
  refine x_iload_n h dX6_way_0 rfl ?_
  refine x_S1i h dX6_way_1 m_ml_X6_91 m_st_X6_isPlace (by decide) rfl (c_X6_isPlace hc (by omega)) ?_
  refine x_ifeqB h dX6_way_4 (tgt := 29) (by decide) (fun q4 => ?_) (fun q4 => ?_)
  · refine x_aload_n h dX6_way_29 rfl ?_
    refine x_iconst h dX6_way_30 ?_
    refine x_V1i h dX6_way_31 m_ml_X6_95 m_im_X6_found m_se_X6_found (sC0 hc) rfl (by decide) rfl (c_X6_found hc (by omega)) ?_
    exact x_iret (ret := none) h he dX6_way_34 rfl (by unfold wayR; (repeat (first | rw [if_pos (by first | assumption | omega)] | rw [if_neg (by first | assumption | omega)])) <;> first | rfl | omega) (by unfold wayM; (repeat (first | rw [if_pos (by first | assumption | omega)] | rw [if_neg (by first | assumption | omega)])) <;> first | rfl | omega)
  · refine x_iload_n h dX6_way_7 rfl ?_
    refine x_S1i h dX6_way_8 m_ml_X6_91 m_st_X6_isPlace (by decide) rfl (c_X6_isPlace hc (by omega)) ?_
    refine x_ifeqB h dX6_way_11 (tgt := 29) (by decide) (fun q11 => ?_) (fun q11 => ?_)
    · refine x_aload_n h dX6_way_29 rfl ?_
      refine x_iconst h dX6_way_30 ?_
      refine x_V1i h dX6_way_31 m_ml_X6_95 m_im_X6_found m_se_X6_found (sC0 hc) rfl (by decide) rfl (c_X6_found hc (by omega)) ?_
      exact x_iret (ret := none) h he dX6_way_34 rfl (by unfold wayR; (repeat (first | rw [if_pos (by first | assumption | omega)] | rw [if_neg (by first | assumption | omega)])) <;> first | rfl | omega) (by unfold wayM; (repeat (first | rw [if_pos (by first | assumption | omega)] | rw [if_neg (by first | assumption | omega)])) <;> first | rfl | omega)
    · refine x_iload_n h dX6_way_14 rfl ?_
      refine x_iload_n h dX6_way_15 rfl ?_
      refine x_icmp_eq h dX6_way_16 (tgt := 29) (by decide) (by omega) (by omega) (fun q16 => ?_) (fun q16 => ?_)
      · refine x_aload_n h dX6_way_29 rfl ?_
        refine x_iconst h dX6_way_30 ?_
        refine x_V1i h dX6_way_31 m_ml_X6_95 m_im_X6_found m_se_X6_found (sC0 hc) rfl (by decide) rfl (c_X6_found hc (by omega)) ?_
        exact x_iret (ret := none) h he dX6_way_34 rfl (by unfold wayR; (repeat (first | rw [if_pos (by first | assumption | omega)] | rw [if_neg (by first | assumption | omega)])) <;> first | rfl | omega) (by unfold wayM; (repeat (first | rw [if_pos (by first | assumption | omega)] | rw [if_neg (by first | assumption | omega)])) <;> first | rfl | omega)
      · refine x_iload_n h dX6_way_19 rfl ?_
        refine x_if_lt h dX6_way_20 (tgt := 29) (by decide) (by omega) (fun q20 => ?_) (fun q20 => ?_)
        · refine x_aload_n h dX6_way_29 rfl ?_
          refine x_iconst h dX6_way_30 ?_
          refine x_V1i h dX6_way_31 m_ml_X6_95 m_im_X6_found m_se_X6_found (sC0 hc) rfl (by decide) rfl (c_X6_found hc (by omega)) ?_
          exact x_iret (ret := none) h he dX6_way_34 rfl (by unfold wayR; (repeat (first | rw [if_pos (by first | assumption | omega)] | rw [if_neg (by first | assumption | omega)])) <;> first | rfl | omega) (by unfold wayM; (repeat (first | rw [if_pos (by first | assumption | omega)] | rw [if_neg (by first | assumption | omega)])) <;> first | rfl | omega)
        · refine x_iload_n h dX6_way_23 rfl ?_
          refine x_bipush h dX6_way_24 (by decide) ?_
          refine x_icmp_le h dX6_way_26 (tgt := 35) (by decide) (by omega) (by omega) (fun q26 => ?_) (fun q26 => ?_)
          · refine x_aload_n h dX6_way_35 rfl ?_
            refine x_getr (j := 0) (q := 1) h dX6_way_36 (sC0 hc) rfl in_X6 rfl (by decide) m_fl_X6_10 ?_
            refine x_iload_n h dX6_way_39 rfl ?_
            refine x_iload_n h dX6_way_40 rfl ?_
            refine x_V2i h dX6_way_41 m_ml_X6_99 m_im_X3_lengthOf m_se_X3_lengthOf (sRd hc ((Or.inl rfl))) rfl (by decide) rfl (c_X3_lengthOf hc (Or.inl rfl) (by omega) (by omega)) ?_
            refine x_istore h dX6_way_44 rfl rfl ?_
            dsimp only [xset]
            refine x_aload_n h dX6_way_46 rfl ?_
            refine x_getr (j := 0) (q := 1) h dX6_way_47 (sC0 hc) rfl in_X6 rfl (by decide) m_fl_X6_10 ?_
            refine x_iload_n h dX6_way_50 rfl ?_
            refine x_iload_n h dX6_way_51 rfl ?_
            refine x_iload_n h dX6_way_52 rfl ?_
            refine x_V3v h dX6_way_53 m_ml_X6_103 m_im_X3_lay m_se_X3_lay (sRd hc ((Or.inl rfl))) rfl (by decide) rfl (c_X3_lay hc ((Or.inl rfl)) hL (by omega) (by omega) (by omega)) ?_
            refine x_iload h dX6_way_56 rfl ?_
            exact x_iret (ret := none) h he dX6_way_58 rfl (by unfold wayR; (repeat (first | rw [if_pos (by first | assumption | omega)] | rw [if_neg (by first | assumption | omega)])) <;> first | rfl | omega) (by unfold wayM; (repeat (first | rw [if_pos (by first | assumption | omega)] | rw [if_neg (by first | assumption | omega)])) <;> first | rfl | omega)
          · refine x_aload_n h dX6_way_29 rfl ?_
            refine x_iconst h dX6_way_30 ?_
            refine x_V1i h dX6_way_31 m_ml_X6_95 m_im_X6_found m_se_X6_found (sC0 hc) rfl (by decide) rfl (c_X6_found hc (by omega)) ?_
            exact x_iret (ret := none) h he dX6_way_34 rfl (by unfold wayR; (repeat (first | rw [if_pos (by first | assumption | omega)] | rw [if_neg (by first | assumption | omega)])) <;> first | rfl | omega) (by unfold wayM; (repeat (first | rw [if_pos (by first | assumption | omega)] | rw [if_neg (by first | assumption | omega)])) <;> first | rfl | omega)

noncomputable def personR (M : xMem) (k a : Int) : Int := if (0 ≤ k ∧ k < 7) ∧ plc a then (if M 11 1 < 8 then M 11 1 else -1000002) else -1000001
noncomputable def personM (M : xMem) (k a : Int) : xMem := if (0 ≤ k ∧ k < 7) ∧ plc a then (if M 11 1 < 8 then addC M 11 k a else fndC M 1) else fndC M 0
theorem dX6_person_0 : decode cX6_person 0 = .ok (.iload_n 1, 1) := by decide +kernel
theorem dX6_person_1 : decode cX6_person 1 = .ok (.invokestatic 110, 3) := by decide +kernel
theorem dX6_person_4 : decode cX6_person 4 = .ok (.ifCond .eq 10, 3) := by decide +kernel
theorem dX6_person_7 : decode cX6_person 7 = .ok (.iload_n 2, 1) := by decide +kernel
theorem dX6_person_8 : decode cX6_person 8 = .ok (.invokestatic 91, 3) := by decide +kernel
theorem dX6_person_11 : decode cX6_person 11 = .ok (.ifCond .ne 9, 3) := by decide +kernel
theorem dX6_person_14 : decode cX6_person 14 = .ok (.aload_n 0, 1) := by decide +kernel
theorem dX6_person_15 : decode cX6_person 15 = .ok (.iconst 0, 1) := by decide +kernel
theorem dX6_person_16 : decode cX6_person 16 = .ok (.invokevirtual 95, 3) := by decide +kernel
theorem dX6_person_19 : decode cX6_person 19 = .ok (.ireturn, 1) := by decide +kernel
theorem dX6_person_20 : decode cX6_person 20 = .ok (.aload_n 0, 1) := by decide +kernel
theorem dX6_person_21 : decode cX6_person 21 = .ok (.getfield 21, 3) := by decide +kernel
theorem dX6_person_24 : decode cX6_person 24 = .ok (.invokevirtual 113, 3) := by decide +kernel
theorem dX6_person_27 : decode cX6_person 27 = .ok (.bipush 8, 2) := by decide +kernel
theorem dX6_person_29 : decode cX6_person 29 = .ok (.if_icmp .lt 9, 3) := by decide +kernel
theorem dX6_person_32 : decode cX6_person 32 = .ok (.aload_n 0, 1) := by decide +kernel
theorem dX6_person_33 : decode cX6_person 33 = .ok (.iconst 1, 1) := by decide +kernel
theorem dX6_person_34 : decode cX6_person 34 = .ok (.invokevirtual 95, 3) := by decide +kernel
theorem dX6_person_37 : decode cX6_person 37 = .ok (.ireturn, 1) := by decide +kernel
theorem dX6_person_38 : decode cX6_person 38 = .ok (.aload_n 0, 1) := by decide +kernel
theorem dX6_person_39 : decode cX6_person 39 = .ok (.getfield 21, 3) := by decide +kernel
theorem dX6_person_42 : decode cX6_person 42 = .ok (.iload_n 1, 1) := by decide +kernel
theorem dX6_person_43 : decode cX6_person 43 = .ok (.iload_n 2, 1) := by decide +kernel
theorem dX6_person_44 : decode cX6_person 44 = .ok (.invokevirtual 117, 3) := by decide +kernel
theorem dX6_person_47 : decode cX6_person 47 = .ok (.ireturn, 1) := by decide +kernel
set_option maxHeartbeats 4000000 in
set_option maxRecDepth 100000 in
theorem c_X6_person {l : Launch} {ω : xO} (hc : xsh ω = clS) {k a : Int} {M : xMem} (hJ : CInv M) (h_k : inR k) (h_a : inR a) : Ct l ω yX6_person ({ frames := 1, cells := 0, slots := 0, locals := 23 } : Room) 3 2 [.ref (xad ω 0), .int (iI k), .int (iI a)] M (some (.int (iI (personR M k a)))) (personM M k a) := by
  refine Ct.of (bytes := cX6_person) (ret := (some .int)) (lv0 := [some (.ref (xad ω 0)), some (.int (iI k)), some (.int (iI a))]) m_cd_X6_person m_in_X6 (by decide +kernel) (by decide +kernel) rfl rfl rfl rfl (fun hR => by have hI := hJ.1; have hn := hI.1; unfold personM; split; split; unfold addC; exact up_R (up_R (up_R (up_R (up_R (up_R (up_R (up_R (up_R hR (by omega)) (by omega)) (by omega)) (by decide)) (by decide)) (by decide)) (by decide)) (by decide)) (by omega); exact fndC_R hR; exact fndC_R hR) ?_
  intro κ h he hR
  have hI := hJ.1
  have hD := hJ.2.1
  have hL := hJ.2.2.1
  have hn := hI.1
  have hck := hI.2.1
  refine x_iload_n h dX6_person_0 rfl ?_
  refine x_S1i h dX6_person_1 m_ml_X6_110 m_st_X6_isKind (by decide) rfl (c_X6_isKind hc (by omega)) ?_
  refine x_ifeqB h dX6_person_4 (tgt := 14) (by decide) (fun q4 => ?_) (fun q4 => ?_)
  · refine x_aload_n h dX6_person_14 rfl ?_
    refine x_iconst h dX6_person_15 ?_
    refine x_V1i h dX6_person_16 m_ml_X6_95 m_im_X6_found m_se_X6_found (sC0 hc) rfl (by decide) rfl (c_X6_found hc (by omega)) ?_
    exact x_iret (ret := none) h he dX6_person_19 rfl (by unfold personR; (repeat (first | rw [if_pos (by first | assumption | omega)] | rw [if_neg (by first | assumption | omega)])) <;> first | rfl | omega) (by unfold personM; (repeat (first | rw [if_pos (by first | assumption | omega)] | rw [if_neg (by first | assumption | omega)])) <;> first | rfl | omega)
  · refine x_iload_n h dX6_person_7 rfl ?_
    refine x_S1i h dX6_person_8 m_ml_X6_91 m_st_X6_isPlace (by decide) rfl (c_X6_isPlace hc (by omega)) ?_
    refine x_ifneB h dX6_person_11 (tgt := 20) (by decide) (fun q11 => ?_) (fun q11 => ?_)
    · refine x_aload_n h dX6_person_20 rfl ?_
      refine x_getr (j := 1) (q := 11) h dX6_person_21 (sC0 hc) rfl in_X6 rfl (by decide) m_fl_X6_21 ?_
      refine x_V0i h dX6_person_24 m_ml_X6_113 m_im_X1_number m_se_X1_number (sPe hc ((Or.inl ⟨rfl, rfl⟩))) rfl (by decide) rfl (c_X1_number hc (Or.inl ⟨rfl, rfl⟩)) ?_
      refine x_bipush h dX6_person_27 (by decide) ?_
      refine x_icmp_lt h dX6_person_29 (tgt := 38) (by decide) (by omega) (by omega) (fun q29 => ?_) (fun q29 => ?_)
      · refine x_aload_n h dX6_person_38 rfl ?_
        refine x_getr (j := 1) (q := 11) h dX6_person_39 (sC0 hc) rfl in_X6 rfl (by decide) m_fl_X6_21 ?_
        refine x_iload_n h dX6_person_42 rfl ?_
        refine x_iload_n h dX6_person_43 rfl ?_
        refine x_V2i h dX6_person_44 m_ml_X6_117 m_im_X1_add m_se_X1_add (sPe hc ((Or.inl ⟨rfl, rfl⟩))) rfl (by decide) rfl (c_X1_add hc ((Or.inl ⟨rfl, rfl⟩)) (by omega) (by omega) (by omega)) ?_
        exact x_iret (ret := none) h he dX6_person_47 rfl (by unfold personR; (repeat (first | rw [if_pos (by first | assumption | omega)] | rw [if_neg (by first | assumption | omega)])) <;> first | rfl | omega) (by unfold personM; (repeat (first | rw [if_pos (by first | assumption | omega)] | rw [if_neg (by first | assumption | omega)])) <;> first | rfl | omega)
      · refine x_aload_n h dX6_person_32 rfl ?_
        refine x_iconst h dX6_person_33 ?_
        refine x_V1i h dX6_person_34 m_ml_X6_95 m_im_X6_found m_se_X6_found (sC0 hc) rfl (by decide) rfl (c_X6_found hc (by omega)) ?_
        exact x_iret (ret := none) h he dX6_person_37 rfl (by unfold personR; (repeat (first | rw [if_pos (by first | assumption | omega)] | rw [if_neg (by first | assumption | omega)])) <;> first | rfl | omega) (by unfold personM; (repeat (first | rw [if_pos (by first | assumption | omega)] | rw [if_neg (by first | assumption | omega)])) <;> first | rfl | omega)
    · refine x_aload_n h dX6_person_14 rfl ?_
      refine x_iconst h dX6_person_15 ?_
      refine x_V1i h dX6_person_16 m_ml_X6_95 m_im_X6_found m_se_X6_found (sC0 hc) rfl (by decide) rfl (c_X6_found hc (by omega)) ?_
      exact x_iret (ret := none) h he dX6_person_19 rfl (by unfold personR; (repeat (first | rw [if_pos (by first | assumption | omega)] | rw [if_neg (by first | assumption | omega)])) <;> first | rfl | omega) (by unfold personM; (repeat (first | rw [if_pos (by first | assumption | omega)] | rw [if_neg (by first | assumption | omega)])) <;> first | rfl | omega)

noncomputable def moveToR (M : xMem) (p v : Int) : Int := if letC M 11 1 p v then M (11 + 2) p else -1000005
noncomputable def moveToM (M : xMem) (p v : Int) : xMem := if letC M 11 1 p v then up M (11 + 2) p v else fndC M 4
theorem dX6_moveTo_0 : decode cX6_moveTo 0 = .ok (.aload_n 0, 1) := by decide +kernel
theorem dX6_moveTo_1 : decode cX6_moveTo 1 = .ok (.getfield 21, 3) := by decide +kernel
theorem dX6_moveTo_4 : decode cX6_moveTo 4 = .ok (.iload_n 1, 1) := by decide +kernel
theorem dX6_moveTo_5 : decode cX6_moveTo 5 = .ok (.iload_n 2, 1) := by decide +kernel
theorem dX6_moveTo_6 : decode cX6_moveTo 6 = .ok (.invokevirtual 162, 3) := by decide +kernel
theorem dX6_moveTo_9 : decode cX6_moveTo 9 = .ok (.ifCond .ne 9, 3) := by decide +kernel
theorem dX6_moveTo_12 : decode cX6_moveTo 12 = .ok (.aload_n 0, 1) := by decide +kernel
theorem dX6_moveTo_13 : decode cX6_moveTo 13 = .ok (.iconst 4, 1) := by decide +kernel
theorem dX6_moveTo_14 : decode cX6_moveTo 14 = .ok (.invokevirtual 95, 3) := by decide +kernel
theorem dX6_moveTo_17 : decode cX6_moveTo 17 = .ok (.ireturn, 1) := by decide +kernel
theorem dX6_moveTo_18 : decode cX6_moveTo 18 = .ok (.aload_n 0, 1) := by decide +kernel
theorem dX6_moveTo_19 : decode cX6_moveTo 19 = .ok (.getfield 21, 3) := by decide +kernel
theorem dX6_moveTo_22 : decode cX6_moveTo 22 = .ok (.iload_n 1, 1) := by decide +kernel
theorem dX6_moveTo_23 : decode cX6_moveTo 23 = .ok (.iload_n 2, 1) := by decide +kernel
theorem dX6_moveTo_24 : decode cX6_moveTo 24 = .ok (.invokevirtual 166, 3) := by decide +kernel
theorem dX6_moveTo_27 : decode cX6_moveTo 27 = .ok (.ireturn, 1) := by decide +kernel
set_option maxHeartbeats 4000000 in
set_option maxRecDepth 100000 in
theorem c_X6_moveTo {l : Launch} {ω : xO} (hc : xsh ω = clS) {p v : Int} {M : xMem} (hJ : CInv M) (hp : clHas M 11 p) (hv : plc v) : Ct l ω yX6_moveTo ({ frames := 3, cells := 0, slots := 0, locals := 64 } : Room) 3 2 [.ref (xad ω 0), .int (iI p), .int (iI v)] M (some (.int (iI (moveToR M p v)))) (moveToM M p v) := by
  refine Ct.of (bytes := cX6_moveTo) (ret := (some .int)) (lv0 := [some (.ref (xad ω 0)), some (.int (iI p)), some (.int (iI v))]) m_cd_X6_moveTo m_in_X6 (by decide +kernel) (by decide +kernel) rfl rfl rfl rfl (fun hR => by unfold moveToM; (repeat' split) <;> first | exact hR | exact fndC_R hR | (repeat' (first | exact hR | exact fndC_R hR | (with_reducible apply up_R) | (show inR _; omega)))) ?_
  intro κ h he hR
  have hI := hJ.1
  have hD := hJ.2.1
  have hL := hJ.2.2.1
  have hn := hI.1
  have hck := hI.2.1
  refine x_aload_n h dX6_moveTo_0 rfl ?_
  refine x_getr (j := 1) (q := 11) h dX6_moveTo_1 (sC0 hc) rfl in_X6 rfl (by decide) m_fl_X6_21 ?_
  refine x_iload_n h dX6_moveTo_4 rfl ?_
  refine x_iload_n h dX6_moveTo_5 rfl ?_
  refine x_V2i h dX6_moveTo_6 m_ml_X6_162 m_im_X1_ropeLets m_se_X1_ropeLets (sPe hc ((Or.inl ⟨rfl, rfl⟩))) rfl (by decide) rfl (c_X1_ropeLets hc ((Or.inl ⟨rfl, rfl⟩)) hI (by omega) (by omega)) ?_
  refine x_ifneB h dX6_moveTo_9 (tgt := 18) (by decide) (fun q9 => ?_) (fun q9 => ?_)
  · refine x_aload_n h dX6_moveTo_18 rfl ?_
    refine x_getr (j := 1) (q := 11) h dX6_moveTo_19 (sC0 hc) rfl in_X6 rfl (by decide) m_fl_X6_21 ?_
    refine x_iload_n h dX6_moveTo_22 rfl ?_
    refine x_iload_n h dX6_moveTo_23 rfl ?_
    refine x_V2i h dX6_moveTo_24 m_ml_X6_166 m_im_X1_setPlace m_se_X1_setPlace (sPe hc ((Or.inl ⟨rfl, rfl⟩))) rfl (by decide) rfl (c_X1_setPlace hc ((Or.inl ⟨rfl, rfl⟩)) (by omega) (by omega)) ?_
    exact x_iret (ret := none) h he dX6_moveTo_27 rfl (by unfold moveToR; (repeat (first | rw [if_pos (by first | assumption | omega)] | rw [if_neg (by first | assumption | omega)])) <;> first | rfl | omega) (by unfold moveToM; (repeat (first | rw [if_pos (by first | assumption | omega)] | rw [if_neg (by first | assumption | omega)])) <;> first | rfl | omega)
  · refine x_aload_n h dX6_moveTo_12 rfl ?_
    refine x_iconst h dX6_moveTo_13 ?_
    refine x_V1i h dX6_moveTo_14 m_ml_X6_95 m_im_X6_found m_se_X6_found (sC0 hc) rfl (by decide) rfl (c_X6_found hc (by omega)) ?_
    exact x_iret (ret := none) h he dX6_moveTo_17 rfl (by unfold moveToR; (repeat (first | rw [if_pos (by first | assumption | omega)] | rw [if_neg (by first | assumption | omega)])) <;> first | rfl | omega) (by unfold moveToM; (repeat (first | rw [if_pos (by first | assumption | omega)] | rw [if_neg (by first | assumption | omega)])) <;> first | rfl | omega)

noncomputable def ofR (M : xMem) (p w : Int) : Int := if clHas M 11 p then (if w = 0 then M (11 + 1) p else if w = 1 then M (11 + 2) p else if w = 2 then M (11 + 3) p else if w = 3 then M (11 + 4) p else if w = 4 then M (11 + 5) p else if w = 5 then plC M 11 p else if w = 6 then goF (M (11 + 1) p) else if w = 7 then M (11 + 7) p else if w = 8 then M (11 + 8) p else -1000001) else -1000001
noncomputable def ofM (M : xMem) (p w : Int) : xMem := if clHas M 11 p ∧ 0 ≤ w ∧ w ≤ 8 then M else fndC M 0
theorem dX6_of_0 : decode cX6_of 0 = .ok (.aload_n 0, 1) := by decide +kernel
theorem dX6_of_1 : decode cX6_of 1 = .ok (.getfield 21, 3) := by decide +kernel
theorem dX6_of_4 : decode cX6_of 4 = .ok (.iload_n 1, 1) := by decide +kernel
theorem dX6_of_5 : decode cX6_of 5 = .ok (.invokevirtual 120, 3) := by decide +kernel
theorem dX6_of_8 : decode cX6_of 8 = .ok (.ifCond .ne 9, 3) := by decide +kernel
theorem dX6_of_11 : decode cX6_of 11 = .ok (.aload_n 0, 1) := by decide +kernel
theorem dX6_of_12 : decode cX6_of 12 = .ok (.iconst 0, 1) := by decide +kernel
theorem dX6_of_13 : decode cX6_of 13 = .ok (.invokevirtual 95, 3) := by decide +kernel
theorem dX6_of_16 : decode cX6_of 16 = .ok (.ireturn, 1) := by decide +kernel
theorem dX6_of_17 : decode cX6_of 17 = .ok (.iload_n 2, 1) := by decide +kernel
theorem dX6_of_18 : decode cX6_of 18 = .ok (.tableswitch 134 0 8 #[50, 59, 68, 77, 86, 95, 104, 116, 125], 50) := by decide +kernel
theorem dX6_of_68 : decode cX6_of 68 = .ok (.aload_n 0, 1) := by decide +kernel
theorem dX6_of_69 : decode cX6_of 69 = .ok (.getfield 21, 3) := by decide +kernel
theorem dX6_of_72 : decode cX6_of 72 = .ok (.iload_n 1, 1) := by decide +kernel
theorem dX6_of_73 : decode cX6_of 73 = .ok (.invokevirtual 123, 3) := by decide +kernel
theorem dX6_of_76 : decode cX6_of 76 = .ok (.ireturn, 1) := by decide +kernel
theorem dX6_of_77 : decode cX6_of 77 = .ok (.aload_n 0, 1) := by decide +kernel
theorem dX6_of_78 : decode cX6_of 78 = .ok (.getfield 21, 3) := by decide +kernel
theorem dX6_of_81 : decode cX6_of 81 = .ok (.iload_n 1, 1) := by decide +kernel
theorem dX6_of_82 : decode cX6_of 82 = .ok (.invokevirtual 126, 3) := by decide +kernel
theorem dX6_of_85 : decode cX6_of 85 = .ok (.ireturn, 1) := by decide +kernel
theorem dX6_of_86 : decode cX6_of 86 = .ok (.aload_n 0, 1) := by decide +kernel
theorem dX6_of_87 : decode cX6_of 87 = .ok (.getfield 21, 3) := by decide +kernel
theorem dX6_of_90 : decode cX6_of 90 = .ok (.iload_n 1, 1) := by decide +kernel
theorem dX6_of_91 : decode cX6_of 91 = .ok (.invokevirtual 129, 3) := by decide +kernel
theorem dX6_of_94 : decode cX6_of 94 = .ok (.ireturn, 1) := by decide +kernel
theorem dX6_of_95 : decode cX6_of 95 = .ok (.aload_n 0, 1) := by decide +kernel
theorem dX6_of_96 : decode cX6_of 96 = .ok (.getfield 21, 3) := by decide +kernel
theorem dX6_of_99 : decode cX6_of 99 = .ok (.iload_n 1, 1) := by decide +kernel
theorem dX6_of_100 : decode cX6_of 100 = .ok (.invokevirtual 132, 3) := by decide +kernel
theorem dX6_of_103 : decode cX6_of 103 = .ok (.ireturn, 1) := by decide +kernel
theorem dX6_of_104 : decode cX6_of 104 = .ok (.aload_n 0, 1) := by decide +kernel
theorem dX6_of_105 : decode cX6_of 105 = .ok (.getfield 21, 3) := by decide +kernel
theorem dX6_of_108 : decode cX6_of 108 = .ok (.iload_n 1, 1) := by decide +kernel
theorem dX6_of_109 : decode cX6_of 109 = .ok (.invokevirtual 135, 3) := by decide +kernel
theorem dX6_of_112 : decode cX6_of 112 = .ok (.ireturn, 1) := by decide +kernel
theorem dX6_of_113 : decode cX6_of 113 = .ok (.aload_n 0, 1) := by decide +kernel
theorem dX6_of_114 : decode cX6_of 114 = .ok (.getfield 21, 3) := by decide +kernel
theorem dX6_of_117 : decode cX6_of 117 = .ok (.iload_n 1, 1) := by decide +kernel
theorem dX6_of_118 : decode cX6_of 118 = .ok (.invokevirtual 138, 3) := by decide +kernel
theorem dX6_of_121 : decode cX6_of 121 = .ok (.ireturn, 1) := by decide +kernel
theorem dX6_of_122 : decode cX6_of 122 = .ok (.aload_n 0, 1) := by decide +kernel
theorem dX6_of_123 : decode cX6_of 123 = .ok (.getfield 21, 3) := by decide +kernel
theorem dX6_of_126 : decode cX6_of 126 = .ok (.iload_n 1, 1) := by decide +kernel
theorem dX6_of_127 : decode cX6_of 127 = .ok (.invokevirtual 123, 3) := by decide +kernel
theorem dX6_of_130 : decode cX6_of 130 = .ok (.invokestatic 141, 3) := by decide +kernel
theorem dX6_of_133 : decode cX6_of 133 = .ok (.ireturn, 1) := by decide +kernel
theorem dX6_of_134 : decode cX6_of 134 = .ok (.aload_n 0, 1) := by decide +kernel
theorem dX6_of_135 : decode cX6_of 135 = .ok (.getfield 21, 3) := by decide +kernel
theorem dX6_of_138 : decode cX6_of 138 = .ok (.iload_n 1, 1) := by decide +kernel
theorem dX6_of_139 : decode cX6_of 139 = .ok (.invokevirtual 144, 3) := by decide +kernel
theorem dX6_of_142 : decode cX6_of 142 = .ok (.ireturn, 1) := by decide +kernel
theorem dX6_of_143 : decode cX6_of 143 = .ok (.aload_n 0, 1) := by decide +kernel
theorem dX6_of_144 : decode cX6_of 144 = .ok (.getfield 21, 3) := by decide +kernel
theorem dX6_of_147 : decode cX6_of 147 = .ok (.iload_n 1, 1) := by decide +kernel
theorem dX6_of_148 : decode cX6_of 148 = .ok (.invokevirtual 147, 3) := by decide +kernel
theorem dX6_of_151 : decode cX6_of 151 = .ok (.ireturn, 1) := by decide +kernel
theorem dX6_of_152 : decode cX6_of 152 = .ok (.aload_n 0, 1) := by decide +kernel
theorem dX6_of_153 : decode cX6_of 153 = .ok (.iconst 0, 1) := by decide +kernel
theorem dX6_of_154 : decode cX6_of 154 = .ok (.invokevirtual 95, 3) := by decide +kernel
theorem dX6_of_157 : decode cX6_of 157 = .ok (.ireturn, 1) := by decide +kernel
set_option maxHeartbeats 4000000 in
set_option maxRecDepth 100000 in
theorem c_X6_of {l : Launch} {ω : xO} (hc : xsh ω = clS) {p w : Int} {M : xMem} (hJ : CInv M) (h_p : inR p) (h_w : inR w) : Ct l ω yX6_of ({ frames := 2, cells := 0, slots := 0, locals := 46 } : Room) 3 2 [.ref (xad ω 0), .int (iI p), .int (iI w)] M (some (.int (iI (ofR M p w)))) (ofM M p w) := by
  refine Ct.of (bytes := cX6_of) (ret := (some .int)) (lv0 := [some (.ref (xad ω 0)), some (.int (iI p)), some (.int (iI w))]) m_cd_X6_of m_in_X6 (by decide +kernel) (by decide +kernel) rfl rfl rfl rfl (fun hR => by unfold ofM; (repeat' split) <;> first | exact hR | exact fndC_R hR | (repeat' (first | exact hR | exact fndC_R hR | (with_reducible apply up_R) | (show inR _; omega)))) ?_
  intro κ h he hR
  have hI := hJ.1
  have hD := hJ.2.1
  have hL := hJ.2.2.1
  have hn := hI.1
  have hck := hI.2.1
  refine x_aload_n h dX6_of_0 rfl ?_
  refine x_getr (j := 1) (q := 11) h dX6_of_1 (sC0 hc) rfl in_X6 rfl (by decide) m_fl_X6_21 ?_
  refine x_iload_n h dX6_of_4 rfl ?_
  refine x_V1i h dX6_of_5 m_ml_X6_120 m_im_X1_has m_se_X1_has (sPe hc ((Or.inl ⟨rfl, rfl⟩))) rfl (by decide) rfl (c_X1_has hc (Or.inl ⟨rfl, rfl⟩) (by omega)) ?_
  refine x_ifneB h dX6_of_8 (tgt := 17) (by decide) (fun q8 => ?_) (fun q8 => ?_)
  · refine x_iload_n h dX6_of_17 rfl ?_
    have ip := hI.2.2 p (by omega) (by omega)
    by_cases sw18 : w < 0 ∨ 8 < w
    · refine x_tsOut h dX6_of_18 (by omega) sw18 (tgt := 152) (by decide) ?_
      refine x_aload_n h dX6_of_152 rfl ?_
      refine x_iconst h dX6_of_153 ?_
      refine x_V1i h dX6_of_154 m_ml_X6_95 m_im_X6_found m_se_X6_found (sC0 hc) rfl (by decide) rfl (c_X6_found hc (by omega)) ?_
      exact x_iret (ret := none) h he dX6_of_157 rfl (by unfold ofR; (repeat (first | rw [if_pos (by first | assumption | omega)] | rw [if_neg (by first | assumption | omega)])) <;> first | rfl | omega) (by unfold ofM; (repeat (first | rw [if_pos (by first | assumption | omega)] | rw [if_neg (by first | assumption | omega)])) <;> first | rfl | omega)
    rcases (show w = 0 ∨ w = 1 ∨ w = 2 ∨ w = 3 ∨ w = 4 ∨ w = 5 ∨ w = 6 ∨ w = 7 ∨ w = 8 by omega) with q18 | q18 | q18 | q18 | q18 | q18 | q18 | q18 | q18
    · refine x_tsIn 0 h dX6_of_18 q18 (by decide) rfl (tgt := 68) (by decide) ?_
      refine x_aload_n h dX6_of_68 rfl ?_
      refine x_getr (j := 1) (q := 11) h dX6_of_69 (sC0 hc) rfl in_X6 rfl (by decide) m_fl_X6_21 ?_
      refine x_iload_n h dX6_of_72 rfl ?_
      refine x_V1i h dX6_of_73 m_ml_X6_123 m_im_X1_kindOf m_se_X1_kindOf (sPe hc ((Or.inl ⟨rfl, rfl⟩))) rfl (by decide) rfl (c_X1_kindOf hc (Or.inl ⟨rfl, rfl⟩) (by omega)) ?_
      exact x_iret (ret := none) h he dX6_of_76 rfl (by unfold ofR; (repeat (first | rw [if_pos (by first | assumption | omega)] | rw [if_neg (by first | assumption | omega)])) <;> first | rfl | omega) (by unfold ofM; (repeat (first | rw [if_pos (by first | assumption | omega)] | rw [if_neg (by first | assumption | omega)])) <;> first | rfl | omega)
    · refine x_tsIn 1 h dX6_of_18 q18 (by decide) rfl (tgt := 77) (by decide) ?_
      refine x_aload_n h dX6_of_77 rfl ?_
      refine x_getr (j := 1) (q := 11) h dX6_of_78 (sC0 hc) rfl in_X6 rfl (by decide) m_fl_X6_21 ?_
      refine x_iload_n h dX6_of_81 rfl ?_
      refine x_V1i h dX6_of_82 m_ml_X6_126 m_im_X1_placeOf m_se_X1_placeOf (sPe hc ((Or.inl ⟨rfl, rfl⟩))) rfl (by decide) rfl (c_X1_placeOf hc (Or.inl ⟨rfl, rfl⟩) (by omega)) ?_
      exact x_iret (ret := none) h he dX6_of_85 rfl (by unfold ofR; (repeat (first | rw [if_pos (by first | assumption | omega)] | rw [if_neg (by first | assumption | omega)])) <;> first | rfl | omega) (by unfold ofM; (repeat (first | rw [if_pos (by first | assumption | omega)] | rw [if_neg (by first | assumption | omega)])) <;> first | rfl | omega)
    · refine x_tsIn 2 h dX6_of_18 q18 (by decide) rfl (tgt := 86) (by decide) ?_
      refine x_aload_n h dX6_of_86 rfl ?_
      refine x_getr (j := 1) (q := 11) h dX6_of_87 (sC0 hc) rfl in_X6 rfl (by decide) m_fl_X6_21 ?_
      refine x_iload_n h dX6_of_90 rfl ?_
      refine x_V1i h dX6_of_91 m_ml_X6_129 m_im_X1_errandOf m_se_X1_errandOf (sPe hc ((Or.inl ⟨rfl, rfl⟩))) rfl (by decide) rfl (c_X1_errandOf hc (Or.inl ⟨rfl, rfl⟩) (by omega)) ?_
      exact x_iret (ret := none) h he dX6_of_94 rfl (by unfold ofR; (repeat (first | rw [if_pos (by first | assumption | omega)] | rw [if_neg (by first | assumption | omega)])) <;> first | rfl | omega) (by unfold ofM; (repeat (first | rw [if_pos (by first | assumption | omega)] | rw [if_neg (by first | assumption | omega)])) <;> first | rfl | omega)
    · refine x_tsIn 3 h dX6_of_18 q18 (by decide) rfl (tgt := 95) (by decide) ?_
      refine x_aload_n h dX6_of_95 rfl ?_
      refine x_getr (j := 1) (q := 11) h dX6_of_96 (sC0 hc) rfl in_X6 rfl (by decide) m_fl_X6_21 ?_
      refine x_iload_n h dX6_of_99 rfl ?_
      refine x_V1i h dX6_of_100 m_ml_X6_132 m_im_X1_mateOf m_se_X1_mateOf (sPe hc ((Or.inl ⟨rfl, rfl⟩))) rfl (by decide) rfl (c_X1_mateOf hc (Or.inl ⟨rfl, rfl⟩) (by omega)) ?_
      exact x_iret (ret := none) h he dX6_of_103 rfl (by unfold ofR; (repeat (first | rw [if_pos (by first | assumption | omega)] | rw [if_neg (by first | assumption | omega)])) <;> first | rfl | omega) (by unfold ofM; (repeat (first | rw [if_pos (by first | assumption | omega)] | rw [if_neg (by first | assumption | omega)])) <;> first | rfl | omega)
    · refine x_tsIn 4 h dX6_of_18 q18 (by decide) rfl (tgt := 104) (by decide) ?_
      refine x_aload_n h dX6_of_104 rfl ?_
      refine x_getr (j := 1) (q := 11) h dX6_of_105 (sC0 hc) rfl in_X6 rfl (by decide) m_fl_X6_21 ?_
      refine x_iload_n h dX6_of_108 rfl ?_
      refine x_V1i h dX6_of_109 m_ml_X6_135 m_im_X1_strengthOf m_se_X1_strengthOf (sPe hc ((Or.inl ⟨rfl, rfl⟩))) rfl (by decide) rfl (c_X1_strengthOf hc (Or.inl ⟨rfl, rfl⟩) (by omega)) ?_
      exact x_iret (ret := none) h he dX6_of_112 rfl (by unfold ofR; (repeat (first | rw [if_pos (by first | assumption | omega)] | rw [if_neg (by first | assumption | omega)])) <;> first | rfl | omega) (by unfold ofM; (repeat (first | rw [if_pos (by first | assumption | omega)] | rw [if_neg (by first | assumption | omega)])) <;> first | rfl | omega)
    · refine x_tsIn 5 h dX6_of_18 q18 (by decide) rfl (tgt := 113) (by decide) ?_
      refine x_aload_n h dX6_of_113 rfl ?_
      refine x_getr (j := 1) (q := 11) h dX6_of_114 (sC0 hc) rfl in_X6 rfl (by decide) m_fl_X6_21 ?_
      refine x_iload_n h dX6_of_117 rfl ?_
      refine x_V1i h dX6_of_118 m_ml_X6_138 m_im_X1_pullsOf m_se_X1_pullsOf (sPe hc ((Or.inl ⟨rfl, rfl⟩))) rfl (by decide) rfl (c_X1_pullsOf hc ((Or.inl ⟨rfl, rfl⟩)) hI (by omega)) ?_
      exact x_iret (ret := none) h he dX6_of_121 rfl (by unfold ofR; (repeat (first | rw [if_pos (by first | assumption | omega)] | rw [if_neg (by first | assumption | omega)])) <;> first | rfl | omega) (by unfold ofM; (repeat (first | rw [if_pos (by first | assumption | omega)] | rw [if_neg (by first | assumption | omega)])) <;> first | rfl | omega)
    · refine x_tsIn 6 h dX6_of_18 q18 (by decide) rfl (tgt := 122) (by decide) ?_
      refine x_aload_n h dX6_of_122 rfl ?_
      refine x_getr (j := 1) (q := 11) h dX6_of_123 (sC0 hc) rfl in_X6 rfl (by decide) m_fl_X6_21 ?_
      refine x_iload_n h dX6_of_126 rfl ?_
      refine x_V1i h dX6_of_127 m_ml_X6_123 m_im_X1_kindOf m_se_X1_kindOf (sPe hc ((Or.inl ⟨rfl, rfl⟩))) rfl (by decide) rfl (c_X1_kindOf hc (Or.inl ⟨rfl, rfl⟩) (by omega)) ?_
      refine x_S1i h dX6_of_130 m_ml_X6_141 m_st_X6_goesOf (by decide) rfl (c_X6_goesOf hc (by omega)) ?_
      exact x_iret (ret := none) h he dX6_of_133 rfl (by unfold ofR; (repeat (first | rw [if_pos (by first | assumption | omega)] | rw [if_neg (by first | assumption | omega)])) <;> first | rfl | omega) (by unfold ofM; (repeat (first | rw [if_pos (by first | assumption | omega)] | rw [if_neg (by first | assumption | omega)])) <;> first | rfl | omega)
    · refine x_tsIn 7 h dX6_of_18 q18 (by decide) rfl (tgt := 134) (by decide) ?_
      refine x_aload_n h dX6_of_134 rfl ?_
      refine x_getr (j := 1) (q := 11) h dX6_of_135 (sC0 hc) rfl in_X6 rfl (by decide) m_fl_X6_21 ?_
      refine x_iload_n h dX6_of_138 rfl ?_
      refine x_V1i h dX6_of_139 m_ml_X6_144 m_im_X1_holdsOf m_se_X1_holdsOf (sPe hc ((Or.inl ⟨rfl, rfl⟩))) rfl (by decide) rfl (c_X1_holdsOf hc (Or.inl ⟨rfl, rfl⟩) (by omega)) ?_
      exact x_iret (ret := none) h he dX6_of_142 rfl (by unfold ofR; (repeat (first | rw [if_pos (by first | assumption | omega)] | rw [if_neg (by first | assumption | omega)])) <;> first | rfl | omega) (by unfold ofM; (repeat (first | rw [if_pos (by first | assumption | omega)] | rw [if_neg (by first | assumption | omega)])) <;> first | rfl | omega)
    · refine x_tsIn 8 h dX6_of_18 q18 (by decide) rfl (tgt := 143) (by decide) ?_
      refine x_aload_n h dX6_of_143 rfl ?_
      refine x_getr (j := 1) (q := 11) h dX6_of_144 (sC0 hc) rfl in_X6 rfl (by decide) m_fl_X6_21 ?_
      refine x_iload_n h dX6_of_147 rfl ?_
      refine x_V1i h dX6_of_148 m_ml_X6_147 m_im_X1_tugsOf m_se_X1_tugsOf (sPe hc ((Or.inl ⟨rfl, rfl⟩))) rfl (by decide) rfl (c_X1_tugsOf hc (Or.inl ⟨rfl, rfl⟩) (by omega)) ?_
      exact x_iret (ret := none) h he dX6_of_151 rfl (by unfold ofR; (repeat (first | rw [if_pos (by first | assumption | omega)] | rw [if_neg (by first | assumption | omega)])) <;> first | rfl | omega) (by unfold ofM; (repeat (first | rw [if_pos (by first | assumption | omega)] | rw [if_neg (by first | assumption | omega)])) <;> first | rfl | omega)
  · refine x_aload_n h dX6_of_11 rfl ?_
    refine x_iconst h dX6_of_12 ?_
    refine x_V1i h dX6_of_13 m_ml_X6_95 m_im_X6_found m_se_X6_found (sC0 hc) rfl (by decide) rfl (c_X6_found hc (by omega)) ?_
    exact x_iret (ret := none) h he dX6_of_16 rfl (by unfold ofR; (repeat (first | rw [if_pos (by first | assumption | omega)] | rw [if_neg (by first | assumption | omega)])) <;> first | rfl | omega) (by unfold ofM; (repeat (first | rw [if_pos (by first | assumption | omega)] | rw [if_neg (by first | assumption | omega)])) <;> first | rfl | omega)

noncomputable def changeR (M : xMem) (p w v : Int) : Int := if clHas M 11 p then (if w = 0 then (if 0 ≤ v ∧ v < 7 then M (11 + 1) p else -1000001) else if w = 1 then (if 0 ≤ v ∧ v < 10 then moveToR M p v else -1000001) else if w = 2 then (if 0 ≤ v ∧ v < 10 then M (11 + 3) p else -1000001) else if w = 4 then (if 0 ≤ v ∧ v ≤ 9 then M (11 + 5) p else -1000001) else -1000001) else -1000001
noncomputable def changeM (M : xMem) (p w v : Int) : xMem := if clHas M 11 p then (if w = 0 then (if 0 ≤ v ∧ v < 7 then up M (11 + 1) p v else fndC M 0) else if w = 1 then (if 0 ≤ v ∧ v < 10 then moveToM M p v else fndC M 0) else if w = 2 then (if 0 ≤ v ∧ v < 10 then up M (11 + 3) p v else fndC M 0) else if w = 4 then (if 0 ≤ v ∧ v ≤ 9 then up M (11 + 5) p v else fndC M 0) else fndC M 0) else fndC M 0
theorem dX6_change_0 : decode cX6_change 0 = .ok (.aload_n 0, 1) := by decide +kernel
theorem dX6_change_1 : decode cX6_change 1 = .ok (.getfield 21, 3) := by decide +kernel
theorem dX6_change_4 : decode cX6_change 4 = .ok (.iload_n 1, 1) := by decide +kernel
theorem dX6_change_5 : decode cX6_change 5 = .ok (.invokevirtual 120, 3) := by decide +kernel
theorem dX6_change_8 : decode cX6_change 8 = .ok (.ifCond .ne 9, 3) := by decide +kernel
theorem dX6_change_11 : decode cX6_change 11 = .ok (.aload_n 0, 1) := by decide +kernel
theorem dX6_change_12 : decode cX6_change 12 = .ok (.iconst 0, 1) := by decide +kernel
theorem dX6_change_13 : decode cX6_change 13 = .ok (.invokevirtual 95, 3) := by decide +kernel
theorem dX6_change_16 : decode cX6_change 16 = .ok (.ireturn, 1) := by decide +kernel
theorem dX6_change_17 : decode cX6_change 17 = .ok (.iload_n 2, 1) := by decide +kernel
theorem dX6_change_18 : decode cX6_change 18 = .ok (.tableswitch 134 0 4 #[34, 59, 81, 134, 106], 34) := by decide +kernel
theorem dX6_change_52 : decode cX6_change 52 = .ok (.iload_n 3, 1) := by decide +kernel
theorem dX6_change_53 : decode cX6_change 53 = .ok (.invokestatic 110, 3) := by decide +kernel
theorem dX6_change_56 : decode cX6_change 56 = .ok (.ifCond .eq 15, 3) := by decide +kernel
theorem dX6_change_59 : decode cX6_change 59 = .ok (.aload_n 0, 1) := by decide +kernel
theorem dX6_change_60 : decode cX6_change 60 = .ok (.getfield 21, 3) := by decide +kernel
theorem dX6_change_63 : decode cX6_change 63 = .ok (.iload_n 1, 1) := by decide +kernel
theorem dX6_change_64 : decode cX6_change 64 = .ok (.iload_n 3, 1) := by decide +kernel
theorem dX6_change_65 : decode cX6_change 65 = .ok (.invokevirtual 150, 3) := by decide +kernel
theorem dX6_change_68 : decode cX6_change 68 = .ok (.goto 8, 3) := by decide +kernel
theorem dX6_change_71 : decode cX6_change 71 = .ok (.aload_n 0, 1) := by decide +kernel
theorem dX6_change_72 : decode cX6_change 72 = .ok (.iconst 0, 1) := by decide +kernel
theorem dX6_change_73 : decode cX6_change 73 = .ok (.invokevirtual 95, 3) := by decide +kernel
theorem dX6_change_76 : decode cX6_change 76 = .ok (.ireturn, 1) := by decide +kernel
theorem dX6_change_77 : decode cX6_change 77 = .ok (.iload_n 3, 1) := by decide +kernel
theorem dX6_change_78 : decode cX6_change 78 = .ok (.invokestatic 91, 3) := by decide +kernel
theorem dX6_change_81 : decode cX6_change 81 = .ok (.ifCond .eq 12, 3) := by decide +kernel
theorem dX6_change_84 : decode cX6_change 84 = .ok (.aload_n 0, 1) := by decide +kernel
theorem dX6_change_85 : decode cX6_change 85 = .ok (.iload_n 1, 1) := by decide +kernel
theorem dX6_change_86 : decode cX6_change 86 = .ok (.iload_n 3, 1) := by decide +kernel
theorem dX6_change_87 : decode cX6_change 87 = .ok (.invokevirtual 153, 3) := by decide +kernel
theorem dX6_change_90 : decode cX6_change 90 = .ok (.goto 8, 3) := by decide +kernel
theorem dX6_change_93 : decode cX6_change 93 = .ok (.aload_n 0, 1) := by decide +kernel
theorem dX6_change_94 : decode cX6_change 94 = .ok (.iconst 0, 1) := by decide +kernel
theorem dX6_change_95 : decode cX6_change 95 = .ok (.invokevirtual 95, 3) := by decide +kernel
theorem dX6_change_98 : decode cX6_change 98 = .ok (.ireturn, 1) := by decide +kernel
theorem dX6_change_99 : decode cX6_change 99 = .ok (.iload_n 3, 1) := by decide +kernel
theorem dX6_change_100 : decode cX6_change 100 = .ok (.invokestatic 91, 3) := by decide +kernel
theorem dX6_change_103 : decode cX6_change 103 = .ok (.ifCond .eq 15, 3) := by decide +kernel
theorem dX6_change_106 : decode cX6_change 106 = .ok (.aload_n 0, 1) := by decide +kernel
theorem dX6_change_107 : decode cX6_change 107 = .ok (.getfield 21, 3) := by decide +kernel
theorem dX6_change_110 : decode cX6_change 110 = .ok (.iload_n 1, 1) := by decide +kernel
theorem dX6_change_111 : decode cX6_change 111 = .ok (.iload_n 3, 1) := by decide +kernel
theorem dX6_change_112 : decode cX6_change 112 = .ok (.invokevirtual 156, 3) := by decide +kernel
theorem dX6_change_115 : decode cX6_change 115 = .ok (.goto 8, 3) := by decide +kernel
theorem dX6_change_118 : decode cX6_change 118 = .ok (.aload_n 0, 1) := by decide +kernel
theorem dX6_change_119 : decode cX6_change 119 = .ok (.iconst 0, 1) := by decide +kernel
theorem dX6_change_120 : decode cX6_change 120 = .ok (.invokevirtual 95, 3) := by decide +kernel
theorem dX6_change_123 : decode cX6_change 123 = .ok (.ireturn, 1) := by decide +kernel
theorem dX6_change_124 : decode cX6_change 124 = .ok (.iload_n 3, 1) := by decide +kernel
theorem dX6_change_125 : decode cX6_change 125 = .ok (.ifCond .lt 21, 3) := by decide +kernel
theorem dX6_change_128 : decode cX6_change 128 = .ok (.iload_n 3, 1) := by decide +kernel
theorem dX6_change_129 : decode cX6_change 129 = .ok (.bipush 9, 2) := by decide +kernel
theorem dX6_change_131 : decode cX6_change 131 = .ok (.if_icmp .gt 15, 3) := by decide +kernel
theorem dX6_change_134 : decode cX6_change 134 = .ok (.aload_n 0, 1) := by decide +kernel
theorem dX6_change_135 : decode cX6_change 135 = .ok (.getfield 21, 3) := by decide +kernel
theorem dX6_change_138 : decode cX6_change 138 = .ok (.iload_n 1, 1) := by decide +kernel
theorem dX6_change_139 : decode cX6_change 139 = .ok (.iload_n 3, 1) := by decide +kernel
theorem dX6_change_140 : decode cX6_change 140 = .ok (.invokevirtual 159, 3) := by decide +kernel
theorem dX6_change_143 : decode cX6_change 143 = .ok (.goto 8, 3) := by decide +kernel
theorem dX6_change_146 : decode cX6_change 146 = .ok (.aload_n 0, 1) := by decide +kernel
theorem dX6_change_147 : decode cX6_change 147 = .ok (.iconst 0, 1) := by decide +kernel
theorem dX6_change_148 : decode cX6_change 148 = .ok (.invokevirtual 95, 3) := by decide +kernel
theorem dX6_change_151 : decode cX6_change 151 = .ok (.ireturn, 1) := by decide +kernel
theorem dX6_change_152 : decode cX6_change 152 = .ok (.aload_n 0, 1) := by decide +kernel
theorem dX6_change_153 : decode cX6_change 153 = .ok (.iconst 0, 1) := by decide +kernel
theorem dX6_change_154 : decode cX6_change 154 = .ok (.invokevirtual 95, 3) := by decide +kernel
theorem dX6_change_157 : decode cX6_change 157 = .ok (.ireturn, 1) := by decide +kernel
set_option maxHeartbeats 4000000 in
set_option maxRecDepth 100000 in
theorem c_X6_change {l : Launch} {ω : xO} (hc : xsh ω = clS) {p w v : Int} {M : xMem} (hJ : CInv M) (h_p : inR p) (h_w : inR w) (h_v : inR v) : Ct l ω yX6_change ({ frames := 4, cells := 0, slots := 0, locals := 86 } : Room) 4 3 [.ref (xad ω 0), .int (iI p), .int (iI w), .int (iI v)] M (some (.int (iI (changeR M p w v)))) (changeM M p w v) := by
  refine Ct.of (bytes := cX6_change) (ret := (some .int)) (lv0 := [some (.ref (xad ω 0)), some (.int (iI p)), some (.int (iI w)), some (.int (iI v))]) m_cd_X6_change m_in_X6 (by decide +kernel) (by decide +kernel) rfl rfl rfl rfl (fun hR => by unfold changeM moveToM; (repeat' split) <;> first | exact fndC_R hR | exact up_R hR (by omega)) ?_
  intro κ h he hR
  have hI := hJ.1
  have hD := hJ.2.1
  have hL := hJ.2.2.1
  have hn := hI.1
  have hck := hI.2.1
  refine x_aload_n h dX6_change_0 rfl ?_
  refine x_getr (j := 1) (q := 11) h dX6_change_1 (sC0 hc) rfl in_X6 rfl (by decide) m_fl_X6_21 ?_
  refine x_iload_n h dX6_change_4 rfl ?_
  refine x_V1i h dX6_change_5 m_ml_X6_120 m_im_X1_has m_se_X1_has (sPe hc ((Or.inl ⟨rfl, rfl⟩))) rfl (by decide) rfl (c_X1_has hc (Or.inl ⟨rfl, rfl⟩) (by omega)) ?_
  refine x_ifneB h dX6_change_8 (tgt := 17) (by decide) (fun q8 => ?_) (fun q8 => ?_)
  · refine x_iload_n h dX6_change_17 rfl ?_
    by_cases sw18 : w < 0 ∨ 4 < w
    · refine x_tsOut h dX6_change_18 (by omega) sw18 (tgt := 152) (by decide) ?_
      refine x_aload_n h dX6_change_152 rfl ?_
      refine x_iconst h dX6_change_153 ?_
      refine x_V1i h dX6_change_154 m_ml_X6_95 m_im_X6_found m_se_X6_found (sC0 hc) rfl (by decide) rfl (c_X6_found hc (by omega)) ?_
      exact x_iret (ret := none) h he dX6_change_157 rfl (by unfold changeR; (repeat (first | rw [if_pos (by first | assumption | omega)] | rw [if_neg (by first | assumption | omega)])) <;> first | rfl | omega) (by unfold changeM; (repeat (first | rw [if_pos (by first | assumption | omega)] | rw [if_neg (by first | assumption | omega)])) <;> first | rfl | omega)
    rcases (show w = 0 ∨ w = 1 ∨ w = 2 ∨ w = 3 ∨ w = 4 by omega) with q18 | q18 | q18 | q18 | q18
    · refine x_tsIn 0 h dX6_change_18 q18 (by decide) rfl (tgt := 52) (by decide) ?_
      refine x_iload_n h dX6_change_52 rfl ?_
      refine x_S1i h dX6_change_53 m_ml_X6_110 m_st_X6_isKind (by decide) rfl (c_X6_isKind hc (by omega)) ?_
      refine x_ifeqB h dX6_change_56 (tgt := 71) (by decide) (fun q56 => ?_) (fun q56 => ?_)
      · refine x_aload_n h dX6_change_71 rfl ?_
        refine x_iconst h dX6_change_72 ?_
        refine x_V1i h dX6_change_73 m_ml_X6_95 m_im_X6_found m_se_X6_found (sC0 hc) rfl (by decide) rfl (c_X6_found hc (by omega)) ?_
        exact x_iret (ret := none) h he dX6_change_76 rfl (by unfold changeR; (repeat (first | rw [if_pos (by first | assumption | omega)] | rw [if_neg (by first | assumption | omega)])) <;> first | rfl | omega) (by unfold changeM; (repeat (first | rw [if_pos (by first | assumption | omega)] | rw [if_neg (by first | assumption | omega)])) <;> first | rfl | omega)
      · refine x_aload_n h dX6_change_59 rfl ?_
        refine x_getr (j := 1) (q := 11) h dX6_change_60 (sC0 hc) rfl in_X6 rfl (by decide) m_fl_X6_21 ?_
        refine x_iload_n h dX6_change_63 rfl ?_
        refine x_iload_n h dX6_change_64 rfl ?_
        refine x_V2i h dX6_change_65 m_ml_X6_150 m_im_X1_setKind m_se_X1_setKind (sPe hc ((Or.inl ⟨rfl, rfl⟩))) rfl (by decide) rfl (c_X1_setKind hc ((Or.inl ⟨rfl, rfl⟩)) (by omega) (by omega)) ?_
        refine x_goto h dX6_change_68 (tgt := 76) (by decide) ?_
        exact x_iret (ret := none) h he dX6_change_76 rfl (by unfold changeR; (repeat (first | rw [if_pos (by first | assumption | omega)] | rw [if_neg (by first | assumption | omega)])) <;> first | rfl | omega) (by unfold changeM; (repeat (first | rw [if_pos (by first | assumption | omega)] | rw [if_neg (by first | assumption | omega)])) <;> first | rfl | omega)
    · refine x_tsIn 1 h dX6_change_18 q18 (by decide) rfl (tgt := 77) (by decide) ?_
      refine x_iload_n h dX6_change_77 rfl ?_
      refine x_S1i h dX6_change_78 m_ml_X6_91 m_st_X6_isPlace (by decide) rfl (c_X6_isPlace hc (by omega)) ?_
      refine x_ifeqB h dX6_change_81 (tgt := 93) (by decide) (fun q81 => ?_) (fun q81 => ?_)
      · refine x_aload_n h dX6_change_93 rfl ?_
        refine x_iconst h dX6_change_94 ?_
        refine x_V1i h dX6_change_95 m_ml_X6_95 m_im_X6_found m_se_X6_found (sC0 hc) rfl (by decide) rfl (c_X6_found hc (by omega)) ?_
        exact x_iret (ret := none) h he dX6_change_98 rfl (by unfold changeR; (repeat (first | rw [if_pos (by first | assumption | omega)] | rw [if_neg (by first | assumption | omega)])) <;> first | rfl | omega) (by unfold changeM; (repeat (first | rw [if_pos (by first | assumption | omega)] | rw [if_neg (by first | assumption | omega)])) <;> first | rfl | omega)
      · refine x_aload_n h dX6_change_84 rfl ?_
        refine x_iload_n h dX6_change_85 rfl ?_
        refine x_iload_n h dX6_change_86 rfl ?_
        refine x_V2i h dX6_change_87 m_ml_X6_153 m_im_X6_moveTo m_se_X6_moveTo (sC0 hc) rfl (by decide) rfl (c_X6_moveTo hc hJ (by omega) (by omega)) ?_
        refine x_goto h dX6_change_90 (tgt := 98) (by decide) ?_
        exact x_iret (ret := none) h he dX6_change_98 rfl (by unfold changeR; (repeat (first | rw [if_pos (by first | assumption | omega)] | rw [if_neg (by first | assumption | omega)])) <;> first | rfl | omega) (by unfold changeM; (repeat (first | rw [if_pos (by first | assumption | omega)] | rw [if_neg (by first | assumption | omega)])) <;> first | rfl | omega)
    · refine x_tsIn 2 h dX6_change_18 q18 (by decide) rfl (tgt := 99) (by decide) ?_
      refine x_iload_n h dX6_change_99 rfl ?_
      refine x_S1i h dX6_change_100 m_ml_X6_91 m_st_X6_isPlace (by decide) rfl (c_X6_isPlace hc (by omega)) ?_
      refine x_ifeqB h dX6_change_103 (tgt := 118) (by decide) (fun q103 => ?_) (fun q103 => ?_)
      · refine x_aload_n h dX6_change_118 rfl ?_
        refine x_iconst h dX6_change_119 ?_
        refine x_V1i h dX6_change_120 m_ml_X6_95 m_im_X6_found m_se_X6_found (sC0 hc) rfl (by decide) rfl (c_X6_found hc (by omega)) ?_
        exact x_iret (ret := none) h he dX6_change_123 rfl (by unfold changeR; (repeat (first | rw [if_pos (by first | assumption | omega)] | rw [if_neg (by first | assumption | omega)])) <;> first | rfl | omega) (by unfold changeM; (repeat (first | rw [if_pos (by first | assumption | omega)] | rw [if_neg (by first | assumption | omega)])) <;> first | rfl | omega)
      · refine x_aload_n h dX6_change_106 rfl ?_
        refine x_getr (j := 1) (q := 11) h dX6_change_107 (sC0 hc) rfl in_X6 rfl (by decide) m_fl_X6_21 ?_
        refine x_iload_n h dX6_change_110 rfl ?_
        refine x_iload_n h dX6_change_111 rfl ?_
        refine x_V2i h dX6_change_112 m_ml_X6_156 m_im_X1_setErrand m_se_X1_setErrand (sPe hc ((Or.inl ⟨rfl, rfl⟩))) rfl (by decide) rfl (c_X1_setErrand hc ((Or.inl ⟨rfl, rfl⟩)) (by omega) (by omega)) ?_
        refine x_goto h dX6_change_115 (tgt := 123) (by decide) ?_
        exact x_iret (ret := none) h he dX6_change_123 rfl (by unfold changeR; (repeat (first | rw [if_pos (by first | assumption | omega)] | rw [if_neg (by first | assumption | omega)])) <;> first | rfl | omega) (by unfold changeM; (repeat (first | rw [if_pos (by first | assumption | omega)] | rw [if_neg (by first | assumption | omega)])) <;> first | rfl | omega)
    · refine x_tsIn 3 h dX6_change_18 q18 (by decide) rfl (tgt := 152) (by decide) ?_
      refine x_aload_n h dX6_change_152 rfl ?_
      refine x_iconst h dX6_change_153 ?_
      refine x_V1i h dX6_change_154 m_ml_X6_95 m_im_X6_found m_se_X6_found (sC0 hc) rfl (by decide) rfl (c_X6_found hc (by omega)) ?_
      exact x_iret (ret := none) h he dX6_change_157 rfl (by unfold changeR; (repeat (first | rw [if_pos (by first | assumption | omega)] | rw [if_neg (by first | assumption | omega)])) <;> first | rfl | omega) (by unfold changeM; (repeat (first | rw [if_pos (by first | assumption | omega)] | rw [if_neg (by first | assumption | omega)])) <;> first | rfl | omega)
    · refine x_tsIn 4 h dX6_change_18 q18 (by decide) rfl (tgt := 124) (by decide) ?_
      refine x_iload_n h dX6_change_124 rfl ?_
      refine x_if_lt h dX6_change_125 (tgt := 146) (by decide) (by omega) (fun q125 => ?_) (fun q125 => ?_)
      · refine x_aload_n h dX6_change_146 rfl ?_
        refine x_iconst h dX6_change_147 ?_
        refine x_V1i h dX6_change_148 m_ml_X6_95 m_im_X6_found m_se_X6_found (sC0 hc) rfl (by decide) rfl (c_X6_found hc (by omega)) ?_
        exact x_iret (ret := none) h he dX6_change_151 rfl (by unfold changeR; (repeat (first | rw [if_pos (by first | assumption | omega)] | rw [if_neg (by first | assumption | omega)])) <;> first | rfl | omega) (by unfold changeM; (repeat (first | rw [if_pos (by first | assumption | omega)] | rw [if_neg (by first | assumption | omega)])) <;> first | rfl | omega)
      · refine x_iload_n h dX6_change_128 rfl ?_
        refine x_bipush h dX6_change_129 (by decide) ?_
        refine x_icmp_gt h dX6_change_131 (tgt := 146) (by decide) (by omega) (by omega) (fun q131 => ?_) (fun q131 => ?_)
        · refine x_aload_n h dX6_change_146 rfl ?_
          refine x_iconst h dX6_change_147 ?_
          refine x_V1i h dX6_change_148 m_ml_X6_95 m_im_X6_found m_se_X6_found (sC0 hc) rfl (by decide) rfl (c_X6_found hc (by omega)) ?_
          exact x_iret (ret := none) h he dX6_change_151 rfl (by unfold changeR; (repeat (first | rw [if_pos (by first | assumption | omega)] | rw [if_neg (by first | assumption | omega)])) <;> first | rfl | omega) (by unfold changeM; (repeat (first | rw [if_pos (by first | assumption | omega)] | rw [if_neg (by first | assumption | omega)])) <;> first | rfl | omega)
        · refine x_aload_n h dX6_change_134 rfl ?_
          refine x_getr (j := 1) (q := 11) h dX6_change_135 (sC0 hc) rfl in_X6 rfl (by decide) m_fl_X6_21 ?_
          refine x_iload_n h dX6_change_138 rfl ?_
          refine x_iload_n h dX6_change_139 rfl ?_
          refine x_V2i h dX6_change_140 m_ml_X6_159 m_im_X1_setStrength m_se_X1_setStrength (sPe hc ((Or.inl ⟨rfl, rfl⟩))) rfl (by decide) rfl (c_X1_setStrength hc ((Or.inl ⟨rfl, rfl⟩)) (by omega) (by omega)) ?_
          refine x_goto h dX6_change_143 (tgt := 151) (by decide) ?_
          exact x_iret (ret := none) h he dX6_change_151 rfl (by unfold changeR; (repeat (first | rw [if_pos (by first | assumption | omega)] | rw [if_neg (by first | assumption | omega)])) <;> first | rfl | omega) (by unfold changeM; (repeat (first | rw [if_pos (by first | assumption | omega)] | rw [if_neg (by first | assumption | omega)])) <;> first | rfl | omega)
  · refine x_aload_n h dX6_change_11 rfl ?_
    refine x_iconst h dX6_change_12 ?_
    refine x_V1i h dX6_change_13 m_ml_X6_95 m_im_X6_found m_se_X6_found (sC0 hc) rfl (by decide) rfl (c_X6_found hc (by omega)) ?_
    exact x_iret (ret := none) h he dX6_change_16 rfl (by unfold changeR; (repeat (first | rw [if_pos (by first | assumption | omega)] | rw [if_neg (by first | assumption | omega)])) <;> first | rfl | omega) (by unfold changeM; (repeat (first | rw [if_pos (by first | assumption | omega)] | rw [if_neg (by first | assumption | omega)])) <;> first | rfl | omega)

noncomputable def tieR (M : xMem) (p s n : Int) : Int := if clHas M 11 p ∧ clHas M 11 s ∧ p ≠ s ∧ 0 ≤ n ∧ n ≤ 999 then bI (letC (joiC M 11 p s n) 11 1 p (M (11 + 2) p)) else -1000001
noncomputable def tieM (M : xMem) (p s n : Int) : xMem := if clHas M 11 p ∧ clHas M 11 s ∧ p ≠ s ∧ 0 ≤ n ∧ n ≤ 999 then joiC M 11 p s n else fndC M 0
theorem dX6_tie_0 : decode cX6_tie 0 = .ok (.aload_n 0, 1) := by decide +kernel
theorem dX6_tie_1 : decode cX6_tie 1 = .ok (.getfield 21, 3) := by decide +kernel
theorem dX6_tie_4 : decode cX6_tie 4 = .ok (.iload_n 1, 1) := by decide +kernel
theorem dX6_tie_5 : decode cX6_tie 5 = .ok (.invokevirtual 120, 3) := by decide +kernel
theorem dX6_tie_8 : decode cX6_tie 8 = .ok (.ifCond .eq 19, 3) := by decide +kernel
theorem dX6_tie_11 : decode cX6_tie 11 = .ok (.aload_n 0, 1) := by decide +kernel
theorem dX6_tie_12 : decode cX6_tie 12 = .ok (.getfield 21, 3) := by decide +kernel
theorem dX6_tie_15 : decode cX6_tie 15 = .ok (.iload_n 2, 1) := by decide +kernel
theorem dX6_tie_16 : decode cX6_tie 16 = .ok (.invokevirtual 120, 3) := by decide +kernel
theorem dX6_tie_19 : decode cX6_tie 19 = .ok (.ifCond .eq 8, 3) := by decide +kernel
theorem dX6_tie_22 : decode cX6_tie 22 = .ok (.iload_n 1, 1) := by decide +kernel
theorem dX6_tie_23 : decode cX6_tie 23 = .ok (.iload_n 2, 1) := by decide +kernel
theorem dX6_tie_24 : decode cX6_tie 24 = .ok (.if_icmp .ne 9, 3) := by decide +kernel
theorem dX6_tie_27 : decode cX6_tie 27 = .ok (.aload_n 0, 1) := by decide +kernel
theorem dX6_tie_28 : decode cX6_tie 28 = .ok (.iconst 0, 1) := by decide +kernel
theorem dX6_tie_29 : decode cX6_tie 29 = .ok (.invokevirtual 95, 3) := by decide +kernel
theorem dX6_tie_32 : decode cX6_tie 32 = .ok (.ireturn, 1) := by decide +kernel
theorem dX6_tie_33 : decode cX6_tie 33 = .ok (.iload_n 3, 1) := by decide +kernel
theorem dX6_tie_34 : decode cX6_tie 34 = .ok (.ifCond .lt 10, 3) := by decide +kernel
theorem dX6_tie_37 : decode cX6_tie 37 = .ok (.iload_n 3, 1) := by decide +kernel
theorem dX6_tie_38 : decode cX6_tie 38 = .ok (.sipush 999, 3) := by decide +kernel
theorem dX6_tie_41 : decode cX6_tie 41 = .ok (.if_icmp .le 9, 3) := by decide +kernel
theorem dX6_tie_44 : decode cX6_tie 44 = .ok (.aload_n 0, 1) := by decide +kernel
theorem dX6_tie_45 : decode cX6_tie 45 = .ok (.iconst 0, 1) := by decide +kernel
theorem dX6_tie_46 : decode cX6_tie 46 = .ok (.invokevirtual 95, 3) := by decide +kernel
theorem dX6_tie_49 : decode cX6_tie 49 = .ok (.ireturn, 1) := by decide +kernel
theorem dX6_tie_50 : decode cX6_tie 50 = .ok (.aload_n 0, 1) := by decide +kernel
theorem dX6_tie_51 : decode cX6_tie 51 = .ok (.getfield 21, 3) := by decide +kernel
theorem dX6_tie_54 : decode cX6_tie 54 = .ok (.iload_n 1, 1) := by decide +kernel
theorem dX6_tie_55 : decode cX6_tie 55 = .ok (.iload_n 2, 1) := by decide +kernel
theorem dX6_tie_56 : decode cX6_tie 56 = .ok (.iload_n 3, 1) := by decide +kernel
theorem dX6_tie_57 : decode cX6_tie 57 = .ok (.invokevirtual 169, 3) := by decide +kernel
theorem dX6_tie_60 : decode cX6_tie 60 = .ok (.aload_n 0, 1) := by decide +kernel
theorem dX6_tie_61 : decode cX6_tie 61 = .ok (.getfield 21, 3) := by decide +kernel
theorem dX6_tie_64 : decode cX6_tie 64 = .ok (.iload_n 1, 1) := by decide +kernel
theorem dX6_tie_65 : decode cX6_tie 65 = .ok (.aload_n 0, 1) := by decide +kernel
theorem dX6_tie_66 : decode cX6_tie 66 = .ok (.getfield 21, 3) := by decide +kernel
theorem dX6_tie_69 : decode cX6_tie 69 = .ok (.iload_n 1, 1) := by decide +kernel
theorem dX6_tie_70 : decode cX6_tie 70 = .ok (.invokevirtual 126, 3) := by decide +kernel
theorem dX6_tie_73 : decode cX6_tie 73 = .ok (.invokevirtual 162, 3) := by decide +kernel
theorem dX6_tie_76 : decode cX6_tie 76 = .ok (.ifCond .eq 7, 3) := by decide +kernel
theorem dX6_tie_79 : decode cX6_tie 79 = .ok (.iconst 1, 1) := by decide +kernel
theorem dX6_tie_80 : decode cX6_tie 80 = .ok (.goto 4, 3) := by decide +kernel
theorem dX6_tie_83 : decode cX6_tie 83 = .ok (.iconst 0, 1) := by decide +kernel
theorem dX6_tie_84 : decode cX6_tie 84 = .ok (.ireturn, 1) := by decide +kernel
set_option maxHeartbeats 4000000 in
set_option maxRecDepth 100000 in
theorem c_X6_tie {l : Launch} {ω : xO} (hc : xsh ω = clS) {p s n : Int} {M : xMem} (hJ : CInv M) (hp : inR p) (hs : inR s) (hn2 : inR n) (hIj : clHas M 11 p → clHas M 11 s → p ≠ s → 0 ≤ n ∧ n ≤ 999 → PeInv (joiC M 11 p s n) 11) : Ct l ω yX6_tie ({ frames := 4, cells := 0, slots := 0, locals := 87 } : Room) 4 3 [.ref (xad ω 0), .int (iI p), .int (iI s), .int (iI n)] M (some (.int (iI (tieR M p s n)))) (tieM M p s n) := by
  refine Ct.of (bytes := cX6_tie) (ret := (some .int)) (lv0 := [some (.ref (xad ω 0)), some (.int (iI p)), some (.int (iI s)), some (.int (iI n))]) m_cd_X6_tie m_in_X6 (by decide +kernel) (by decide +kernel) rfl rfl rfl rfl (fun hR => by unfold tieM; split; exact up_R (up_R (up_R (up_R (prtC_R (prtC_R hR)) (by omega)) (by omega)) hn2) hn2; exact fndC_R hR) ?_
  intro κ h he hR
  have hI := hJ.1
  have hD := hJ.2.1
  have hL := hJ.2.2.1
  have hn := hI.1
  have hck := hI.2.1
  refine x_aload_n h dX6_tie_0 rfl ?_
  refine x_getr (j := 1) (q := 11) h dX6_tie_1 (sC0 hc) rfl in_X6 rfl (by decide) m_fl_X6_21 ?_
  refine x_iload_n h dX6_tie_4 rfl ?_
  refine x_V1i h dX6_tie_5 m_ml_X6_120 m_im_X1_has m_se_X1_has (sPe hc ((Or.inl ⟨rfl, rfl⟩))) rfl (by decide) rfl (c_X1_has hc (Or.inl ⟨rfl, rfl⟩) (by omega)) ?_
  refine x_ifeqB h dX6_tie_8 (tgt := 27) (by decide) (fun q8 => ?_) (fun q8 => ?_)
  · refine x_aload_n h dX6_tie_27 rfl ?_
    refine x_iconst h dX6_tie_28 ?_
    refine x_V1i h dX6_tie_29 m_ml_X6_95 m_im_X6_found m_se_X6_found (sC0 hc) rfl (by decide) rfl (c_X6_found hc (by omega)) ?_
    exact x_iret (ret := none) h he dX6_tie_32 rfl (by unfold tieR; first | (rw [if_neg (by omega)]; rfl) | (rw [if_pos (by omega), ← e2]; first | exact (bI_t (by assumption)).symm | exact (bI_f (by assumption)).symm)) (by unfold tieM; (repeat (first | rw [if_pos (by first | assumption | omega)] | rw [if_neg (by first | assumption | omega)])) <;> first | rfl | omega)
  · refine x_aload_n h dX6_tie_11 rfl ?_
    refine x_getr (j := 1) (q := 11) h dX6_tie_12 (sC0 hc) rfl in_X6 rfl (by decide) m_fl_X6_21 ?_
    refine x_iload_n h dX6_tie_15 rfl ?_
    refine x_V1i h dX6_tie_16 m_ml_X6_120 m_im_X1_has m_se_X1_has (sPe hc ((Or.inl ⟨rfl, rfl⟩))) rfl (by decide) rfl (c_X1_has hc (Or.inl ⟨rfl, rfl⟩) (by omega)) ?_
    refine x_ifeqB h dX6_tie_19 (tgt := 27) (by decide) (fun q19 => ?_) (fun q19 => ?_)
    · refine x_aload_n h dX6_tie_27 rfl ?_
      refine x_iconst h dX6_tie_28 ?_
      refine x_V1i h dX6_tie_29 m_ml_X6_95 m_im_X6_found m_se_X6_found (sC0 hc) rfl (by decide) rfl (c_X6_found hc (by omega)) ?_
      exact x_iret (ret := none) h he dX6_tie_32 rfl (by unfold tieR; first | (rw [if_neg (by omega)]; rfl) | (rw [if_pos (by omega), ← e2]; first | exact (bI_t (by assumption)).symm | exact (bI_f (by assumption)).symm)) (by unfold tieM; (repeat (first | rw [if_pos (by first | assumption | omega)] | rw [if_neg (by first | assumption | omega)])) <;> first | rfl | omega)
    · refine x_iload_n h dX6_tie_22 rfl ?_
      refine x_iload_n h dX6_tie_23 rfl ?_
      refine x_icmp_ne h dX6_tie_24 (tgt := 33) (by decide) (by omega) (by omega) (fun q24 => ?_) (fun q24 => ?_)
      · refine x_iload_n h dX6_tie_33 rfl ?_
        refine x_if_lt h dX6_tie_34 (tgt := 44) (by decide) (by omega) (fun q34 => ?_) (fun q34 => ?_)
        · refine x_aload_n h dX6_tie_44 rfl ?_
          refine x_iconst h dX6_tie_45 ?_
          refine x_V1i h dX6_tie_46 m_ml_X6_95 m_im_X6_found m_se_X6_found (sC0 hc) rfl (by decide) rfl (c_X6_found hc (by omega)) ?_
          exact x_iret (ret := none) h he dX6_tie_49 rfl (by unfold tieR; first | (rw [if_neg (by omega)]; rfl) | (rw [if_pos (by omega), ← e2]; first | exact (bI_t (by assumption)).symm | exact (bI_f (by assumption)).symm)) (by unfold tieM; (repeat (first | rw [if_pos (by first | assumption | omega)] | rw [if_neg (by first | assumption | omega)])) <;> first | rfl | omega)
        · refine x_iload_n h dX6_tie_37 rfl ?_
          refine x_sipush h dX6_tie_38 (by decide) ?_
          refine x_icmp_le h dX6_tie_41 (tgt := 50) (by decide) (by omega) (by omega) (fun q41 => ?_) (fun q41 => ?_)
          · refine x_aload_n h dX6_tie_50 rfl ?_
            refine x_getr (j := 1) (q := 11) h dX6_tie_51 (sC0 hc) rfl in_X6 rfl (by decide) m_fl_X6_21 ?_
            refine x_iload_n h dX6_tie_54 rfl ?_
            refine x_iload_n h dX6_tie_55 rfl ?_
            refine x_iload_n h dX6_tie_56 rfl ?_
            refine x_V3v h dX6_tie_57 m_ml_X6_169 m_im_X1_join m_se_X1_join (sPe hc ((Or.inl ⟨rfl, rfl⟩))) rfl (by decide) rfl (c_X1_join hc ((Or.inl ⟨rfl, rfl⟩)) (by omega) (by omega) (by omega) (by omega)) ?_
            have hI3 := hIj q8 q19 q24 (by omega)
            have hj1 : ∀ k, k ≠ 11 + 4 → k ≠ 11 + 6 → joiC M 11 p s n k = M k := fun k h1 h2 => by unfold joiC; rw [up_n h2, up_n h2, up_n h1, up_n h1, prtC_n h1, prtC_n h1]
            have hp3 : clHas (joiC M 11 p s n) 11 p := by unfold clHas; rw [hj1 11 (by decide) (by decide)]; exact q8
            have ip := hI.2.2 p q8.1 q8.2.1
            have e2 : joiC M 11 p s n (11 + 2) p = M (11 + 2) p := by rw [hj1 (11 + 2) (by decide) (by decide)]
            refine x_aload_n h dX6_tie_60 rfl ?_
            refine x_getr (j := 1) (q := 11) h dX6_tie_61 (sC0 hc) rfl in_X6 rfl (by decide) m_fl_X6_21 ?_
            refine x_iload_n h dX6_tie_64 rfl ?_
            refine x_aload_n h dX6_tie_65 rfl ?_
            refine x_getr (j := 1) (q := 11) h dX6_tie_66 (sC0 hc) rfl in_X6 rfl (by decide) m_fl_X6_21 ?_
            refine x_iload_n h dX6_tie_69 rfl ?_
            refine x_V1i h dX6_tie_70 m_ml_X6_126 m_im_X1_placeOf m_se_X1_placeOf (sPe hc ((Or.inl ⟨rfl, rfl⟩))) rfl (by decide) rfl (c_X1_placeOf hc (Or.inl ⟨rfl, rfl⟩) hp3) ?_
            refine x_V2i h dX6_tie_73 m_ml_X6_162 m_im_X1_ropeLets m_se_X1_ropeLets (sPe hc ((Or.inl ⟨rfl, rfl⟩))) rfl (by decide) rfl (c_X1_ropeLets hc (Or.inl ⟨rfl, rfl⟩) hI3 hp3 (by omega)) ?_
            refine x_ifeqB h dX6_tie_76 (tgt := 83) (by decide) (fun q76 => ?_) (fun q76 => ?_)
            · refine x_iconst h dX6_tie_83 ?_
              exact x_iret (ret := none) h he dX6_tie_84 rfl (by unfold tieR; first | (rw [if_neg (by omega)]; rfl) | (rw [if_pos (by omega), ← e2]; first | exact (bI_t (by assumption)).symm | exact (bI_f (by assumption)).symm)) (by unfold tieM; (repeat (first | rw [if_pos (by first | assumption | omega)] | rw [if_neg (by first | assumption | omega)])) <;> first | rfl | omega)
            · refine x_iconst h dX6_tie_79 ?_
              refine x_goto h dX6_tie_80 (tgt := 84) (by decide) ?_
              exact x_iret (ret := none) h he dX6_tie_84 rfl (by unfold tieR; first | (rw [if_neg (by omega)]; rfl) | (rw [if_pos (by omega), ← e2]; first | exact (bI_t (by assumption)).symm | exact (bI_f (by assumption)).symm)) (by unfold tieM; (repeat (first | rw [if_pos (by first | assumption | omega)] | rw [if_neg (by first | assumption | omega)])) <;> first | rfl | omega)
          · refine x_aload_n h dX6_tie_44 rfl ?_
            refine x_iconst h dX6_tie_45 ?_
            refine x_V1i h dX6_tie_46 m_ml_X6_95 m_im_X6_found m_se_X6_found (sC0 hc) rfl (by decide) rfl (c_X6_found hc (by omega)) ?_
            exact x_iret (ret := none) h he dX6_tie_49 rfl (by unfold tieR; first | (rw [if_neg (by omega)]; rfl) | (rw [if_pos (by omega), ← e2]; first | exact (bI_t (by assumption)).symm | exact (bI_f (by assumption)).symm)) (by unfold tieM; (repeat (first | rw [if_pos (by first | assumption | omega)] | rw [if_neg (by first | assumption | omega)])) <;> first | rfl | omega)
      · refine x_aload_n h dX6_tie_27 rfl ?_
        refine x_iconst h dX6_tie_28 ?_
        refine x_V1i h dX6_tie_29 m_ml_X6_95 m_im_X6_found m_se_X6_found (sC0 hc) rfl (by decide) rfl (c_X6_found hc (by omega)) ?_
        exact x_iret (ret := none) h he dX6_tie_32 rfl (by unfold tieR; first | (rw [if_neg (by omega)]; rfl) | (rw [if_pos (by omega), ← e2]; first | exact (bI_t (by assumption)).symm | exact (bI_f (by assumption)).symm)) (by unfold tieM; (repeat (first | rw [if_pos (by first | assumption | omega)] | rw [if_neg (by first | assumption | omega)])) <;> first | rfl | omega)

noncomputable def cutR (M : xMem) (p : Int) : Int := if clHas M 11 p then (if clHas M 11 (M (11 + 4) p) then M (11 + 4) p else -1000004) else -1000001
noncomputable def cutM (M : xMem) (p : Int) : xMem := if clHas M 11 p then (if clHas M 11 (M (11 + 4) p) then prtC M 11 p else fndC M 3) else fndC M 0
theorem dX6_cut_0 : decode cX6_cut 0 = .ok (.aload_n 0, 1) := by decide +kernel
theorem dX6_cut_1 : decode cX6_cut 1 = .ok (.getfield 21, 3) := by decide +kernel
theorem dX6_cut_4 : decode cX6_cut 4 = .ok (.iload_n 1, 1) := by decide +kernel
theorem dX6_cut_5 : decode cX6_cut 5 = .ok (.invokevirtual 120, 3) := by decide +kernel
theorem dX6_cut_8 : decode cX6_cut 8 = .ok (.ifCond .ne 9, 3) := by decide +kernel
theorem dX6_cut_11 : decode cX6_cut 11 = .ok (.aload_n 0, 1) := by decide +kernel
theorem dX6_cut_12 : decode cX6_cut 12 = .ok (.iconst 0, 1) := by decide +kernel
theorem dX6_cut_13 : decode cX6_cut 13 = .ok (.invokevirtual 95, 3) := by decide +kernel
theorem dX6_cut_16 : decode cX6_cut 16 = .ok (.ireturn, 1) := by decide +kernel
theorem dX6_cut_17 : decode cX6_cut 17 = .ok (.aload_n 0, 1) := by decide +kernel
theorem dX6_cut_18 : decode cX6_cut 18 = .ok (.getfield 21, 3) := by decide +kernel
theorem dX6_cut_21 : decode cX6_cut 21 = .ok (.iload_n 1, 1) := by decide +kernel
theorem dX6_cut_22 : decode cX6_cut 22 = .ok (.invokevirtual 172, 3) := by decide +kernel
theorem dX6_cut_25 : decode cX6_cut 25 = .ok (.ifCond .ne 9, 3) := by decide +kernel
theorem dX6_cut_28 : decode cX6_cut 28 = .ok (.aload_n 0, 1) := by decide +kernel
theorem dX6_cut_29 : decode cX6_cut 29 = .ok (.iconst 3, 1) := by decide +kernel
theorem dX6_cut_30 : decode cX6_cut 30 = .ok (.invokevirtual 95, 3) := by decide +kernel
theorem dX6_cut_33 : decode cX6_cut 33 = .ok (.ireturn, 1) := by decide +kernel
theorem dX6_cut_34 : decode cX6_cut 34 = .ok (.aload_n 0, 1) := by decide +kernel
theorem dX6_cut_35 : decode cX6_cut 35 = .ok (.getfield 21, 3) := by decide +kernel
theorem dX6_cut_38 : decode cX6_cut 38 = .ok (.iload_n 1, 1) := by decide +kernel
theorem dX6_cut_39 : decode cX6_cut 39 = .ok (.invokevirtual 132, 3) := by decide +kernel
theorem dX6_cut_42 : decode cX6_cut 42 = .ok (.istore_n 2, 1) := by decide +kernel
theorem dX6_cut_43 : decode cX6_cut 43 = .ok (.aload_n 0, 1) := by decide +kernel
theorem dX6_cut_44 : decode cX6_cut 44 = .ok (.getfield 21, 3) := by decide +kernel
theorem dX6_cut_47 : decode cX6_cut 47 = .ok (.iload_n 1, 1) := by decide +kernel
theorem dX6_cut_48 : decode cX6_cut 48 = .ok (.invokevirtual 175, 3) := by decide +kernel
theorem dX6_cut_51 : decode cX6_cut 51 = .ok (.iload_n 2, 1) := by decide +kernel
theorem dX6_cut_52 : decode cX6_cut 52 = .ok (.ireturn, 1) := by decide +kernel
set_option maxHeartbeats 4000000 in
set_option maxRecDepth 100000 in
theorem c_X6_cut {l : Launch} {ω : xO} (hc : xsh ω = clS) {p : Int} {M : xMem} (hJ : CInv M) (h_p : inR p) : Ct l ω yX6_cut ({ frames := 3, cells := 0, slots := 0, locals := 64 } : Room) 3 1 [.ref (xad ω 0), .int (iI p)] M (some (.int (iI (cutR M p)))) (cutM M p) := by
  refine Ct.of (bytes := cX6_cut) (ret := (some .int)) (lv0 := [some (.ref (xad ω 0)), some (.int (iI p)), none]) m_cd_X6_cut m_in_X6 (by decide +kernel) (by decide +kernel) rfl rfl rfl rfl (fun hR => by unfold cutM; (repeat' split) <;> first | exact fndC_R hR | exact prtC_R hR) ?_
  intro κ h he hR
  have hI := hJ.1
  have hD := hJ.2.1
  have hL := hJ.2.2.1
  have hn := hI.1
  have hck := hI.2.1
  refine x_aload_n h dX6_cut_0 rfl ?_
  refine x_getr (j := 1) (q := 11) h dX6_cut_1 (sC0 hc) rfl in_X6 rfl (by decide) m_fl_X6_21 ?_
  refine x_iload_n h dX6_cut_4 rfl ?_
  refine x_V1i h dX6_cut_5 m_ml_X6_120 m_im_X1_has m_se_X1_has (sPe hc ((Or.inl ⟨rfl, rfl⟩))) rfl (by decide) rfl (c_X1_has hc (Or.inl ⟨rfl, rfl⟩) (by omega)) ?_
  refine x_ifneB h dX6_cut_8 (tgt := 17) (by decide) (fun q8 => ?_) (fun q8 => ?_)
  · refine x_aload_n h dX6_cut_17 rfl ?_
    refine x_getr (j := 1) (q := 11) h dX6_cut_18 (sC0 hc) rfl in_X6 rfl (by decide) m_fl_X6_21 ?_
    refine x_iload_n h dX6_cut_21 rfl ?_
    refine x_V1i h dX6_cut_22 m_ml_X6_172 m_im_X1_isTied m_se_X1_isTied (sPe hc ((Or.inl ⟨rfl, rfl⟩))) rfl (by decide) rfl (c_X1_isTied hc ((Or.inl ⟨rfl, rfl⟩)) (by omega)) ?_
    refine x_ifneB h dX6_cut_25 (tgt := 34) (by decide) (fun q25 => ?_) (fun q25 => ?_)
    · refine x_aload_n h dX6_cut_34 rfl ?_
      refine x_getr (j := 1) (q := 11) h dX6_cut_35 (sC0 hc) rfl in_X6 rfl (by decide) m_fl_X6_21 ?_
      refine x_iload_n h dX6_cut_38 rfl ?_
      refine x_V1i h dX6_cut_39 m_ml_X6_132 m_im_X1_mateOf m_se_X1_mateOf (sPe hc ((Or.inl ⟨rfl, rfl⟩))) rfl (by decide) rfl (c_X1_mateOf hc (Or.inl ⟨rfl, rfl⟩) (by omega)) ?_
      refine x_istore_n h dX6_cut_42 rfl rfl ?_
      dsimp only [xset]
      refine x_aload_n h dX6_cut_43 rfl ?_
      refine x_getr (j := 1) (q := 11) h dX6_cut_44 (sC0 hc) rfl in_X6 rfl (by decide) m_fl_X6_21 ?_
      refine x_iload_n h dX6_cut_47 rfl ?_
      refine x_V1v h dX6_cut_48 m_ml_X6_175 m_im_X1_part m_se_X1_part (sPe hc ((Or.inl ⟨rfl, rfl⟩))) rfl (by decide) rfl (c_X1_part hc ((Or.inl ⟨rfl, rfl⟩)) (by omega)) ?_
      refine x_iload_n h dX6_cut_51 rfl ?_
      exact x_iret (ret := none) h he dX6_cut_52 rfl (by unfold cutR; (repeat (first | rw [if_pos (by first | assumption | omega)] | rw [if_neg (by first | assumption | omega)])) <;> first | rfl | omega) (by unfold cutM; (repeat (first | rw [if_pos (by first | assumption | omega)] | rw [if_neg (by first | assumption | omega)])) <;> first | rfl | omega)
    · refine x_aload_n h dX6_cut_28 rfl ?_
      refine x_iconst h dX6_cut_29 ?_
      refine x_V1i h dX6_cut_30 m_ml_X6_95 m_im_X6_found m_se_X6_found (sC0 hc) rfl (by decide) rfl (c_X6_found hc (by omega)) ?_
      exact x_iret (ret := none) h he dX6_cut_33 rfl (by unfold cutR; (repeat (first | rw [if_pos (by first | assumption | omega)] | rw [if_neg (by first | assumption | omega)])) <;> first | rfl | omega) (by unfold cutM; (repeat (first | rw [if_pos (by first | assumption | omega)] | rw [if_neg (by first | assumption | omega)])) <;> first | rfl | omega)
  · refine x_aload_n h dX6_cut_11 rfl ?_
    refine x_iconst h dX6_cut_12 ?_
    refine x_V1i h dX6_cut_13 m_ml_X6_95 m_im_X6_found m_se_X6_found (sC0 hc) rfl (by decide) rfl (c_X6_found hc (by omega)) ?_
    exact x_iret (ret := none) h he dX6_cut_16 rfl (by unfold cutR; (repeat (first | rw [if_pos (by first | assumption | omega)] | rw [if_neg (by first | assumption | omega)])) <;> first | rfl | omega) (by unfold cutM; (repeat (first | rw [if_pos (by first | assumption | omega)] | rw [if_neg (by first | assumption | omega)])) <;> first | rfl | omega)

noncomputable def ropeR (M : xMem) (p : Int) : Int := if clHas M 11 p then (if clHas M 11 (M (11 + 4) p) then M (11 + 6) p else -1000004) else -1000001
noncomputable def ropeM (M : xMem) (p : Int) : xMem := if clHas M 11 p then (if clHas M 11 (M (11 + 4) p) then M else fndC M 3) else fndC M 0
theorem dX6_rope_0 : decode cX6_rope 0 = .ok (.aload_n 0, 1) := by decide +kernel
theorem dX6_rope_1 : decode cX6_rope 1 = .ok (.getfield 21, 3) := by decide +kernel
theorem dX6_rope_4 : decode cX6_rope 4 = .ok (.iload_n 1, 1) := by decide +kernel
theorem dX6_rope_5 : decode cX6_rope 5 = .ok (.invokevirtual 120, 3) := by decide +kernel
theorem dX6_rope_8 : decode cX6_rope 8 = .ok (.ifCond .ne 9, 3) := by decide +kernel
theorem dX6_rope_11 : decode cX6_rope 11 = .ok (.aload_n 0, 1) := by decide +kernel
theorem dX6_rope_12 : decode cX6_rope 12 = .ok (.iconst 0, 1) := by decide +kernel
theorem dX6_rope_13 : decode cX6_rope 13 = .ok (.invokevirtual 95, 3) := by decide +kernel
theorem dX6_rope_16 : decode cX6_rope 16 = .ok (.ireturn, 1) := by decide +kernel
theorem dX6_rope_17 : decode cX6_rope 17 = .ok (.aload_n 0, 1) := by decide +kernel
theorem dX6_rope_18 : decode cX6_rope 18 = .ok (.getfield 21, 3) := by decide +kernel
theorem dX6_rope_21 : decode cX6_rope 21 = .ok (.iload_n 1, 1) := by decide +kernel
theorem dX6_rope_22 : decode cX6_rope 22 = .ok (.invokevirtual 172, 3) := by decide +kernel
theorem dX6_rope_25 : decode cX6_rope 25 = .ok (.ifCond .ne 9, 3) := by decide +kernel
theorem dX6_rope_28 : decode cX6_rope 28 = .ok (.aload_n 0, 1) := by decide +kernel
theorem dX6_rope_29 : decode cX6_rope 29 = .ok (.iconst 3, 1) := by decide +kernel
theorem dX6_rope_30 : decode cX6_rope 30 = .ok (.invokevirtual 95, 3) := by decide +kernel
theorem dX6_rope_33 : decode cX6_rope 33 = .ok (.ireturn, 1) := by decide +kernel
theorem dX6_rope_34 : decode cX6_rope 34 = .ok (.aload_n 0, 1) := by decide +kernel
theorem dX6_rope_35 : decode cX6_rope 35 = .ok (.getfield 21, 3) := by decide +kernel
theorem dX6_rope_38 : decode cX6_rope 38 = .ok (.iload_n 1, 1) := by decide +kernel
theorem dX6_rope_39 : decode cX6_rope 39 = .ok (.invokevirtual 179, 3) := by decide +kernel
theorem dX6_rope_42 : decode cX6_rope 42 = .ok (.ireturn, 1) := by decide +kernel
set_option maxHeartbeats 4000000 in
set_option maxRecDepth 100000 in
theorem c_X6_rope {l : Launch} {ω : xO} (hc : xsh ω = clS) {p : Int} {M : xMem} (hJ : CInv M) (h_p : inR p) : Ct l ω yX6_rope ({ frames := 2, cells := 0, slots := 0, locals := 42 } : Room) 2 1 [.ref (xad ω 0), .int (iI p)] M (some (.int (iI (ropeR M p)))) (ropeM M p) := by
  refine Ct.of (bytes := cX6_rope) (ret := (some .int)) (lv0 := [some (.ref (xad ω 0)), some (.int (iI p))]) m_cd_X6_rope m_in_X6 (by decide +kernel) (by decide +kernel) rfl rfl rfl rfl (fun hR => by unfold ropeM; (repeat' split) <;> first | exact hR | exact fndC_R hR | (repeat' (first | exact hR | exact fndC_R hR | (with_reducible apply up_R) | (show inR _; omega)))) ?_
  intro κ h he hR
  have hI := hJ.1
  have hD := hJ.2.1
  have hL := hJ.2.2.1
  have hn := hI.1
  have hck := hI.2.1
  refine x_aload_n h dX6_rope_0 rfl ?_
  refine x_getr (j := 1) (q := 11) h dX6_rope_1 (sC0 hc) rfl in_X6 rfl (by decide) m_fl_X6_21 ?_
  refine x_iload_n h dX6_rope_4 rfl ?_
  refine x_V1i h dX6_rope_5 m_ml_X6_120 m_im_X1_has m_se_X1_has (sPe hc ((Or.inl ⟨rfl, rfl⟩))) rfl (by decide) rfl (c_X1_has hc (Or.inl ⟨rfl, rfl⟩) (by omega)) ?_
  refine x_ifneB h dX6_rope_8 (tgt := 17) (by decide) (fun q8 => ?_) (fun q8 => ?_)
  · refine x_aload_n h dX6_rope_17 rfl ?_
    refine x_getr (j := 1) (q := 11) h dX6_rope_18 (sC0 hc) rfl in_X6 rfl (by decide) m_fl_X6_21 ?_
    refine x_iload_n h dX6_rope_21 rfl ?_
    refine x_V1i h dX6_rope_22 m_ml_X6_172 m_im_X1_isTied m_se_X1_isTied (sPe hc ((Or.inl ⟨rfl, rfl⟩))) rfl (by decide) rfl (c_X1_isTied hc ((Or.inl ⟨rfl, rfl⟩)) (by omega)) ?_
    refine x_ifneB h dX6_rope_25 (tgt := 34) (by decide) (fun q25 => ?_) (fun q25 => ?_)
    · refine x_aload_n h dX6_rope_34 rfl ?_
      refine x_getr (j := 1) (q := 11) h dX6_rope_35 (sC0 hc) rfl in_X6 rfl (by decide) m_fl_X6_21 ?_
      refine x_iload_n h dX6_rope_38 rfl ?_
      refine x_V1i h dX6_rope_39 m_ml_X6_179 m_im_X1_ropeOf m_se_X1_ropeOf (sPe hc ((Or.inl ⟨rfl, rfl⟩))) rfl (by decide) rfl (c_X1_ropeOf hc (Or.inl ⟨rfl, rfl⟩) (by omega)) ?_
      exact x_iret (ret := none) h he dX6_rope_42 rfl (by unfold ropeR; (repeat (first | rw [if_pos (by first | assumption | omega)] | rw [if_neg (by first | assumption | omega)])) <;> first | rfl | omega) (by unfold ropeM; (repeat (first | rw [if_pos (by first | assumption | omega)] | rw [if_neg (by first | assumption | omega)])) <;> first | rfl | omega)
    · refine x_aload_n h dX6_rope_28 rfl ?_
      refine x_iconst h dX6_rope_29 ?_
      refine x_V1i h dX6_rope_30 m_ml_X6_95 m_im_X6_found m_se_X6_found (sC0 hc) rfl (by decide) rfl (c_X6_found hc (by omega)) ?_
      exact x_iret (ret := none) h he dX6_rope_33 rfl (by unfold ropeR; (repeat (first | rw [if_pos (by first | assumption | omega)] | rw [if_neg (by first | assumption | omega)])) <;> first | rfl | omega) (by unfold ropeM; (repeat (first | rw [if_pos (by first | assumption | omega)] | rw [if_neg (by first | assumption | omega)])) <;> first | rfl | omega)
  · refine x_aload_n h dX6_rope_11 rfl ?_
    refine x_iconst h dX6_rope_12 ?_
    refine x_V1i h dX6_rope_13 m_ml_X6_95 m_im_X6_found m_se_X6_found (sC0 hc) rfl (by decide) rfl (c_X6_found hc (by omega)) ?_
    exact x_iret (ret := none) h he dX6_rope_16 rfl (by unfold ropeR; (repeat (first | rw [if_pos (by first | assumption | omega)] | rw [if_neg (by first | assumption | omega)])) <;> first | rfl | omega) (by unfold ropeM; (repeat (first | rw [if_pos (by first | assumption | omega)] | rw [if_neg (by first | assumption | omega)])) <;> first | rfl | omega)

noncomputable def goR (M : xMem) (n : Int) : Int := if 1 ≤ n ∧ n ≤ 40 then (if M 11 2 + n ≤ 99999 then tkC 11 1 M n.toNat 11 2 else -1000005) else -1000001
noncomputable def goM (M : xMem) (n : Int) : xMem := if 1 ≤ n ∧ n ≤ 40 then (if M 11 2 + n ≤ 99999 then tkC 11 1 M n.toNat else fndC M 4) else fndC M 0
theorem dX6_go_0 : decode cX6_go 0 = .ok (.iload_n 1, 1) := by decide +kernel
theorem dX6_go_1 : decode cX6_go 1 = .ok (.iconst 1, 1) := by decide +kernel
theorem dX6_go_2 : decode cX6_go 2 = .ok (.if_icmp .lt 9, 3) := by decide +kernel
theorem dX6_go_5 : decode cX6_go 5 = .ok (.iload_n 1, 1) := by decide +kernel
theorem dX6_go_6 : decode cX6_go 6 = .ok (.bipush 40, 2) := by decide +kernel
theorem dX6_go_8 : decode cX6_go 8 = .ok (.if_icmp .le 9, 3) := by decide +kernel
theorem dX6_go_11 : decode cX6_go 11 = .ok (.aload_n 0, 1) := by decide +kernel
theorem dX6_go_12 : decode cX6_go 12 = .ok (.iconst 0, 1) := by decide +kernel
theorem dX6_go_13 : decode cX6_go 13 = .ok (.invokevirtual 95, 3) := by decide +kernel
theorem dX6_go_16 : decode cX6_go 16 = .ok (.ireturn, 1) := by decide +kernel
theorem dX6_go_17 : decode cX6_go 17 = .ok (.aload_n 0, 1) := by decide +kernel
theorem dX6_go_18 : decode cX6_go 18 = .ok (.getfield 21, 3) := by decide +kernel
theorem dX6_go_21 : decode cX6_go 21 = .ok (.invokevirtual 182, 3) := by decide +kernel
theorem dX6_go_24 : decode cX6_go 24 = .ok (.iload_n 1, 1) := by decide +kernel
theorem dX6_go_25 : decode cX6_go 25 = .ok (.iadd, 1) := by decide +kernel
theorem dX6_go_26 : decode cX6_go 26 = .ok (.ldc 185, 2) := by decide +kernel
theorem dX6_go_28 : decode cX6_go 28 = .ok (.if_icmp .le 9, 3) := by decide +kernel
theorem dX6_go_31 : decode cX6_go 31 = .ok (.aload_n 0, 1) := by decide +kernel
theorem dX6_go_32 : decode cX6_go 32 = .ok (.iconst 4, 1) := by decide +kernel
theorem dX6_go_33 : decode cX6_go 33 = .ok (.invokevirtual 95, 3) := by decide +kernel
theorem dX6_go_36 : decode cX6_go 36 = .ok (.ireturn, 1) := by decide +kernel
theorem dX6_go_37 : decode cX6_go 37 = .ok (.aload_n 0, 1) := by decide +kernel
theorem dX6_go_38 : decode cX6_go 38 = .ok (.getfield 21, 3) := by decide +kernel
theorem dX6_go_41 : decode cX6_go 41 = .ok (.iload_n 1, 1) := by decide +kernel
theorem dX6_go_42 : decode cX6_go 42 = .ok (.invokevirtual 186, 3) := by decide +kernel
theorem dX6_go_45 : decode cX6_go 45 = .ok (.aload_n 0, 1) := by decide +kernel
theorem dX6_go_46 : decode cX6_go 46 = .ok (.getfield 21, 3) := by decide +kernel
theorem dX6_go_49 : decode cX6_go 49 = .ok (.invokevirtual 182, 3) := by decide +kernel
theorem dX6_go_52 : decode cX6_go 52 = .ok (.ireturn, 1) := by decide +kernel
set_option maxHeartbeats 4000000 in
set_option maxRecDepth 100000 in
theorem c_X6_go {l : Launch} {ω : xO} (hc : xsh ω = clS) {n : Int} {M : xMem} (hJ : CInv M) (h_n : inR n) : Ct l ω yX6_go ({ frames := 5, cells := 0, slots := 0, locals := 118 } : Room) 2 1 [.ref (xad ω 0), .int (iI n)] M (some (.int (iI (goR M n)))) (goM M n) := by
  refine Ct.of (bytes := cX6_go) (ret := (some .int)) (lv0 := [some (.ref (xad ω 0)), some (.int (iI n))]) m_cd_X6_go m_in_X6 (by decide +kernel) (by decide +kernel) rfl rfl rfl rfl (fun hR => by unfold goM; (repeat' split) <;> first | exact fndC_R hR | exact (tkC_in (Or.inl ⟨rfl, rfl⟩) ⟨hR, hJ.1, hJ.2.1⟩ n.toNat).1) ?_
  intro κ h he hR
  have hI := hJ.1
  have hD := hJ.2.1
  have hL := hJ.2.2.1
  have hn := hI.1
  have hck := hI.2.1
  have hin : PIn M 11 1 := ⟨hR, hI, hD⟩
  refine x_iload_n h dX6_go_0 rfl ?_
  refine x_iconst h dX6_go_1 ?_
  refine x_icmp_lt h dX6_go_2 (tgt := 11) (by decide) (by omega) (by omega) (fun q2 => ?_) (fun q2 => ?_)
  · refine x_aload_n h dX6_go_11 rfl ?_
    refine x_iconst h dX6_go_12 ?_
    refine x_V1i h dX6_go_13 m_ml_X6_95 m_im_X6_found m_se_X6_found (sC0 hc) rfl (by decide) rfl (c_X6_found hc (by omega)) ?_
    exact x_iret (ret := none) h he dX6_go_16 rfl (by unfold goR; (repeat (first | rw [if_pos (by first | assumption | omega)] | rw [if_neg (by first | assumption | omega)])) <;> first | rfl | omega) (by unfold goM; (repeat (first | rw [if_pos (by first | assumption | omega)] | rw [if_neg (by first | assumption | omega)])) <;> first | rfl | omega)
  · refine x_iload_n h dX6_go_5 rfl ?_
    refine x_bipush h dX6_go_6 (by decide) ?_
    refine x_icmp_le h dX6_go_8 (tgt := 17) (by decide) (by omega) (by omega) (fun q8 => ?_) (fun q8 => ?_)
    · refine x_aload_n h dX6_go_17 rfl ?_
      refine x_getr (j := 1) (q := 11) h dX6_go_18 (sC0 hc) rfl in_X6 rfl (by decide) m_fl_X6_21 ?_
      refine x_V0i h dX6_go_21 m_ml_X6_182 m_im_X1_clock m_se_X1_clock (sPe hc ((Or.inl ⟨rfl, rfl⟩))) rfl (by decide) rfl (c_X1_clock hc (Or.inl ⟨rfl, rfl⟩)) ?_
      refine x_iload_n h dX6_go_24 rfl ?_
      refine x_iadd h dX6_go_25 ?_
      refine x_ldc h m_k_X6_185 dX6_go_26 ?_
      refine x_icmp_le h dX6_go_28 (tgt := 37) (by decide) (by omega) (by omega) (fun q28 => ?_) (fun q28 => ?_)
      · refine x_aload_n h dX6_go_37 rfl ?_
        refine x_getr (j := 1) (q := 11) h dX6_go_38 (sC0 hc) rfl in_X6 rfl (by decide) m_fl_X6_21 ?_
        refine x_iload_n h dX6_go_41 rfl ?_
        refine x_V1v h dX6_go_42 m_ml_X6_186 m_im_X1_takeSteps m_se_X1_takeSteps (sPe hc ((Or.inl ⟨rfl, rfl⟩))) rfl (by decide) rfl (c_X1_takeSteps hc ((Or.inl ⟨rfl, rfl⟩)) hin (by omega)) ?_
        refine x_aload_n h dX6_go_45 rfl ?_
        refine x_getr (j := 1) (q := 11) h dX6_go_46 (sC0 hc) rfl in_X6 rfl (by decide) m_fl_X6_21 ?_
        refine x_V0i h dX6_go_49 m_ml_X6_182 m_im_X1_clock m_se_X1_clock (sPe hc ((Or.inl ⟨rfl, rfl⟩))) rfl (by decide) rfl (c_X1_clock hc (Or.inl ⟨rfl, rfl⟩)) ?_
        exact x_iret (ret := none) h he dX6_go_52 rfl (by unfold goR; (repeat (first | rw [if_pos (by first | assumption | omega)] | rw [if_neg (by first | assumption | omega)])) <;> first | rfl | omega) (by unfold goM; (repeat (first | rw [if_pos (by first | assumption | omega)] | rw [if_neg (by first | assumption | omega)])) <;> first | rfl | omega)
      · refine x_aload_n h dX6_go_31 rfl ?_
        refine x_iconst h dX6_go_32 ?_
        refine x_V1i h dX6_go_33 m_ml_X6_95 m_im_X6_found m_se_X6_found (sC0 hc) rfl (by decide) rfl (c_X6_found hc (by omega)) ?_
        exact x_iret (ret := none) h he dX6_go_36 rfl (by unfold goR; (repeat (first | rw [if_pos (by first | assumption | omega)] | rw [if_neg (by first | assumption | omega)])) <;> first | rfl | omega) (by unfold goM; (repeat (first | rw [if_pos (by first | assumption | omega)] | rw [if_neg (by first | assumption | omega)])) <;> first | rfl | omega)
    · refine x_aload_n h dX6_go_11 rfl ?_
      refine x_iconst h dX6_go_12 ?_
      refine x_V1i h dX6_go_13 m_ml_X6_95 m_im_X6_found m_se_X6_found (sC0 hc) rfl (by decide) rfl (c_X6_found hc (by omega)) ?_
      exact x_iret (ret := none) h he dX6_go_16 rfl (by unfold goR; (repeat (first | rw [if_pos (by first | assumption | omega)] | rw [if_neg (by first | assumption | omega)])) <;> first | rfl | omega) (by unfold goM; (repeat (first | rw [if_pos (by first | assumption | omega)] | rw [if_neg (by first | assumption | omega)])) <;> first | rfl | omega)

def thS (M : xMem) (b : Nat) : Int := xfo (fun (p acc : Int) => if M (b + 2) p = M (b + 3) p then bor acc (bshl 1 p) else acc) 0 (M b 1).toNat
def tgS (M : xMem) (b r : Nat) : Int := xfo (fun (p acc : Int) => if clHas M b (M (b + 4) p) ∧ M (r + 2) (M (b + 2) p * 10 + M (b + 2) (M (b + 4) p)) = rchC M b p then bor acc (bshl 1 p) else acc) 0 (M b 1).toNat
def hoS (M : xMem) (b f : Nat) : Int := xfo (fun (p acc : Int) => acc + M (b + f) p) 0 (M b 1).toNat
def lmS (M : xMem) (b : Nat) : Int := xfo (fun (p acc : Int) => if p < M (b + 4) p then bor acc (bshl 1 p) else acc) 0 (M b 1).toNat
def roS (M : xMem) (b : Nat) : Int := xfo (fun (p acc : Int) => if p < M (b + 4) p then acc + M (b + 6) p else acc) 0 (M b 1).toNat
noncomputable def nowR (M : xMem) (v : Int) : Int := if v = 0 then M 11 2 else if v = 1 then thS M 11 else if v = 2 then tgS M 11 1 else if v = 3 then hoS M 11 7 else if v = 4 then hoS M 11 8 else -1000001
noncomputable def nowM (M : xMem) (v : Int) : xMem := if 0 ≤ v ∧ v ≤ 4 then M else fndC M 0
theorem dX6_now_0 : decode cX6_now 0 = .ok (.iload_n 1, 1) := by decide +kernel
theorem dX6_now_1 : decode cX6_now 1 = .ok (.tableswitch 75 0 4 #[35, 43, 51, 59, 67], 35) := by decide +kernel
theorem dX6_now_36 : decode cX6_now 36 = .ok (.aload_n 0, 1) := by decide +kernel
theorem dX6_now_37 : decode cX6_now 37 = .ok (.getfield 21, 3) := by decide +kernel
theorem dX6_now_40 : decode cX6_now 40 = .ok (.invokevirtual 182, 3) := by decide +kernel
theorem dX6_now_43 : decode cX6_now 43 = .ok (.ireturn, 1) := by decide +kernel
theorem dX6_now_44 : decode cX6_now 44 = .ok (.aload_n 0, 1) := by decide +kernel
theorem dX6_now_45 : decode cX6_now 45 = .ok (.getfield 21, 3) := by decide +kernel
theorem dX6_now_48 : decode cX6_now 48 = .ok (.invokevirtual 189, 3) := by decide +kernel
theorem dX6_now_51 : decode cX6_now 51 = .ok (.ireturn, 1) := by decide +kernel
theorem dX6_now_52 : decode cX6_now 52 = .ok (.aload_n 0, 1) := by decide +kernel
theorem dX6_now_53 : decode cX6_now 53 = .ok (.getfield 21, 3) := by decide +kernel
theorem dX6_now_56 : decode cX6_now 56 = .ok (.invokevirtual 192, 3) := by decide +kernel
theorem dX6_now_59 : decode cX6_now 59 = .ok (.ireturn, 1) := by decide +kernel
theorem dX6_now_60 : decode cX6_now 60 = .ok (.aload_n 0, 1) := by decide +kernel
theorem dX6_now_61 : decode cX6_now 61 = .ok (.getfield 21, 3) := by decide +kernel
theorem dX6_now_64 : decode cX6_now 64 = .ok (.invokevirtual 195, 3) := by decide +kernel
theorem dX6_now_67 : decode cX6_now 67 = .ok (.ireturn, 1) := by decide +kernel
theorem dX6_now_68 : decode cX6_now 68 = .ok (.aload_n 0, 1) := by decide +kernel
theorem dX6_now_69 : decode cX6_now 69 = .ok (.getfield 21, 3) := by decide +kernel
theorem dX6_now_72 : decode cX6_now 72 = .ok (.invokevirtual 198, 3) := by decide +kernel
theorem dX6_now_75 : decode cX6_now 75 = .ok (.ireturn, 1) := by decide +kernel
theorem dX6_now_76 : decode cX6_now 76 = .ok (.aload_n 0, 1) := by decide +kernel
theorem dX6_now_77 : decode cX6_now 77 = .ok (.iconst 0, 1) := by decide +kernel
theorem dX6_now_78 : decode cX6_now 78 = .ok (.invokevirtual 95, 3) := by decide +kernel
theorem dX6_now_81 : decode cX6_now 81 = .ok (.ireturn, 1) := by decide +kernel
set_option maxHeartbeats 4000000 in
set_option maxRecDepth 100000 in
theorem c_X6_now {l : Launch} {ω : xO} (hc : xsh ω = clS) {v : Int} {M : xMem} (hJ : CInv M) (h_v : inR v) : Ct l ω yX6_now ({ frames := 4, cells := 0, slots := 0, locals := 85 } : Room) 2 1 [.ref (xad ω 0), .int (iI v)] M (some (.int (iI (nowR M v)))) (nowM M v) := by
  refine Ct.of (bytes := cX6_now) (ret := (some .int)) (lv0 := [some (.ref (xad ω 0)), some (.int (iI v))]) m_cd_X6_now m_in_X6 (by decide +kernel) (by decide +kernel) rfl rfl rfl rfl (fun hR => by unfold nowM; (repeat' split) <;> first | exact hR | exact fndC_R hR | (repeat' (first | exact hR | exact fndC_R hR | (with_reducible apply up_R) | (show inR _; omega)))) ?_
  intro κ h he hR
  have hI := hJ.1
  have hD := hJ.2.1
  have hL := hJ.2.2.1
  have hn := hI.1
  have hck := hI.2.1
  refine x_iload_n h dX6_now_0 rfl ?_
  by_cases sw1 : v < 0 ∨ 4 < v
  · refine x_tsOut h dX6_now_1 (by omega) sw1 (tgt := 76) (by decide) ?_
    refine x_aload_n h dX6_now_76 rfl ?_
    refine x_iconst h dX6_now_77 ?_
    refine x_V1i h dX6_now_78 m_ml_X6_95 m_im_X6_found m_se_X6_found (sC0 hc) rfl (by decide) rfl (c_X6_found hc (by omega)) ?_
    exact x_iret (ret := none) h he dX6_now_81 rfl (by unfold nowR; (repeat (first | rw [if_pos (by first | assumption | omega)] | rw [if_neg (by first | assumption | omega)])) <;> first | rfl | omega) (by unfold nowM; (repeat (first | rw [if_pos (by first | assumption | omega)] | rw [if_neg (by first | assumption | omega)])) <;> first | rfl | omega)
  rcases (show v = 0 ∨ v = 1 ∨ v = 2 ∨ v = 3 ∨ v = 4 by omega) with q1 | q1 | q1 | q1 | q1
  · refine x_tsIn 0 h dX6_now_1 q1 (by decide) rfl (tgt := 36) (by decide) ?_
    refine x_aload_n h dX6_now_36 rfl ?_
    refine x_getr (j := 1) (q := 11) h dX6_now_37 (sC0 hc) rfl in_X6 rfl (by decide) m_fl_X6_21 ?_
    refine x_V0i h dX6_now_40 m_ml_X6_182 m_im_X1_clock m_se_X1_clock (sPe hc ((Or.inl ⟨rfl, rfl⟩))) rfl (by decide) rfl (c_X1_clock hc (Or.inl ⟨rfl, rfl⟩)) ?_
    exact x_iret (ret := none) h he dX6_now_43 rfl (by unfold nowR; (repeat (first | rw [if_pos (by first | assumption | omega)] | rw [if_neg (by first | assumption | omega)])) <;> first | rfl | omega) (by unfold nowM; (repeat (first | rw [if_pos (by first | assumption | omega)] | rw [if_neg (by first | assumption | omega)])) <;> first | rfl | omega)
  · refine x_tsIn 1 h dX6_now_1 q1 (by decide) rfl (tgt := 44) (by decide) ?_
    refine x_aload_n h dX6_now_44 rfl ?_
    refine x_getr (j := 1) (q := 11) h dX6_now_45 (sC0 hc) rfl in_X6 rfl (by decide) m_fl_X6_21 ?_
    refine x_V0i h dX6_now_48 m_ml_X6_189 m_im_X1_thereSet m_se_X1_thereSet (sPe hc ((Or.inl ⟨rfl, rfl⟩))) rfl (by decide) rfl (c_X1_thereSet hc ((Or.inl ⟨rfl, rfl⟩)) hI) ?_
    exact x_iret (ret := none) h he dX6_now_51 rfl (by unfold nowR; (repeat (first | rw [if_pos (by first | assumption | omega)] | rw [if_neg (by first | assumption | omega)])) <;> first | rfl | omega) (by unfold nowM; (repeat (first | rw [if_pos (by first | assumption | omega)] | rw [if_neg (by first | assumption | omega)])) <;> first | rfl | omega)
  · refine x_tsIn 2 h dX6_now_1 q1 (by decide) rfl (tgt := 52) (by decide) ?_
    refine x_aload_n h dX6_now_52 rfl ?_
    refine x_getr (j := 1) (q := 11) h dX6_now_53 (sC0 hc) rfl in_X6 rfl (by decide) m_fl_X6_21 ?_
    refine x_V0i h dX6_now_56 m_ml_X6_192 m_im_X1_tightSet m_se_X1_tightSet (sPe hc ((Or.inl ⟨rfl, rfl⟩))) rfl (by decide) rfl (c_X1_tightSet hc ((Or.inl ⟨rfl, rfl⟩)) hI) ?_
    exact x_iret (ret := none) h he dX6_now_59 rfl (by unfold nowR; (repeat (first | rw [if_pos (by first | assumption | omega)] | rw [if_neg (by first | assumption | omega)])) <;> first | rfl | omega) (by unfold nowM; (repeat (first | rw [if_pos (by first | assumption | omega)] | rw [if_neg (by first | assumption | omega)])) <;> first | rfl | omega)
  · refine x_tsIn 3 h dX6_now_1 q1 (by decide) rfl (tgt := 60) (by decide) ?_
    refine x_aload_n h dX6_now_60 rfl ?_
    refine x_getr (j := 1) (q := 11) h dX6_now_61 (sC0 hc) rfl in_X6 rfl (by decide) m_fl_X6_21 ?_
    refine x_V0i h dX6_now_64 m_ml_X6_195 m_im_X1_holdsOfAll m_se_X1_holdsOfAll (sPe hc ((Or.inl ⟨rfl, rfl⟩))) rfl (by decide) rfl (c_X1_holdsOfAll hc ((Or.inl ⟨rfl, rfl⟩)) hI) ?_
    exact x_iret (ret := none) h he dX6_now_67 rfl (by unfold nowR; (repeat (first | rw [if_pos (by first | assumption | omega)] | rw [if_neg (by first | assumption | omega)])) <;> first | rfl | omega) (by unfold nowM; (repeat (first | rw [if_pos (by first | assumption | omega)] | rw [if_neg (by first | assumption | omega)])) <;> first | rfl | omega)
  · refine x_tsIn 4 h dX6_now_1 q1 (by decide) rfl (tgt := 68) (by decide) ?_
    refine x_aload_n h dX6_now_68 rfl ?_
    refine x_getr (j := 1) (q := 11) h dX6_now_69 (sC0 hc) rfl in_X6 rfl (by decide) m_fl_X6_21 ?_
    refine x_V0i h dX6_now_72 m_ml_X6_198 m_im_X1_tugsOfAll m_se_X1_tugsOfAll (sPe hc ((Or.inl ⟨rfl, rfl⟩))) rfl (by decide) rfl (c_X1_tugsOfAll hc ((Or.inl ⟨rfl, rfl⟩)) hI) ?_
    exact x_iret (ret := none) h he dX6_now_75 rfl (by unfold nowR; (repeat (first | rw [if_pos (by first | assumption | omega)] | rw [if_neg (by first | assumption | omega)])) <;> first | rfl | omega) (by unfold nowM; (repeat (first | rw [if_pos (by first | assumption | omega)] | rw [if_neg (by first | assumption | omega)])) <;> first | rfl | omega)

noncomputable def nextR (M : xMem) (p : Int) : Int := if clHas M 11 p then wntC M 11 1 p else -1000001
noncomputable def nextM (M : xMem) (p : Int) : xMem := if clHas M 11 p then M else fndC M 0
theorem dX6_next_0 : decode cX6_next 0 = .ok (.aload_n 0, 1) := by decide +kernel
theorem dX6_next_1 : decode cX6_next 1 = .ok (.getfield 21, 3) := by decide +kernel
theorem dX6_next_4 : decode cX6_next 4 = .ok (.iload_n 1, 1) := by decide +kernel
theorem dX6_next_5 : decode cX6_next 5 = .ok (.invokevirtual 120, 3) := by decide +kernel
theorem dX6_next_8 : decode cX6_next 8 = .ok (.ifCond .ne 9, 3) := by decide +kernel
theorem dX6_next_11 : decode cX6_next 11 = .ok (.aload_n 0, 1) := by decide +kernel
theorem dX6_next_12 : decode cX6_next 12 = .ok (.iconst 0, 1) := by decide +kernel
theorem dX6_next_13 : decode cX6_next 13 = .ok (.invokevirtual 95, 3) := by decide +kernel
theorem dX6_next_16 : decode cX6_next 16 = .ok (.ireturn, 1) := by decide +kernel
theorem dX6_next_17 : decode cX6_next 17 = .ok (.aload_n 0, 1) := by decide +kernel
theorem dX6_next_18 : decode cX6_next 18 = .ok (.getfield 10, 3) := by decide +kernel
theorem dX6_next_21 : decode cX6_next 21 = .ok (.aload_n 0, 1) := by decide +kernel
theorem dX6_next_22 : decode cX6_next 22 = .ok (.getfield 21, 3) := by decide +kernel
theorem dX6_next_25 : decode cX6_next 25 = .ok (.iload_n 1, 1) := by decide +kernel
theorem dX6_next_26 : decode cX6_next 26 = .ok (.invokevirtual 126, 3) := by decide +kernel
theorem dX6_next_29 : decode cX6_next 29 = .ok (.aload_n 0, 1) := by decide +kernel
theorem dX6_next_30 : decode cX6_next 30 = .ok (.getfield 21, 3) := by decide +kernel
theorem dX6_next_33 : decode cX6_next 33 = .ok (.iload_n 1, 1) := by decide +kernel
theorem dX6_next_34 : decode cX6_next 34 = .ok (.invokevirtual 129, 3) := by decide +kernel
theorem dX6_next_37 : decode cX6_next 37 = .ok (.invokevirtual 201, 3) := by decide +kernel
theorem dX6_next_40 : decode cX6_next 40 = .ok (.ireturn, 1) := by decide +kernel
set_option maxHeartbeats 4000000 in
set_option maxRecDepth 100000 in
theorem c_X6_next {l : Launch} {ω : xO} (hc : xsh ω = clS) {p : Int} {M : xMem} (hJ : CInv M) (h_p : inR p) : Ct l ω yX6_next ({ frames := 2, cells := 0, slots := 0, locals := 42 } : Room) 2 1 [.ref (xad ω 0), .int (iI p)] M (some (.int (iI (nextR M p)))) (nextM M p) := by
  refine Ct.of (bytes := cX6_next) (ret := (some .int)) (lv0 := [some (.ref (xad ω 0)), some (.int (iI p))]) m_cd_X6_next m_in_X6 (by decide +kernel) (by decide +kernel) rfl rfl rfl rfl (fun hR => by unfold nextM; (repeat' split) <;> first | exact hR | exact fndC_R hR | (repeat' (first | exact hR | exact fndC_R hR | (with_reducible apply up_R) | (show inR _; omega)))) ?_
  intro κ h he hR
  have hI := hJ.1
  have hD := hJ.2.1
  have hL := hJ.2.2.1
  have hn := hI.1
  have hck := hI.2.1
  refine x_aload_n h dX6_next_0 rfl ?_
  refine x_getr (j := 1) (q := 11) h dX6_next_1 (sC0 hc) rfl in_X6 rfl (by decide) m_fl_X6_21 ?_
  refine x_iload_n h dX6_next_4 rfl ?_
  refine x_V1i h dX6_next_5 m_ml_X6_120 m_im_X1_has m_se_X1_has (sPe hc ((Or.inl ⟨rfl, rfl⟩))) rfl (by decide) rfl (c_X1_has hc (Or.inl ⟨rfl, rfl⟩) (by omega)) ?_
  refine x_ifneB h dX6_next_8 (tgt := 17) (by decide) (fun q8 => ?_) (fun q8 => ?_)
  · have ip := hI.2.2 p (by omega) (by omega)
    refine x_aload_n h dX6_next_17 rfl ?_
    refine x_getr (j := 0) (q := 1) h dX6_next_18 (sC0 hc) rfl in_X6 rfl (by decide) m_fl_X6_10 ?_
    refine x_aload_n h dX6_next_21 rfl ?_
    refine x_getr (j := 1) (q := 11) h dX6_next_22 (sC0 hc) rfl in_X6 rfl (by decide) m_fl_X6_21 ?_
    refine x_iload_n h dX6_next_25 rfl ?_
    refine x_V1i h dX6_next_26 m_ml_X6_126 m_im_X1_placeOf m_se_X1_placeOf (sPe hc ((Or.inl ⟨rfl, rfl⟩))) rfl (by decide) rfl (c_X1_placeOf hc (Or.inl ⟨rfl, rfl⟩) (by omega)) ?_
    refine x_aload_n h dX6_next_29 rfl ?_
    refine x_getr (j := 1) (q := 11) h dX6_next_30 (sC0 hc) rfl in_X6 rfl (by decide) m_fl_X6_21 ?_
    refine x_iload_n h dX6_next_33 rfl ?_
    refine x_V1i h dX6_next_34 m_ml_X6_129 m_im_X1_errandOf m_se_X1_errandOf (sPe hc ((Or.inl ⟨rfl, rfl⟩))) rfl (by decide) rfl (c_X1_errandOf hc (Or.inl ⟨rfl, rfl⟩) (by omega)) ?_
    refine x_V2i h dX6_next_37 m_ml_X6_201 m_im_X3_nextPlace m_se_X3_nextPlace (sRd hc ((Or.inl rfl))) rfl (by decide) rfl (c_X3_nextPlace hc (Or.inl rfl) (by omega) (by omega)) ?_
    exact x_iret (ret := none) h he dX6_next_40 rfl (by unfold nextR; (repeat (first | rw [if_pos (by first | assumption | omega)] | rw [if_neg (by first | assumption | omega)])) <;> first | rfl | omega) (by unfold nextM; (repeat (first | rw [if_pos (by first | assumption | omega)] | rw [if_neg (by first | assumption | omega)])) <;> first | rfl | omega)
  · refine x_aload_n h dX6_next_11 rfl ?_
    refine x_iconst h dX6_next_12 ?_
    refine x_V1i h dX6_next_13 m_ml_X6_95 m_im_X6_found m_se_X6_found (sC0 hc) rfl (by decide) rfl (c_X6_found hc (by omega)) ?_
    exact x_iret (ret := none) h he dX6_next_16 rfl (by unfold nextR; (repeat (first | rw [if_pos (by first | assumption | omega)] | rw [if_neg (by first | assumption | omega)])) <;> first | rfl | omega) (by unfold nextM; (repeat (first | rw [if_pos (by first | assumption | omega)] | rw [if_neg (by first | assumption | omega)])) <;> first | rfl | omega)

noncomputable def mayR (M : xMem) (p a : Int) : Int := if clHas M 11 p ∧ plc a then bI (letC M 11 1 p a) else -1000001
noncomputable def mayM (M : xMem) (p a : Int) : xMem := if clHas M 11 p ∧ plc a then M else fndC M 0
theorem dX6_may_0 : decode cX6_may 0 = .ok (.aload_n 0, 1) := by decide +kernel
theorem dX6_may_1 : decode cX6_may 1 = .ok (.getfield 21, 3) := by decide +kernel
theorem dX6_may_4 : decode cX6_may 4 = .ok (.iload_n 1, 1) := by decide +kernel
theorem dX6_may_5 : decode cX6_may 5 = .ok (.invokevirtual 120, 3) := by decide +kernel
theorem dX6_may_8 : decode cX6_may 8 = .ok (.ifCond .eq 10, 3) := by decide +kernel
theorem dX6_may_11 : decode cX6_may 11 = .ok (.iload_n 2, 1) := by decide +kernel
theorem dX6_may_12 : decode cX6_may 12 = .ok (.invokestatic 91, 3) := by decide +kernel
theorem dX6_may_15 : decode cX6_may 15 = .ok (.ifCond .ne 9, 3) := by decide +kernel
theorem dX6_may_18 : decode cX6_may 18 = .ok (.aload_n 0, 1) := by decide +kernel
theorem dX6_may_19 : decode cX6_may 19 = .ok (.iconst 0, 1) := by decide +kernel
theorem dX6_may_20 : decode cX6_may 20 = .ok (.invokevirtual 95, 3) := by decide +kernel
theorem dX6_may_23 : decode cX6_may 23 = .ok (.ireturn, 1) := by decide +kernel
theorem dX6_may_24 : decode cX6_may 24 = .ok (.aload_n 0, 1) := by decide +kernel
theorem dX6_may_25 : decode cX6_may 25 = .ok (.getfield 21, 3) := by decide +kernel
theorem dX6_may_28 : decode cX6_may 28 = .ok (.iload_n 1, 1) := by decide +kernel
theorem dX6_may_29 : decode cX6_may 29 = .ok (.iload_n 2, 1) := by decide +kernel
theorem dX6_may_30 : decode cX6_may 30 = .ok (.invokevirtual 162, 3) := by decide +kernel
theorem dX6_may_33 : decode cX6_may 33 = .ok (.ifCond .eq 7, 3) := by decide +kernel
theorem dX6_may_36 : decode cX6_may 36 = .ok (.iconst 1, 1) := by decide +kernel
theorem dX6_may_37 : decode cX6_may 37 = .ok (.goto 4, 3) := by decide +kernel
theorem dX6_may_40 : decode cX6_may 40 = .ok (.iconst 0, 1) := by decide +kernel
theorem dX6_may_41 : decode cX6_may 41 = .ok (.ireturn, 1) := by decide +kernel
set_option maxHeartbeats 4000000 in
set_option maxRecDepth 100000 in
theorem c_X6_may {l : Launch} {ω : xO} (hc : xsh ω = clS) {p a : Int} {M : xMem} (hJ : CInv M) (h_p : inR p) (h_a : inR a) : Ct l ω yX6_may ({ frames := 3, cells := 0, slots := 0, locals := 64 } : Room) 3 2 [.ref (xad ω 0), .int (iI p), .int (iI a)] M (some (.int (iI (mayR M p a)))) (mayM M p a) := by
  refine Ct.of (bytes := cX6_may) (ret := (some .int)) (lv0 := [some (.ref (xad ω 0)), some (.int (iI p)), some (.int (iI a))]) m_cd_X6_may m_in_X6 (by decide +kernel) (by decide +kernel) rfl rfl rfl rfl (fun hR => by unfold mayM; (repeat' split) <;> first | exact hR | exact fndC_R hR | (repeat' (first | exact hR | exact fndC_R hR | (with_reducible apply up_R) | (show inR _; omega)))) ?_
  intro κ h he hR
  have hI := hJ.1
  have hD := hJ.2.1
  have hL := hJ.2.2.1
  have hn := hI.1
  have hck := hI.2.1
  refine x_aload_n h dX6_may_0 rfl ?_
  refine x_getr (j := 1) (q := 11) h dX6_may_1 (sC0 hc) rfl in_X6 rfl (by decide) m_fl_X6_21 ?_
  refine x_iload_n h dX6_may_4 rfl ?_
  refine x_V1i h dX6_may_5 m_ml_X6_120 m_im_X1_has m_se_X1_has (sPe hc ((Or.inl ⟨rfl, rfl⟩))) rfl (by decide) rfl (c_X1_has hc (Or.inl ⟨rfl, rfl⟩) (by omega)) ?_
  refine x_ifeqB h dX6_may_8 (tgt := 18) (by decide) (fun q8 => ?_) (fun q8 => ?_)
  · refine x_aload_n h dX6_may_18 rfl ?_
    refine x_iconst h dX6_may_19 ?_
    refine x_V1i h dX6_may_20 m_ml_X6_95 m_im_X6_found m_se_X6_found (sC0 hc) rfl (by decide) rfl (c_X6_found hc (by omega)) ?_
    exact x_iret (ret := none) h he dX6_may_23 rfl (by unfold mayR; first | (rw [if_neg (by omega)]; rfl) | (rw [if_pos (by omega)]; first | exact (bI_t (by assumption)).symm | exact (bI_f (by assumption)).symm)) (by unfold mayM; (repeat (first | rw [if_pos (by first | assumption | omega)] | rw [if_neg (by first | assumption | omega)])) <;> first | rfl | omega)
  · refine x_iload_n h dX6_may_11 rfl ?_
    refine x_S1i h dX6_may_12 m_ml_X6_91 m_st_X6_isPlace (by decide) rfl (c_X6_isPlace hc (by omega)) ?_
    refine x_ifneB h dX6_may_15 (tgt := 24) (by decide) (fun q15 => ?_) (fun q15 => ?_)
    · refine x_aload_n h dX6_may_24 rfl ?_
      refine x_getr (j := 1) (q := 11) h dX6_may_25 (sC0 hc) rfl in_X6 rfl (by decide) m_fl_X6_21 ?_
      refine x_iload_n h dX6_may_28 rfl ?_
      refine x_iload_n h dX6_may_29 rfl ?_
      refine x_V2i h dX6_may_30 m_ml_X6_162 m_im_X1_ropeLets m_se_X1_ropeLets (sPe hc ((Or.inl ⟨rfl, rfl⟩))) rfl (by decide) rfl (c_X1_ropeLets hc ((Or.inl ⟨rfl, rfl⟩)) hI (by omega) (by omega)) ?_
      refine x_ifeqB h dX6_may_33 (tgt := 40) (by decide) (fun q33 => ?_) (fun q33 => ?_)
      · refine x_iconst h dX6_may_40 ?_
        exact x_iret (ret := none) h he dX6_may_41 rfl (by unfold mayR; first | (rw [if_neg (by omega)]; rfl) | (rw [if_pos (by omega)]; first | exact (bI_t (by assumption)).symm | exact (bI_f (by assumption)).symm)) (by unfold mayM; (repeat (first | rw [if_pos (by first | assumption | omega)] | rw [if_neg (by first | assumption | omega)])) <;> first | rfl | omega)
      · refine x_iconst h dX6_may_36 ?_
        refine x_goto h dX6_may_37 (tgt := 41) (by decide) ?_
        exact x_iret (ret := none) h he dX6_may_41 rfl (by unfold mayR; first | (rw [if_neg (by omega)]; rfl) | (rw [if_pos (by omega)]; first | exact (bI_t (by assumption)).symm | exact (bI_f (by assumption)).symm)) (by unfold mayM; (repeat (first | rw [if_pos (by first | assumption | omega)] | rw [if_neg (by first | assumption | omega)])) <;> first | rfl | omega)
    · refine x_aload_n h dX6_may_18 rfl ?_
      refine x_iconst h dX6_may_19 ?_
      refine x_V1i h dX6_may_20 m_ml_X6_95 m_im_X6_found m_se_X6_found (sC0 hc) rfl (by decide) rfl (c_X6_found hc (by omega)) ?_
      exact x_iret (ret := none) h he dX6_may_23 rfl (by unfold mayR; first | (rw [if_neg (by omega)]; rfl) | (rw [if_pos (by omega)]; first | exact (bI_t (by assumption)).symm | exact (bI_f (by assumption)).symm)) (by unfold mayM; (repeat (first | rw [if_pos (by first | assumption | omega)] | rw [if_neg (by first | assumption | omega)])) <;> first | rfl | omega)

noncomputable def apartR (M : xMem) (p s : Int) : Int := if clHas M 11 p ∧ clHas M 11 s ∧ p ≠ s then aptC M p s else -1000001
noncomputable def apartM (M : xMem) (p s : Int) : xMem := if clHas M 11 p ∧ clHas M 11 s ∧ p ≠ s then M else fndC M 0
theorem dX6_apart_0 : decode cX6_apart 0 = .ok (.aload_n 0, 1) := by decide +kernel
theorem dX6_apart_1 : decode cX6_apart 1 = .ok (.getfield 21, 3) := by decide +kernel
theorem dX6_apart_4 : decode cX6_apart 4 = .ok (.iload_n 1, 1) := by decide +kernel
theorem dX6_apart_5 : decode cX6_apart 5 = .ok (.invokevirtual 120, 3) := by decide +kernel
theorem dX6_apart_8 : decode cX6_apart 8 = .ok (.ifCond .eq 19, 3) := by decide +kernel
theorem dX6_apart_11 : decode cX6_apart 11 = .ok (.aload_n 0, 1) := by decide +kernel
theorem dX6_apart_12 : decode cX6_apart 12 = .ok (.getfield 21, 3) := by decide +kernel
theorem dX6_apart_15 : decode cX6_apart 15 = .ok (.iload_n 2, 1) := by decide +kernel
theorem dX6_apart_16 : decode cX6_apart 16 = .ok (.invokevirtual 120, 3) := by decide +kernel
theorem dX6_apart_19 : decode cX6_apart 19 = .ok (.ifCond .eq 8, 3) := by decide +kernel
theorem dX6_apart_22 : decode cX6_apart 22 = .ok (.iload_n 1, 1) := by decide +kernel
theorem dX6_apart_23 : decode cX6_apart 23 = .ok (.iload_n 2, 1) := by decide +kernel
theorem dX6_apart_24 : decode cX6_apart 24 = .ok (.if_icmp .ne 9, 3) := by decide +kernel
theorem dX6_apart_27 : decode cX6_apart 27 = .ok (.aload_n 0, 1) := by decide +kernel
theorem dX6_apart_28 : decode cX6_apart 28 = .ok (.iconst 0, 1) := by decide +kernel
theorem dX6_apart_29 : decode cX6_apart 29 = .ok (.invokevirtual 95, 3) := by decide +kernel
theorem dX6_apart_32 : decode cX6_apart 32 = .ok (.ireturn, 1) := by decide +kernel
theorem dX6_apart_33 : decode cX6_apart 33 = .ok (.aload_n 0, 1) := by decide +kernel
theorem dX6_apart_34 : decode cX6_apart 34 = .ok (.getfield 21, 3) := by decide +kernel
theorem dX6_apart_37 : decode cX6_apart 37 = .ok (.iload_n 1, 1) := by decide +kernel
theorem dX6_apart_38 : decode cX6_apart 38 = .ok (.iload_n 2, 1) := by decide +kernel
theorem dX6_apart_39 : decode cX6_apart 39 = .ok (.invokevirtual 234, 3) := by decide +kernel
theorem dX6_apart_42 : decode cX6_apart 42 = .ok (.ireturn, 1) := by decide +kernel
set_option maxHeartbeats 4000000 in
set_option maxRecDepth 100000 in
theorem c_X6_apart {l : Launch} {ω : xO} (hc : xsh ω = clS) {p s : Int} {M : xMem} (hJ : CInv M) (h_p : inR p) (h_s : inR s) : Ct l ω yX6_apart ({ frames := 3, cells := 0, slots := 0, locals := 66 } : Room) 3 2 [.ref (xad ω 0), .int (iI p), .int (iI s)] M (some (.int (iI (apartR M p s)))) (apartM M p s) := by
  refine Ct.of (bytes := cX6_apart) (ret := (some .int)) (lv0 := [some (.ref (xad ω 0)), some (.int (iI p)), some (.int (iI s))]) m_cd_X6_apart m_in_X6 (by decide +kernel) (by decide +kernel) rfl rfl rfl rfl (fun hR => by unfold apartM; (repeat' split) <;> first | exact hR | exact fndC_R hR | (repeat' (first | exact hR | exact fndC_R hR | (with_reducible apply up_R) | (show inR _; omega)))) ?_
  intro κ h he hR
  have hI := hJ.1
  have hD := hJ.2.1
  have hL := hJ.2.2.1
  have hn := hI.1
  have hck := hI.2.1
  refine x_aload_n h dX6_apart_0 rfl ?_
  refine x_getr (j := 1) (q := 11) h dX6_apart_1 (sC0 hc) rfl in_X6 rfl (by decide) m_fl_X6_21 ?_
  refine x_iload_n h dX6_apart_4 rfl ?_
  refine x_V1i h dX6_apart_5 m_ml_X6_120 m_im_X1_has m_se_X1_has (sPe hc ((Or.inl ⟨rfl, rfl⟩))) rfl (by decide) rfl (c_X1_has hc (Or.inl ⟨rfl, rfl⟩) (by omega)) ?_
  refine x_ifeqB h dX6_apart_8 (tgt := 27) (by decide) (fun q8 => ?_) (fun q8 => ?_)
  · refine x_aload_n h dX6_apart_27 rfl ?_
    refine x_iconst h dX6_apart_28 ?_
    refine x_V1i h dX6_apart_29 m_ml_X6_95 m_im_X6_found m_se_X6_found (sC0 hc) rfl (by decide) rfl (c_X6_found hc (by omega)) ?_
    exact x_iret (ret := none) h he dX6_apart_32 rfl (by unfold apartR; (repeat (first | rw [if_pos (by first | assumption | omega)] | rw [if_neg (by first | assumption | omega)])) <;> first | rfl | omega) (by unfold apartM; (repeat (first | rw [if_pos (by first | assumption | omega)] | rw [if_neg (by first | assumption | omega)])) <;> first | rfl | omega)
  · refine x_aload_n h dX6_apart_11 rfl ?_
    refine x_getr (j := 1) (q := 11) h dX6_apart_12 (sC0 hc) rfl in_X6 rfl (by decide) m_fl_X6_21 ?_
    refine x_iload_n h dX6_apart_15 rfl ?_
    refine x_V1i h dX6_apart_16 m_ml_X6_120 m_im_X1_has m_se_X1_has (sPe hc ((Or.inl ⟨rfl, rfl⟩))) rfl (by decide) rfl (c_X1_has hc (Or.inl ⟨rfl, rfl⟩) (by omega)) ?_
    refine x_ifeqB h dX6_apart_19 (tgt := 27) (by decide) (fun q19 => ?_) (fun q19 => ?_)
    · refine x_aload_n h dX6_apart_27 rfl ?_
      refine x_iconst h dX6_apart_28 ?_
      refine x_V1i h dX6_apart_29 m_ml_X6_95 m_im_X6_found m_se_X6_found (sC0 hc) rfl (by decide) rfl (c_X6_found hc (by omega)) ?_
      exact x_iret (ret := none) h he dX6_apart_32 rfl (by unfold apartR; (repeat (first | rw [if_pos (by first | assumption | omega)] | rw [if_neg (by first | assumption | omega)])) <;> first | rfl | omega) (by unfold apartM; (repeat (first | rw [if_pos (by first | assumption | omega)] | rw [if_neg (by first | assumption | omega)])) <;> first | rfl | omega)
    · refine x_iload_n h dX6_apart_22 rfl ?_
      refine x_iload_n h dX6_apart_23 rfl ?_
      refine x_icmp_ne h dX6_apart_24 (tgt := 33) (by decide) (by omega) (by omega) (fun q24 => ?_) (fun q24 => ?_)
      · refine x_aload_n h dX6_apart_33 rfl ?_
        refine x_getr (j := 1) (q := 11) h dX6_apart_34 (sC0 hc) rfl in_X6 rfl (by decide) m_fl_X6_21 ?_
        refine x_iload_n h dX6_apart_37 rfl ?_
        refine x_iload_n h dX6_apart_38 rfl ?_
        refine x_V2i h dX6_apart_39 m_ml_X6_234 m_im_X1_apartness m_se_X1_apartness (sPe hc ((Or.inl ⟨rfl, rfl⟩))) rfl (by decide) rfl (c_X1_apartness hc ((Or.inl ⟨rfl, rfl⟩)) hI (by omega) (by omega)) ?_
        exact x_iret (ret := none) h he dX6_apart_42 rfl (by unfold apartR; (repeat (first | rw [if_pos (by first | assumption | omega)] | rw [if_neg (by first | assumption | omega)])) <;> first | rfl | omega) (by unfold apartM; (repeat (first | rw [if_pos (by first | assumption | omega)] | rw [if_neg (by first | assumption | omega)])) <;> first | rfl | omega)
      · refine x_aload_n h dX6_apart_27 rfl ?_
        refine x_iconst h dX6_apart_28 ?_
        refine x_V1i h dX6_apart_29 m_ml_X6_95 m_im_X6_found m_se_X6_found (sC0 hc) rfl (by decide) rfl (c_X6_found hc (by omega)) ?_
        exact x_iret (ret := none) h he dX6_apart_32 rfl (by unfold apartR; (repeat (first | rw [if_pos (by first | assumption | omega)] | rw [if_neg (by first | assumption | omega)])) <;> first | rfl | omega) (by unfold apartM; (repeat (first | rw [if_pos (by first | assumption | omega)] | rw [if_neg (by first | assumption | omega)])) <;> first | rfl | omega)

noncomputable def seedR (M : xMem) (v : Int) : Int := M 0 3
noncomputable def seedM (M : xMem) (v : Int) : xMem := up M 0 3 v
theorem dX6_seed_0 : decode cX6_seed 0 = .ok (.aload_n 0, 1) := by decide +kernel
theorem dX6_seed_1 : decode cX6_seed 1 = .ok (.getfield 29, 3) := by decide +kernel
theorem dX6_seed_4 : decode cX6_seed 4 = .ok (.istore_n 2, 1) := by decide +kernel
theorem dX6_seed_5 : decode cX6_seed 5 = .ok (.aload_n 0, 1) := by decide +kernel
theorem dX6_seed_6 : decode cX6_seed 6 = .ok (.iload_n 1, 1) := by decide +kernel
theorem dX6_seed_7 : decode cX6_seed 7 = .ok (.putfield 29, 3) := by decide +kernel
theorem dX6_seed_10 : decode cX6_seed 10 = .ok (.iload_n 2, 1) := by decide +kernel
theorem dX6_seed_11 : decode cX6_seed 11 = .ok (.ireturn, 1) := by decide +kernel
set_option maxHeartbeats 4000000 in
set_option maxRecDepth 100000 in
theorem c_X6_seed {l : Launch} {ω : xO} (hc : xsh ω = clS) {v : Int} {M : xMem} (hJ : CInv M) (h_v : inR v) : Ct l ω yX6_seed ({ frames := 0, cells := 0, slots := 0, locals := 0 } : Room) 3 1 [.ref (xad ω 0), .int (iI v)] M (some (.int (iI (seedR M v)))) (seedM M v) := by
  refine Ct.of (bytes := cX6_seed) (ret := (some .int)) (lv0 := [some (.ref (xad ω 0)), some (.int (iI v)), none]) m_cd_X6_seed m_in_X6 (by decide +kernel) (by decide +kernel) rfl rfl rfl rfl (fun hR => by unfold seedM; (repeat' split) <;> first | exact hR | exact fndC_R hR | (repeat' (first | exact hR | exact fndC_R hR | (with_reducible apply up_R) | (show inR _; omega)))) ?_
  intro κ h he hR
  have hI := hJ.1
  have hD := hJ.2.1
  have hL := hJ.2.2.1
  have hn := hI.1
  have hck := hI.2.1
  refine x_aload_n h dX6_seed_0 rfl ?_
  refine x_geti (j := 3) 3 h dX6_seed_1 (sC0 hc) rfl in_X6 rfl (by decide) m_fl_X6_29 rfl (fun r1 => ?_)
  refine x_istore_n h dX6_seed_4 rfl rfl ?_
  dsimp only [xset]
  refine x_aload_n h dX6_seed_5 rfl ?_
  refine x_iload_n h dX6_seed_6 rfl ?_
  refine x_puti (j := 3) 3 h dX6_seed_7 (sC0 hc) rfl in_X6 rfl (by decide) m_fl_X6_29 tyX6_ok nmX6 rfl (tyX6_ok 3 (by decide)) rfl rfl (by omega) rfl ?_
  refine x_iload_n h dX6_seed_10 rfl ?_
  exact x_iret (ret := none) h he dX6_seed_11 rfl (by unfold seedR; (repeat (first | rw [if_pos (by first | assumption | omega)] | rw [if_neg (by first | assumption | omega)])) <;> first | rfl | omega) (by unfold seedM; (repeat (first | rw [if_pos (by first | assumption | omega)] | rw [if_neg (by first | assumption | omega)])) <;> first | rfl | omega)
