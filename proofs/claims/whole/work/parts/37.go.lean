/-! the reference: go, now, next, may -/
theorem siN_y {M : xMem} (h : MInv M) (n : Nat) : wyM (siN M n) = wyM M := (siN_I h n).2.1.y
theorem dX7_go_0 : decode cX7_go 0 = .ok (.iload_n 1, 1) := by decide +kernel
theorem dX7_go_1 : decode cX7_go 1 = .ok (.iconst 1, 1) := by decide +kernel
theorem dX7_go_2 : decode cX7_go 2 = .ok (.bipush 40, 2) := by decide +kernel
theorem dX7_go_4 : decode cX7_go 4 = .ok (.invokestatic 81, 3) := by decide +kernel
theorem dX7_go_7 : decode cX7_go 7 = .ok (.ifCond .ne 10, 3) := by decide +kernel
theorem dX7_go_10 : decode cX7_go 10 = .ok (.aload_n 0, 1) := by decide +kernel
theorem dX7_go_11 : decode cX7_go 11 = .ok (.ldc 76, 2) := by decide +kernel
theorem dX7_go_13 : decode cX7_go 13 = .ok (.invokevirtual 101, 3) := by decide +kernel
theorem dX7_go_16 : decode cX7_go 16 = .ok (.ireturn, 1) := by decide +kernel
theorem dX7_go_17 : decode cX7_go 17 = .ok (.aload_n 0, 1) := by decide +kernel
theorem dX7_go_18 : decode cX7_go 18 = .ok (.getfield 9, 3) := by decide +kernel
theorem dX7_go_21 : decode cX7_go 21 = .ok (.iconst 0, 1) := by decide +kernel
theorem dX7_go_22 : decode cX7_go 22 = .ok (.iaload, 1) := by decide +kernel
theorem dX7_go_23 : decode cX7_go 23 = .ok (.iload_n 1, 1) := by decide +kernel
theorem dX7_go_24 : decode cX7_go 24 = .ok (.iadd, 1) := by decide +kernel
theorem dX7_go_25 : decode cX7_go 25 = .ok (.ldc 207, 2) := by decide +kernel
theorem dX7_go_27 : decode cX7_go 27 = .ok (.if_icmp .le 10, 3) := by decide +kernel
theorem dX7_go_30 : decode cX7_go 30 = .ok (.aload_n 0, 1) := by decide +kernel
theorem dX7_go_31 : decode cX7_go 31 = .ok (.ldc 163, 2) := by decide +kernel
theorem dX7_go_33 : decode cX7_go 33 = .ok (.invokevirtual 101, 3) := by decide +kernel
theorem dX7_go_36 : decode cX7_go 36 = .ok (.ireturn, 1) := by decide +kernel
theorem dX7_go_37 : decode cX7_go 37 = .ok (.aload_n 0, 1) := by decide +kernel
theorem dX7_go_38 : decode cX7_go 38 = .ok (.iload_n 1, 1) := by decide +kernel
theorem dX7_go_39 : decode cX7_go 39 = .ok (.invokevirtual 208, 3) := by decide +kernel
theorem dX7_go_42 : decode cX7_go 42 = .ok (.aload_n 0, 1) := by decide +kernel
theorem dX7_go_43 : decode cX7_go 43 = .ok (.getfield 9, 3) := by decide +kernel
theorem dX7_go_46 : decode cX7_go 46 = .ok (.iconst 0, 1) := by decide +kernel
theorem dX7_go_47 : decode cX7_go 47 = .ok (.iaload, 1) := by decide +kernel
theorem dX7_go_48 : decode cX7_go 48 = .ok (.ireturn, 1) := by decide +kernel
set_option maxHeartbeats 800000 in
set_option maxRecDepth 100000 in
theorem c_X7_go {l : Launch} {ω : xO} {ks : Nat → Option Nat} (hm : xsh ω = mdS ks) {n : Int} {M : xMem} (hI : MInv M) (hf : Fc M) (hn9 : inR n) (hcl : M 1 0 ≤ 1000000) : Cq l ω yX7_go ({ frames := 8, cells := 0, slots := 0, locals := 178 } : Room) 2 1 [.ref (xad ω 0), .int (iI n)] M (pI1 (fun r N' => r = ngoR M n ∧ CaE (ngoM M n) N')) := by
  refine Cq.of (bytes := cX7_go) (ret := (some .int)) (lv0 := [some (.ref (xad ω 0)), some (.int (iI n))]) m_cd_X7_go m_in_X7 (by decide +kernel) (by decide +kernel) rfl rfl rfl rfl ?_
  intro κ h he hR
  have hk := hI.2.1
  have hs := siN_I hI n.toNat
  refine x_iload_n h dX7_go_0 rfl ?_
  refine x_iconst h dX7_go_1 ?_
  refine x_bipush h dX7_go_2 (by decide) ?_
  refine x_S3i h dX7_go_4 m_ml_X7_81 m_st_X7_within (by decide) rfl (c_X7_within hm (by omega) (by omega) (by omega)) ?_
  refine x_ifneB h dX7_go_7 (tgt := 17) (by decide) (fun q7 => ?_) (fun q7 => ?_)
  · refine x_aload_n h dX7_go_17 rfl ?_
    refine x_getr (j := 0) (q := 1) h dX7_go_18 (sM0 hm) rfl in_X7 rfl (by decide) m_fl_X7_9 ?_
    refine x_iconst h dX7_go_21 ?_
    refine x_iaload h dX7_go_22 (sM1 hm) (by omega) (fun r22 => ?_)
    refine x_iload_n h dX7_go_23 rfl ?_
    refine x_iadd h dX7_go_24 ?_
    refine x_ldc h m_k_X7_207 dX7_go_25 ?_
    refine x_icmp_le h dX7_go_27 (tgt := 37) (by decide) (by omega) (by omega) (fun q27 => ?_) (fun q27 => ?_)
    · refine x_aload_n h dX7_go_37 rfl ?_
      refine x_iload_n h dX7_go_38 rfl ?_
      refine x_Q1v h dX7_go_39 m_ml_X7_208 m_im_X7_steps m_se_X7_steps (sM0 hm) rfl (by decide) rfl (c_X7_steps hm hI hf (by omega) hcl) (fun N39 h39 => ?_)
      obtain ⟨f39, d39, rfl, c39⟩ := h39
      try simp only [ca_ca, ca_1, dN_ca, wyM_ca, plN_ca, rpN_ca, ltN_ca, pmN_ca, wnN_ca, nbN_ca, ca_07, ca_08, ca_09, ca_010, beN_ca, ctN_ca, gonN_ca, mvN_ca, stN_ca, thN_ca, fnM_ca, tiN_ca, smN_ca, frN_ca, teN_ca] at c39 ⊢
      refine x_aload_n h dX7_go_42 rfl ?_
      refine x_getr (j := 0) (q := 1) h dX7_go_43 (sM0 hm) rfl in_X7 rfl (by decide) m_fl_X7_9 ?_
      refine x_iconst h dX7_go_46 ?_
      refine x_iaload h dX7_go_47 (sM1 hm) (by omega) (fun r47 => ?_)
      try simp only [ca_1]
      try rw [hs.2.2, show ((n.toNat : Nat) : Int) = n by omega]
      exact x_iretq h he dX7_go_48 ⟨by unfold ngoR; (repeat' split) <;> first | rfl | omega, by unfold ngoM; first | (rw [if_pos (by omega), if_neg (by omega)]; exact CaE.of (by assumption)) | (rw [if_pos (by omega), if_pos (by omega)]; exact CaE.rf1 fnM_y rfl rfl hf) | (rw [if_neg (by omega)]; exact CaE.rf1 fnM_y rfl rfl hf)⟩
    · refine x_aload_n h dX7_go_30 rfl ?_
      refine x_ldc h m_k_X7_163 dX7_go_31 ?_
      refine x_V1i h dX7_go_33 m_ml_X7_101 m_im_X7_finding m_se_X7_finding (sM0 hm) rfl (by decide) rfl (c_X7_finding hm (by omega)) ?_
      try simp only [ca_ca, ca_1, dN_ca, wyM_ca, plN_ca, rpN_ca, ltN_ca, pmN_ca, wnN_ca, nbN_ca, ca_07, ca_08, ca_09, ca_010, beN_ca, ctN_ca, gonN_ca, mvN_ca, stN_ca, thN_ca, fnM_ca, tiN_ca, smN_ca, frN_ca, teN_ca]
      exact x_iretq h he dX7_go_36 ⟨by unfold ngoR; (repeat' split) <;> first | rfl | omega, by unfold ngoM; first | (rw [if_pos (by omega), if_neg (by omega)]; exact CaE.of (by assumption)) | (rw [if_pos (by omega), if_pos (by omega)]; exact CaE.rf1 fnM_y rfl rfl hf) | (rw [if_neg (by omega)]; exact CaE.rf1 fnM_y rfl rfl hf)⟩
  · refine x_aload_n h dX7_go_10 rfl ?_
    refine x_ldc h m_k_X7_76 dX7_go_11 ?_
    refine x_V1i h dX7_go_13 m_ml_X7_101 m_im_X7_finding m_se_X7_finding (sM0 hm) rfl (by decide) rfl (c_X7_finding hm (by omega)) ?_
    try simp only [ca_ca, ca_1, dN_ca, wyM_ca, plN_ca, rpN_ca, ltN_ca, pmN_ca, wnN_ca, nbN_ca, ca_07, ca_08, ca_09, ca_010, beN_ca, ctN_ca, gonN_ca, mvN_ca, stN_ca, thN_ca, fnM_ca, tiN_ca, smN_ca, frN_ca, teN_ca]
    exact x_iretq h he dX7_go_16 ⟨by unfold ngoR; (repeat' split) <;> first | rfl | omega, by unfold ngoM; first | (rw [if_pos (by omega), if_neg (by omega)]; exact CaE.of (by assumption)) | (rw [if_pos (by omega), if_pos (by omega)]; exact CaE.rf1 fnM_y rfl rfl hf) | (rw [if_neg (by omega)]; exact CaE.rf1 fnM_y rfl rfl hf)⟩

theorem dX7_now_0 : decode cX7_now 0 = .ok (.iload_n 1, 1) := by decide +kernel
theorem dX7_now_1 : decode cX7_now 1 = .ok (.tableswitch 66 0 4 #[35, 42, 47, 52, 59], 35) := by decide +kernel
theorem dX7_now_36 : decode cX7_now 36 = .ok (.aload_n 0, 1) := by decide +kernel
theorem dX7_now_37 : decode cX7_now 37 = .ok (.getfield 9, 3) := by decide +kernel
theorem dX7_now_40 : decode cX7_now 40 = .ok (.iconst 0, 1) := by decide +kernel
theorem dX7_now_41 : decode cX7_now 41 = .ok (.iaload, 1) := by decide +kernel
theorem dX7_now_42 : decode cX7_now 42 = .ok (.ireturn, 1) := by decide +kernel
theorem dX7_now_43 : decode cX7_now 43 = .ok (.aload_n 0, 1) := by decide +kernel
theorem dX7_now_44 : decode cX7_now 44 = .ok (.invokevirtual 214, 3) := by decide +kernel
theorem dX7_now_47 : decode cX7_now 47 = .ok (.ireturn, 1) := by decide +kernel
theorem dX7_now_48 : decode cX7_now 48 = .ok (.aload_n 0, 1) := by decide +kernel
theorem dX7_now_49 : decode cX7_now 49 = .ok (.invokevirtual 218, 3) := by decide +kernel
theorem dX7_now_52 : decode cX7_now 52 = .ok (.ireturn, 1) := by decide +kernel
theorem dX7_now_53 : decode cX7_now 53 = .ok (.aload_n 0, 1) := by decide +kernel
theorem dX7_now_54 : decode cX7_now 54 = .ok (.bipush 6, 2) := by decide +kernel
theorem dX7_now_56 : decode cX7_now 56 = .ok (.invokevirtual 221, 3) := by decide +kernel
theorem dX7_now_59 : decode cX7_now 59 = .ok (.ireturn, 1) := by decide +kernel
theorem dX7_now_60 : decode cX7_now 60 = .ok (.aload_n 0, 1) := by decide +kernel
theorem dX7_now_61 : decode cX7_now 61 = .ok (.bipush 7, 2) := by decide +kernel
theorem dX7_now_63 : decode cX7_now 63 = .ok (.invokevirtual 221, 3) := by decide +kernel
theorem dX7_now_66 : decode cX7_now 66 = .ok (.ireturn, 1) := by decide +kernel
theorem dX7_now_67 : decode cX7_now 67 = .ok (.aload_n 0, 1) := by decide +kernel
theorem dX7_now_68 : decode cX7_now 68 = .ok (.ldc 76, 2) := by decide +kernel
theorem dX7_now_70 : decode cX7_now 70 = .ok (.invokevirtual 101, 3) := by decide +kernel
theorem dX7_now_73 : decode cX7_now 73 = .ok (.ireturn, 1) := by decide +kernel
set_option maxHeartbeats 800000 in
set_option maxRecDepth 100000 in
theorem c_X7_now {l : Launch} {ω : xO} {ks : Nat → Option Nat} (hm : xsh ω = mdS ks) {x : Int} {M : xMem} (hI : MInv M) (hf : Fc M) (hx : inR x) : Cq l ω yX7_now ({ frames := 5, cells := 0, slots := 0, locals := 107 } : Room) 2 1 [.ref (xad ω 0), .int (iI x)] M (pI1 (fun r N' => r = nnoR M x ∧ CaE (nnoM M x) N')) := by
  refine Cq.of (bytes := cX7_now) (ret := (some .int)) (lv0 := [some (.ref (xad ω 0)), some (.int (iI x))]) m_cd_X7_now m_in_X7 (by decide +kernel) (by decide +kernel) rfl rfl rfl rfl ?_
  intro κ h he hR
  have hk := hI.2.1
  refine x_iload_n h dX7_now_0 rfl ?_
  by_cases sw1 : x < 0 ∨ 4 < x
  · refine x_tsOut h dX7_now_1 (by omega) sw1 (tgt := 67) (by decide) ?_
    refine x_aload_n h dX7_now_67 rfl ?_
    refine x_ldc h m_k_X7_76 dX7_now_68 ?_
    refine x_V1i h dX7_now_70 m_ml_X7_101 m_im_X7_finding m_se_X7_finding (sM0 hm) rfl (by decide) rfl (c_X7_finding hm (by omega)) ?_
    exact x_iretq h he dX7_now_73 ⟨by unfold nnoR; (repeat' split) <;> first | rfl | omega, by unfold nnoM; first | (rw [if_pos (by omega)]; first | exact CaE.of (by assumption) | exact CaE.rf hf) | (rw [if_neg (by omega)]; exact CaE.rf1 fnM_y rfl rfl hf)⟩
  rcases (show x = 0 ∨ x = 1 ∨ x = 2 ∨ x = 3 ∨ x = 4 by omega) with q1 | q1 | q1 | q1 | q1
  · refine x_tsIn 0 h dX7_now_1 q1 (by decide) rfl (tgt := 36) (by decide) ?_
    refine x_aload_n h dX7_now_36 rfl ?_
    refine x_getr (j := 0) (q := 1) h dX7_now_37 (sM0 hm) rfl in_X7 rfl (by decide) m_fl_X7_9 ?_
    refine x_iconst h dX7_now_40 ?_
    refine x_iaload h dX7_now_41 (sM1 hm) (by omega) (fun r41 => ?_)
    exact x_iretq h he dX7_now_42 ⟨by unfold nnoR; (repeat' split) <;> first | rfl | omega, by unfold nnoM; first | (rw [if_pos (by omega)]; first | exact CaE.of (by assumption) | exact CaE.rf hf) | (rw [if_neg (by omega)]; exact CaE.rf1 fnM_y rfl rfl hf)⟩
  · refine x_tsIn 1 h dX7_now_1 q1 (by decide) rfl (tgt := 43) (by decide) ?_
    refine x_aload_n h dX7_now_43 rfl ?_
    refine x_V0i h dX7_now_44 m_ml_X7_214 m_im_X7_whoThere m_se_X7_whoThere (sM0 hm) rfl (by decide) rfl (c_X7_whoThere hm (by exact hI)) ?_
    exact x_iretq h he dX7_now_47 ⟨by unfold nnoR; (repeat' split) <;> first | rfl | omega, by unfold nnoM; first | (rw [if_pos (by omega)]; first | exact CaE.of (by assumption) | exact CaE.rf hf) | (rw [if_neg (by omega)]; exact CaE.rf1 fnM_y rfl rfl hf)⟩
  · refine x_tsIn 2 h dX7_now_1 q1 (by decide) rfl (tgt := 48) (by decide) ?_
    refine x_aload_n h dX7_now_48 rfl ?_
    refine x_Q0i h dX7_now_49 m_ml_X7_218 m_im_X7_whoTight m_se_X7_whoTight (sM0 hm) rfl (by decide) rfl (c_X7_whoTight hm (by exact hI) (by assumption)) (fun r49 N49 h49 => ?_)
    obtain ⟨rfl, f49, d49, rfl, c49⟩ := h49
    try simp only [ca_ca, ca_1, dN_ca, wyM_ca, plN_ca, rpN_ca, ltN_ca, pmN_ca, wnN_ca, nbN_ca, ca_07, ca_08, ca_09, ca_010, beN_ca, ctN_ca, gonN_ca, mvN_ca, stN_ca, thN_ca, fnM_ca, tiN_ca, smN_ca, frN_ca, teN_ca] at c49 ⊢
    exact x_iretq h he dX7_now_52 ⟨by unfold nnoR; (repeat' split) <;> first | rfl | omega, by unfold nnoM; first | (rw [if_pos (by omega)]; first | exact CaE.of (by assumption) | exact CaE.rf hf) | (rw [if_neg (by omega)]; exact CaE.rf1 fnM_y rfl rfl hf)⟩
  · refine x_tsIn 3 h dX7_now_1 q1 (by decide) rfl (tgt := 53) (by decide) ?_
    refine x_aload_n h dX7_now_53 rfl ?_
    refine x_bipush h dX7_now_54 (by decide) ?_
    refine x_V1i h dX7_now_56 m_ml_X7_221 m_im_X7_sumOf m_se_X7_sumOf (sM0 hm) rfl (by decide) rfl (c_X7_sumOf hm (by exact hI) (by first | omega | (simp only [ca_1]; omega))) ?_
    try simp only [ca_ca, ca_1, dN_ca, wyM_ca, plN_ca, rpN_ca, ltN_ca, pmN_ca, wnN_ca, nbN_ca, ca_07, ca_08, ca_09, ca_010, beN_ca, ctN_ca, gonN_ca, mvN_ca, stN_ca, thN_ca, fnM_ca, tiN_ca, smN_ca, frN_ca, teN_ca]
    exact x_iretq h he dX7_now_59 ⟨by unfold nnoR; (repeat' split) <;> first | rfl | omega, by unfold nnoM; first | (rw [if_pos (by omega)]; first | exact CaE.of (by assumption) | exact CaE.rf hf) | (rw [if_neg (by omega)]; exact CaE.rf1 fnM_y rfl rfl hf)⟩
  · refine x_tsIn 4 h dX7_now_1 q1 (by decide) rfl (tgt := 60) (by decide) ?_
    refine x_aload_n h dX7_now_60 rfl ?_
    refine x_bipush h dX7_now_61 (by decide) ?_
    refine x_V1i h dX7_now_63 m_ml_X7_221 m_im_X7_sumOf m_se_X7_sumOf (sM0 hm) rfl (by decide) rfl (c_X7_sumOf hm (by exact hI) (by first | omega | (simp only [ca_1]; omega))) ?_
    try simp only [ca_ca, ca_1, dN_ca, wyM_ca, plN_ca, rpN_ca, ltN_ca, pmN_ca, wnN_ca, nbN_ca, ca_07, ca_08, ca_09, ca_010, beN_ca, ctN_ca, gonN_ca, mvN_ca, stN_ca, thN_ca, fnM_ca, tiN_ca, smN_ca, frN_ca, teN_ca]
    exact x_iretq h he dX7_now_66 ⟨by unfold nnoR; (repeat' split) <;> first | rfl | omega, by unfold nnoM; first | (rw [if_pos (by omega)]; first | exact CaE.of (by assumption) | exact CaE.rf hf) | (rw [if_neg (by omega)]; exact CaE.rf1 fnM_y rfl rfl hf)⟩

theorem dX7_next_0 : decode cX7_next 0 = .ok (.aload_n 0, 1) := by decide +kernel
theorem dX7_next_1 : decode cX7_next 1 = .ok (.iload_n 1, 1) := by decide +kernel
theorem dX7_next_2 : decode cX7_next 2 = .ok (.invokevirtual 148, 3) := by decide +kernel
theorem dX7_next_5 : decode cX7_next 5 = .ok (.ifCond .eq 11, 3) := by decide +kernel
theorem dX7_next_8 : decode cX7_next 8 = .ok (.aload_n 0, 1) := by decide +kernel
theorem dX7_next_9 : decode cX7_next 9 = .ok (.iload_n 1, 1) := by decide +kernel
theorem dX7_next_10 : decode cX7_next 10 = .ok (.invokevirtual 178, 3) := by decide +kernel
theorem dX7_next_13 : decode cX7_next 13 = .ok (.goto 9, 3) := by decide +kernel
theorem dX7_next_16 : decode cX7_next 16 = .ok (.aload_n 0, 1) := by decide +kernel
theorem dX7_next_17 : decode cX7_next 17 = .ok (.ldc 76, 2) := by decide +kernel
theorem dX7_next_19 : decode cX7_next 19 = .ok (.invokevirtual 101, 3) := by decide +kernel
theorem dX7_next_22 : decode cX7_next 22 = .ok (.ireturn, 1) := by decide +kernel
set_option maxHeartbeats 800000 in
set_option maxRecDepth 100000 in
theorem c_X7_next {l : Launch} {ω : xO} {ks : Nat → Option Nat} (hm : xsh ω = mdS ks) {p : Int} {M : xMem} (hI : MInv M) (hf : Fc M) (hp : inR p) : Cq l ω yX7_next ({ frames := 4, cells := 0, slots := 0, locals := 91 } : Room) 2 1 [.ref (xad ω 0), .int (iI p)] M (pI1 (fun r N' => r = nneR M p ∧ CaE (nneM M p) N')) := by
  refine Cq.of (bytes := cX7_next) (ret := (some .int)) (lv0 := [some (.ref (xad ω 0)), some (.int (iI p))]) m_cd_X7_next m_in_X7 (by decide +kernel) (by decide +kernel) rfl rfl rfl rfl ?_
  intro κ h he hR
  have hn := hI.1
  refine x_aload_n h dX7_next_0 rfl ?_
  refine x_iload_n h dX7_next_1 rfl ?_
  refine x_V1i h dX7_next_2 m_ml_X7_148 m_im_X7_isPerson m_se_X7_isPerson (sM0 hm) rfl (by decide) rfl (c_X7_isPerson hm (by omega) (by omega)) ?_
  refine x_ifeqB h dX7_next_5 (tgt := 16) (by decide) (fun q5 => ?_) (fun q5 => ?_)
  · refine x_aload_n h dX7_next_16 rfl ?_
    refine x_ldc h m_k_X7_76 dX7_next_17 ?_
    refine x_V1i h dX7_next_19 m_ml_X7_101 m_im_X7_finding m_se_X7_finding (sM0 hm) rfl (by decide) rfl (c_X7_finding hm (by omega)) ?_
    exact x_iretq h he dX7_next_22 ⟨by unfold nneR; first | rw [if_pos (by omega)] | rw [if_neg (by omega)], by unfold nneM; first | (rw [if_pos (by omega)]; exact CaE.of (by assumption)) | (rw [if_neg (by omega)]; exact CaE.rf1 fnM_y rfl rfl hf)⟩
  · refine x_aload_n h dX7_next_8 rfl ?_
    refine x_iload_n h dX7_next_9 rfl ?_
    refine x_Q1i h dX7_next_10 m_ml_X7_178 m_im_X7_wants m_se_X7_wants (sM0 hm) rfl (by decide) rfl (c_X7_wants hm (by exact hI) (by assumption) (by first | omega | (simp only [ca_1]; omega))) (fun r10 N10 h10 => ?_)
    obtain ⟨rfl, f10, d10, rfl, c10⟩ := h10
    try simp only [ca_ca, ca_1, dN_ca, wyM_ca, plN_ca, rpN_ca, ltN_ca, pmN_ca, wnN_ca, nbN_ca, ca_07, ca_08, ca_09, ca_010, beN_ca, ctN_ca, gonN_ca, mvN_ca, stN_ca, thN_ca, fnM_ca, tiN_ca, smN_ca, frN_ca, teN_ca] at c10 ⊢
    refine x_goto h dX7_next_13 (tgt := 22) (by decide) ?_
    exact x_iretq h he dX7_next_22 ⟨by unfold nneR; first | rw [if_pos (by omega)] | rw [if_neg (by omega)], by unfold nneM; first | (rw [if_pos (by omega)]; exact CaE.of (by assumption)) | (rw [if_neg (by omega)]; exact CaE.rf1 fnM_y rfl rfl hf)⟩

theorem dX7_may_0 : decode cX7_may 0 = .ok (.aload_n 0, 1) := by decide +kernel
theorem dX7_may_1 : decode cX7_may 1 = .ok (.iload_n 1, 1) := by decide +kernel
theorem dX7_may_2 : decode cX7_may 2 = .ok (.invokevirtual 148, 3) := by decide +kernel
theorem dX7_may_5 : decode cX7_may 5 = .ok (.ifCond .eq 10, 3) := by decide +kernel
theorem dX7_may_8 : decode cX7_may 8 = .ok (.iload_n 2, 1) := by decide +kernel
theorem dX7_may_9 : decode cX7_may 9 = .ok (.invokestatic 93, 3) := by decide +kernel
theorem dX7_may_12 : decode cX7_may 12 = .ok (.ifCond .ne 10, 3) := by decide +kernel
theorem dX7_may_15 : decode cX7_may 15 = .ok (.aload_n 0, 1) := by decide +kernel
theorem dX7_may_16 : decode cX7_may 16 = .ok (.ldc 76, 2) := by decide +kernel
theorem dX7_may_18 : decode cX7_may 18 = .ok (.invokevirtual 101, 3) := by decide +kernel
theorem dX7_may_21 : decode cX7_may 21 = .ok (.ireturn, 1) := by decide +kernel
theorem dX7_may_22 : decode cX7_may 22 = .ok (.aload_n 0, 1) := by decide +kernel
theorem dX7_may_23 : decode cX7_may 23 = .ok (.iload_n 1, 1) := by decide +kernel
theorem dX7_may_24 : decode cX7_may 24 = .ok (.iload_n 2, 1) := by decide +kernel
theorem dX7_may_25 : decode cX7_may 25 = .ok (.aload_n 0, 1) := by decide +kernel
theorem dX7_may_26 : decode cX7_may 26 = .ok (.iload_n 1, 1) := by decide +kernel
theorem dX7_may_27 : decode cX7_may 27 = .ok (.invokevirtual 157, 3) := by decide +kernel
theorem dX7_may_30 : decode cX7_may 30 = .ok (.invokevirtual 160, 3) := by decide +kernel
theorem dX7_may_33 : decode cX7_may 33 = .ok (.ifCond .eq 7, 3) := by decide +kernel
theorem dX7_may_36 : decode cX7_may 36 = .ok (.iconst 1, 1) := by decide +kernel
theorem dX7_may_37 : decode cX7_may 37 = .ok (.goto 4, 3) := by decide +kernel
theorem dX7_may_40 : decode cX7_may 40 = .ok (.iconst 0, 1) := by decide +kernel
theorem dX7_may_41 : decode cX7_may 41 = .ok (.ireturn, 1) := by decide +kernel
set_option maxHeartbeats 800000 in
set_option maxRecDepth 100000 in
theorem c_X7_may {l : Launch} {ω : xO} {ks : Nat → Option Nat} (hm : xsh ω = mdS ks) {p a : Int} {M : xMem} (hI : MInv M) (hf : Fc M) (hp : inR p) (ha : inR a) : Cq l ω yX7_may ({ frames := 5, cells := 0, slots := 0, locals := 108 } : Room) 3 2 [.ref (xad ω 0), .int (iI p), .int (iI a)] M (pI1 (fun r N' => r = nmaR M p a ∧ CaE (nmaM M p a) N')) := by
  refine Cq.of (bytes := cX7_may) (ret := (some .int)) (lv0 := [some (.ref (xad ω 0)), some (.int (iI p)), some (.int (iI a))]) m_cd_X7_may m_in_X7 (by decide +kernel) (by decide +kernel) rfl rfl rfl rfl ?_
  intro κ h he hR
  have hn := hI.1
  refine x_aload_n h dX7_may_0 rfl ?_
  refine x_iload_n h dX7_may_1 rfl ?_
  refine x_V1i h dX7_may_2 m_ml_X7_148 m_im_X7_isPerson m_se_X7_isPerson (sM0 hm) rfl (by decide) rfl (c_X7_isPerson hm (by omega) (by omega)) ?_
  refine x_ifeqB h dX7_may_5 (tgt := 15) (by decide) (fun q5 => ?_) (fun q5 => ?_)
  · refine x_aload_n h dX7_may_15 rfl ?_
    refine x_ldc h m_k_X7_76 dX7_may_16 ?_
    refine x_V1i h dX7_may_18 m_ml_X7_101 m_im_X7_finding m_se_X7_finding (sM0 hm) rfl (by decide) rfl (c_X7_finding hm (by omega)) ?_
    exact x_iretq h he dX7_may_21 ⟨by unfold nmaR; first | (rw [if_pos (by omega)]; first | exact (bI_t (by assumption)).symm | exact (bI_f (by assumption)).symm) | rw [if_neg (by omega)], by unfold nmaM; first | (rw [if_pos (by omega)]; exact CaE.of (by assumption)) | (rw [if_neg (by omega)]; exact CaE.rf1 fnM_y rfl rfl hf)⟩
  · refine x_iload_n h dX7_may_8 rfl ?_
    refine x_S1i h dX7_may_9 m_ml_X7_93 m_st_X7_isPlace (by decide) rfl (c_X7_isPlace hm (by omega)) ?_
    refine x_ifneB h dX7_may_12 (tgt := 22) (by decide) (fun q12 => ?_) (fun q12 => ?_)
    · refine x_aload_n h dX7_may_22 rfl ?_
      refine x_iload_n h dX7_may_23 rfl ?_
      refine x_iload_n h dX7_may_24 rfl ?_
      refine x_aload_n h dX7_may_25 rfl ?_
      refine x_iload_n h dX7_may_26 rfl ?_
      have hpm := pmN_R hI (p := p) (by omega)
      refine x_V1i h dX7_may_27 m_ml_X7_157 m_im_X7_placeOfMate m_se_X7_placeOfMate (sM0 hm) rfl (by decide) rfl (c_X7_placeOfMate hm (by exact hI) (by first | omega | (simp only [ca_1]; omega))) ?_
      refine x_Q3i h dX7_may_30 m_ml_X7_160 m_im_X7_lets m_se_X7_lets (sM0 hm) rfl (by decide) rfl (c_X7_lets hm (by exact hI) (by assumption) (by first | omega | (simp only [ca_1]; omega)) (by first | omega | (simp only [ca_1]; omega)) (by first | omega | (simp only [ca_1]; omega))) (fun r30 N30 h30 => ?_)
      obtain ⟨rfl, f30, d30, rfl, c30⟩ := h30
      try simp only [ca_ca, ca_1, dN_ca, wyM_ca, plN_ca, rpN_ca, ltN_ca, pmN_ca, wnN_ca, nbN_ca, ca_07, ca_08, ca_09, ca_010, beN_ca, ctN_ca, gonN_ca, mvN_ca, stN_ca, thN_ca, fnM_ca, tiN_ca, smN_ca, frN_ca, teN_ca] at c30 ⊢
      refine x_ifeqB h dX7_may_33 (tgt := 40) (by decide) (fun q33 => ?_) (fun q33 => ?_)
      · refine x_iconst h dX7_may_40 ?_
        exact x_iretq h he dX7_may_41 ⟨by unfold nmaR; first | (rw [if_pos (by omega)]; first | exact (bI_t (by assumption)).symm | exact (bI_f (by assumption)).symm) | rw [if_neg (by omega)], by unfold nmaM; first | (rw [if_pos (by omega)]; exact CaE.of (by assumption)) | (rw [if_neg (by omega)]; exact CaE.rf1 fnM_y rfl rfl hf)⟩
      · refine x_iconst h dX7_may_36 ?_
        refine x_goto h dX7_may_37 (tgt := 41) (by decide) ?_
        exact x_iretq h he dX7_may_41 ⟨by unfold nmaR; first | (rw [if_pos (by omega)]; first | exact (bI_t (by assumption)).symm | exact (bI_f (by assumption)).symm) | rw [if_neg (by omega)], by unfold nmaM; first | (rw [if_pos (by omega)]; exact CaE.of (by assumption)) | (rw [if_neg (by omega)]; exact CaE.rf1 fnM_y rfl rfl hf)⟩
    · refine x_aload_n h dX7_may_15 rfl ?_
      refine x_ldc h m_k_X7_76 dX7_may_16 ?_
      refine x_V1i h dX7_may_18 m_ml_X7_101 m_im_X7_finding m_se_X7_finding (sM0 hm) rfl (by decide) rfl (c_X7_finding hm (by omega)) ?_
      try simp only [ca_ca, ca_1, dN_ca, wyM_ca, plN_ca, rpN_ca, ltN_ca, pmN_ca, wnN_ca, nbN_ca, ca_07, ca_08, ca_09, ca_010, beN_ca, ctN_ca, gonN_ca, mvN_ca, stN_ca, thN_ca, fnM_ca, tiN_ca, smN_ca, frN_ca, teN_ca]
      exact x_iretq h he dX7_may_21 ⟨by unfold nmaR; first | (rw [if_pos (by omega)]; first | exact (bI_t (by assumption)).symm | exact (bI_f (by assumption)).symm) | rw [if_neg (by omega)], by unfold nmaM; first | (rw [if_pos (by omega)]; exact CaE.of (by assumption)) | (rw [if_neg (by omega)]; exact CaE.rf1 fnM_y rfl rfl hf)⟩
