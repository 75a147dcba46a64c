/-! the reference: as, sheets -/
def shH (M : xMem) (s b n : Int) : xMem := up (up M 12 s b) 13 s (if b = 0 then 0 else n)
def shM (M : xMem) (s b n : Int) : xMem := upr (shH M s b n) 14 (zrC (40 * s) 40 (M 14))
abbrev shGd (s b : Int) : Prop := (0 ≤ s ∧ s ≤ 3) ∧ (b = 0 ∨ b = 8 ∨ b = 16 ∨ b = 32)
def nshR (s b n : Int) : Int := if shGd s b then (if n < 0 then -1000007 else if 40 < n then -1000001 else if b = 0 then 0 else n) else -1000001
def nshM (M : xMem) (s b n : Int) : xMem := if shGd s b then (if n < 0 then fnM M (-1000007) else if 40 < n then fnM M (-1000001) else shM M s b n) else fnM M (-1000001)
def nwrR (M : xMem) (s i : Int) : Int := if 0 ≤ s ∧ s ≤ 3 then (if M 12 s = 0 then -1000006 else if 0 ≤ i ∧ i ≤ M 13 s - 1 then 1 else -1000001) else -1000001
def nwrM (M : xMem) (s i v : Int) : xMem := if 0 ≤ s ∧ s ≤ 3 then (if M 12 s = 0 then fnM M (-1000006) else if 0 ≤ i ∧ i ≤ M 13 s - 1 then up M 14 (40 * s + i) (lwF v (M 12 s)) else fnM M (-1000001)) else fnM M (-1000001)
theorem sh_0 {M : xMem} {s b n : Int} (h : b = 0) : up (up M 12 s b) 13 s 0 = upr (shH M s b n) 14 (zrC (40 * s) ((0 : Nat) : Int) (M 14)) := by
  have e : shH M s b n 14 = M 14 := rfl
  rw [show ((0 : Nat) : Int) = 0 from rfl, zrC_0, ← e, upr_self]
  unfold shH
  rw [if_pos h]
theorem sh_1 {M : xMem} {s b n : Int} (h : ¬ b = 0) : up (up M 12 s b) 13 s n = upr (shH M s b n) 14 (zrC (40 * s) ((0 : Nat) : Int) (M 14)) := by
  have e : shH M s b n 14 = M 14 := rfl
  rw [show ((0 : Nat) : Int) = 0 from rfl, zrC_0, ← e, upr_self]
  unfold shH
  rw [if_neg h]
theorem lwF_R1 {v b : Int} (h : inR v) : inR (lwF v b) := by
  unfold lwF
  split
  · exact inR_of _
  · split
    · exact inR_of _
    · exact h
theorem dX7_cutTo_0 : decode cX7_cutTo 0 = .ok (.iload_n 1, 1) := by decide +kernel
theorem dX7_cutTo_1 : decode cX7_cutTo 1 = .ok (.bipush 8, 2) := by decide +kernel
theorem dX7_cutTo_3 : decode cX7_cutTo 3 = .ok (.if_icmp .ne 8, 3) := by decide +kernel
theorem dX7_cutTo_6 : decode cX7_cutTo 6 = .ok (.iload_n 0, 1) := by decide +kernel
theorem dX7_cutTo_7 : decode cX7_cutTo 7 = .ok (.i2b, 1) := by decide +kernel
theorem dX7_cutTo_8 : decode cX7_cutTo 8 = .ok (.goto 15, 3) := by decide +kernel
theorem dX7_cutTo_11 : decode cX7_cutTo 11 = .ok (.iload_n 1, 1) := by decide +kernel
theorem dX7_cutTo_12 : decode cX7_cutTo 12 = .ok (.bipush 16, 2) := by decide +kernel
theorem dX7_cutTo_14 : decode cX7_cutTo 14 = .ok (.if_icmp .ne 8, 3) := by decide +kernel
theorem dX7_cutTo_17 : decode cX7_cutTo 17 = .ok (.iload_n 0, 1) := by decide +kernel
theorem dX7_cutTo_18 : decode cX7_cutTo 18 = .ok (.i2s, 1) := by decide +kernel
theorem dX7_cutTo_19 : decode cX7_cutTo 19 = .ok (.goto 4, 3) := by decide +kernel
theorem dX7_cutTo_22 : decode cX7_cutTo 22 = .ok (.iload_n 0, 1) := by decide +kernel
theorem dX7_cutTo_23 : decode cX7_cutTo 23 = .ok (.ireturn, 1) := by decide +kernel
set_option maxHeartbeats 800000 in
set_option maxRecDepth 100000 in
theorem c_X7_cutTo {l : Launch} {ω : xO} {ks : Nat → Option Nat} (hm : xsh ω = mdS ks) {v b : Int} {M : xMem} (hv : inR v) (hb : inR b) : Ct l ω yX7_cutTo ({ frames := 0, cells := 0, slots := 0, locals := 0 } : Room) 2 2 [.int (iI v), .int (iI b)] M (some (.int (iI (lwF v b)))) M := by
  refine Ct.of (bytes := cX7_cutTo) (ret := (some .int)) (lv0 := [some (.int (iI v)), some (.int (iI b))]) m_cd_X7_cutTo m_in_X7 (by decide +kernel) (by decide +kernel) rfl rfl rfl rfl (fun hR => hR) ?_
  intro κ h he hR
  refine x_iload_n h dX7_cutTo_0 rfl ?_
  refine x_bipush h dX7_cutTo_1 (by decide) ?_
  refine x_icmp_ne h dX7_cutTo_3 (tgt := 11) (by decide) (by omega) (by omega) (fun q3 => ?_) (fun q3 => ?_)
  · refine x_iload_n h dX7_cutTo_11 rfl ?_
    refine x_bipush h dX7_cutTo_12 (by decide) ?_
    refine x_icmp_ne h dX7_cutTo_14 (tgt := 22) (by decide) (by omega) (by omega) (fun q14 => ?_) (fun q14 => ?_)
    · refine x_iload_n h dX7_cutTo_22 rfl ?_
      exact x_iret (ret := none) h he dX7_cutTo_23 rfl (by unfold lwF; (repeat' split) <;> first | rfl | omega) rfl
    · refine x_iload_n h dX7_cutTo_17 rfl ?_
      refine x_i2s h dX7_cutTo_18 (fun r18 => ?_)
      refine x_goto h dX7_cutTo_19 (tgt := 23) (by decide) ?_
      exact x_iret (ret := none) h he dX7_cutTo_23 rfl (by unfold lwF; (repeat' split) <;> first | rfl | omega) rfl
  · refine x_iload_n h dX7_cutTo_6 rfl ?_
    refine x_i2b h dX7_cutTo_7 (fun r7 => ?_)
    refine x_goto h dX7_cutTo_8 (tgt := 23) (by decide) ?_
    exact x_iret (ret := none) h he dX7_cutTo_23 rfl (by unfold lwF; (repeat' split) <;> first | rfl | omega) rfl

theorem dX7_as_0 : decode cX7_as 0 = .ok (.iload_n 1, 1) := by decide +kernel
theorem dX7_as_1 : decode cX7_as 1 = .ok (.invokestatic 371, 3) := by decide +kernel
theorem dX7_as_4 : decode cX7_as 4 = .ok (.ifCond .eq 10, 3) := by decide +kernel
theorem dX7_as_7 : decode cX7_as 7 = .ok (.iload_n 2, 1) := by decide +kernel
theorem dX7_as_8 : decode cX7_as 8 = .ok (.invokestatic 122, 3) := by decide +kernel
theorem dX7_as_11 : decode cX7_as 11 = .ok (.ifCond .ne 10, 3) := by decide +kernel
theorem dX7_as_14 : decode cX7_as 14 = .ok (.aload_n 0, 1) := by decide +kernel
theorem dX7_as_15 : decode cX7_as 15 = .ok (.ldc 76, 2) := by decide +kernel
theorem dX7_as_17 : decode cX7_as 17 = .ok (.invokevirtual 101, 3) := by decide +kernel
theorem dX7_as_20 : decode cX7_as 20 = .ok (.ireturn, 1) := by decide +kernel
theorem dX7_as_21 : decode cX7_as 21 = .ok (.aload_n 0, 1) := by decide +kernel
theorem dX7_as_22 : decode cX7_as 22 = .ok (.getfield 9, 3) := by decide +kernel
theorem dX7_as_25 : decode cX7_as 25 = .ok (.iconst 3, 1) := by decide +kernel
theorem dX7_as_26 : decode cX7_as 26 = .ok (.iload_n 1, 1) := by decide +kernel
theorem dX7_as_27 : decode cX7_as 27 = .ok (.iadd, 1) := by decide +kernel
theorem dX7_as_28 : decode cX7_as 28 = .ok (.iaload, 1) := by decide +kernel
theorem dX7_as_29 : decode cX7_as 29 = .ok (.istore_n 3, 1) := by decide +kernel
theorem dX7_as_30 : decode cX7_as 30 = .ok (.iload_n 3, 1) := by decide +kernel
theorem dX7_as_31 : decode cX7_as 31 = .ok (.ifCond .ge 11, 3) := by decide +kernel
theorem dX7_as_34 : decode cX7_as 34 = .ok (.aload_n 0, 1) := by decide +kernel
theorem dX7_as_35 : decode cX7_as 35 = .ok (.ldc_w 283, 3) := by decide +kernel
theorem dX7_as_38 : decode cX7_as 38 = .ok (.invokevirtual 101, 3) := by decide +kernel
theorem dX7_as_41 : decode cX7_as 41 = .ok (.ireturn, 1) := by decide +kernel
theorem dX7_as_42 : decode cX7_as 42 = .ok (.aload_n 0, 1) := by decide +kernel
theorem dX7_as_43 : decode cX7_as 43 = .ok (.iload_n 3, 1) := by decide +kernel
theorem dX7_as_44 : decode cX7_as 44 = .ok (.iconst 0, 1) := by decide +kernel
theorem dX7_as_45 : decode cX7_as 45 = .ok (.invokevirtual 133, 3) := by decide +kernel
theorem dX7_as_48 : decode cX7_as 48 = .ok (.iload_n 2, 1) := by decide +kernel
theorem dX7_as_49 : decode cX7_as 49 = .ok (.invokestatic 374, 3) := by decide +kernel
theorem dX7_as_52 : decode cX7_as 52 = .ok (.ifCond .eq 7, 3) := by decide +kernel
theorem dX7_as_55 : decode cX7_as 55 = .ok (.iload_n 3, 1) := by decide +kernel
theorem dX7_as_56 : decode cX7_as 56 = .ok (.goto 10, 3) := by decide +kernel
theorem dX7_as_59 : decode cX7_as 59 = .ok (.aload_n 0, 1) := by decide +kernel
theorem dX7_as_60 : decode cX7_as 60 = .ok (.ldc_w 377, 3) := by decide +kernel
theorem dX7_as_63 : decode cX7_as 63 = .ok (.invokevirtual 101, 3) := by decide +kernel
theorem dX7_as_66 : decode cX7_as 66 = .ok (.ireturn, 1) := by decide +kernel
set_option maxHeartbeats 800000 in
set_option maxRecDepth 100000 in
theorem c_X7_as {l : Launch} {ω : xO} {ks : Nat → Option Nat} (hm : xsh ω = mdS ks) {i k : Int} {M : xMem} (hI : MInv M) (hsp : ∀ t, 0 ≤ t → t < 10 → M 1 (3 + t) < M 1 1) (hi : inR i) (hk : inR k) : Ct l ω yX7_as ({ frames := 2, cells := 0, slots := 0, locals := 43 } : Room) 4 2 [.ref (xad ω 0), .int (iI i), .int (iI k)] M (some (.int (iI (nasR M i k)))) (nasM M i k) := by
  refine Ct.of (bytes := cX7_as) (ret := (some .int)) (lv0 := [some (.ref (xad ω 0)), some (.int (iI i)), some (.int (iI k)), none]) m_cd_X7_as m_in_X7 (by decide +kernel) (by decide +kernel) rfl rfl rfl rfl (fun hR => by unfold nasM tI; (repeat' split) <;> first | exact hR | exact fnM_R hR) ?_
  intro κ h he hR
  have hn := hI.1
  have hsi := hsp i
  have r3 : inR (M 1 (3 + i)) := hR 1 _
  refine x_iload_n h dX7_as_0 rfl ?_
  refine x_S1i h dX7_as_1 m_ml_X7_371 m_st_X7_isSpot (by decide) rfl (c_X7_isSpot hm (by omega)) ?_
  refine x_ifeqB h dX7_as_4 (tgt := 14) (by decide) (fun q4 => ?_) (fun q4 => ?_)
  · refine x_aload_n h dX7_as_14 rfl ?_
    refine x_ldc h m_k_X7_76 dX7_as_15 ?_
    refine x_V1i h dX7_as_17 m_ml_X7_101 m_im_X7_finding m_se_X7_finding (sM0 hm) rfl (by decide) rfl (c_X7_finding hm (by omega)) ?_
    exact x_iret (ret := none) h he dX7_as_20 rfl (by unfold nasR; first | rw [if_neg (by omega)] | rw [if_pos (by omega), if_pos (by omega)] | (rw [if_pos (by omega), if_neg (by omega)]; first | rw [tI_p (by assumption)] | rw [tI_n (by assumption)])) (by unfold nasM; first | rw [if_neg (by omega)] | rw [if_pos (by omega), if_pos (by omega)] | (rw [if_pos (by omega), if_neg (by omega)]; first | rw [tI_p (by assumption)] | rw [tI_n (by assumption)]))
  · refine x_iload_n h dX7_as_7 rfl ?_
    refine x_S1i h dX7_as_8 m_ml_X7_122 m_st_X7_isKind (by decide) rfl (c_X7_isKind hm (by omega)) ?_
    refine x_ifneB h dX7_as_11 (tgt := 21) (by decide) (fun q11 => ?_) (fun q11 => ?_)
    · refine x_aload_n h dX7_as_21 rfl ?_
      refine x_getr (j := 0) (q := 1) h dX7_as_22 (sM0 hm) rfl in_X7 rfl (by decide) m_fl_X7_9 ?_
      refine x_iconst h dX7_as_25 ?_
      refine x_iload_n h dX7_as_26 rfl ?_
      refine x_iadd h dX7_as_27 ?_
      refine x_iaload h dX7_as_28 (sM1 hm) (by omega) (fun r28 => ?_)
      refine x_istore_n h dX7_as_29 rfl rfl ?_
      dsimp only [xset]
      refine x_iload_n h dX7_as_30 rfl ?_
      refine x_if_ge h dX7_as_31 (tgt := 42) (by decide) (by omega) (fun q31 => ?_) (fun q31 => ?_)
      · have iq := hI.2.2.2 (M 1 (3 + i)) (by omega) (by omega)
        refine x_aload_n h dX7_as_42 rfl ?_
        refine x_iload_n h dX7_as_43 rfl ?_
        refine x_iconst h dX7_as_44 ?_
        refine x_V2i h dX7_as_45 m_ml_X7_133 m_im_X7_personIs m_se_X7_personIs (sM0 hm) rfl (by decide) rfl (c_X7_personIs hm (by omega) (by omega)) ?_
        refine x_iload_n h dX7_as_48 rfl ?_
        refine x_S2i h dX7_as_49 m_ml_X7_374 m_st_X7_isUnder (by decide) rfl (c_X7_isUnder hm (by omega) (by omega)) ?_
        refine x_ifeqB h dX7_as_52 (tgt := 59) (by decide) (fun q52 => ?_) (fun q52 => ?_)
        · refine x_aload_n h dX7_as_59 rfl ?_
          refine x_ldcw h m_k_X7_377 dX7_as_60 ?_
          refine x_V1i h dX7_as_63 m_ml_X7_101 m_im_X7_finding m_se_X7_finding (sM0 hm) rfl (by decide) rfl (c_X7_finding hm (by omega)) ?_
          exact x_iret (ret := none) h he dX7_as_66 rfl (by unfold nasR; first | rw [if_neg (by omega)] | rw [if_pos (by omega), if_pos (by omega)] | (rw [if_pos (by omega), if_neg (by omega)]; first | rw [tI_p (by assumption)] | rw [tI_n (by assumption)])) (by unfold nasM; first | rw [if_neg (by omega)] | rw [if_pos (by omega), if_pos (by omega)] | (rw [if_pos (by omega), if_neg (by omega)]; first | rw [tI_p (by assumption)] | rw [tI_n (by assumption)]))
        · refine x_iload_n h dX7_as_55 rfl ?_
          refine x_goto h dX7_as_56 (tgt := 66) (by decide) ?_
          exact x_iret (ret := none) h he dX7_as_66 rfl (by unfold nasR; first | rw [if_neg (by omega)] | rw [if_pos (by omega), if_pos (by omega)] | (rw [if_pos (by omega), if_neg (by omega)]; first | rw [tI_p (by assumption)] | rw [tI_n (by assumption)])) (by unfold nasM; first | rw [if_neg (by omega)] | rw [if_pos (by omega), if_pos (by omega)] | (rw [if_pos (by omega), if_neg (by omega)]; first | rw [tI_p (by assumption)] | rw [tI_n (by assumption)]))
      · refine x_aload_n h dX7_as_34 rfl ?_
        refine x_ldcw h m_k_X7_283 dX7_as_35 ?_
        refine x_V1i h dX7_as_38 m_ml_X7_101 m_im_X7_finding m_se_X7_finding (sM0 hm) rfl (by decide) rfl (c_X7_finding hm (by omega)) ?_
        exact x_iret (ret := none) h he dX7_as_41 rfl (by unfold nasR; first | rw [if_neg (by omega)] | rw [if_pos (by omega), if_pos (by omega)] | (rw [if_pos (by omega), if_neg (by omega)]; first | rw [tI_p (by assumption)] | rw [tI_n (by assumption)])) (by unfold nasM; first | rw [if_neg (by omega)] | rw [if_pos (by omega), if_pos (by omega)] | (rw [if_pos (by omega), if_neg (by omega)]; first | rw [tI_p (by assumption)] | rw [tI_n (by assumption)]))
    · refine x_aload_n h dX7_as_14 rfl ?_
      refine x_ldc h m_k_X7_76 dX7_as_15 ?_
      refine x_V1i h dX7_as_17 m_ml_X7_101 m_im_X7_finding m_se_X7_finding (sM0 hm) rfl (by decide) rfl (c_X7_finding hm (by omega)) ?_
      exact x_iret (ret := none) h he dX7_as_20 rfl (by unfold nasR; first | rw [if_neg (by omega)] | rw [if_pos (by omega), if_pos (by omega)] | (rw [if_pos (by omega), if_neg (by omega)]; first | rw [tI_p (by assumption)] | rw [tI_n (by assumption)])) (by unfold nasM; first | rw [if_neg (by omega)] | rw [if_pos (by omega), if_pos (by omega)] | (rw [if_pos (by omega), if_neg (by omega)]; first | rw [tI_p (by assumption)] | rw [tI_n (by assumption)]))

theorem dX7_sheet_0 : decode cX7_sheet 0 = .ok (.iload_n 1, 1) := by decide +kernel
theorem dX7_sheet_1 : decode cX7_sheet 1 = .ok (.invokestatic 280, 3) := by decide +kernel
theorem dX7_sheet_4 : decode cX7_sheet 4 = .ok (.ifCond .eq 25, 3) := by decide +kernel
theorem dX7_sheet_7 : decode cX7_sheet 7 = .ok (.iload_n 2, 1) := by decide +kernel
theorem dX7_sheet_8 : decode cX7_sheet 8 = .ok (.ifCond .eq 28, 3) := by decide +kernel
theorem dX7_sheet_11 : decode cX7_sheet 11 = .ok (.iload_n 2, 1) := by decide +kernel
theorem dX7_sheet_12 : decode cX7_sheet 12 = .ok (.bipush 8, 2) := by decide +kernel
theorem dX7_sheet_14 : decode cX7_sheet 14 = .ok (.if_icmp .eq 22, 3) := by decide +kernel
theorem dX7_sheet_17 : decode cX7_sheet 17 = .ok (.iload_n 2, 1) := by decide +kernel
theorem dX7_sheet_18 : decode cX7_sheet 18 = .ok (.bipush 16, 2) := by decide +kernel
theorem dX7_sheet_20 : decode cX7_sheet 20 = .ok (.if_icmp .eq 16, 3) := by decide +kernel
theorem dX7_sheet_23 : decode cX7_sheet 23 = .ok (.iload_n 2, 1) := by decide +kernel
theorem dX7_sheet_24 : decode cX7_sheet 24 = .ok (.bipush 32, 2) := by decide +kernel
theorem dX7_sheet_26 : decode cX7_sheet 26 = .ok (.if_icmp .eq 10, 3) := by decide +kernel
theorem dX7_sheet_29 : decode cX7_sheet 29 = .ok (.aload_n 0, 1) := by decide +kernel
theorem dX7_sheet_30 : decode cX7_sheet 30 = .ok (.ldc 76, 2) := by decide +kernel
theorem dX7_sheet_32 : decode cX7_sheet 32 = .ok (.invokevirtual 101, 3) := by decide +kernel
theorem dX7_sheet_35 : decode cX7_sheet 35 = .ok (.ireturn, 1) := by decide +kernel
theorem dX7_sheet_36 : decode cX7_sheet 36 = .ok (.iload_n 3, 1) := by decide +kernel
theorem dX7_sheet_37 : decode cX7_sheet 37 = .ok (.ifCond .ge 11, 3) := by decide +kernel
theorem dX7_sheet_40 : decode cX7_sheet 40 = .ok (.aload_n 0, 1) := by decide +kernel
theorem dX7_sheet_41 : decode cX7_sheet 41 = .ok (.ldc_w 378, 3) := by decide +kernel
theorem dX7_sheet_44 : decode cX7_sheet 44 = .ok (.invokevirtual 101, 3) := by decide +kernel
theorem dX7_sheet_47 : decode cX7_sheet 47 = .ok (.ireturn, 1) := by decide +kernel
theorem dX7_sheet_48 : decode cX7_sheet 48 = .ok (.iload_n 3, 1) := by decide +kernel
theorem dX7_sheet_49 : decode cX7_sheet 49 = .ok (.bipush 40, 2) := by decide +kernel
theorem dX7_sheet_51 : decode cX7_sheet 51 = .ok (.if_icmp .le 10, 3) := by decide +kernel
theorem dX7_sheet_54 : decode cX7_sheet 54 = .ok (.aload_n 0, 1) := by decide +kernel
theorem dX7_sheet_55 : decode cX7_sheet 55 = .ok (.ldc 76, 2) := by decide +kernel
theorem dX7_sheet_57 : decode cX7_sheet 57 = .ok (.invokevirtual 101, 3) := by decide +kernel
theorem dX7_sheet_60 : decode cX7_sheet 60 = .ok (.ireturn, 1) := by decide +kernel
theorem dX7_sheet_61 : decode cX7_sheet 61 = .ok (.aload_n 0, 1) := by decide +kernel
theorem dX7_sheet_62 : decode cX7_sheet 62 = .ok (.getfield 60, 3) := by decide +kernel
theorem dX7_sheet_65 : decode cX7_sheet 65 = .ok (.iload_n 1, 1) := by decide +kernel
theorem dX7_sheet_66 : decode cX7_sheet 66 = .ok (.iload_n 2, 1) := by decide +kernel
theorem dX7_sheet_67 : decode cX7_sheet 67 = .ok (.iastore, 1) := by decide +kernel
theorem dX7_sheet_68 : decode cX7_sheet 68 = .ok (.aload_n 0, 1) := by decide +kernel
theorem dX7_sheet_69 : decode cX7_sheet 69 = .ok (.getfield 63, 3) := by decide +kernel
theorem dX7_sheet_72 : decode cX7_sheet 72 = .ok (.iload_n 1, 1) := by decide +kernel
theorem dX7_sheet_73 : decode cX7_sheet 73 = .ok (.iload_n 2, 1) := by decide +kernel
theorem dX7_sheet_74 : decode cX7_sheet 74 = .ok (.ifCond .ne 7, 3) := by decide +kernel
theorem dX7_sheet_77 : decode cX7_sheet 77 = .ok (.iconst 0, 1) := by decide +kernel
theorem dX7_sheet_78 : decode cX7_sheet 78 = .ok (.goto 4, 3) := by decide +kernel
theorem dX7_sheet_81 : decode cX7_sheet 81 = .ok (.iload_n 3, 1) := by decide +kernel
theorem dX7_sheet_82 : decode cX7_sheet 82 = .ok (.iastore, 1) := by decide +kernel
theorem dX7_sheet_83 : decode cX7_sheet 83 = .ok (.iconst 0, 1) := by decide +kernel
theorem dX7_sheet_84 : decode cX7_sheet 84 = .ok (.istore 4, 2) := by decide +kernel
theorem dX7_sheet_86 : decode cX7_sheet 86 = .ok (.iload 4, 2) := by decide +kernel
theorem dX7_sheet_88 : decode cX7_sheet 88 = .ok (.bipush 40, 2) := by decide +kernel
theorem dX7_sheet_90 : decode cX7_sheet 90 = .ok (.if_icmp .ge 22, 3) := by decide +kernel
theorem dX7_sheet_93 : decode cX7_sheet 93 = .ok (.aload_n 0, 1) := by decide +kernel
theorem dX7_sheet_94 : decode cX7_sheet 94 = .ok (.getfield 66, 3) := by decide +kernel
theorem dX7_sheet_97 : decode cX7_sheet 97 = .ok (.bipush 40, 2) := by decide +kernel
theorem dX7_sheet_99 : decode cX7_sheet 99 = .ok (.iload_n 1, 1) := by decide +kernel
theorem dX7_sheet_100 : decode cX7_sheet 100 = .ok (.imul, 1) := by decide +kernel
theorem dX7_sheet_101 : decode cX7_sheet 101 = .ok (.iload 4, 2) := by decide +kernel
theorem dX7_sheet_103 : decode cX7_sheet 103 = .ok (.iadd, 1) := by decide +kernel
theorem dX7_sheet_104 : decode cX7_sheet 104 = .ok (.iconst 0, 1) := by decide +kernel
theorem dX7_sheet_105 : decode cX7_sheet 105 = .ok (.iastore, 1) := by decide +kernel
theorem dX7_sheet_106 : decode cX7_sheet 106 = .ok (.iinc 4 1, 3) := by decide +kernel
theorem dX7_sheet_109 : decode cX7_sheet 109 = .ok (.goto (-23), 3) := by decide +kernel
theorem dX7_sheet_112 : decode cX7_sheet 112 = .ok (.aload_n 0, 1) := by decide +kernel
theorem dX7_sheet_113 : decode cX7_sheet 113 = .ok (.getfield 63, 3) := by decide +kernel
theorem dX7_sheet_116 : decode cX7_sheet 116 = .ok (.iload_n 1, 1) := by decide +kernel
theorem dX7_sheet_117 : decode cX7_sheet 117 = .ok (.iaload, 1) := by decide +kernel
theorem dX7_sheet_118 : decode cX7_sheet 118 = .ok (.ireturn, 1) := by decide +kernel
set_option maxHeartbeats 800000 in
set_option maxRecDepth 100000 in
theorem c_X7_sheet {l : Launch} {ω : xO} {ks : Nat → Option Nat} (hm : xsh ω = mdS ks) {s b n : Int} {M : xMem} (hs : inR s) (hb : inR b) (hn : inR n) : Ct l ω yX7_sheet ({ frames := 2, cells := 0, slots := 0, locals := 42 } : Room) 5 3 [.ref (xad ω 0), .int (iI s), .int (iI b), .int (iI n)] M (some (.int (iI (nshR s b n)))) (nshM M s b n) := by
  refine Ct.of (bytes := cX7_sheet) (ret := (some .int)) (lv0 := [some (.ref (xad ω 0)), some (.int (iI s)), some (.int (iI b)), some (.int (iI n)), none]) m_cd_X7_sheet m_in_X7 (by decide +kernel) (by decide +kernel) rfl rfl rfl rfl (fun hR => by unfold nshM; (repeat' split) <;> first | exact fnM_R hR | (unfold shM shH; exact upr_R (up_R (up_R hR hb) (by split <;> omega)) (fun j => by unfold zrC; split; decide; exact hR 14 j))) ?_
  intro κ h he hR
  refine x_iload_n h dX7_sheet_0 rfl ?_
  refine x_S1i h dX7_sheet_1 m_ml_X7_280 m_st_X7_isSheet (by decide) rfl (c_X7_isSheet hm (by omega)) ?_
  refine x_ifeqB h dX7_sheet_4 (tgt := 29) (by decide) (fun q4 => ?_) (fun q4 => ?_)
  · refine x_aload_n h dX7_sheet_29 rfl ?_
    refine x_ldc h m_k_X7_76 dX7_sheet_30 ?_
    refine x_V1i h dX7_sheet_32 m_ml_X7_101 m_im_X7_finding m_se_X7_finding (sM0 hm) rfl (by decide) rfl (c_X7_finding hm (by omega)) ?_
    exact x_iret (ret := none) h he dX7_sheet_35 rfl (by unfold nshR shGd; (repeat' split) <;> first | rfl | omega) (by unfold nshM shGd; (repeat' split) <;> first | rfl | (exfalso; omega))
  · refine x_iload_n h dX7_sheet_7 rfl ?_
    refine x_if_eq h dX7_sheet_8 (tgt := 36) (by decide) (by omega) (fun q8 => ?_) (fun q8 => ?_)
    · refine x_iload_n h dX7_sheet_36 rfl ?_
      refine x_if_ge h dX7_sheet_37 (tgt := 48) (by decide) (by omega) (fun q37 => ?_) (fun q37 => ?_)
      · refine x_iload_n h dX7_sheet_48 rfl ?_
        refine x_bipush h dX7_sheet_49 (by decide) ?_
        refine x_icmp_le h dX7_sheet_51 (tgt := 61) (by decide) (by omega) (by omega) (fun q51 => ?_) (fun q51 => ?_)
        · have hgd : shGd s b := by unfold shGd; omega
          refine x_aload_n h dX7_sheet_61 rfl ?_
          refine x_getr (j := 26) (q := 12) h dX7_sheet_62 (sM0 hm) rfl in_X7 rfl (by decide) m_fl_X7_60 ?_
          refine x_iload_n h dX7_sheet_65 rfl ?_
          refine x_iload_n h dX7_sheet_66 rfl ?_
          refine x_iastore h dX7_sheet_67 (sM12 hm) (by omega) (by omega) ?_
          refine x_aload_n h dX7_sheet_68 rfl ?_
          refine x_getr (j := 27) (q := 13) h dX7_sheet_69 (sM0 hm) rfl in_X7 rfl (by decide) m_fl_X7_63 ?_
          refine x_iload_n h dX7_sheet_72 rfl ?_
          refine x_iload_n h dX7_sheet_73 rfl ?_
          refine x_if_ne h dX7_sheet_74 (tgt := 81) (by decide) (by omega) (fun q74 => ?_) (fun q74 => ?_)
          · refine x_iload_n h dX7_sheet_81 rfl ?_
            refine x_iastore h dX7_sheet_82 (sM13 hm) (by omega) (by omega) ?_
            refine x_iconst h dX7_sheet_83 ?_
            refine x_istore h dX7_sheet_84 rfl rfl ?_
            dsimp only [xset]
            first
              | refine x_mem (sh_0 (n := n) q74) ?_
              | refine x_mem (sh_1 (n := n) q74) ?_
            refine loop_up (fun k => X ω κ 86 [some (.ref (xad ω 0)), some (.int (iI s)), some (.int (iI b)), some (.int (iI n)), some (.int (iI (k : Int)))] [] (upr (shH M s b n) 14 (zrC (40 * s) ((k : Nat) : Int) (M 14)))) 40 ?_ ?_
            · show X ω κ 86 [some (.ref (xad ω 0)), some (.int (iI s)), some (.int (iI b)), some (.int (iI n)), some (.int (iI ((40 : Nat) : Int)))] [] (upr (shH M s b n) 14 (zrC (40 * s) ((40 : Nat) : Int) (M 14)))
              refine x_iload h dX7_sheet_86 rfl ?_
              refine x_bipush h dX7_sheet_88 (by decide) ?_
              refine x_icmp_ge h dX7_sheet_90 (tgt := 112) (by decide) (by omega) (by omega) (fun q90 => ?_) (fun q90 => ?_)
              · refine x_aload_n h dX7_sheet_112 rfl ?_
                refine x_getr (j := 27) (q := 13) h dX7_sheet_113 (sM0 hm) rfl in_X7 rfl (by decide) m_fl_X7_63 ?_
                refine x_iload_n h dX7_sheet_116 rfl ?_
                refine x_iaload h dX7_sheet_117 (sM13 hm) (by omega) (fun r117 => ?_)
                have e13 : upr (shH M s b n) 14 (zrC (40 * s) ((40 : Nat) : Int) (M 14)) 13 s = (if b = 0 then 0 else n) := by rw [upr_n (by decide)]; unfold shH; rw [up_ss]
                rw [e13]
                exact x_iret (ret := none) h he dX7_sheet_118 rfl (by unfold nshR; rw [if_pos hgd]; (repeat' split) <;> first | rfl | omega) (by unfold nshM; rw [if_pos hgd, if_neg (by omega), if_neg (by omega)]; rfl)
              · exfalso; omega
            · intro k hk ihk
              replace ihk : X ω κ 86 [some (.ref (xad ω 0)), some (.int (iI s)), some (.int (iI b)), some (.int (iI n)), some (.int (iI ((k + 1 : Nat) : Int)))] [] (upr (shH M s b n) 14 (zrC (40 * s) (((k + 1) : Nat) : Int) (M 14))) := ihk
              show X ω κ 86 [some (.ref (xad ω 0)), some (.int (iI s)), some (.int (iI b)), some (.int (iI n)), some (.int (iI (k : Int)))] [] (upr (shH M s b n) 14 (zrC (40 * s) ((k : Nat) : Int) (M 14)))
              refine x_iload h dX7_sheet_86 rfl ?_
              refine x_bipush h dX7_sheet_88 (by decide) ?_
              refine x_icmp_ge h dX7_sheet_90 (tgt := 112) (by decide) (by omega) (by omega) (fun q90 => ?_) (fun q90 => ?_)
              · exfalso; omega
              · refine x_aload_n h dX7_sheet_93 rfl ?_
                refine x_getr (j := 28) (q := 14) h dX7_sheet_94 (sM0 hm) rfl in_X7 rfl (by decide) m_fl_X7_66 ?_
                refine x_bipush h dX7_sheet_97 (by decide) ?_
                refine x_iload_n h dX7_sheet_99 rfl ?_
                refine x_imul h dX7_sheet_100 ?_
                refine x_iload h dX7_sheet_101 rfl ?_
                refine x_iadd h dX7_sheet_103 ?_
                refine x_iconst h dX7_sheet_104 ?_
                refine x_iastore h dX7_sheet_105 (sM14 hm) (by omega) (by omega) ?_
                refine x_iinc h dX7_sheet_106 rfl rfl rfl ?_
                dsimp only [xset]
                refine x_goto h dX7_sheet_109 (tgt := 86) (by decide) ?_
                exact x_same ihk rfl rfl (by rw [up_upr, zrC_s])
          · refine x_iconst h dX7_sheet_77 ?_
            refine x_goto h dX7_sheet_78 (tgt := 82) (by decide) ?_
            refine x_iastore h dX7_sheet_82 (sM13 hm) (by omega) (by omega) ?_
            refine x_iconst h dX7_sheet_83 ?_
            refine x_istore h dX7_sheet_84 rfl rfl ?_
            dsimp only [xset]
            first
              | refine x_mem (sh_0 (n := n) q74) ?_
              | refine x_mem (sh_1 (n := n) q74) ?_
            refine loop_up (fun k => X ω κ 86 [some (.ref (xad ω 0)), some (.int (iI s)), some (.int (iI b)), some (.int (iI n)), some (.int (iI (k : Int)))] [] (upr (shH M s b n) 14 (zrC (40 * s) ((k : Nat) : Int) (M 14)))) 40 ?_ ?_
            · show X ω κ 86 [some (.ref (xad ω 0)), some (.int (iI s)), some (.int (iI b)), some (.int (iI n)), some (.int (iI ((40 : Nat) : Int)))] [] (upr (shH M s b n) 14 (zrC (40 * s) ((40 : Nat) : Int) (M 14)))
              refine x_iload h dX7_sheet_86 rfl ?_
              refine x_bipush h dX7_sheet_88 (by decide) ?_
              refine x_icmp_ge h dX7_sheet_90 (tgt := 112) (by decide) (by omega) (by omega) (fun q90 => ?_) (fun q90 => ?_)
              · refine x_aload_n h dX7_sheet_112 rfl ?_
                refine x_getr (j := 27) (q := 13) h dX7_sheet_113 (sM0 hm) rfl in_X7 rfl (by decide) m_fl_X7_63 ?_
                refine x_iload_n h dX7_sheet_116 rfl ?_
                refine x_iaload h dX7_sheet_117 (sM13 hm) (by omega) (fun r117 => ?_)
                have e13 : upr (shH M s b n) 14 (zrC (40 * s) ((40 : Nat) : Int) (M 14)) 13 s = (if b = 0 then 0 else n) := by rw [upr_n (by decide)]; unfold shH; rw [up_ss]
                rw [e13]
                exact x_iret (ret := none) h he dX7_sheet_118 rfl (by unfold nshR; rw [if_pos hgd]; (repeat' split) <;> first | rfl | omega) (by unfold nshM; rw [if_pos hgd, if_neg (by omega), if_neg (by omega)]; rfl)
              · exfalso; omega
            · intro k hk ihk
              replace ihk : X ω κ 86 [some (.ref (xad ω 0)), some (.int (iI s)), some (.int (iI b)), some (.int (iI n)), some (.int (iI ((k + 1 : Nat) : Int)))] [] (upr (shH M s b n) 14 (zrC (40 * s) (((k + 1) : Nat) : Int) (M 14))) := ihk
              show X ω κ 86 [some (.ref (xad ω 0)), some (.int (iI s)), some (.int (iI b)), some (.int (iI n)), some (.int (iI (k : Int)))] [] (upr (shH M s b n) 14 (zrC (40 * s) ((k : Nat) : Int) (M 14)))
              refine x_iload h dX7_sheet_86 rfl ?_
              refine x_bipush h dX7_sheet_88 (by decide) ?_
              refine x_icmp_ge h dX7_sheet_90 (tgt := 112) (by decide) (by omega) (by omega) (fun q90 => ?_) (fun q90 => ?_)
              · exfalso; omega
              · refine x_aload_n h dX7_sheet_93 rfl ?_
                refine x_getr (j := 28) (q := 14) h dX7_sheet_94 (sM0 hm) rfl in_X7 rfl (by decide) m_fl_X7_66 ?_
                refine x_bipush h dX7_sheet_97 (by decide) ?_
                refine x_iload_n h dX7_sheet_99 rfl ?_
                refine x_imul h dX7_sheet_100 ?_
                refine x_iload h dX7_sheet_101 rfl ?_
                refine x_iadd h dX7_sheet_103 ?_
                refine x_iconst h dX7_sheet_104 ?_
                refine x_iastore h dX7_sheet_105 (sM14 hm) (by omega) (by omega) ?_
                refine x_iinc h dX7_sheet_106 rfl rfl rfl ?_
                dsimp only [xset]
                refine x_goto h dX7_sheet_109 (tgt := 86) (by decide) ?_
                exact x_same ihk rfl rfl (by rw [up_upr, zrC_s])
        · refine x_aload_n h dX7_sheet_54 rfl ?_
          refine x_ldc h m_k_X7_76 dX7_sheet_55 ?_
          refine x_V1i h dX7_sheet_57 m_ml_X7_101 m_im_X7_finding m_se_X7_finding (sM0 hm) rfl (by decide) rfl (c_X7_finding hm (by omega)) ?_
          exact x_iret (ret := none) h he dX7_sheet_60 rfl (by unfold nshR shGd; (repeat' split) <;> first | rfl | omega) (by unfold nshM shGd; (repeat' split) <;> first | rfl | (exfalso; omega))
      · refine x_aload_n h dX7_sheet_40 rfl ?_
        refine x_ldcw h m_k_X7_378 dX7_sheet_41 ?_
        refine x_V1i h dX7_sheet_44 m_ml_X7_101 m_im_X7_finding m_se_X7_finding (sM0 hm) rfl (by decide) rfl (c_X7_finding hm (by omega)) ?_
        exact x_iret (ret := none) h he dX7_sheet_47 rfl (by unfold nshR shGd; (repeat' split) <;> first | rfl | omega) (by unfold nshM shGd; (repeat' split) <;> first | rfl | (exfalso; omega))
    · refine x_iload_n h dX7_sheet_11 rfl ?_
      refine x_bipush h dX7_sheet_12 (by decide) ?_
      refine x_icmp_eq h dX7_sheet_14 (tgt := 36) (by decide) (by omega) (by omega) (fun q14 => ?_) (fun q14 => ?_)
      · refine x_iload_n h dX7_sheet_36 rfl ?_
        refine x_if_ge h dX7_sheet_37 (tgt := 48) (by decide) (by omega) (fun q37 => ?_) (fun q37 => ?_)
        · refine x_iload_n h dX7_sheet_48 rfl ?_
          refine x_bipush h dX7_sheet_49 (by decide) ?_
          refine x_icmp_le h dX7_sheet_51 (tgt := 61) (by decide) (by omega) (by omega) (fun q51 => ?_) (fun q51 => ?_)
          · have hgd : shGd s b := by unfold shGd; omega
            refine x_aload_n h dX7_sheet_61 rfl ?_
            refine x_getr (j := 26) (q := 12) h dX7_sheet_62 (sM0 hm) rfl in_X7 rfl (by decide) m_fl_X7_60 ?_
            refine x_iload_n h dX7_sheet_65 rfl ?_
            refine x_iload_n h dX7_sheet_66 rfl ?_
            refine x_iastore h dX7_sheet_67 (sM12 hm) (by omega) (by omega) ?_
            refine x_aload_n h dX7_sheet_68 rfl ?_
            refine x_getr (j := 27) (q := 13) h dX7_sheet_69 (sM0 hm) rfl in_X7 rfl (by decide) m_fl_X7_63 ?_
            refine x_iload_n h dX7_sheet_72 rfl ?_
            refine x_iload_n h dX7_sheet_73 rfl ?_
            refine x_if_ne h dX7_sheet_74 (tgt := 81) (by decide) (by omega) (fun q74 => ?_) (fun q74 => ?_)
            · refine x_iload_n h dX7_sheet_81 rfl ?_
              refine x_iastore h dX7_sheet_82 (sM13 hm) (by omega) (by omega) ?_
              refine x_iconst h dX7_sheet_83 ?_
              refine x_istore h dX7_sheet_84 rfl rfl ?_
              dsimp only [xset]
              first
                | refine x_mem (sh_0 (n := n) q74) ?_
                | refine x_mem (sh_1 (n := n) q74) ?_
              refine loop_up (fun k => X ω κ 86 [some (.ref (xad ω 0)), some (.int (iI s)), some (.int (iI b)), some (.int (iI n)), some (.int (iI (k : Int)))] [] (upr (shH M s b n) 14 (zrC (40 * s) ((k : Nat) : Int) (M 14)))) 40 ?_ ?_
              · show X ω κ 86 [some (.ref (xad ω 0)), some (.int (iI s)), some (.int (iI b)), some (.int (iI n)), some (.int (iI ((40 : Nat) : Int)))] [] (upr (shH M s b n) 14 (zrC (40 * s) ((40 : Nat) : Int) (M 14)))
                refine x_iload h dX7_sheet_86 rfl ?_
                refine x_bipush h dX7_sheet_88 (by decide) ?_
                refine x_icmp_ge h dX7_sheet_90 (tgt := 112) (by decide) (by omega) (by omega) (fun q90 => ?_) (fun q90 => ?_)
                · refine x_aload_n h dX7_sheet_112 rfl ?_
                  refine x_getr (j := 27) (q := 13) h dX7_sheet_113 (sM0 hm) rfl in_X7 rfl (by decide) m_fl_X7_63 ?_
                  refine x_iload_n h dX7_sheet_116 rfl ?_
                  refine x_iaload h dX7_sheet_117 (sM13 hm) (by omega) (fun r117 => ?_)
                  have e13 : upr (shH M s b n) 14 (zrC (40 * s) ((40 : Nat) : Int) (M 14)) 13 s = (if b = 0 then 0 else n) := by rw [upr_n (by decide)]; unfold shH; rw [up_ss]
                  rw [e13]
                  exact x_iret (ret := none) h he dX7_sheet_118 rfl (by unfold nshR; rw [if_pos hgd]; (repeat' split) <;> first | rfl | omega) (by unfold nshM; rw [if_pos hgd, if_neg (by omega), if_neg (by omega)]; rfl)
                · exfalso; omega
              · intro k hk ihk
                replace ihk : X ω κ 86 [some (.ref (xad ω 0)), some (.int (iI s)), some (.int (iI b)), some (.int (iI n)), some (.int (iI ((k + 1 : Nat) : Int)))] [] (upr (shH M s b n) 14 (zrC (40 * s) (((k + 1) : Nat) : Int) (M 14))) := ihk
                show X ω κ 86 [some (.ref (xad ω 0)), some (.int (iI s)), some (.int (iI b)), some (.int (iI n)), some (.int (iI (k : Int)))] [] (upr (shH M s b n) 14 (zrC (40 * s) ((k : Nat) : Int) (M 14)))
                refine x_iload h dX7_sheet_86 rfl ?_
                refine x_bipush h dX7_sheet_88 (by decide) ?_
                refine x_icmp_ge h dX7_sheet_90 (tgt := 112) (by decide) (by omega) (by omega) (fun q90 => ?_) (fun q90 => ?_)
                · exfalso; omega
                · refine x_aload_n h dX7_sheet_93 rfl ?_
                  refine x_getr (j := 28) (q := 14) h dX7_sheet_94 (sM0 hm) rfl in_X7 rfl (by decide) m_fl_X7_66 ?_
                  refine x_bipush h dX7_sheet_97 (by decide) ?_
                  refine x_iload_n h dX7_sheet_99 rfl ?_
                  refine x_imul h dX7_sheet_100 ?_
                  refine x_iload h dX7_sheet_101 rfl ?_
                  refine x_iadd h dX7_sheet_103 ?_
                  refine x_iconst h dX7_sheet_104 ?_
                  refine x_iastore h dX7_sheet_105 (sM14 hm) (by omega) (by omega) ?_
                  refine x_iinc h dX7_sheet_106 rfl rfl rfl ?_
                  dsimp only [xset]
                  refine x_goto h dX7_sheet_109 (tgt := 86) (by decide) ?_
                  exact x_same ihk rfl rfl (by rw [up_upr, zrC_s])
            · refine x_iconst h dX7_sheet_77 ?_
              refine x_goto h dX7_sheet_78 (tgt := 82) (by decide) ?_
              refine x_iastore h dX7_sheet_82 (sM13 hm) (by omega) (by omega) ?_
              refine x_iconst h dX7_sheet_83 ?_
              refine x_istore h dX7_sheet_84 rfl rfl ?_
              dsimp only [xset]
              first
                | refine x_mem (sh_0 (n := n) q74) ?_
                | refine x_mem (sh_1 (n := n) q74) ?_
              refine loop_up (fun k => X ω κ 86 [some (.ref (xad ω 0)), some (.int (iI s)), some (.int (iI b)), some (.int (iI n)), some (.int (iI (k : Int)))] [] (upr (shH M s b n) 14 (zrC (40 * s) ((k : Nat) : Int) (M 14)))) 40 ?_ ?_
              · show X ω κ 86 [some (.ref (xad ω 0)), some (.int (iI s)), some (.int (iI b)), some (.int (iI n)), some (.int (iI ((40 : Nat) : Int)))] [] (upr (shH M s b n) 14 (zrC (40 * s) ((40 : Nat) : Int) (M 14)))
                refine x_iload h dX7_sheet_86 rfl ?_
                refine x_bipush h dX7_sheet_88 (by decide) ?_
                refine x_icmp_ge h dX7_sheet_90 (tgt := 112) (by decide) (by omega) (by omega) (fun q90 => ?_) (fun q90 => ?_)
                · refine x_aload_n h dX7_sheet_112 rfl ?_
                  refine x_getr (j := 27) (q := 13) h dX7_sheet_113 (sM0 hm) rfl in_X7 rfl (by decide) m_fl_X7_63 ?_
                  refine x_iload_n h dX7_sheet_116 rfl ?_
                  refine x_iaload h dX7_sheet_117 (sM13 hm) (by omega) (fun r117 => ?_)
                  have e13 : upr (shH M s b n) 14 (zrC (40 * s) ((40 : Nat) : Int) (M 14)) 13 s = (if b = 0 then 0 else n) := by rw [upr_n (by decide)]; unfold shH; rw [up_ss]
                  rw [e13]
                  exact x_iret (ret := none) h he dX7_sheet_118 rfl (by unfold nshR; rw [if_pos hgd]; (repeat' split) <;> first | rfl | omega) (by unfold nshM; rw [if_pos hgd, if_neg (by omega), if_neg (by omega)]; rfl)
                · exfalso; omega
              · intro k hk ihk
                replace ihk : X ω κ 86 [some (.ref (xad ω 0)), some (.int (iI s)), some (.int (iI b)), some (.int (iI n)), some (.int (iI ((k + 1 : Nat) : Int)))] [] (upr (shH M s b n) 14 (zrC (40 * s) (((k + 1) : Nat) : Int) (M 14))) := ihk
                show X ω κ 86 [some (.ref (xad ω 0)), some (.int (iI s)), some (.int (iI b)), some (.int (iI n)), some (.int (iI (k : Int)))] [] (upr (shH M s b n) 14 (zrC (40 * s) ((k : Nat) : Int) (M 14)))
                refine x_iload h dX7_sheet_86 rfl ?_
                refine x_bipush h dX7_sheet_88 (by decide) ?_
                refine x_icmp_ge h dX7_sheet_90 (tgt := 112) (by decide) (by omega) (by omega) (fun q90 => ?_) (fun q90 => ?_)
                · exfalso; omega
                · refine x_aload_n h dX7_sheet_93 rfl ?_
                  refine x_getr (j := 28) (q := 14) h dX7_sheet_94 (sM0 hm) rfl in_X7 rfl (by decide) m_fl_X7_66 ?_
                  refine x_bipush h dX7_sheet_97 (by decide) ?_
                  refine x_iload_n h dX7_sheet_99 rfl ?_
                  refine x_imul h dX7_sheet_100 ?_
                  refine x_iload h dX7_sheet_101 rfl ?_
                  refine x_iadd h dX7_sheet_103 ?_
                  refine x_iconst h dX7_sheet_104 ?_
                  refine x_iastore h dX7_sheet_105 (sM14 hm) (by omega) (by omega) ?_
                  refine x_iinc h dX7_sheet_106 rfl rfl rfl ?_
                  dsimp only [xset]
                  refine x_goto h dX7_sheet_109 (tgt := 86) (by decide) ?_
                  exact x_same ihk rfl rfl (by rw [up_upr, zrC_s])
          · refine x_aload_n h dX7_sheet_54 rfl ?_
            refine x_ldc h m_k_X7_76 dX7_sheet_55 ?_
            refine x_V1i h dX7_sheet_57 m_ml_X7_101 m_im_X7_finding m_se_X7_finding (sM0 hm) rfl (by decide) rfl (c_X7_finding hm (by omega)) ?_
            exact x_iret (ret := none) h he dX7_sheet_60 rfl (by unfold nshR shGd; (repeat' split) <;> first | rfl | omega) (by unfold nshM shGd; (repeat' split) <;> first | rfl | (exfalso; omega))
        · refine x_aload_n h dX7_sheet_40 rfl ?_
          refine x_ldcw h m_k_X7_378 dX7_sheet_41 ?_
          refine x_V1i h dX7_sheet_44 m_ml_X7_101 m_im_X7_finding m_se_X7_finding (sM0 hm) rfl (by decide) rfl (c_X7_finding hm (by omega)) ?_
          exact x_iret (ret := none) h he dX7_sheet_47 rfl (by unfold nshR shGd; (repeat' split) <;> first | rfl | omega) (by unfold nshM shGd; (repeat' split) <;> first | rfl | (exfalso; omega))
      · refine x_iload_n h dX7_sheet_17 rfl ?_
        refine x_bipush h dX7_sheet_18 (by decide) ?_
        refine x_icmp_eq h dX7_sheet_20 (tgt := 36) (by decide) (by omega) (by omega) (fun q20 => ?_) (fun q20 => ?_)
        · refine x_iload_n h dX7_sheet_36 rfl ?_
          refine x_if_ge h dX7_sheet_37 (tgt := 48) (by decide) (by omega) (fun q37 => ?_) (fun q37 => ?_)
          · refine x_iload_n h dX7_sheet_48 rfl ?_
            refine x_bipush h dX7_sheet_49 (by decide) ?_
            refine x_icmp_le h dX7_sheet_51 (tgt := 61) (by decide) (by omega) (by omega) (fun q51 => ?_) (fun q51 => ?_)
            · have hgd : shGd s b := by unfold shGd; omega
              refine x_aload_n h dX7_sheet_61 rfl ?_
              refine x_getr (j := 26) (q := 12) h dX7_sheet_62 (sM0 hm) rfl in_X7 rfl (by decide) m_fl_X7_60 ?_
              refine x_iload_n h dX7_sheet_65 rfl ?_
              refine x_iload_n h dX7_sheet_66 rfl ?_
              refine x_iastore h dX7_sheet_67 (sM12 hm) (by omega) (by omega) ?_
              refine x_aload_n h dX7_sheet_68 rfl ?_
              refine x_getr (j := 27) (q := 13) h dX7_sheet_69 (sM0 hm) rfl in_X7 rfl (by decide) m_fl_X7_63 ?_
              refine x_iload_n h dX7_sheet_72 rfl ?_
              refine x_iload_n h dX7_sheet_73 rfl ?_
              refine x_if_ne h dX7_sheet_74 (tgt := 81) (by decide) (by omega) (fun q74 => ?_) (fun q74 => ?_)
              · refine x_iload_n h dX7_sheet_81 rfl ?_
                refine x_iastore h dX7_sheet_82 (sM13 hm) (by omega) (by omega) ?_
                refine x_iconst h dX7_sheet_83 ?_
                refine x_istore h dX7_sheet_84 rfl rfl ?_
                dsimp only [xset]
                first
                  | refine x_mem (sh_0 (n := n) q74) ?_
                  | refine x_mem (sh_1 (n := n) q74) ?_
                refine loop_up (fun k => X ω κ 86 [some (.ref (xad ω 0)), some (.int (iI s)), some (.int (iI b)), some (.int (iI n)), some (.int (iI (k : Int)))] [] (upr (shH M s b n) 14 (zrC (40 * s) ((k : Nat) : Int) (M 14)))) 40 ?_ ?_
                · show X ω κ 86 [some (.ref (xad ω 0)), some (.int (iI s)), some (.int (iI b)), some (.int (iI n)), some (.int (iI ((40 : Nat) : Int)))] [] (upr (shH M s b n) 14 (zrC (40 * s) ((40 : Nat) : Int) (M 14)))
                  refine x_iload h dX7_sheet_86 rfl ?_
                  refine x_bipush h dX7_sheet_88 (by decide) ?_
                  refine x_icmp_ge h dX7_sheet_90 (tgt := 112) (by decide) (by omega) (by omega) (fun q90 => ?_) (fun q90 => ?_)
                  · refine x_aload_n h dX7_sheet_112 rfl ?_
                    refine x_getr (j := 27) (q := 13) h dX7_sheet_113 (sM0 hm) rfl in_X7 rfl (by decide) m_fl_X7_63 ?_
                    refine x_iload_n h dX7_sheet_116 rfl ?_
                    refine x_iaload h dX7_sheet_117 (sM13 hm) (by omega) (fun r117 => ?_)
                    have e13 : upr (shH M s b n) 14 (zrC (40 * s) ((40 : Nat) : Int) (M 14)) 13 s = (if b = 0 then 0 else n) := by rw [upr_n (by decide)]; unfold shH; rw [up_ss]
                    rw [e13]
                    exact x_iret (ret := none) h he dX7_sheet_118 rfl (by unfold nshR; rw [if_pos hgd]; (repeat' split) <;> first | rfl | omega) (by unfold nshM; rw [if_pos hgd, if_neg (by omega), if_neg (by omega)]; rfl)
                  · exfalso; omega
                · intro k hk ihk
                  replace ihk : X ω κ 86 [some (.ref (xad ω 0)), some (.int (iI s)), some (.int (iI b)), some (.int (iI n)), some (.int (iI ((k + 1 : Nat) : Int)))] [] (upr (shH M s b n) 14 (zrC (40 * s) (((k + 1) : Nat) : Int) (M 14))) := ihk
                  show X ω κ 86 [some (.ref (xad ω 0)), some (.int (iI s)), some (.int (iI b)), some (.int (iI n)), some (.int (iI (k : Int)))] [] (upr (shH M s b n) 14 (zrC (40 * s) ((k : Nat) : Int) (M 14)))
                  refine x_iload h dX7_sheet_86 rfl ?_
                  refine x_bipush h dX7_sheet_88 (by decide) ?_
                  refine x_icmp_ge h dX7_sheet_90 (tgt := 112) (by decide) (by omega) (by omega) (fun q90 => ?_) (fun q90 => ?_)
                  · exfalso; omega
                  · refine x_aload_n h dX7_sheet_93 rfl ?_
                    refine x_getr (j := 28) (q := 14) h dX7_sheet_94 (sM0 hm) rfl in_X7 rfl (by decide) m_fl_X7_66 ?_
                    refine x_bipush h dX7_sheet_97 (by decide) ?_
                    refine x_iload_n h dX7_sheet_99 rfl ?_
                    refine x_imul h dX7_sheet_100 ?_
                    refine x_iload h dX7_sheet_101 rfl ?_
                    refine x_iadd h dX7_sheet_103 ?_
                    refine x_iconst h dX7_sheet_104 ?_
                    refine x_iastore h dX7_sheet_105 (sM14 hm) (by omega) (by omega) ?_
                    refine x_iinc h dX7_sheet_106 rfl rfl rfl ?_
                    dsimp only [xset]
                    refine x_goto h dX7_sheet_109 (tgt := 86) (by decide) ?_
                    exact x_same ihk rfl rfl (by rw [up_upr, zrC_s])
              · refine x_iconst h dX7_sheet_77 ?_
                refine x_goto h dX7_sheet_78 (tgt := 82) (by decide) ?_
                refine x_iastore h dX7_sheet_82 (sM13 hm) (by omega) (by omega) ?_
                refine x_iconst h dX7_sheet_83 ?_
                refine x_istore h dX7_sheet_84 rfl rfl ?_
                dsimp only [xset]
                first
                  | refine x_mem (sh_0 (n := n) q74) ?_
                  | refine x_mem (sh_1 (n := n) q74) ?_
                refine loop_up (fun k => X ω κ 86 [some (.ref (xad ω 0)), some (.int (iI s)), some (.int (iI b)), some (.int (iI n)), some (.int (iI (k : Int)))] [] (upr (shH M s b n) 14 (zrC (40 * s) ((k : Nat) : Int) (M 14)))) 40 ?_ ?_
                · show X ω κ 86 [some (.ref (xad ω 0)), some (.int (iI s)), some (.int (iI b)), some (.int (iI n)), some (.int (iI ((40 : Nat) : Int)))] [] (upr (shH M s b n) 14 (zrC (40 * s) ((40 : Nat) : Int) (M 14)))
                  refine x_iload h dX7_sheet_86 rfl ?_
                  refine x_bipush h dX7_sheet_88 (by decide) ?_
                  refine x_icmp_ge h dX7_sheet_90 (tgt := 112) (by decide) (by omega) (by omega) (fun q90 => ?_) (fun q90 => ?_)
                  · refine x_aload_n h dX7_sheet_112 rfl ?_
                    refine x_getr (j := 27) (q := 13) h dX7_sheet_113 (sM0 hm) rfl in_X7 rfl (by decide) m_fl_X7_63 ?_
                    refine x_iload_n h dX7_sheet_116 rfl ?_
                    refine x_iaload h dX7_sheet_117 (sM13 hm) (by omega) (fun r117 => ?_)
                    have e13 : upr (shH M s b n) 14 (zrC (40 * s) ((40 : Nat) : Int) (M 14)) 13 s = (if b = 0 then 0 else n) := by rw [upr_n (by decide)]; unfold shH; rw [up_ss]
                    rw [e13]
                    exact x_iret (ret := none) h he dX7_sheet_118 rfl (by unfold nshR; rw [if_pos hgd]; (repeat' split) <;> first | rfl | omega) (by unfold nshM; rw [if_pos hgd, if_neg (by omega), if_neg (by omega)]; rfl)
                  · exfalso; omega
                · intro k hk ihk
                  replace ihk : X ω κ 86 [some (.ref (xad ω 0)), some (.int (iI s)), some (.int (iI b)), some (.int (iI n)), some (.int (iI ((k + 1 : Nat) : Int)))] [] (upr (shH M s b n) 14 (zrC (40 * s) (((k + 1) : Nat) : Int) (M 14))) := ihk
                  show X ω κ 86 [some (.ref (xad ω 0)), some (.int (iI s)), some (.int (iI b)), some (.int (iI n)), some (.int (iI (k : Int)))] [] (upr (shH M s b n) 14 (zrC (40 * s) ((k : Nat) : Int) (M 14)))
                  refine x_iload h dX7_sheet_86 rfl ?_
                  refine x_bipush h dX7_sheet_88 (by decide) ?_
                  refine x_icmp_ge h dX7_sheet_90 (tgt := 112) (by decide) (by omega) (by omega) (fun q90 => ?_) (fun q90 => ?_)
                  · exfalso; omega
                  · refine x_aload_n h dX7_sheet_93 rfl ?_
                    refine x_getr (j := 28) (q := 14) h dX7_sheet_94 (sM0 hm) rfl in_X7 rfl (by decide) m_fl_X7_66 ?_
                    refine x_bipush h dX7_sheet_97 (by decide) ?_
                    refine x_iload_n h dX7_sheet_99 rfl ?_
                    refine x_imul h dX7_sheet_100 ?_
                    refine x_iload h dX7_sheet_101 rfl ?_
                    refine x_iadd h dX7_sheet_103 ?_
                    refine x_iconst h dX7_sheet_104 ?_
                    refine x_iastore h dX7_sheet_105 (sM14 hm) (by omega) (by omega) ?_
                    refine x_iinc h dX7_sheet_106 rfl rfl rfl ?_
                    dsimp only [xset]
                    refine x_goto h dX7_sheet_109 (tgt := 86) (by decide) ?_
                    exact x_same ihk rfl rfl (by rw [up_upr, zrC_s])
            · refine x_aload_n h dX7_sheet_54 rfl ?_
              refine x_ldc h m_k_X7_76 dX7_sheet_55 ?_
              refine x_V1i h dX7_sheet_57 m_ml_X7_101 m_im_X7_finding m_se_X7_finding (sM0 hm) rfl (by decide) rfl (c_X7_finding hm (by omega)) ?_
              exact x_iret (ret := none) h he dX7_sheet_60 rfl (by unfold nshR shGd; (repeat' split) <;> first | rfl | omega) (by unfold nshM shGd; (repeat' split) <;> first | rfl | (exfalso; omega))
          · refine x_aload_n h dX7_sheet_40 rfl ?_
            refine x_ldcw h m_k_X7_378 dX7_sheet_41 ?_
            refine x_V1i h dX7_sheet_44 m_ml_X7_101 m_im_X7_finding m_se_X7_finding (sM0 hm) rfl (by decide) rfl (c_X7_finding hm (by omega)) ?_
            exact x_iret (ret := none) h he dX7_sheet_47 rfl (by unfold nshR shGd; (repeat' split) <;> first | rfl | omega) (by unfold nshM shGd; (repeat' split) <;> first | rfl | (exfalso; omega))
        · refine x_iload_n h dX7_sheet_23 rfl ?_
          refine x_bipush h dX7_sheet_24 (by decide) ?_
          refine x_icmp_eq h dX7_sheet_26 (tgt := 36) (by decide) (by omega) (by omega) (fun q26 => ?_) (fun q26 => ?_)
          · refine x_iload_n h dX7_sheet_36 rfl ?_
            refine x_if_ge h dX7_sheet_37 (tgt := 48) (by decide) (by omega) (fun q37 => ?_) (fun q37 => ?_)
            · refine x_iload_n h dX7_sheet_48 rfl ?_
              refine x_bipush h dX7_sheet_49 (by decide) ?_
              refine x_icmp_le h dX7_sheet_51 (tgt := 61) (by decide) (by omega) (by omega) (fun q51 => ?_) (fun q51 => ?_)
              · have hgd : shGd s b := by unfold shGd; omega
                refine x_aload_n h dX7_sheet_61 rfl ?_
                refine x_getr (j := 26) (q := 12) h dX7_sheet_62 (sM0 hm) rfl in_X7 rfl (by decide) m_fl_X7_60 ?_
                refine x_iload_n h dX7_sheet_65 rfl ?_
                refine x_iload_n h dX7_sheet_66 rfl ?_
                refine x_iastore h dX7_sheet_67 (sM12 hm) (by omega) (by omega) ?_
                refine x_aload_n h dX7_sheet_68 rfl ?_
                refine x_getr (j := 27) (q := 13) h dX7_sheet_69 (sM0 hm) rfl in_X7 rfl (by decide) m_fl_X7_63 ?_
                refine x_iload_n h dX7_sheet_72 rfl ?_
                refine x_iload_n h dX7_sheet_73 rfl ?_
                refine x_if_ne h dX7_sheet_74 (tgt := 81) (by decide) (by omega) (fun q74 => ?_) (fun q74 => ?_)
                · refine x_iload_n h dX7_sheet_81 rfl ?_
                  refine x_iastore h dX7_sheet_82 (sM13 hm) (by omega) (by omega) ?_
                  refine x_iconst h dX7_sheet_83 ?_
                  refine x_istore h dX7_sheet_84 rfl rfl ?_
                  dsimp only [xset]
                  first
                    | refine x_mem (sh_0 (n := n) q74) ?_
                    | refine x_mem (sh_1 (n := n) q74) ?_
                  refine loop_up (fun k => X ω κ 86 [some (.ref (xad ω 0)), some (.int (iI s)), some (.int (iI b)), some (.int (iI n)), some (.int (iI (k : Int)))] [] (upr (shH M s b n) 14 (zrC (40 * s) ((k : Nat) : Int) (M 14)))) 40 ?_ ?_
                  · show X ω κ 86 [some (.ref (xad ω 0)), some (.int (iI s)), some (.int (iI b)), some (.int (iI n)), some (.int (iI ((40 : Nat) : Int)))] [] (upr (shH M s b n) 14 (zrC (40 * s) ((40 : Nat) : Int) (M 14)))
                    refine x_iload h dX7_sheet_86 rfl ?_
                    refine x_bipush h dX7_sheet_88 (by decide) ?_
                    refine x_icmp_ge h dX7_sheet_90 (tgt := 112) (by decide) (by omega) (by omega) (fun q90 => ?_) (fun q90 => ?_)
                    · refine x_aload_n h dX7_sheet_112 rfl ?_
                      refine x_getr (j := 27) (q := 13) h dX7_sheet_113 (sM0 hm) rfl in_X7 rfl (by decide) m_fl_X7_63 ?_
                      refine x_iload_n h dX7_sheet_116 rfl ?_
                      refine x_iaload h dX7_sheet_117 (sM13 hm) (by omega) (fun r117 => ?_)
                      have e13 : upr (shH M s b n) 14 (zrC (40 * s) ((40 : Nat) : Int) (M 14)) 13 s = (if b = 0 then 0 else n) := by rw [upr_n (by decide)]; unfold shH; rw [up_ss]
                      rw [e13]
                      exact x_iret (ret := none) h he dX7_sheet_118 rfl (by unfold nshR; rw [if_pos hgd]; (repeat' split) <;> first | rfl | omega) (by unfold nshM; rw [if_pos hgd, if_neg (by omega), if_neg (by omega)]; rfl)
                    · exfalso; omega
                  · intro k hk ihk
                    replace ihk : X ω κ 86 [some (.ref (xad ω 0)), some (.int (iI s)), some (.int (iI b)), some (.int (iI n)), some (.int (iI ((k + 1 : Nat) : Int)))] [] (upr (shH M s b n) 14 (zrC (40 * s) (((k + 1) : Nat) : Int) (M 14))) := ihk
                    show X ω κ 86 [some (.ref (xad ω 0)), some (.int (iI s)), some (.int (iI b)), some (.int (iI n)), some (.int (iI (k : Int)))] [] (upr (shH M s b n) 14 (zrC (40 * s) ((k : Nat) : Int) (M 14)))
                    refine x_iload h dX7_sheet_86 rfl ?_
                    refine x_bipush h dX7_sheet_88 (by decide) ?_
                    refine x_icmp_ge h dX7_sheet_90 (tgt := 112) (by decide) (by omega) (by omega) (fun q90 => ?_) (fun q90 => ?_)
                    · exfalso; omega
                    · refine x_aload_n h dX7_sheet_93 rfl ?_
                      refine x_getr (j := 28) (q := 14) h dX7_sheet_94 (sM0 hm) rfl in_X7 rfl (by decide) m_fl_X7_66 ?_
                      refine x_bipush h dX7_sheet_97 (by decide) ?_
                      refine x_iload_n h dX7_sheet_99 rfl ?_
                      refine x_imul h dX7_sheet_100 ?_
                      refine x_iload h dX7_sheet_101 rfl ?_
                      refine x_iadd h dX7_sheet_103 ?_
                      refine x_iconst h dX7_sheet_104 ?_
                      refine x_iastore h dX7_sheet_105 (sM14 hm) (by omega) (by omega) ?_
                      refine x_iinc h dX7_sheet_106 rfl rfl rfl ?_
                      dsimp only [xset]
                      refine x_goto h dX7_sheet_109 (tgt := 86) (by decide) ?_
                      exact x_same ihk rfl rfl (by rw [up_upr, zrC_s])
                · refine x_iconst h dX7_sheet_77 ?_
                  refine x_goto h dX7_sheet_78 (tgt := 82) (by decide) ?_
                  refine x_iastore h dX7_sheet_82 (sM13 hm) (by omega) (by omega) ?_
                  refine x_iconst h dX7_sheet_83 ?_
                  refine x_istore h dX7_sheet_84 rfl rfl ?_
                  dsimp only [xset]
                  first
                    | refine x_mem (sh_0 (n := n) q74) ?_
                    | refine x_mem (sh_1 (n := n) q74) ?_
                  refine loop_up (fun k => X ω κ 86 [some (.ref (xad ω 0)), some (.int (iI s)), some (.int (iI b)), some (.int (iI n)), some (.int (iI (k : Int)))] [] (upr (shH M s b n) 14 (zrC (40 * s) ((k : Nat) : Int) (M 14)))) 40 ?_ ?_
                  · show X ω κ 86 [some (.ref (xad ω 0)), some (.int (iI s)), some (.int (iI b)), some (.int (iI n)), some (.int (iI ((40 : Nat) : Int)))] [] (upr (shH M s b n) 14 (zrC (40 * s) ((40 : Nat) : Int) (M 14)))
                    refine x_iload h dX7_sheet_86 rfl ?_
                    refine x_bipush h dX7_sheet_88 (by decide) ?_
                    refine x_icmp_ge h dX7_sheet_90 (tgt := 112) (by decide) (by omega) (by omega) (fun q90 => ?_) (fun q90 => ?_)
                    · refine x_aload_n h dX7_sheet_112 rfl ?_
                      refine x_getr (j := 27) (q := 13) h dX7_sheet_113 (sM0 hm) rfl in_X7 rfl (by decide) m_fl_X7_63 ?_
                      refine x_iload_n h dX7_sheet_116 rfl ?_
                      refine x_iaload h dX7_sheet_117 (sM13 hm) (by omega) (fun r117 => ?_)
                      have e13 : upr (shH M s b n) 14 (zrC (40 * s) ((40 : Nat) : Int) (M 14)) 13 s = (if b = 0 then 0 else n) := by rw [upr_n (by decide)]; unfold shH; rw [up_ss]
                      rw [e13]
                      exact x_iret (ret := none) h he dX7_sheet_118 rfl (by unfold nshR; rw [if_pos hgd]; (repeat' split) <;> first | rfl | omega) (by unfold nshM; rw [if_pos hgd, if_neg (by omega), if_neg (by omega)]; rfl)
                    · exfalso; omega
                  · intro k hk ihk
                    replace ihk : X ω κ 86 [some (.ref (xad ω 0)), some (.int (iI s)), some (.int (iI b)), some (.int (iI n)), some (.int (iI ((k + 1 : Nat) : Int)))] [] (upr (shH M s b n) 14 (zrC (40 * s) (((k + 1) : Nat) : Int) (M 14))) := ihk
                    show X ω κ 86 [some (.ref (xad ω 0)), some (.int (iI s)), some (.int (iI b)), some (.int (iI n)), some (.int (iI (k : Int)))] [] (upr (shH M s b n) 14 (zrC (40 * s) ((k : Nat) : Int) (M 14)))
                    refine x_iload h dX7_sheet_86 rfl ?_
                    refine x_bipush h dX7_sheet_88 (by decide) ?_
                    refine x_icmp_ge h dX7_sheet_90 (tgt := 112) (by decide) (by omega) (by omega) (fun q90 => ?_) (fun q90 => ?_)
                    · exfalso; omega
                    · refine x_aload_n h dX7_sheet_93 rfl ?_
                      refine x_getr (j := 28) (q := 14) h dX7_sheet_94 (sM0 hm) rfl in_X7 rfl (by decide) m_fl_X7_66 ?_
                      refine x_bipush h dX7_sheet_97 (by decide) ?_
                      refine x_iload_n h dX7_sheet_99 rfl ?_
                      refine x_imul h dX7_sheet_100 ?_
                      refine x_iload h dX7_sheet_101 rfl ?_
                      refine x_iadd h dX7_sheet_103 ?_
                      refine x_iconst h dX7_sheet_104 ?_
                      refine x_iastore h dX7_sheet_105 (sM14 hm) (by omega) (by omega) ?_
                      refine x_iinc h dX7_sheet_106 rfl rfl rfl ?_
                      dsimp only [xset]
                      refine x_goto h dX7_sheet_109 (tgt := 86) (by decide) ?_
                      exact x_same ihk rfl rfl (by rw [up_upr, zrC_s])
              · refine x_aload_n h dX7_sheet_54 rfl ?_
                refine x_ldc h m_k_X7_76 dX7_sheet_55 ?_
                refine x_V1i h dX7_sheet_57 m_ml_X7_101 m_im_X7_finding m_se_X7_finding (sM0 hm) rfl (by decide) rfl (c_X7_finding hm (by omega)) ?_
                exact x_iret (ret := none) h he dX7_sheet_60 rfl (by unfold nshR shGd; (repeat' split) <;> first | rfl | omega) (by unfold nshM shGd; (repeat' split) <;> first | rfl | (exfalso; omega))
            · refine x_aload_n h dX7_sheet_40 rfl ?_
              refine x_ldcw h m_k_X7_378 dX7_sheet_41 ?_
              refine x_V1i h dX7_sheet_44 m_ml_X7_101 m_im_X7_finding m_se_X7_finding (sM0 hm) rfl (by decide) rfl (c_X7_finding hm (by omega)) ?_
              exact x_iret (ret := none) h he dX7_sheet_47 rfl (by unfold nshR shGd; (repeat' split) <;> first | rfl | omega) (by unfold nshM shGd; (repeat' split) <;> first | rfl | (exfalso; omega))
          · refine x_aload_n h dX7_sheet_29 rfl ?_
            refine x_ldc h m_k_X7_76 dX7_sheet_30 ?_
            refine x_V1i h dX7_sheet_32 m_ml_X7_101 m_im_X7_finding m_se_X7_finding (sM0 hm) rfl (by decide) rfl (c_X7_finding hm (by omega)) ?_
            exact x_iret (ret := none) h he dX7_sheet_35 rfl (by unfold nshR shGd; (repeat' split) <;> first | rfl | omega) (by unfold nshM shGd; (repeat' split) <;> first | rfl | (exfalso; omega))

theorem dX7_write_0 : decode cX7_write 0 = .ok (.iload_n 1, 1) := by decide +kernel
theorem dX7_write_1 : decode cX7_write 1 = .ok (.invokestatic 280, 3) := by decide +kernel
theorem dX7_write_4 : decode cX7_write 4 = .ok (.ifCond .ne 10, 3) := by decide +kernel
theorem dX7_write_7 : decode cX7_write 7 = .ok (.aload_n 0, 1) := by decide +kernel
theorem dX7_write_8 : decode cX7_write 8 = .ok (.ldc 76, 2) := by decide +kernel
theorem dX7_write_10 : decode cX7_write 10 = .ok (.invokevirtual 101, 3) := by decide +kernel
theorem dX7_write_13 : decode cX7_write 13 = .ok (.ireturn, 1) := by decide +kernel
theorem dX7_write_14 : decode cX7_write 14 = .ok (.aload_n 0, 1) := by decide +kernel
theorem dX7_write_15 : decode cX7_write 15 = .ok (.getfield 60, 3) := by decide +kernel
theorem dX7_write_18 : decode cX7_write 18 = .ok (.iload_n 1, 1) := by decide +kernel
theorem dX7_write_19 : decode cX7_write 19 = .ok (.iaload, 1) := by decide +kernel
theorem dX7_write_20 : decode cX7_write 20 = .ok (.ifCond .ne 11, 3) := by decide +kernel
theorem dX7_write_23 : decode cX7_write 23 = .ok (.aload_n 0, 1) := by decide +kernel
theorem dX7_write_24 : decode cX7_write 24 = .ok (.ldc_w 283, 3) := by decide +kernel
theorem dX7_write_27 : decode cX7_write 27 = .ok (.invokevirtual 101, 3) := by decide +kernel
theorem dX7_write_30 : decode cX7_write 30 = .ok (.ireturn, 1) := by decide +kernel
theorem dX7_write_31 : decode cX7_write 31 = .ok (.iload_n 2, 1) := by decide +kernel
theorem dX7_write_32 : decode cX7_write 32 = .ok (.iconst 0, 1) := by decide +kernel
theorem dX7_write_33 : decode cX7_write 33 = .ok (.aload_n 0, 1) := by decide +kernel
theorem dX7_write_34 : decode cX7_write 34 = .ok (.getfield 63, 3) := by decide +kernel
theorem dX7_write_37 : decode cX7_write 37 = .ok (.iload_n 1, 1) := by decide +kernel
theorem dX7_write_38 : decode cX7_write 38 = .ok (.iaload, 1) := by decide +kernel
theorem dX7_write_39 : decode cX7_write 39 = .ok (.iconst 1, 1) := by decide +kernel
theorem dX7_write_40 : decode cX7_write 40 = .ok (.isub, 1) := by decide +kernel
theorem dX7_write_41 : decode cX7_write 41 = .ok (.invokestatic 81, 3) := by decide +kernel
theorem dX7_write_44 : decode cX7_write 44 = .ok (.ifCond .ne 10, 3) := by decide +kernel
theorem dX7_write_47 : decode cX7_write 47 = .ok (.aload_n 0, 1) := by decide +kernel
theorem dX7_write_48 : decode cX7_write 48 = .ok (.ldc 76, 2) := by decide +kernel
theorem dX7_write_50 : decode cX7_write 50 = .ok (.invokevirtual 101, 3) := by decide +kernel
theorem dX7_write_53 : decode cX7_write 53 = .ok (.ireturn, 1) := by decide +kernel
theorem dX7_write_54 : decode cX7_write 54 = .ok (.aload_n 0, 1) := by decide +kernel
theorem dX7_write_55 : decode cX7_write 55 = .ok (.getfield 66, 3) := by decide +kernel
theorem dX7_write_58 : decode cX7_write 58 = .ok (.bipush 40, 2) := by decide +kernel
theorem dX7_write_60 : decode cX7_write 60 = .ok (.iload_n 1, 1) := by decide +kernel
theorem dX7_write_61 : decode cX7_write 61 = .ok (.imul, 1) := by decide +kernel
theorem dX7_write_62 : decode cX7_write 62 = .ok (.iload_n 2, 1) := by decide +kernel
theorem dX7_write_63 : decode cX7_write 63 = .ok (.iadd, 1) := by decide +kernel
theorem dX7_write_64 : decode cX7_write 64 = .ok (.iload_n 3, 1) := by decide +kernel
theorem dX7_write_65 : decode cX7_write 65 = .ok (.aload_n 0, 1) := by decide +kernel
theorem dX7_write_66 : decode cX7_write 66 = .ok (.getfield 60, 3) := by decide +kernel
theorem dX7_write_69 : decode cX7_write 69 = .ok (.iload_n 1, 1) := by decide +kernel
theorem dX7_write_70 : decode cX7_write 70 = .ok (.iaload, 1) := by decide +kernel
theorem dX7_write_71 : decode cX7_write 71 = .ok (.invokestatic 379, 3) := by decide +kernel
theorem dX7_write_74 : decode cX7_write 74 = .ok (.iastore, 1) := by decide +kernel
theorem dX7_write_75 : decode cX7_write 75 = .ok (.iconst 1, 1) := by decide +kernel
theorem dX7_write_76 : decode cX7_write 76 = .ok (.ireturn, 1) := by decide +kernel
set_option maxHeartbeats 800000 in
set_option maxRecDepth 100000 in
theorem c_X7_write {l : Launch} {ω : xO} {ks : Nat → Option Nat} (hm : xsh ω = mdS ks) {s i v : Int} {M : xMem} (hz : ∀ t, 0 ≤ t → t < 4 → 0 ≤ M 13 t ∧ M 13 t ≤ 40) (hs : inR s) (hi : inR i) (hv : inR v) : Ct l ω yX7_write ({ frames := 2, cells := 0, slots := 0, locals := 42 } : Room) 4 3 [.ref (xad ω 0), .int (iI s), .int (iI i), .int (iI v)] M (some (.int (iI (nwrR M s i)))) (nwrM M s i v) := by
  refine Ct.of (bytes := cX7_write) (ret := (some .int)) (lv0 := [some (.ref (xad ω 0)), some (.int (iI s)), some (.int (iI i)), some (.int (iI v))]) m_cd_X7_write m_in_X7 (by decide +kernel) (by decide +kernel) rfl rfl rfl rfl (fun hR => by unfold nwrM; (repeat' split) <;> first | exact fnM_R hR | exact up_R hR (lwF_R1 hv)) ?_
  intro κ h he hR
  have hzs := hz s
  have r12 : inR (M 12 s) := hR 12 s
  refine x_iload_n h dX7_write_0 rfl ?_
  refine x_S1i h dX7_write_1 m_ml_X7_280 m_st_X7_isSheet (by decide) rfl (c_X7_isSheet hm (by omega)) ?_
  refine x_ifneB h dX7_write_4 (tgt := 14) (by decide) (fun q4 => ?_) (fun q4 => ?_)
  · refine x_aload_n h dX7_write_14 rfl ?_
    refine x_getr (j := 26) (q := 12) h dX7_write_15 (sM0 hm) rfl in_X7 rfl (by decide) m_fl_X7_60 ?_
    refine x_iload_n h dX7_write_18 rfl ?_
    refine x_iaload h dX7_write_19 (sM12 hm) (by omega) (fun r19 => ?_)
    refine x_if_ne h dX7_write_20 (tgt := 31) (by decide) (by omega) (fun q20 => ?_) (fun q20 => ?_)
    · refine x_iload_n h dX7_write_31 rfl ?_
      refine x_iconst h dX7_write_32 ?_
      refine x_aload_n h dX7_write_33 rfl ?_
      refine x_getr (j := 27) (q := 13) h dX7_write_34 (sM0 hm) rfl in_X7 rfl (by decide) m_fl_X7_63 ?_
      refine x_iload_n h dX7_write_37 rfl ?_
      refine x_iaload h dX7_write_38 (sM13 hm) (by omega) (fun r38 => ?_)
      refine x_iconst h dX7_write_39 ?_
      refine x_isub h dX7_write_40 ?_
      refine x_S3i h dX7_write_41 m_ml_X7_81 m_st_X7_within (by decide) rfl (c_X7_within hm (by omega) (by omega) (by omega)) ?_
      refine x_ifneB h dX7_write_44 (tgt := 54) (by decide) (fun q44 => ?_) (fun q44 => ?_)
      · refine x_aload_n h dX7_write_54 rfl ?_
        refine x_getr (j := 28) (q := 14) h dX7_write_55 (sM0 hm) rfl in_X7 rfl (by decide) m_fl_X7_66 ?_
        refine x_bipush h dX7_write_58 (by decide) ?_
        refine x_iload_n h dX7_write_60 rfl ?_
        refine x_imul h dX7_write_61 ?_
        refine x_iload_n h dX7_write_62 rfl ?_
        refine x_iadd h dX7_write_63 ?_
        refine x_iload_n h dX7_write_64 rfl ?_
        refine x_aload_n h dX7_write_65 rfl ?_
        refine x_getr (j := 26) (q := 12) h dX7_write_66 (sM0 hm) rfl in_X7 rfl (by decide) m_fl_X7_60 ?_
        refine x_iload_n h dX7_write_69 rfl ?_
        refine x_iaload h dX7_write_70 (sM12 hm) (by omega) (fun r70 => ?_)
        refine x_S2i h dX7_write_71 m_ml_X7_379 m_st_X7_cutTo (by decide) rfl (c_X7_cutTo hm (by first | omega | (simp only [ca_1]; omega)) (by first | omega | (simp only [ca_1]; omega))) ?_
        refine x_iastore h dX7_write_74 (sM14 hm) (by omega) (lwF_R1 hv) ?_
        refine x_iconst h dX7_write_75 ?_
        exact x_iret (ret := none) h he dX7_write_76 rfl (by unfold nwrR; (repeat' split) <;> first | rfl | omega) (by unfold nwrM; (repeat' split) <;> first | rfl | (exfalso; omega))
      · refine x_aload_n h dX7_write_47 rfl ?_
        refine x_ldc h m_k_X7_76 dX7_write_48 ?_
        refine x_V1i h dX7_write_50 m_ml_X7_101 m_im_X7_finding m_se_X7_finding (sM0 hm) rfl (by decide) rfl (c_X7_finding hm (by omega)) ?_
        exact x_iret (ret := none) h he dX7_write_53 rfl (by unfold nwrR; (repeat' split) <;> first | rfl | omega) (by unfold nwrM; (repeat' split) <;> first | rfl | (exfalso; omega))
    · refine x_aload_n h dX7_write_23 rfl ?_
      refine x_ldcw h m_k_X7_283 dX7_write_24 ?_
      refine x_V1i h dX7_write_27 m_ml_X7_101 m_im_X7_finding m_se_X7_finding (sM0 hm) rfl (by decide) rfl (c_X7_finding hm (by omega)) ?_
      exact x_iret (ret := none) h he dX7_write_30 rfl (by unfold nwrR; (repeat' split) <;> first | rfl | omega) (by unfold nwrM; (repeat' split) <;> first | rfl | (exfalso; omega))
  · refine x_aload_n h dX7_write_7 rfl ?_
    refine x_ldc h m_k_X7_76 dX7_write_8 ?_
    refine x_V1i h dX7_write_10 m_ml_X7_101 m_im_X7_finding m_se_X7_finding (sM0 hm) rfl (by decide) rfl (c_X7_finding hm (by omega)) ?_
    exact x_iret (ret := none) h he dX7_write_13 rfl (by unfold nwrR; (repeat' split) <;> first | rfl | omega) (by unfold nwrM; (repeat' split) <;> first | rfl | (exfalso; omega))
