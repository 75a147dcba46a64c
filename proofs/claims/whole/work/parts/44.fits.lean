/-! the reference: fits, who; draws, tape, spots, images, status -/
theorem wfN_R (M : xMem) (s p n : Int) {k : Nat} (hk : k ≤ 8) : 0 ≤ wfN M s p n k ∧ wfN M s p n k < 256 :=
  (set_fold (P := fun m => m ≠ p ∧ tgdN (teN M p m n) s p) (fun _ => Classical.propDecidable _) hk).1
abbrev fiGd (M : xMem) (p v : Int) : Prop := (0 ≤ p ∧ p < M 1 1) ∧ 0 ≤ v ∧ v ≤ 99
noncomputable def nftR (M : xMem) (s p v b : Int) : Int := if 0 ≤ s ∧ s ≤ 3 then (if M 12 s = 0 then -1000006 else if fiGd M p v then (if b = 0 then pc8 (wfN M s p v (M 1 1).toNat) else wfN M s p v (M 1 1).toNat) else -1000001) else -1000001
noncomputable def nftM (M : xMem) (s p v : Int) : xMem := if 0 ≤ s ∧ s ≤ 3 then (if M 12 s = 0 then fnM M (-1000006) else if fiGd M p v then M else fnM M (-1000001)) else fnM M (-1000001)
theorem QuW.rf {M : xMem} (h : Fc M) : QuW M M := (QuE.rf h).w
def ndN (M : xMem) : Int := wr (M 1 2 * 1103515245 + 12345)
def nhoR (M : xMem) (i p : Int) : Int := if (0 ≤ i ∧ i ≤ 9) ∧ (p = -1 ∨ (0 ≤ p ∧ p < M 1 1)) then 1 else -1000001
def nhoM (M : xMem) (i p : Int) : xMem := if (0 ≤ i ∧ i ≤ 9) ∧ (p = -1 ∨ (0 ≤ p ∧ p < M 1 1)) then up M 1 (3 + i) p else fnM M (-1000001)
noncomputable def nasR (M : xMem) (i k : Int) : Int := if (0 ≤ i ∧ i ≤ 9) ∧ 0 ≤ k ∧ k ≤ 6 then (if M 1 (3 + i) < 0 then -1000006 else tI (unF (dpF (M 1 (113 + 8 * M 1 (3 + i) + 0))) (M 1 (113 + 8 * M 1 (3 + i) + 0)) k) (M 1 (3 + i)) (-1000003)) else -1000001
noncomputable def nasM (M : xMem) (i k : Int) : xMem := if (0 ≤ i ∧ i ≤ 9) ∧ 0 ≤ k ∧ k ≤ 6 then (if M 1 (3 + i) < 0 then fnM M (-1000006) else tI (unF (dpF (M 1 (113 + 8 * M 1 (3 + i) + 0))) (M 1 (113 + 8 * M 1 (3 + i) + 0)) k) M (fnM M (-1000003))) else fnM M (-1000001)
def nunR (M : xMem) : Int := if M 0 3 = 0 then -1000004 else M 2 0
def nunM (M : xMem) : xMem := if M 0 3 = 0 then fnM M (-1000004) else up (cyM M 2 1) 0 6 0
def nstR (M : xMem) (x : Int) : Int := if -1 ≤ x ∧ x ≤ 6 then M 4 (x + 1) else -1000001
def nstM (M : xMem) (x : Int) : xMem := if -1 ≤ x ∧ x ≤ 6 then M else fnM M (-1000001)
theorem dX7_fitsTold_0 : decode cX7_fitsTold 0 = .ok (.iload_n 1, 1) := by decide +kernel
theorem dX7_fitsTold_1 : decode cX7_fitsTold 1 = .ok (.invokestatic 280, 3) := by decide +kernel
theorem dX7_fitsTold_4 : decode cX7_fitsTold 4 = .ok (.ifCond .ne 10, 3) := by decide +kernel
theorem dX7_fitsTold_7 : decode cX7_fitsTold 7 = .ok (.aload_n 0, 1) := by decide +kernel
theorem dX7_fitsTold_8 : decode cX7_fitsTold 8 = .ok (.ldc 76, 2) := by decide +kernel
theorem dX7_fitsTold_10 : decode cX7_fitsTold 10 = .ok (.invokevirtual 101, 3) := by decide +kernel
theorem dX7_fitsTold_13 : decode cX7_fitsTold 13 = .ok (.ireturn, 1) := by decide +kernel
theorem dX7_fitsTold_14 : decode cX7_fitsTold 14 = .ok (.aload_n 0, 1) := by decide +kernel
theorem dX7_fitsTold_15 : decode cX7_fitsTold 15 = .ok (.getfield 60, 3) := by decide +kernel
theorem dX7_fitsTold_18 : decode cX7_fitsTold 18 = .ok (.iload_n 1, 1) := by decide +kernel
theorem dX7_fitsTold_19 : decode cX7_fitsTold 19 = .ok (.iaload, 1) := by decide +kernel
theorem dX7_fitsTold_20 : decode cX7_fitsTold 20 = .ok (.ifCond .ne 11, 3) := by decide +kernel
theorem dX7_fitsTold_23 : decode cX7_fitsTold 23 = .ok (.aload_n 0, 1) := by decide +kernel
theorem dX7_fitsTold_24 : decode cX7_fitsTold 24 = .ok (.ldc_w 283, 3) := by decide +kernel
theorem dX7_fitsTold_27 : decode cX7_fitsTold 27 = .ok (.invokevirtual 101, 3) := by decide +kernel
theorem dX7_fitsTold_30 : decode cX7_fitsTold 30 = .ok (.ireturn, 1) := by decide +kernel
theorem dX7_fitsTold_31 : decode cX7_fitsTold 31 = .ok (.aload_n 0, 1) := by decide +kernel
theorem dX7_fitsTold_32 : decode cX7_fitsTold 32 = .ok (.iload_n 2, 1) := by decide +kernel
theorem dX7_fitsTold_33 : decode cX7_fitsTold 33 = .ok (.invokevirtual 148, 3) := by decide +kernel
theorem dX7_fitsTold_36 : decode cX7_fitsTold 36 = .ok (.ifCond .eq 13, 3) := by decide +kernel
theorem dX7_fitsTold_39 : decode cX7_fitsTold 39 = .ok (.iload_n 3, 1) := by decide +kernel
theorem dX7_fitsTold_40 : decode cX7_fitsTold 40 = .ok (.iconst 0, 1) := by decide +kernel
theorem dX7_fitsTold_41 : decode cX7_fitsTold 41 = .ok (.bipush 99, 2) := by decide +kernel
theorem dX7_fitsTold_43 : decode cX7_fitsTold 43 = .ok (.invokestatic 81, 3) := by decide +kernel
theorem dX7_fitsTold_46 : decode cX7_fitsTold 46 = .ok (.ifCond .ne 10, 3) := by decide +kernel
theorem dX7_fitsTold_49 : decode cX7_fitsTold 49 = .ok (.aload_n 0, 1) := by decide +kernel
theorem dX7_fitsTold_50 : decode cX7_fitsTold 50 = .ok (.ldc 76, 2) := by decide +kernel
theorem dX7_fitsTold_52 : decode cX7_fitsTold 52 = .ok (.invokevirtual 101, 3) := by decide +kernel
theorem dX7_fitsTold_55 : decode cX7_fitsTold 55 = .ok (.ireturn, 1) := by decide +kernel
theorem dX7_fitsTold_56 : decode cX7_fitsTold 56 = .ok (.aload_n 0, 1) := by decide +kernel
theorem dX7_fitsTold_57 : decode cX7_fitsTold 57 = .ok (.iload_n 1, 1) := by decide +kernel
theorem dX7_fitsTold_58 : decode cX7_fitsTold 58 = .ok (.iload_n 2, 1) := by decide +kernel
theorem dX7_fitsTold_59 : decode cX7_fitsTold 59 = .ok (.iload_n 3, 1) := by decide +kernel
theorem dX7_fitsTold_60 : decode cX7_fitsTold 60 = .ok (.invokevirtual 284, 3) := by decide +kernel
theorem dX7_fitsTold_63 : decode cX7_fitsTold 63 = .ok (.istore 5, 2) := by decide +kernel
theorem dX7_fitsTold_65 : decode cX7_fitsTold 65 = .ok (.iload 4, 2) := by decide +kernel
theorem dX7_fitsTold_67 : decode cX7_fitsTold 67 = .ok (.ifCond .eq 8, 3) := by decide +kernel
theorem dX7_fitsTold_70 : decode cX7_fitsTold 70 = .ok (.iload 5, 2) := by decide +kernel
theorem dX7_fitsTold_72 : decode cX7_fitsTold 72 = .ok (.goto 8, 3) := by decide +kernel
theorem dX7_fitsTold_75 : decode cX7_fitsTold 75 = .ok (.iload 5, 2) := by decide +kernel
theorem dX7_fitsTold_77 : decode cX7_fitsTold 77 = .ok (.invokestatic 253, 3) := by decide +kernel
theorem dX7_fitsTold_80 : decode cX7_fitsTold 80 = .ok (.ireturn, 1) := by decide +kernel
set_option maxHeartbeats 800000 in
set_option maxRecDepth 100000 in
theorem c_X7_fitsTold {l : Launch} {ω : xO} {ks : Nat → Option Nat} (hm : xsh ω = mdS ks) {s p v b : Int} {M : xMem} (hI : MInv M) (hf : Fc M) (hz : ∀ t, 0 ≤ t → t < 4 → 0 ≤ M 13 t ∧ M 13 t ≤ 40) (hs : inR s) (hp : inR p) (hv : inR v) (hb : b = 0 ∨ b = 1) (hcl : M 1 0 ≤ 1000000) : Cq l ω yX7_fitsTold ({ frames := 9, cells := 0, slots := 0, locals := 205 } : Room) 6 4 [.ref (xad ω 0), .int (iI s), .int (iI p), .int (iI v), .int (iI b)] M (pI1 (fun r N' => r = nftR M s p v b ∧ QuW (nftM M s p v) N')) := by
  refine Cq.of (bytes := cX7_fitsTold) (ret := (some .int)) (lv0 := [some (.ref (xad ω 0)), some (.int (iI s)), some (.int (iI p)), some (.int (iI v)), some (.int (iI b)), none]) m_cd_X7_fitsTold m_in_X7 (by decide +kernel) (by decide +kernel) rfl rfl rfl rfl ?_
  intro κ h he hR
  have hn := hI.1
  have hw := wfN_R M s p v (k := (M 1 1).toNat) (by omega)
  have hzs := hz s
  have r12 : inR (M 12 s) := hR 12 s
  refine x_iload_n h dX7_fitsTold_0 rfl ?_
  refine x_S1i h dX7_fitsTold_1 m_ml_X7_280 m_st_X7_isSheet (by decide) rfl (c_X7_isSheet hm (by omega)) ?_
  refine x_ifneB h dX7_fitsTold_4 (tgt := 14) (by decide) (fun q4 => ?_) (fun q4 => ?_)
  · refine x_aload_n h dX7_fitsTold_14 rfl ?_
    refine x_getr (j := 26) (q := 12) h dX7_fitsTold_15 (sM0 hm) rfl in_X7 rfl (by decide) m_fl_X7_60 ?_
    refine x_iload_n h dX7_fitsTold_18 rfl ?_
    refine x_iaload h dX7_fitsTold_19 (sM12 hm) (by omega) (fun r19 => ?_)
    refine x_if_ne h dX7_fitsTold_20 (tgt := 31) (by decide) (by omega) (fun q20 => ?_) (fun q20 => ?_)
    · refine x_aload_n h dX7_fitsTold_31 rfl ?_
      refine x_iload_n h dX7_fitsTold_32 rfl ?_
      refine x_V1i h dX7_fitsTold_33 m_ml_X7_148 m_im_X7_isPerson m_se_X7_isPerson (sM0 hm) rfl (by decide) rfl (c_X7_isPerson hm (by omega) (by omega)) ?_
      refine x_ifeqB h dX7_fitsTold_36 (tgt := 49) (by decide) (fun q36 => ?_) (fun q36 => ?_)
      · refine x_aload_n h dX7_fitsTold_49 rfl ?_
        refine x_ldc h m_k_X7_76 dX7_fitsTold_50 ?_
        refine x_V1i h dX7_fitsTold_52 m_ml_X7_101 m_im_X7_finding m_se_X7_finding (sM0 hm) rfl (by decide) rfl (c_X7_finding hm (by omega)) ?_
        exact x_iretq h he dX7_fitsTold_55 ⟨by unfold nftR; first | rw [if_neg (by omega)] | rw [if_pos (by omega), if_pos (by omega)] | rw [if_pos (by omega), if_neg (by omega), if_neg (by omega)] | rw [if_pos (by omega), if_neg (by omega), if_pos (by omega), if_pos (by omega)] | rw [if_pos (by omega), if_neg (by omega), if_pos (by omega), if_neg (by omega)], by unfold nftM; first | (rw [if_neg (by omega)]; exact (QuW.rf hf).fn) | (rw [if_pos (by omega), if_pos (by omega)]; exact (QuW.rf hf).fn) | (rw [if_pos (by omega), if_neg (by omega), if_pos (by omega)]; assumption) | (rw [if_pos (by omega), if_neg (by omega), if_neg (by omega)]; exact (QuW.rf hf).fn)⟩
      · refine x_iload_n h dX7_fitsTold_39 rfl ?_
        refine x_iconst h dX7_fitsTold_40 ?_
        refine x_bipush h dX7_fitsTold_41 (by decide) ?_
        refine x_S3i h dX7_fitsTold_43 m_ml_X7_81 m_st_X7_within (by decide) rfl (c_X7_within hm (by omega) (by omega) (by omega)) ?_
        refine x_ifneB h dX7_fitsTold_46 (tgt := 56) (by decide) (fun q46 => ?_) (fun q46 => ?_)
        · refine x_aload_n h dX7_fitsTold_56 rfl ?_
          refine x_iload_n h dX7_fitsTold_57 rfl ?_
          refine x_iload_n h dX7_fitsTold_58 rfl ?_
          refine x_iload_n h dX7_fitsTold_59 rfl ?_
          refine x_Q3i h dX7_fitsTold_60 m_ml_X7_284 m_im_X7_whoFits m_se_X7_whoFits (sM0 hm) rfl (by decide) rfl (c_X7_whoFits hm (by exact hI) (by assumption) (by first | omega | (simp only [ca_1]; omega)) (by first | omega | (simp only [ca_1]; omega)) (by first | omega | (simp only [ca_1]; omega)) (by first | omega | (simp only [ca_1]; omega)) (by first | omega | (simp only [ca_1]; omega))) (fun r60 N60 h60 => ?_)
          obtain ⟨rfl, hQ60⟩ := h60
          refine x_istore h dX7_fitsTold_63 rfl rfl ?_
          dsimp only [xset]
          refine x_iload h dX7_fitsTold_65 rfl ?_
          refine x_if_eq h dX7_fitsTold_67 (tgt := 75) (by decide) (by omega) (fun q67 => ?_) (fun q67 => ?_)
          · refine x_iload h dX7_fitsTold_75 rfl ?_
            refine x_S1i h dX7_fitsTold_77 m_ml_X7_253 m_st_X7_bits (by decide) rfl (c_X7_bits hm (by omega)) ?_
            try simp only [ca_ca, ca_1, dN_ca, wyM_ca, plN_ca, rpN_ca, ltN_ca, pmN_ca, wnN_ca, nbN_ca, ca_07, ca_08, ca_09, ca_010, beN_ca, ctN_ca, gonN_ca, mvN_ca, stN_ca, thN_ca, fnM_ca, tiN_ca, smN_ca, frN_ca, teN_ca, apN_ca, ca_13, ca_14]
            exact x_iretq h he dX7_fitsTold_80 ⟨by unfold nftR; first | rw [if_neg (by omega)] | rw [if_pos (by omega), if_pos (by omega)] | rw [if_pos (by omega), if_neg (by omega), if_neg (by omega)] | rw [if_pos (by omega), if_neg (by omega), if_pos (by omega), if_pos (by omega)] | rw [if_pos (by omega), if_neg (by omega), if_pos (by omega), if_neg (by omega)], by unfold nftM; first | (rw [if_neg (by omega)]; exact (QuW.rf hf).fn) | (rw [if_pos (by omega), if_pos (by omega)]; exact (QuW.rf hf).fn) | (rw [if_pos (by omega), if_neg (by omega), if_pos (by omega)]; assumption) | (rw [if_pos (by omega), if_neg (by omega), if_neg (by omega)]; exact (QuW.rf hf).fn)⟩
          · refine x_iload h dX7_fitsTold_70 rfl ?_
            refine x_goto h dX7_fitsTold_72 (tgt := 80) (by decide) ?_
            exact x_iretq h he dX7_fitsTold_80 ⟨by unfold nftR; first | rw [if_neg (by omega)] | rw [if_pos (by omega), if_pos (by omega)] | rw [if_pos (by omega), if_neg (by omega), if_neg (by omega)] | rw [if_pos (by omega), if_neg (by omega), if_pos (by omega), if_pos (by omega)] | rw [if_pos (by omega), if_neg (by omega), if_pos (by omega), if_neg (by omega)], by unfold nftM; first | (rw [if_neg (by omega)]; exact (QuW.rf hf).fn) | (rw [if_pos (by omega), if_pos (by omega)]; exact (QuW.rf hf).fn) | (rw [if_pos (by omega), if_neg (by omega), if_pos (by omega)]; assumption) | (rw [if_pos (by omega), if_neg (by omega), if_neg (by omega)]; exact (QuW.rf hf).fn)⟩
        · refine x_aload_n h dX7_fitsTold_49 rfl ?_
          refine x_ldc h m_k_X7_76 dX7_fitsTold_50 ?_
          refine x_V1i h dX7_fitsTold_52 m_ml_X7_101 m_im_X7_finding m_se_X7_finding (sM0 hm) rfl (by decide) rfl (c_X7_finding hm (by omega)) ?_
          try simp only [ca_ca, ca_1, dN_ca, wyM_ca, plN_ca, rpN_ca, ltN_ca, pmN_ca, wnN_ca, nbN_ca, ca_07, ca_08, ca_09, ca_010, beN_ca, ctN_ca, gonN_ca, mvN_ca, stN_ca, thN_ca, fnM_ca, tiN_ca, smN_ca, frN_ca, teN_ca, apN_ca, ca_13, ca_14]
          exact x_iretq h he dX7_fitsTold_55 ⟨by unfold nftR; first | rw [if_neg (by omega)] | rw [if_pos (by omega), if_pos (by omega)] | rw [if_pos (by omega), if_neg (by omega), if_neg (by omega)] | rw [if_pos (by omega), if_neg (by omega), if_pos (by omega), if_pos (by omega)] | rw [if_pos (by omega), if_neg (by omega), if_pos (by omega), if_neg (by omega)], by unfold nftM; first | (rw [if_neg (by omega)]; exact (QuW.rf hf).fn) | (rw [if_pos (by omega), if_pos (by omega)]; exact (QuW.rf hf).fn) | (rw [if_pos (by omega), if_neg (by omega), if_pos (by omega)]; assumption) | (rw [if_pos (by omega), if_neg (by omega), if_neg (by omega)]; exact (QuW.rf hf).fn)⟩
    · refine x_aload_n h dX7_fitsTold_23 rfl ?_
      refine x_ldcw h m_k_X7_283 dX7_fitsTold_24 ?_
      refine x_V1i h dX7_fitsTold_27 m_ml_X7_101 m_im_X7_finding m_se_X7_finding (sM0 hm) rfl (by decide) rfl (c_X7_finding hm (by omega)) ?_
      try simp only [ca_ca, ca_1, dN_ca, wyM_ca, plN_ca, rpN_ca, ltN_ca, pmN_ca, wnN_ca, nbN_ca, ca_07, ca_08, ca_09, ca_010, beN_ca, ctN_ca, gonN_ca, mvN_ca, stN_ca, thN_ca, fnM_ca, tiN_ca, smN_ca, frN_ca, teN_ca, apN_ca, ca_13, ca_14]
      exact x_iretq h he dX7_fitsTold_30 ⟨by unfold nftR; first | rw [if_neg (by omega)] | rw [if_pos (by omega), if_pos (by omega)] | rw [if_pos (by omega), if_neg (by omega), if_neg (by omega)] | rw [if_pos (by omega), if_neg (by omega), if_pos (by omega), if_pos (by omega)] | rw [if_pos (by omega), if_neg (by omega), if_pos (by omega), if_neg (by omega)], by unfold nftM; first | (rw [if_neg (by omega)]; exact (QuW.rf hf).fn) | (rw [if_pos (by omega), if_pos (by omega)]; exact (QuW.rf hf).fn) | (rw [if_pos (by omega), if_neg (by omega), if_pos (by omega)]; assumption) | (rw [if_pos (by omega), if_neg (by omega), if_neg (by omega)]; exact (QuW.rf hf).fn)⟩
  · refine x_aload_n h dX7_fitsTold_7 rfl ?_
    refine x_ldc h m_k_X7_76 dX7_fitsTold_8 ?_
    refine x_V1i h dX7_fitsTold_10 m_ml_X7_101 m_im_X7_finding m_se_X7_finding (sM0 hm) rfl (by decide) rfl (c_X7_finding hm (by omega)) ?_
    try simp only [ca_ca, ca_1, dN_ca, wyM_ca, plN_ca, rpN_ca, ltN_ca, pmN_ca, wnN_ca, nbN_ca, ca_07, ca_08, ca_09, ca_010, beN_ca, ctN_ca, gonN_ca, mvN_ca, stN_ca, thN_ca, fnM_ca, tiN_ca, smN_ca, frN_ca, teN_ca, apN_ca, ca_13, ca_14]
    exact x_iretq h he dX7_fitsTold_13 ⟨by unfold nftR; first | rw [if_neg (by omega)] | rw [if_pos (by omega), if_pos (by omega)] | rw [if_pos (by omega), if_neg (by omega), if_neg (by omega)] | rw [if_pos (by omega), if_neg (by omega), if_pos (by omega), if_pos (by omega)] | rw [if_pos (by omega), if_neg (by omega), if_pos (by omega), if_neg (by omega)], by unfold nftM; first | (rw [if_neg (by omega)]; exact (QuW.rf hf).fn) | (rw [if_pos (by omega), if_pos (by omega)]; exact (QuW.rf hf).fn) | (rw [if_pos (by omega), if_neg (by omega), if_pos (by omega)]; assumption) | (rw [if_pos (by omega), if_neg (by omega), if_neg (by omega)]; exact (QuW.rf hf).fn)⟩

theorem dX7_fits_0 : decode cX7_fits 0 = .ok (.aload_n 0, 1) := by decide +kernel
theorem dX7_fits_1 : decode cX7_fits 1 = .ok (.iload_n 1, 1) := by decide +kernel
theorem dX7_fits_2 : decode cX7_fits 2 = .ok (.iload_n 2, 1) := by decide +kernel
theorem dX7_fits_3 : decode cX7_fits 3 = .ok (.iload_n 3, 1) := by decide +kernel
theorem dX7_fits_4 : decode cX7_fits 4 = .ok (.iconst 0, 1) := by decide +kernel
theorem dX7_fits_5 : decode cX7_fits 5 = .ok (.invokevirtual 287, 3) := by decide +kernel
theorem dX7_fits_8 : decode cX7_fits 8 = .ok (.ireturn, 1) := by decide +kernel
set_option maxHeartbeats 800000 in
set_option maxRecDepth 100000 in
theorem c_X7_fits {l : Launch} {ω : xO} {ks : Nat → Option Nat} (hm : xsh ω = mdS ks) {s p v : Int} {M : xMem} (hI : MInv M) (hf : Fc M) (hz : ∀ t, 0 ≤ t → t < 4 → 0 ≤ M 13 t ∧ M 13 t ≤ 40) (hs : inR s) (hp : inR p) (hv : inR v) (hcl : M 1 0 ≤ 1000000) : Cq l ω yX7_fits ({ frames := 10, cells := 0, slots := 0, locals := 230 } : Room) 4 3 [.ref (xad ω 0), .int (iI s), .int (iI p), .int (iI v)] M (pI1 (fun r N' => r = nftR M s p v 0 ∧ QuW (nftM M s p v) N')) := by
  refine Cq.of (bytes := cX7_fits) (ret := (some .int)) (lv0 := [some (.ref (xad ω 0)), some (.int (iI s)), some (.int (iI p)), some (.int (iI v))]) m_cd_X7_fits m_in_X7 (by decide +kernel) (by decide +kernel) rfl rfl rfl rfl ?_
  intro κ h he hR
  refine x_aload_n h dX7_fits_0 rfl ?_
  refine x_iload_n h dX7_fits_1 rfl ?_
  refine x_iload_n h dX7_fits_2 rfl ?_
  refine x_iload_n h dX7_fits_3 rfl ?_
  refine x_iconst h dX7_fits_4 ?_
  refine x_Q4i h dX7_fits_5 m_ml_X7_287 m_im_X7_fitsTold m_se_X7_fitsTold (sM0 hm) rfl (by decide) rfl (c_X7_fitsTold hm (by exact hI) (by assumption) hz (by first | omega | (simp only [ca_1]; omega)) (by first | omega | (simp only [ca_1]; omega)) (by first | omega | (simp only [ca_1]; omega)) (by omega) (by first | omega | (simp only [ca_1]; omega))) (fun r5 N5 h5 => ?_)
  obtain ⟨rfl, hQ5⟩ := h5
  exact x_iretq h he dX7_fits_8 ⟨rfl, by assumption⟩

theorem dX7_who_0 : decode cX7_who 0 = .ok (.aload_n 0, 1) := by decide +kernel
theorem dX7_who_1 : decode cX7_who 1 = .ok (.iload_n 1, 1) := by decide +kernel
theorem dX7_who_2 : decode cX7_who 2 = .ok (.iload_n 2, 1) := by decide +kernel
theorem dX7_who_3 : decode cX7_who 3 = .ok (.iload_n 3, 1) := by decide +kernel
theorem dX7_who_4 : decode cX7_who 4 = .ok (.iconst 1, 1) := by decide +kernel
theorem dX7_who_5 : decode cX7_who 5 = .ok (.invokevirtual 287, 3) := by decide +kernel
theorem dX7_who_8 : decode cX7_who 8 = .ok (.ireturn, 1) := by decide +kernel
set_option maxHeartbeats 800000 in
set_option maxRecDepth 100000 in
theorem c_X7_who {l : Launch} {ω : xO} {ks : Nat → Option Nat} (hm : xsh ω = mdS ks) {s p v : Int} {M : xMem} (hI : MInv M) (hf : Fc M) (hz : ∀ t, 0 ≤ t → t < 4 → 0 ≤ M 13 t ∧ M 13 t ≤ 40) (hs : inR s) (hp : inR p) (hv : inR v) (hcl : M 1 0 ≤ 1000000) : Cq l ω yX7_who ({ frames := 10, cells := 0, slots := 0, locals := 230 } : Room) 4 3 [.ref (xad ω 0), .int (iI s), .int (iI p), .int (iI v)] M (pI1 (fun r N' => r = nftR M s p v 1 ∧ QuW (nftM M s p v) N')) := by
  refine Cq.of (bytes := cX7_who) (ret := (some .int)) (lv0 := [some (.ref (xad ω 0)), some (.int (iI s)), some (.int (iI p)), some (.int (iI v))]) m_cd_X7_who m_in_X7 (by decide +kernel) (by decide +kernel) rfl rfl rfl rfl ?_
  intro κ h he hR
  refine x_aload_n h dX7_who_0 rfl ?_
  refine x_iload_n h dX7_who_1 rfl ?_
  refine x_iload_n h dX7_who_2 rfl ?_
  refine x_iload_n h dX7_who_3 rfl ?_
  refine x_iconst h dX7_who_4 ?_
  refine x_Q4i h dX7_who_5 m_ml_X7_287 m_im_X7_fitsTold m_se_X7_fitsTold (sM0 hm) rfl (by decide) rfl (c_X7_fitsTold hm (by exact hI) (by assumption) hz (by first | omega | (simp only [ca_1]; omega)) (by first | omega | (simp only [ca_1]; omega)) (by first | omega | (simp only [ca_1]; omega)) (by omega) (by first | omega | (simp only [ca_1]; omega))) (fun r5 N5 h5 => ?_)
  obtain ⟨rfl, hQ5⟩ := h5
  exact x_iretq h he dX7_who_8 ⟨rfl, by assumption⟩

theorem dX7_drawn_0 : decode cX7_drawn 0 = .ok (.aload_n 0, 1) := by decide +kernel
theorem dX7_drawn_1 : decode cX7_drawn 1 = .ok (.getfield 9, 3) := by decide +kernel
theorem dX7_drawn_4 : decode cX7_drawn 4 = .ok (.iconst 2, 1) := by decide +kernel
theorem dX7_drawn_5 : decode cX7_drawn 5 = .ok (.aload_n 0, 1) := by decide +kernel
theorem dX7_drawn_6 : decode cX7_drawn 6 = .ok (.getfield 9, 3) := by decide +kernel
theorem dX7_drawn_9 : decode cX7_drawn 9 = .ok (.iconst 2, 1) := by decide +kernel
theorem dX7_drawn_10 : decode cX7_drawn 10 = .ok (.iaload, 1) := by decide +kernel
theorem dX7_drawn_11 : decode cX7_drawn 11 = .ok (.ldc_w 291, 3) := by decide +kernel
theorem dX7_drawn_14 : decode cX7_drawn 14 = .ok (.imul, 1) := by decide +kernel
theorem dX7_drawn_15 : decode cX7_drawn 15 = .ok (.sipush 12345, 3) := by decide +kernel
theorem dX7_drawn_18 : decode cX7_drawn 18 = .ok (.iadd, 1) := by decide +kernel
theorem dX7_drawn_19 : decode cX7_drawn 19 = .ok (.iastore, 1) := by decide +kernel
theorem dX7_drawn_20 : decode cX7_drawn 20 = .ok (.aload_n 0, 1) := by decide +kernel
theorem dX7_drawn_21 : decode cX7_drawn 21 = .ok (.getfield 9, 3) := by decide +kernel
theorem dX7_drawn_24 : decode cX7_drawn 24 = .ok (.iconst 2, 1) := by decide +kernel
theorem dX7_drawn_25 : decode cX7_drawn 25 = .ok (.iaload, 1) := by decide +kernel
theorem dX7_drawn_26 : decode cX7_drawn 26 = .ok (.bipush 8, 2) := by decide +kernel
theorem dX7_drawn_28 : decode cX7_drawn 28 = .ok (.iushr, 1) := by decide +kernel
theorem dX7_drawn_29 : decode cX7_drawn 29 = .ok (.iload_n 1, 1) := by decide +kernel
theorem dX7_drawn_30 : decode cX7_drawn 30 = .ok (.irem, 1) := by decide +kernel
theorem dX7_drawn_31 : decode cX7_drawn 31 = .ok (.ireturn, 1) := by decide +kernel
set_option maxHeartbeats 800000 in
set_option maxRecDepth 100000 in
theorem c_X7_drawn {l : Launch} {ω : xO} {ks : Nat → Option Nat} (hm : xsh ω = mdS ks) {c : Int} {M : xMem} (hc9 : 0 < c ∧ c ≤ 1000) : Ct l ω yX7_drawn ({ frames := 0, cells := 0, slots := 0, locals := 0 } : Room) 2 1 [.ref (xad ω 0), .int (iI c)] M (some (.int (iI (brem (bushr (ndN M) 8) c)))) (up M 1 2 (ndN M)) := by
  refine Ct.of (bytes := cX7_drawn) (ret := (some .int)) (lv0 := [some (.ref (xad ω 0)), some (.int (iI c))]) m_cd_X7_drawn m_in_X7 (by decide +kernel) (by decide +kernel) rfl rfl rfl rfl (fun hR => up_R hR (wr_R _)) ?_
  intro κ h he hR
  refine x_aload_n h dX7_drawn_0 rfl ?_
  refine x_getr (j := 0) (q := 1) h dX7_drawn_1 (sM0 hm) rfl in_X7 rfl (by decide) m_fl_X7_9 ?_
  refine x_iconst h dX7_drawn_4 ?_
  refine x_aload_n h dX7_drawn_5 rfl ?_
  refine x_getr (j := 0) (q := 1) h dX7_drawn_6 (sM0 hm) rfl in_X7 rfl (by decide) m_fl_X7_9 ?_
  refine x_iconst h dX7_drawn_9 ?_
  refine x_iaload h dX7_drawn_10 (sM1 hm) (by omega) (fun r10 => ?_)
  refine x_ldcw h m_k_X7_291 dX7_drawn_11 ?_
  refine x_imul h dX7_drawn_14 ?_
  refine x_sipush h dX7_drawn_15 (by decide) ?_
  refine x_iadd h dX7_drawn_18 ?_
  refine x_wr (fun r19 => ?_)
  refine x_iastore h dX7_drawn_19 (sM1 hm) (by omega) (wr_R _) ?_
  refine x_aload_n h dX7_drawn_20 rfl ?_
  refine x_getr (j := 0) (q := 1) h dX7_drawn_21 (sM0 hm) rfl in_X7 rfl (by decide) m_fl_X7_9 ?_
  refine x_iconst h dX7_drawn_24 ?_
  refine x_iaload h dX7_drawn_25 (sM1 hm) (by omega) (fun r25 => ?_)
  rw [up_ss]
  refine x_bipush h dX7_drawn_26 (by decide) ?_
  refine x_iushr h dX7_drawn_28 (fun r28 => ?_)
  refine x_iload_n h dX7_drawn_29 rfl ?_
  refine x_irem h dX7_drawn_30 (by omega) (fun r30 => ?_)
  exact x_iret (ret := none) h he dX7_drawn_31 rfl rfl rfl

theorem dX7_seed_0 : decode cX7_seed 0 = .ok (.aload_n 0, 1) := by decide +kernel
theorem dX7_seed_1 : decode cX7_seed 1 = .ok (.iconst 2, 1) := by decide +kernel
theorem dX7_seed_2 : decode cX7_seed 2 = .ok (.iload_n 1, 1) := by decide +kernel
theorem dX7_seed_3 : decode cX7_seed 3 = .ok (.invokevirtual 89, 3) := by decide +kernel
theorem dX7_seed_6 : decode cX7_seed 6 = .ok (.ireturn, 1) := by decide +kernel
set_option maxHeartbeats 800000 in
set_option maxRecDepth 100000 in
theorem c_X7_seed {l : Launch} {ω : xO} {ks : Nat → Option Nat} (hm : xsh ω = mdS ks) {v : Int} {M : xMem} (hv : inR v) : Ct l ω yX7_seed ({ frames := 1, cells := 0, slots := 0, locals := 23 } : Room) 2 1 [.ref (xad ω 0), .int (iI v)] M (some (.int (iI (M 1 2)))) (up M 1 2 v) := by
  refine Ct.of (bytes := cX7_seed) (ret := (some .int)) (lv0 := [some (.ref (xad ω 0)), some (.int (iI v))]) m_cd_X7_seed m_in_X7 (by decide +kernel) (by decide +kernel) rfl rfl rfl rfl (fun hR => up_R hR hv) ?_
  intro κ h he hR
  refine x_aload_n h dX7_seed_0 rfl ?_
  refine x_iconst h dX7_seed_1 ?_
  refine x_iload_n h dX7_seed_2 rfl ?_
  refine x_V2i h dX7_seed_3 m_ml_X7_89 m_im_X7_become m_se_X7_become (sM0 hm) rfl (by decide) rfl (c_X7_become hm (by omega) (by omega)) ?_
  exact x_iret (ret := none) h he dX7_seed_6 rfl rfl rfl

theorem dX7_wipe_0 : decode cX7_wipe 0 = .ok (.aload_n 0, 1) := by decide +kernel
theorem dX7_wipe_1 : decode cX7_wipe 1 = .ok (.getfield 295, 3) := by decide +kernel
theorem dX7_wipe_4 : decode cX7_wipe 4 = .ok (.istore_n 1, 1) := by decide +kernel
theorem dX7_wipe_5 : decode cX7_wipe 5 = .ok (.aload_n 0, 1) := by decide +kernel
theorem dX7_wipe_6 : decode cX7_wipe 6 = .ok (.iconst 0, 1) := by decide +kernel
theorem dX7_wipe_7 : decode cX7_wipe 7 = .ok (.putfield 295, 3) := by decide +kernel
theorem dX7_wipe_10 : decode cX7_wipe 10 = .ok (.iload_n 1, 1) := by decide +kernel
theorem dX7_wipe_11 : decode cX7_wipe 11 = .ok (.ireturn, 1) := by decide +kernel
set_option maxHeartbeats 800000 in
set_option maxRecDepth 100000 in
theorem c_X7_wipe {l : Launch} {ω : xO} {ks : Nat → Option Nat} (hm : xsh ω = mdS ks)  {M : xMem}  : Ct l ω yX7_wipe ({ frames := 0, cells := 0, slots := 0, locals := 0 } : Room) 2 0 [.ref (xad ω 0)] M (some (.int (iI (M 0 16)))) (up M 0 16 0) := by
  refine Ct.of (bytes := cX7_wipe) (ret := (some .int)) (lv0 := [some (.ref (xad ω 0)), none]) m_cd_X7_wipe m_in_X7 (by decide +kernel) (by decide +kernel) rfl rfl rfl rfl (fun hR => up_R hR (by decide)) ?_
  intro κ h he hR
  refine x_aload_n h dX7_wipe_0 rfl ?_
  refine x_geti (j := 16) 16 h dX7_wipe_1 (sM0 hm) rfl in_X7 rfl (by decide) m_fl_X7_295 rfl (fun r1 => ?_)
  refine x_istore_n h dX7_wipe_4 rfl rfl ?_
  dsimp only [xset]
  refine x_aload_n h dX7_wipe_5 rfl ?_
  refine x_iconst h dX7_wipe_6 ?_
  refine x_puti (j := 16) 16 h dX7_wipe_7 (sM0 hm) rfl in_X7 rfl (by decide) m_fl_X7_295 tyX7_ok nmX7 rfl (tyX7_ok 16 (by decide)) rfl rfl (by omega) rfl ?_
  refine x_iload_n h dX7_wipe_10 rfl ?_
  exact x_iret (ret := none) h he dX7_wipe_11 rfl rfl rfl

theorem dX7_hold_0 : decode cX7_hold 0 = .ok (.iload_n 1, 1) := by decide +kernel
theorem dX7_hold_1 : decode cX7_hold 1 = .ok (.invokestatic 371, 3) := by decide +kernel
theorem dX7_hold_4 : decode cX7_hold 4 = .ok (.ifCond .eq 16, 3) := by decide +kernel
theorem dX7_hold_7 : decode cX7_hold 7 = .ok (.iload_n 2, 1) := by decide +kernel
theorem dX7_hold_8 : decode cX7_hold 8 = .ok (.iconst (-1), 1) := by decide +kernel
theorem dX7_hold_9 : decode cX7_hold 9 = .ok (.if_icmp .eq 18, 3) := by decide +kernel
theorem dX7_hold_12 : decode cX7_hold 12 = .ok (.aload_n 0, 1) := by decide +kernel
theorem dX7_hold_13 : decode cX7_hold 13 = .ok (.iload_n 2, 1) := by decide +kernel
theorem dX7_hold_14 : decode cX7_hold 14 = .ok (.invokevirtual 148, 3) := by decide +kernel
theorem dX7_hold_17 : decode cX7_hold 17 = .ok (.ifCond .ne 10, 3) := by decide +kernel
theorem dX7_hold_20 : decode cX7_hold 20 = .ok (.aload_n 0, 1) := by decide +kernel
theorem dX7_hold_21 : decode cX7_hold 21 = .ok (.ldc 76, 2) := by decide +kernel
theorem dX7_hold_23 : decode cX7_hold 23 = .ok (.invokevirtual 101, 3) := by decide +kernel
theorem dX7_hold_26 : decode cX7_hold 26 = .ok (.ireturn, 1) := by decide +kernel
theorem dX7_hold_27 : decode cX7_hold 27 = .ok (.aload_n 0, 1) := by decide +kernel
theorem dX7_hold_28 : decode cX7_hold 28 = .ok (.getfield 9, 3) := by decide +kernel
theorem dX7_hold_31 : decode cX7_hold 31 = .ok (.iconst 3, 1) := by decide +kernel
theorem dX7_hold_32 : decode cX7_hold 32 = .ok (.iload_n 1, 1) := by decide +kernel
theorem dX7_hold_33 : decode cX7_hold 33 = .ok (.iadd, 1) := by decide +kernel
theorem dX7_hold_34 : decode cX7_hold 34 = .ok (.iload_n 2, 1) := by decide +kernel
theorem dX7_hold_35 : decode cX7_hold 35 = .ok (.iastore, 1) := by decide +kernel
theorem dX7_hold_36 : decode cX7_hold 36 = .ok (.iconst 1, 1) := by decide +kernel
theorem dX7_hold_37 : decode cX7_hold 37 = .ok (.ireturn, 1) := by decide +kernel
set_option maxHeartbeats 800000 in
set_option maxRecDepth 100000 in
theorem c_X7_hold {l : Launch} {ω : xO} {ks : Nat → Option Nat} (hm : xsh ω = mdS ks) {i p : Int} {M : xMem} (hI : MInv M) (hi : inR i) (hp : inR p) : Ct l ω yX7_hold ({ frames := 2, cells := 0, slots := 0, locals := 43 } : Room) 3 2 [.ref (xad ω 0), .int (iI i), .int (iI p)] M (some (.int (iI (nhoR M i p)))) (nhoM M i p) := by
  refine Ct.of (bytes := cX7_hold) (ret := (some .int)) (lv0 := [some (.ref (xad ω 0)), some (.int (iI i)), some (.int (iI p))]) m_cd_X7_hold m_in_X7 (by decide +kernel) (by decide +kernel) rfl rfl rfl rfl (fun hR => by unfold nhoM; split; exact up_R hR hp; exact fnM_R hR) ?_
  intro κ h he hR
  have hn := hI.1
  refine x_iload_n h dX7_hold_0 rfl ?_
  refine x_S1i h dX7_hold_1 m_ml_X7_371 m_st_X7_isSpot (by decide) rfl (c_X7_isSpot hm (by omega)) ?_
  refine x_ifeqB h dX7_hold_4 (tgt := 20) (by decide) (fun q4 => ?_) (fun q4 => ?_)
  · refine x_aload_n h dX7_hold_20 rfl ?_
    refine x_ldc h m_k_X7_76 dX7_hold_21 ?_
    refine x_V1i h dX7_hold_23 m_ml_X7_101 m_im_X7_finding m_se_X7_finding (sM0 hm) rfl (by decide) rfl (c_X7_finding hm (by omega)) ?_
    exact x_iret (ret := none) h he dX7_hold_26 rfl (by unfold nhoR; (repeat' split) <;> first | rfl | omega) (by unfold nhoM; (repeat' split) <;> first | rfl | (exfalso; omega))
  · refine x_iload_n h dX7_hold_7 rfl ?_
    refine x_iconst h dX7_hold_8 ?_
    refine x_icmp_eq h dX7_hold_9 (tgt := 27) (by decide) (by omega) (by omega) (fun q9 => ?_) (fun q9 => ?_)
    · refine x_aload_n h dX7_hold_27 rfl ?_
      refine x_getr (j := 0) (q := 1) h dX7_hold_28 (sM0 hm) rfl in_X7 rfl (by decide) m_fl_X7_9 ?_
      refine x_iconst h dX7_hold_31 ?_
      refine x_iload_n h dX7_hold_32 rfl ?_
      refine x_iadd h dX7_hold_33 ?_
      refine x_iload_n h dX7_hold_34 rfl ?_
      refine x_iastore h dX7_hold_35 (sM1 hm) (by omega) (by omega) ?_
      refine x_iconst h dX7_hold_36 ?_
      exact x_iret (ret := none) h he dX7_hold_37 rfl (by unfold nhoR; (repeat' split) <;> first | rfl | omega) (by unfold nhoM; (repeat' split) <;> first | rfl | (exfalso; omega))
    · refine x_aload_n h dX7_hold_12 rfl ?_
      refine x_iload_n h dX7_hold_13 rfl ?_
      refine x_V1i h dX7_hold_14 m_ml_X7_148 m_im_X7_isPerson m_se_X7_isPerson (sM0 hm) rfl (by decide) rfl (c_X7_isPerson hm (by omega) (by omega)) ?_
      refine x_ifneB h dX7_hold_17 (tgt := 27) (by decide) (fun q17 => ?_) (fun q17 => ?_)
      · refine x_aload_n h dX7_hold_27 rfl ?_
        refine x_getr (j := 0) (q := 1) h dX7_hold_28 (sM0 hm) rfl in_X7 rfl (by decide) m_fl_X7_9 ?_
        refine x_iconst h dX7_hold_31 ?_
        refine x_iload_n h dX7_hold_32 rfl ?_
        refine x_iadd h dX7_hold_33 ?_
        refine x_iload_n h dX7_hold_34 rfl ?_
        refine x_iastore h dX7_hold_35 (sM1 hm) (by omega) (by omega) ?_
        refine x_iconst h dX7_hold_36 ?_
        exact x_iret (ret := none) h he dX7_hold_37 rfl (by unfold nhoR; (repeat' split) <;> first | rfl | omega) (by unfold nhoM; (repeat' split) <;> first | rfl | (exfalso; omega))
      · refine x_aload_n h dX7_hold_20 rfl ?_
        refine x_ldc h m_k_X7_76 dX7_hold_21 ?_
        refine x_V1i h dX7_hold_23 m_ml_X7_101 m_im_X7_finding m_se_X7_finding (sM0 hm) rfl (by decide) rfl (c_X7_finding hm (by omega)) ?_
        exact x_iret (ret := none) h he dX7_hold_26 rfl (by unfold nhoR; (repeat' split) <;> first | rfl | omega) (by unfold nhoM; (repeat' split) <;> first | rfl | (exfalso; omega))

theorem dX7_image_0 : decode cX7_image 0 = .ok (.aload_n 0, 1) := by decide +kernel
theorem dX7_image_1 : decode cX7_image 1 = .ok (.getfield 9, 3) := by decide +kernel
theorem dX7_image_4 : decode cX7_image 4 = .ok (.aload_n 0, 1) := by decide +kernel
theorem dX7_image_5 : decode cX7_image 5 = .ok (.getfield 13, 3) := by decide +kernel
theorem dX7_image_8 : decode cX7_image 8 = .ok (.invokestatic 77, 3) := by decide +kernel
theorem dX7_image_11 : decode cX7_image 11 = .ok (.aload_n 0, 1) := by decide +kernel
theorem dX7_image_12 : decode cX7_image 12 = .ok (.iconst 1, 1) := by decide +kernel
theorem dX7_image_13 : decode cX7_image 13 = .ok (.putfield 382, 3) := by decide +kernel
theorem dX7_image_16 : decode cX7_image 16 = .ok (.iconst 1, 1) := by decide +kernel
theorem dX7_image_17 : decode cX7_image 17 = .ok (.ireturn, 1) := by decide +kernel
set_option maxHeartbeats 800000 in
set_option maxRecDepth 100000 in
theorem c_X7_image {l : Launch} {ω : xO} {ks : Nat → Option Nat} (hm : xsh ω = mdS ks)  {M : xMem}  : Ct l ω yX7_image ({ frames := 1, cells := 0, slots := 0, locals := 22 } : Room) 1 0 [.ref (xad ω 0)] M (some (.int (iI 1))) (up (cyM M 1 2) 0 3 1) := by
  refine Ct.of (bytes := cX7_image) (ret := (some .int)) (lv0 := [some (.ref (xad ω 0))]) m_cd_X7_image m_in_X7 (by decide +kernel) (by decide +kernel) rfl rfl rfl rfl (fun hR => up_R (cyM_R hR) (by decide)) ?_
  intro κ h he hR
  refine x_aload_n h dX7_image_0 rfl ?_
  refine x_getr (j := 0) (q := 1) h dX7_image_1 (sM0 hm) rfl in_X7 rfl (by decide) m_fl_X7_9 ?_
  refine x_aload_n h dX7_image_4 rfl ?_
  refine x_getr (j := 1) (q := 2) h dX7_image_5 (sM0 hm) rfl in_X7 rfl (by decide) m_fl_X7_13 ?_
  refine x_S2v h dX7_image_8 m_ml_X7_77 m_st_X7_copyRow (by decide) rfl (c_X7_copyRow hm (sM1 hm) (sM2 hm) (by decide)) ?_
  refine x_aload_n h dX7_image_11 rfl ?_
  refine x_iconst h dX7_image_12 ?_
  refine x_puti (j := 3) 3 h dX7_image_13 (sM0 hm) rfl in_X7 rfl (by decide) m_fl_X7_382 tyX7_ok nmX7 rfl (tyX7_ok 3 (by decide)) rfl rfl (by omega) rfl ?_
  refine x_iconst h dX7_image_16 ?_
  exact x_iret (ret := none) h he dX7_image_17 rfl rfl rfl

theorem dX7_undo_0 : decode cX7_undo 0 = .ok (.aload_n 0, 1) := by decide +kernel
theorem dX7_undo_1 : decode cX7_undo 1 = .ok (.getfield 382, 3) := by decide +kernel
theorem dX7_undo_4 : decode cX7_undo 4 = .ok (.ifCond .ne 10, 3) := by decide +kernel
theorem dX7_undo_7 : decode cX7_undo 7 = .ok (.aload_n 0, 1) := by decide +kernel
theorem dX7_undo_8 : decode cX7_undo 8 = .ok (.ldc 177, 2) := by decide +kernel
theorem dX7_undo_10 : decode cX7_undo 10 = .ok (.invokevirtual 101, 3) := by decide +kernel
theorem dX7_undo_13 : decode cX7_undo 13 = .ok (.ireturn, 1) := by decide +kernel
theorem dX7_undo_14 : decode cX7_undo 14 = .ok (.aload_n 0, 1) := by decide +kernel
theorem dX7_undo_15 : decode cX7_undo 15 = .ok (.getfield 13, 3) := by decide +kernel
theorem dX7_undo_18 : decode cX7_undo 18 = .ok (.aload_n 0, 1) := by decide +kernel
theorem dX7_undo_19 : decode cX7_undo 19 = .ok (.getfield 9, 3) := by decide +kernel
theorem dX7_undo_22 : decode cX7_undo 22 = .ok (.invokestatic 77, 3) := by decide +kernel
theorem dX7_undo_25 : decode cX7_undo 25 = .ok (.aload_n 0, 1) := by decide +kernel
theorem dX7_undo_26 : decode cX7_undo 26 = .ok (.iconst 0, 1) := by decide +kernel
theorem dX7_undo_27 : decode cX7_undo 27 = .ok (.putfield 85, 3) := by decide +kernel
theorem dX7_undo_30 : decode cX7_undo 30 = .ok (.aload_n 0, 1) := by decide +kernel
theorem dX7_undo_31 : decode cX7_undo 31 = .ok (.getfield 9, 3) := by decide +kernel
theorem dX7_undo_34 : decode cX7_undo 34 = .ok (.iconst 0, 1) := by decide +kernel
theorem dX7_undo_35 : decode cX7_undo 35 = .ok (.iaload, 1) := by decide +kernel
theorem dX7_undo_36 : decode cX7_undo 36 = .ok (.ireturn, 1) := by decide +kernel
set_option maxHeartbeats 800000 in
set_option maxRecDepth 100000 in
theorem c_X7_undo {l : Launch} {ω : xO} {ks : Nat → Option Nat} (hm : xsh ω = mdS ks)  {M : xMem}  : Ct l ω yX7_undo ({ frames := 1, cells := 0, slots := 0, locals := 22 } : Room) 1 0 [.ref (xad ω 0)] M (some (.int (iI (nunR M)))) (nunM M) := by
  refine Ct.of (bytes := cX7_undo) (ret := (some .int)) (lv0 := [some (.ref (xad ω 0))]) m_cd_X7_undo m_in_X7 (by decide +kernel) (by decide +kernel) rfl rfl rfl rfl (fun hR => by unfold nunM; split; exact fnM_R hR; exact up_R (cyM_R hR) (by decide)) ?_
  intro κ h he hR
  have r03 : inR (M 0 3) := hR 0 3
  have e10 : up (cyM M 2 1) 0 6 0 1 0 = M 2 0 := by rw [up_01]; unfold cyM fiC; rw [upr_s]; rfl
  refine x_aload_n h dX7_undo_0 rfl ?_
  refine x_geti (j := 3) 3 h dX7_undo_1 (sM0 hm) rfl in_X7 rfl (by decide) m_fl_X7_382 rfl (fun r1 => ?_)
  refine x_if_ne h dX7_undo_4 (tgt := 14) (by decide) (by omega) (fun q4 => ?_) (fun q4 => ?_)
  · refine x_aload_n h dX7_undo_14 rfl ?_
    refine x_getr (j := 1) (q := 2) h dX7_undo_15 (sM0 hm) rfl in_X7 rfl (by decide) m_fl_X7_13 ?_
    refine x_aload_n h dX7_undo_18 rfl ?_
    refine x_getr (j := 0) (q := 1) h dX7_undo_19 (sM0 hm) rfl in_X7 rfl (by decide) m_fl_X7_9 ?_
    refine x_S2v h dX7_undo_22 m_ml_X7_77 m_st_X7_copyRow (by decide) rfl (c_X7_copyRow hm (sM2 hm) (sM1 hm) (by decide)) ?_
    refine x_aload_n h dX7_undo_25 rfl ?_
    refine x_iconst h dX7_undo_26 ?_
    refine x_puti (j := 6) 6 h dX7_undo_27 (sM0 hm) rfl in_X7 rfl (by decide) m_fl_X7_85 tyX7_ok nmX7 rfl (tyX7_ok 6 (by decide)) rfl rfl (by omega) rfl ?_
    refine x_aload_n h dX7_undo_30 rfl ?_
    refine x_getr (j := 0) (q := 1) h dX7_undo_31 (sM0 hm) rfl in_X7 rfl (by decide) m_fl_X7_9 ?_
    refine x_iconst h dX7_undo_34 ?_
    refine x_iaload h dX7_undo_35 (sM1 hm) (by omega) (fun r35 => ?_)
    rw [e10]
    exact x_iret (ret := none) h he dX7_undo_36 rfl (by unfold nunR; first | rw [if_pos (by omega)] | rw [if_neg (by omega)]) (by unfold nunM; first | rw [if_pos (by omega)] | rw [if_neg (by omega)])
  · refine x_aload_n h dX7_undo_7 rfl ?_
    refine x_ldc h m_k_X7_177 dX7_undo_8 ?_
    refine x_V1i h dX7_undo_10 m_ml_X7_101 m_im_X7_finding m_se_X7_finding (sM0 hm) rfl (by decide) rfl (c_X7_finding hm (by omega)) ?_
    exact x_iret (ret := none) h he dX7_undo_13 rfl (by unfold nunR; first | rw [if_pos (by omega)] | rw [if_neg (by omega)]) (by unfold nunM; first | rw [if_pos (by omega)] | rw [if_neg (by omega)])

theorem dX7_tear_0 : decode cX7_tear 0 = .ok (.aload_n 0, 1) := by decide +kernel
theorem dX7_tear_1 : decode cX7_tear 1 = .ok (.getfield 382, 3) := by decide +kernel
theorem dX7_tear_4 : decode cX7_tear 4 = .ok (.ifCond .eq 7, 3) := by decide +kernel
theorem dX7_tear_7 : decode cX7_tear 7 = .ok (.iconst 1, 1) := by decide +kernel
theorem dX7_tear_8 : decode cX7_tear 8 = .ok (.goto 4, 3) := by decide +kernel
theorem dX7_tear_11 : decode cX7_tear 11 = .ok (.iconst 0, 1) := by decide +kernel
theorem dX7_tear_12 : decode cX7_tear 12 = .ok (.istore_n 1, 1) := by decide +kernel
theorem dX7_tear_13 : decode cX7_tear 13 = .ok (.aload_n 0, 1) := by decide +kernel
theorem dX7_tear_14 : decode cX7_tear 14 = .ok (.iconst 0, 1) := by decide +kernel
theorem dX7_tear_15 : decode cX7_tear 15 = .ok (.putfield 382, 3) := by decide +kernel
theorem dX7_tear_18 : decode cX7_tear 18 = .ok (.iload_n 1, 1) := by decide +kernel
theorem dX7_tear_19 : decode cX7_tear 19 = .ok (.ireturn, 1) := by decide +kernel
set_option maxHeartbeats 800000 in
set_option maxRecDepth 100000 in
theorem c_X7_tear {l : Launch} {ω : xO} {ks : Nat → Option Nat} (hm : xsh ω = mdS ks)  {M : xMem}  : Ct l ω yX7_tear ({ frames := 0, cells := 0, slots := 0, locals := 0 } : Room) 2 0 [.ref (xad ω 0)] M (some (.int (iI ((if M 0 3 = 0 then 0 else 1))))) (up M 0 3 0) := by
  refine Ct.of (bytes := cX7_tear) (ret := (some .int)) (lv0 := [some (.ref (xad ω 0)), none]) m_cd_X7_tear m_in_X7 (by decide +kernel) (by decide +kernel) rfl rfl rfl rfl (fun hR => up_R hR (by decide)) ?_
  intro κ h he hR
  have r03 : inR (M 0 3) := hR 0 3
  refine x_aload_n h dX7_tear_0 rfl ?_
  refine x_geti (j := 3) 3 h dX7_tear_1 (sM0 hm) rfl in_X7 rfl (by decide) m_fl_X7_382 rfl (fun r1 => ?_)
  refine x_if_eq h dX7_tear_4 (tgt := 11) (by decide) (by omega) (fun q4 => ?_) (fun q4 => ?_)
  · refine x_iconst h dX7_tear_11 ?_
    refine x_istore_n h dX7_tear_12 rfl rfl ?_
    dsimp only [xset]
    refine x_aload_n h dX7_tear_13 rfl ?_
    refine x_iconst h dX7_tear_14 ?_
    refine x_puti (j := 3) 3 h dX7_tear_15 (sM0 hm) rfl in_X7 rfl (by decide) m_fl_X7_382 tyX7_ok nmX7 rfl (tyX7_ok 3 (by decide)) rfl rfl (by omega) rfl ?_
    refine x_iload_n h dX7_tear_18 rfl ?_
    exact x_iret (ret := none) h he dX7_tear_19 rfl (by first | rw [if_pos (by omega)] | rw [if_neg (by omega)]) rfl
  · refine x_iconst h dX7_tear_7 ?_
    refine x_goto h dX7_tear_8 (tgt := 12) (by decide) ?_
    refine x_istore_n h dX7_tear_12 rfl rfl ?_
    dsimp only [xset]
    refine x_aload_n h dX7_tear_13 rfl ?_
    refine x_iconst h dX7_tear_14 ?_
    refine x_puti (j := 3) 3 h dX7_tear_15 (sM0 hm) rfl in_X7 rfl (by decide) m_fl_X7_382 tyX7_ok nmX7 rfl (tyX7_ok 3 (by decide)) rfl rfl (by omega) rfl ?_
    refine x_iload_n h dX7_tear_18 rfl ?_
    exact x_iret (ret := none) h he dX7_tear_19 rfl (by first | rw [if_pos (by omega)] | rw [if_neg (by omega)]) rfl

theorem dX7_status_0 : decode cX7_status 0 = .ok (.iload_n 1, 1) := by decide +kernel
theorem dX7_status_1 : decode cX7_status 1 = .ok (.iconst (-1), 1) := by decide +kernel
theorem dX7_status_2 : decode cX7_status 2 = .ok (.bipush 6, 2) := by decide +kernel
theorem dX7_status_4 : decode cX7_status 4 = .ok (.invokestatic 81, 3) := by decide +kernel
theorem dX7_status_7 : decode cX7_status 7 = .ok (.ifCond .eq 14, 3) := by decide +kernel
theorem dX7_status_10 : decode cX7_status 10 = .ok (.aload_n 0, 1) := by decide +kernel
theorem dX7_status_11 : decode cX7_status 11 = .ok (.getfield 19, 3) := by decide +kernel
theorem dX7_status_14 : decode cX7_status 14 = .ok (.iload_n 1, 1) := by decide +kernel
theorem dX7_status_15 : decode cX7_status 15 = .ok (.iconst 1, 1) := by decide +kernel
theorem dX7_status_16 : decode cX7_status 16 = .ok (.iadd, 1) := by decide +kernel
theorem dX7_status_17 : decode cX7_status 17 = .ok (.iaload, 1) := by decide +kernel
theorem dX7_status_18 : decode cX7_status 18 = .ok (.goto 9, 3) := by decide +kernel
theorem dX7_status_21 : decode cX7_status 21 = .ok (.aload_n 0, 1) := by decide +kernel
theorem dX7_status_22 : decode cX7_status 22 = .ok (.ldc 76, 2) := by decide +kernel
theorem dX7_status_24 : decode cX7_status 24 = .ok (.invokevirtual 101, 3) := by decide +kernel
theorem dX7_status_27 : decode cX7_status 27 = .ok (.ireturn, 1) := by decide +kernel
set_option maxHeartbeats 800000 in
set_option maxRecDepth 100000 in
theorem c_X7_status {l : Launch} {ω : xO} {ks : Nat → Option Nat} (hm : xsh ω = mdS ks) {x : Int} {M : xMem} (hx : inR x) : Ct l ω yX7_status ({ frames := 1, cells := 0, slots := 0, locals := 22 } : Room) 2 1 [.ref (xad ω 0), .int (iI x)] M (some (.int (iI (nstR M x)))) (nstM M x) := by
  refine Ct.of (bytes := cX7_status) (ret := (some .int)) (lv0 := [some (.ref (xad ω 0)), some (.int (iI x))]) m_cd_X7_status m_in_X7 (by decide +kernel) (by decide +kernel) rfl rfl rfl rfl (fun hR => by unfold nstM; split; exact hR; exact fnM_R hR) ?_
  intro κ h he hR
  refine x_iload_n h dX7_status_0 rfl ?_
  refine x_iconst h dX7_status_1 ?_
  refine x_bipush h dX7_status_2 (by decide) ?_
  refine x_S3i h dX7_status_4 m_ml_X7_81 m_st_X7_within (by decide) rfl (c_X7_within hm (by omega) (by omega) (by omega)) ?_
  refine x_ifeqB h dX7_status_7 (tgt := 21) (by decide) (fun q7 => ?_) (fun q7 => ?_)
  · refine x_aload_n h dX7_status_21 rfl ?_
    refine x_ldc h m_k_X7_76 dX7_status_22 ?_
    refine x_V1i h dX7_status_24 m_ml_X7_101 m_im_X7_finding m_se_X7_finding (sM0 hm) rfl (by decide) rfl (c_X7_finding hm (by omega)) ?_
    exact x_iret (ret := none) h he dX7_status_27 rfl (by unfold nstR; (repeat' split) <;> first | rfl | omega) (by unfold nstM; (repeat' split) <;> first | rfl | (exfalso; omega))
  · refine x_aload_n h dX7_status_10 rfl ?_
    refine x_getr (j := 4) (q := 4) h dX7_status_11 (sM0 hm) rfl in_X7 rfl (by decide) m_fl_X7_19 ?_
    refine x_iload_n h dX7_status_14 rfl ?_
    refine x_iconst h dX7_status_15 ?_
    refine x_iadd h dX7_status_16 ?_
    refine x_iaload h dX7_status_17 (sM4 hm) (by omega) (fun r17 => ?_)
    refine x_goto h dX7_status_18 (tgt := 27) (by decide) ?_
    exact x_iret (ret := none) h he dX7_status_27 rfl (by unfold nstR; (repeat' split) <;> first | rfl | omega) (by unfold nstM; (repeat' split) <;> first | rfl | (exfalso; omega))
