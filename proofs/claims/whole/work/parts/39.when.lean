/-! the reference: when, ahead, held, still -/
def toR (n : Int) : Int := if n = 1000000 then -1000004 else n
def toM (M : xMem) (n : Int) : xMem := if n = 1000000 then fnM M (-1000004) else M
theorem QuE.fn {M N : xMem} {v : Int} (h : QuE M N) : QuE (fnM M v) (fnM N v) := ⟨h.1.fn, Fc_e1 (N := N) fnM_y rfl rfl h.2⟩
theorem QuE.to {M N : xMem} {n : Int} (h : QuE M N) : QuE (toM M n) (toM N n) := by
  unfold toM
  split
  · exact h.fn
  · exact h
theorem QuE.rf {M : xMem} (h : Fc M) : QuE M M := ⟨QuR.rf, h⟩
noncomputable def nweR (M : xMem) (p : Int) : Int := if 0 ≤ p ∧ p < M 1 1 then toR (nwhN M p) else -1000001
noncomputable def nweM (M : xMem) (p : Int) : xMem := if 0 ≤ p ∧ p < M 1 1 then toM M (nwhN M p) else fnM M (-1000001)
noncomputable def nahR (M : xMem) (n : Int) : Int := if 0 ≤ n ∧ n ≤ 60 then thN (siN M n.toNat) else -1000001
def nahM (M : xMem) (n : Int) : xMem := if 0 ≤ n ∧ n ≤ 60 then M else fnM M (-1000001)
/-- steps until one is held -/
noncomputable def hdF (M : xMem) : Nat → Nat → Int
  | 0, n => siN M n 0 8
  | k + 1, n => if siN M n 0 8 < 0 then hdF M k (n + 1) else siN M n 0 8
noncomputable def hdN (M : xMem) : Int := hdF (up (cyM M 1 3) 0 8 (-1)) 60 0
noncomputable def nheR (M : xMem) : Int := if hdN M < 0 then -1000004 else hdN M
noncomputable def nheM (M : xMem) : xMem := if hdN M < 0 then fnM M (-1000004) else M
/-- steps until none moves -/
noncomputable def nslF (M : xMem) : Nat → Nat → Int
  | 0, n => if siN M (n + 1) 0 7 = 0 then (n : Int) else 1000000
  | k + 1, n => if 0 < siN M (n + 1) 0 7 then nslF M k (n + 1) else if siN M (n + 1) 0 7 = 0 then (n : Int) else 1000000
noncomputable def nslN (M : xMem) : Int := nslF (cyM M 1 3) 60 0
theorem dX7_told_0 : decode cX7_told 0 = .ok (.iload_n 1, 1) := by decide +kernel
theorem dX7_told_1 : decode cX7_told 1 = .ok (.ldc 224, 2) := by decide +kernel
theorem dX7_told_3 : decode cX7_told 3 = .ok (.if_icmp .ne 12, 3) := by decide +kernel
theorem dX7_told_6 : decode cX7_told 6 = .ok (.aload_n 0, 1) := by decide +kernel
theorem dX7_told_7 : decode cX7_told 7 = .ok (.ldc 177, 2) := by decide +kernel
theorem dX7_told_9 : decode cX7_told 9 = .ok (.invokevirtual 101, 3) := by decide +kernel
theorem dX7_told_12 : decode cX7_told 12 = .ok (.goto 4, 3) := by decide +kernel
theorem dX7_told_15 : decode cX7_told 15 = .ok (.iload_n 1, 1) := by decide +kernel
theorem dX7_told_16 : decode cX7_told 16 = .ok (.ireturn, 1) := by decide +kernel
set_option maxHeartbeats 800000 in
set_option maxRecDepth 100000 in
theorem c_X7_told {l : Launch} {ω : xO} {ks : Nat → Option Nat} (hm : xsh ω = mdS ks) {n : Int} {M : xMem} (hn : inR n) : Ct l ω yX7_told ({ frames := 1, cells := 0, slots := 0, locals := 21 } : Room) 2 1 [.ref (xad ω 0), .int (iI n)] M (some (.int (iI (toR n)))) (toM M n) := by
  refine Ct.of (bytes := cX7_told) (ret := (some .int)) (lv0 := [some (.ref (xad ω 0)), some (.int (iI n))]) m_cd_X7_told m_in_X7 (by decide +kernel) (by decide +kernel) rfl rfl rfl rfl (fun hR => by unfold toM; split; exact fnM_R hR; exact hR) ?_
  intro κ h he hR
  refine x_iload_n h dX7_told_0 rfl ?_
  refine x_ldc h m_k_X7_224 dX7_told_1 ?_
  refine x_icmp_ne h dX7_told_3 (tgt := 15) (by decide) (by omega) (by omega) (fun q3 => ?_) (fun q3 => ?_)
  · refine x_iload_n h dX7_told_15 rfl ?_
    exact x_iret (ret := none) h he dX7_told_16 rfl (by unfold toR; (repeat' split) <;> first | rfl | omega) (by unfold toM; (repeat' split) <;> first | rfl | (exfalso; omega))
  · refine x_aload_n h dX7_told_6 rfl ?_
    refine x_ldc h m_k_X7_177 dX7_told_7 ?_
    refine x_V1i h dX7_told_9 m_ml_X7_101 m_im_X7_finding m_se_X7_finding (sM0 hm) rfl (by decide) rfl (c_X7_finding hm (by omega)) ?_
    refine x_goto h dX7_told_12 (tgt := 16) (by decide) ?_
    exact x_iret (ret := none) h he dX7_told_16 rfl (by unfold toR; (repeat' split) <;> first | rfl | omega) (by unfold toM; (repeat' split) <;> first | rfl | (exfalso; omega))

theorem dX7_when_0 : decode cX7_when 0 = .ok (.aload_n 0, 1) := by decide +kernel
theorem dX7_when_1 : decode cX7_when 1 = .ok (.iload_n 1, 1) := by decide +kernel
theorem dX7_when_2 : decode cX7_when 2 = .ok (.invokevirtual 148, 3) := by decide +kernel
theorem dX7_when_5 : decode cX7_when 5 = .ok (.ifCond .eq 15, 3) := by decide +kernel
theorem dX7_when_8 : decode cX7_when 8 = .ok (.aload_n 0, 1) := by decide +kernel
theorem dX7_when_9 : decode cX7_when 9 = .ok (.aload_n 0, 1) := by decide +kernel
theorem dX7_when_10 : decode cX7_when 10 = .ok (.iload_n 1, 1) := by decide +kernel
theorem dX7_when_11 : decode cX7_when 11 = .ok (.invokevirtual 225, 3) := by decide +kernel
theorem dX7_when_14 : decode cX7_when 14 = .ok (.invokevirtual 228, 3) := by decide +kernel
theorem dX7_when_17 : decode cX7_when 17 = .ok (.goto 9, 3) := by decide +kernel
theorem dX7_when_20 : decode cX7_when 20 = .ok (.aload_n 0, 1) := by decide +kernel
theorem dX7_when_21 : decode cX7_when 21 = .ok (.ldc 76, 2) := by decide +kernel
theorem dX7_when_23 : decode cX7_when 23 = .ok (.invokevirtual 101, 3) := by decide +kernel
theorem dX7_when_26 : decode cX7_when 26 = .ok (.ireturn, 1) := by decide +kernel
set_option maxHeartbeats 800000 in
set_option maxRecDepth 100000 in
theorem c_X7_when {l : Launch} {ω : xO} {ks : Nat → Option Nat} (hm : xsh ω = mdS ks) {p : Int} {M : xMem} (hI : MInv M) (hf : Fc M) (hp : inR p) (hcl : M 1 0 ≤ 1000000) : Cq l ω yX7_when ({ frames := 8, cells := 0, slots := 0, locals := 179 } : Room) 2 1 [.ref (xad ω 0), .int (iI p)] M (pI1 (fun r N' => r = nweR M p ∧ QuE (nweM M p) N')) := by
  refine Cq.of (bytes := cX7_when) (ret := (some .int)) (lv0 := [some (.ref (xad ω 0)), some (.int (iI p))]) m_cd_X7_when m_in_X7 (by decide +kernel) (by decide +kernel) rfl rfl rfl rfl ?_
  intro κ h he hR
  have hn := hI.1
  have hw := nwhN_R M p
  refine x_aload_n h dX7_when_0 rfl ?_
  refine x_iload_n h dX7_when_1 rfl ?_
  refine x_V1i h dX7_when_2 m_ml_X7_148 m_im_X7_isPerson m_se_X7_isPerson (sM0 hm) rfl (by decide) rfl (c_X7_isPerson hm (by omega) (by omega)) ?_
  refine x_ifeqB h dX7_when_5 (tgt := 20) (by decide) (fun q5 => ?_) (fun q5 => ?_)
  · refine x_aload_n h dX7_when_20 rfl ?_
    refine x_ldc h m_k_X7_76 dX7_when_21 ?_
    refine x_V1i h dX7_when_23 m_ml_X7_101 m_im_X7_finding m_se_X7_finding (sM0 hm) rfl (by decide) rfl (c_X7_finding hm (by omega)) ?_
    exact x_iretq h he dX7_when_26 ⟨by unfold nweR; first | rw [if_pos (by omega)] | rw [if_neg (by omega)], by unfold nweM; first | (rw [if_pos (by omega)]; exact QuE.to (by assumption)) | (rw [if_neg (by omega)]; exact (QuE.rf hf).fn)⟩
  · refine x_aload_n h dX7_when_8 rfl ?_
    refine x_aload_n h dX7_when_9 rfl ?_
    refine x_iload_n h dX7_when_10 rfl ?_
    refine x_Q1i h dX7_when_11 m_ml_X7_225 m_im_X7_whenThere m_se_X7_whenThere (sM0 hm) rfl (by decide) rfl (c_X7_whenThere hm (by exact hI) (by assumption) (by first | omega | (simp only [ca_1]; omega)) (by first | omega | (simp only [ca_1]; omega))) (fun r11 N11 h11 => ?_)
    obtain ⟨rfl, hQ11⟩ := h11
    refine x_V1i h dX7_when_14 m_ml_X7_228 m_im_X7_told m_se_X7_told (sM0 hm) rfl (by decide) rfl (c_X7_told hm (by omega)) ?_
    try simp only [ca_ca, ca_1, dN_ca, wyM_ca, plN_ca, rpN_ca, ltN_ca, pmN_ca, wnN_ca, nbN_ca, ca_07, ca_08, ca_09, ca_010, beN_ca, ctN_ca, gonN_ca, mvN_ca, stN_ca, thN_ca, fnM_ca, tiN_ca, smN_ca, frN_ca, teN_ca]
    refine x_goto h dX7_when_17 (tgt := 26) (by decide) ?_
    exact x_iretq h he dX7_when_26 ⟨by unfold nweR; first | rw [if_pos (by omega)] | rw [if_neg (by omega)], by unfold nweM; first | (rw [if_pos (by omega)]; exact QuE.to (by assumption)) | (rw [if_neg (by omega)]; exact (QuE.rf hf).fn)⟩

theorem dX7_ahead_0 : decode cX7_ahead 0 = .ok (.iload_n 1, 1) := by decide +kernel
theorem dX7_ahead_1 : decode cX7_ahead 1 = .ok (.iconst 0, 1) := by decide +kernel
theorem dX7_ahead_2 : decode cX7_ahead 2 = .ok (.bipush 60, 2) := by decide +kernel
theorem dX7_ahead_4 : decode cX7_ahead 4 = .ok (.invokestatic 81, 3) := by decide +kernel
theorem dX7_ahead_7 : decode cX7_ahead 7 = .ok (.ifCond .eq 11, 3) := by decide +kernel
theorem dX7_ahead_10 : decode cX7_ahead 10 = .ok (.aload_n 0, 1) := by decide +kernel
theorem dX7_ahead_11 : decode cX7_ahead 11 = .ok (.iload_n 1, 1) := by decide +kernel
theorem dX7_ahead_12 : decode cX7_ahead 12 = .ok (.invokevirtual 234, 3) := by decide +kernel
theorem dX7_ahead_15 : decode cX7_ahead 15 = .ok (.goto 9, 3) := by decide +kernel
theorem dX7_ahead_18 : decode cX7_ahead 18 = .ok (.aload_n 0, 1) := by decide +kernel
theorem dX7_ahead_19 : decode cX7_ahead 19 = .ok (.ldc 76, 2) := by decide +kernel
theorem dX7_ahead_21 : decode cX7_ahead 21 = .ok (.invokevirtual 101, 3) := by decide +kernel
theorem dX7_ahead_24 : decode cX7_ahead 24 = .ok (.ireturn, 1) := by decide +kernel
set_option maxHeartbeats 800000 in
set_option maxRecDepth 100000 in
theorem c_X7_ahead {l : Launch} {ω : xO} {ks : Nat → Option Nat} (hm : xsh ω = mdS ks) {n : Int} {M : xMem} (hI : MInv M) (hf : Fc M) (hn9 : inR n) (hcl : M 1 0 ≤ 1000000) : Cq l ω yX7_ahead ({ frames := 9, cells := 0, slots := 0, locals := 199 } : Room) 2 1 [.ref (xad ω 0), .int (iI n)] M (pI1 (fun r N' => r = nahR M n ∧ QuE (nahM M n) N')) := by
  refine Cq.of (bytes := cX7_ahead) (ret := (some .int)) (lv0 := [some (.ref (xad ω 0)), some (.int (iI n))]) m_cd_X7_ahead m_in_X7 (by decide +kernel) (by decide +kernel) rfl rfl rfl rfl ?_
  intro κ h he hR
  refine x_iload_n h dX7_ahead_0 rfl ?_
  refine x_iconst h dX7_ahead_1 ?_
  refine x_bipush h dX7_ahead_2 (by decide) ?_
  refine x_S3i h dX7_ahead_4 m_ml_X7_81 m_st_X7_within (by decide) rfl (c_X7_within hm (by omega) (by omega) (by omega)) ?_
  refine x_ifeqB h dX7_ahead_7 (tgt := 18) (by decide) (fun q7 => ?_) (fun q7 => ?_)
  · refine x_aload_n h dX7_ahead_18 rfl ?_
    refine x_ldc h m_k_X7_76 dX7_ahead_19 ?_
    refine x_V1i h dX7_ahead_21 m_ml_X7_101 m_im_X7_finding m_se_X7_finding (sM0 hm) rfl (by decide) rfl (c_X7_finding hm (by omega)) ?_
    exact x_iretq h he dX7_ahead_24 ⟨by unfold nahR; first | rw [if_pos (by omega)] | rw [if_neg (by omega)], by unfold nahM; first | (rw [if_pos (by omega)]; assumption) | (rw [if_neg (by omega)]; exact (QuE.rf hf).fn)⟩
  · refine x_aload_n h dX7_ahead_10 rfl ?_
    refine x_iload_n h dX7_ahead_11 rfl ?_
    refine x_Q1i h dX7_ahead_12 m_ml_X7_234 m_im_X7_thereBehind m_se_X7_thereBehind (sM0 hm) rfl (by decide) rfl (c_X7_thereBehind hm (by exact hI) (by assumption) (by first | omega | (simp only [ca_1]; omega)) (by first | omega | (simp only [ca_1]; omega))) (fun r12 N12 h12 => ?_)
    obtain ⟨rfl, hQ12⟩ := h12
    refine x_goto h dX7_ahead_15 (tgt := 24) (by decide) ?_
    exact x_iretq h he dX7_ahead_24 ⟨by unfold nahR; first | rw [if_pos (by omega)] | rw [if_neg (by omega)], by unfold nahM; first | (rw [if_pos (by omega)]; assumption) | (rw [if_neg (by omega)]; exact (QuE.rf hf).fn)⟩

theorem dX7_held_0 : decode cX7_held 0 = .ok (.aload_n 0, 1) := by decide +kernel
theorem dX7_held_1 : decode cX7_held 1 = .ok (.getfield 9, 3) := by decide +kernel
theorem dX7_held_4 : decode cX7_held 4 = .ok (.aload_n 0, 1) := by decide +kernel
theorem dX7_held_5 : decode cX7_held 5 = .ok (.getfield 16, 3) := by decide +kernel
theorem dX7_held_8 : decode cX7_held 8 = .ok (.invokestatic 77, 3) := by decide +kernel
theorem dX7_held_11 : decode cX7_held 11 = .ok (.aload_n 0, 1) := by decide +kernel
theorem dX7_held_12 : decode cX7_held 12 = .ok (.iconst (-1), 1) := by decide +kernel
theorem dX7_held_13 : decode cX7_held 13 = .ok (.putfield 198, 3) := by decide +kernel
theorem dX7_held_16 : decode cX7_held 16 = .ok (.iconst 0, 1) := by decide +kernel
theorem dX7_held_17 : decode cX7_held 17 = .ok (.istore_n 1, 1) := by decide +kernel
theorem dX7_held_18 : decode cX7_held 18 = .ok (.iload_n 1, 1) := by decide +kernel
theorem dX7_held_19 : decode cX7_held 19 = .ok (.bipush 60, 2) := by decide +kernel
theorem dX7_held_21 : decode cX7_held 21 = .ok (.if_icmp .ge 20, 3) := by decide +kernel
theorem dX7_held_24 : decode cX7_held 24 = .ok (.aload_n 0, 1) := by decide +kernel
theorem dX7_held_25 : decode cX7_held 25 = .ok (.getfield 198, 3) := by decide +kernel
theorem dX7_held_28 : decode cX7_held 28 = .ok (.ifCond .ge 13, 3) := by decide +kernel
theorem dX7_held_31 : decode cX7_held 31 = .ok (.aload_n 0, 1) := by decide +kernel
theorem dX7_held_32 : decode cX7_held 32 = .ok (.invokevirtual 204, 3) := by decide +kernel
theorem dX7_held_35 : decode cX7_held 35 = .ok (.iinc 1 1, 3) := by decide +kernel
theorem dX7_held_38 : decode cX7_held 38 = .ok (.goto (-20), 3) := by decide +kernel
theorem dX7_held_41 : decode cX7_held 41 = .ok (.aload_n 0, 1) := by decide +kernel
theorem dX7_held_42 : decode cX7_held 42 = .ok (.getfield 16, 3) := by decide +kernel
theorem dX7_held_45 : decode cX7_held 45 = .ok (.aload_n 0, 1) := by decide +kernel
theorem dX7_held_46 : decode cX7_held 46 = .ok (.getfield 9, 3) := by decide +kernel
theorem dX7_held_49 : decode cX7_held 49 = .ok (.invokestatic 77, 3) := by decide +kernel
theorem dX7_held_52 : decode cX7_held 52 = .ok (.aload_n 0, 1) := by decide +kernel
theorem dX7_held_53 : decode cX7_held 53 = .ok (.getfield 198, 3) := by decide +kernel
theorem dX7_held_56 : decode cX7_held 56 = .ok (.ifCond .ge 12, 3) := by decide +kernel
theorem dX7_held_59 : decode cX7_held 59 = .ok (.aload_n 0, 1) := by decide +kernel
theorem dX7_held_60 : decode cX7_held 60 = .ok (.ldc 177, 2) := by decide +kernel
theorem dX7_held_62 : decode cX7_held 62 = .ok (.invokevirtual 101, 3) := by decide +kernel
theorem dX7_held_65 : decode cX7_held 65 = .ok (.goto 7, 3) := by decide +kernel
theorem dX7_held_68 : decode cX7_held 68 = .ok (.aload_n 0, 1) := by decide +kernel
theorem dX7_held_69 : decode cX7_held 69 = .ok (.getfield 198, 3) := by decide +kernel
theorem dX7_held_72 : decode cX7_held 72 = .ok (.ireturn, 1) := by decide +kernel
set_option maxHeartbeats 800000 in
set_option maxRecDepth 100000 in
theorem c_X7_held {l : Launch} {ω : xO} {ks : Nat → Option Nat} (hm : xsh ω = mdS ks)  {M : xMem} (hI : MInv M) (hf : Fc M)  (hcl : M 1 0 ≤ 1000000) : Cq l ω yX7_held ({ frames := 7, cells := 0, slots := 0, locals := 156 } : Room) 2 0 [.ref (xad ω 0)] M (pI1 (fun r N' => r = nheR M ∧ QuE (nheM M) N')) := by
  refine Cq.of (bytes := cX7_held) (ret := (some .int)) (lv0 := [some (.ref (xad ω 0)), none]) m_cd_X7_held m_in_X7 (by decide +kernel) (by decide +kernel) rfl rfl rfl rfl ?_
  intro κ h he hR
  have hn := hI.1
  have hA : cyM M 1 3 1 = M 1 := by unfold cyM; rw [upr_n (by decide)]
  have hA3 : cyM M 1 3 3 = fiC (M 1) 177 (M 3) := by unfold cyM; rw [upr_s]
  have hAq : QuR M (cyM M 1 3) := ⟨hA, fun k a b c => by unfold cyM; rw [upr_n b], fun j a b c d e => by unfold cyM; rw [upr_n (by decide)]⟩
  have hAI : MInv (cyM M 1 3) := MInv_c hA hI
  have hAf : Fc (cyM M 1 3) := Fc_e1 (N := M) (wyM_c hA) (by unfold cyM; rw [upr_n (by decide)]) (by unfold cyM; rw [upr_n (by decide)]) hf
  refine x_aload_n h dX7_held_0 rfl ?_
  refine x_getr (j := 0) (q := 1) h dX7_held_1 (sM0 hm) rfl in_X7 rfl (by decide) m_fl_X7_9 ?_
  refine x_aload_n h dX7_held_4 rfl ?_
  refine x_getr (j := 2) (q := 3) h dX7_held_5 (sM0 hm) rfl in_X7 rfl (by decide) m_fl_X7_16 ?_
  refine x_S2v h dX7_held_8 m_ml_X7_77 m_st_X7_copyRow (by decide) rfl (c_X7_copyRow hm (sM1 hm) (sM3 hm) (by decide)) ?_
  refine x_aload_n h dX7_held_11 rfl ?_
  refine x_iconst h dX7_held_12 ?_
  refine x_puti (j := 8) 8 h dX7_held_13 (sM0 hm) rfl in_X7 rfl (by decide) m_fl_X7_198 tyX7_ok nmX7 rfl (tyX7_ok 8 (by decide)) rfl rfl (by omega) rfl ?_
  refine x_iconst h dX7_held_16 ?_
  refine x_istore_n h dX7_held_17 rfl rfl ?_
  dsimp only [xset]
  have hB : up (cyM M 1 3) 0 8 (-1) 1 = M 1 := hA
  have hB3 : up (cyM M 1 3) 0 8 (-1) 3 = fiC (M 1) 177 (M 3) := hA3
  have hBq : QuR M (up (cyM M 1 3) 0 8 (-1)) := hAq.up0 (by omega)
  have hBI : MInv (up (cyM M 1 3) 0 8 (-1)) := hAI.up0
  have hBf : Fc (up (cyM M 1 3) 0 8 (-1)) := Fc_e1 (N := cyM M 1 3) rfl (up_nn (by decide)) (up_n (by decide)) hAf
  have hdef : hdN M = hdF (up (cyM M 1 3) 0 8 (-1)) 60 0 := rfl
  clear hA hA3 hAq hAI hAf
  generalize up (cyM M 1 3) 0 8 (-1) = A at hB hB3 hBq hBI hBf hdef ⊢
  refine x_mem (M' := ca (siN A 0) (A 0 6) (A 5)) (ca_self A).symm ?_
  have hf0 : Fc (ca (siN A 0) (A 0 6) (A 5)) := by rw [siN, ca_self]; exact hBf
  have hcA : A 1 0 = M 1 0 := by rw [hB]
  have HH : ∀ (k n : Nat) (f : Int) (d : Int → Int), n + k = 60 → Fc (ca (siN A n) f d) → xR (ca (siN A n) f d) → hdF A k n = hdN M → X ω κ 18 [some (.ref (xad ω 0)), some (.int (iI (n : Int)))] [] (ca (siN A n) f d) := by
    intro k
    induction k with
    | zero =>
      intro n f d e hc hR2 hw
      have hs := siN_I hBI n
      have r8 : inR (siN A n 0 8) := hR2 0 8
      unfold hdF at hw
      have hq := back_q hB hB3 hBq hs.2.1 hc
      have h08 : cyM (ca (siN A n) f d) 3 1 0 8 = siN A n 0 8 := by unfold cyM; rw [upr_n (by decide)]; rfl
      refine x_iload_n h dX7_held_18 rfl ?_
      refine x_bipush h dX7_held_19 (by decide) ?_
      refine x_icmp_ge h dX7_held_21 (tgt := 41) (by decide) (by omega) (by omega) (fun q21 => ?_) (fun q21 => ?_)
      · refine x_aload_n h dX7_held_41 rfl ?_
        refine x_getr (j := 2) (q := 3) h dX7_held_42 (sM0 hm) rfl in_X7 rfl (by decide) m_fl_X7_16 ?_
        refine x_aload_n h dX7_held_45 rfl ?_
        refine x_getr (j := 0) (q := 1) h dX7_held_46 (sM0 hm) rfl in_X7 rfl (by decide) m_fl_X7_9 ?_
        refine x_S2v h dX7_held_49 m_ml_X7_77 m_st_X7_copyRow (by decide) rfl (c_X7_copyRow hm (sM3 hm) (sM1 hm) (by decide)) ?_
        refine x_aload_n h dX7_held_52 rfl ?_
        refine x_geti (j := 8) 8 h dX7_held_53 (sM0 hm) rfl in_X7 rfl (by decide) m_fl_X7_198 rfl (fun r53 => ?_)
        rw [h08]
        refine x_if_ge h dX7_held_56 (tgt := 68) (by decide) (by omega) (fun q56 => ?_) (fun q56 => ?_)
        · refine x_aload_n h dX7_held_68 rfl ?_
          refine x_geti (j := 8) 8 h dX7_held_69 (sM0 hm) rfl in_X7 rfl (by decide) m_fl_X7_198 rfl (fun r69 => ?_)
          try rw [h08]
          exact x_iretq h he dX7_held_72 ⟨by unfold nheR; first | rw [if_pos (by omega)] | (rw [if_neg (by omega)]; omega), by unfold nheM; first | (rw [if_pos (by omega)]; exact hq.fn) | (rw [if_neg (by omega)]; exact hq)⟩
        · refine x_aload_n h dX7_held_59 rfl ?_
          refine x_ldc h m_k_X7_177 dX7_held_60 ?_
          refine x_V1i h dX7_held_62 m_ml_X7_101 m_im_X7_finding m_se_X7_finding (sM0 hm) rfl (by decide) rfl (c_X7_finding hm (by omega)) ?_
          try simp only [ca_ca, ca_1, dN_ca, wyM_ca, plN_ca, rpN_ca, ltN_ca, pmN_ca, wnN_ca, nbN_ca, ca_07, ca_08, ca_09, ca_010, beN_ca, ctN_ca, gonN_ca, mvN_ca, stN_ca, thN_ca, fnM_ca, tiN_ca, smN_ca, frN_ca, teN_ca]
          refine x_goto h dX7_held_65 (tgt := 72) (by decide) ?_
          try rw [h08]
          exact x_iretq h he dX7_held_72 ⟨by unfold nheR; first | rw [if_pos (by omega)] | (rw [if_neg (by omega)]; omega), by unfold nheM; first | (rw [if_pos (by omega)]; exact hq.fn) | (rw [if_neg (by omega)]; exact hq)⟩
      · exfalso; omega
    | succ k ih =>
      intro n f d e hc hR2 hw
      have hs := siN_I hBI n
      have r8 : inR (siN A n 0 8) := hR2 0 8
      unfold hdF at hw
      have hq := back_q hB hB3 hBq hs.2.1 hc
      have h08 : cyM (ca (siN A n) f d) 3 1 0 8 = siN A n 0 8 := by unfold cyM; rw [upr_n (by decide)]; rfl
      refine x_iload_n h dX7_held_18 rfl ?_
      refine x_bipush h dX7_held_19 (by decide) ?_
      refine x_icmp_ge h dX7_held_21 (tgt := 41) (by decide) (by omega) (by omega) (fun q21 => ?_) (fun q21 => ?_)
      · exfalso; omega
      · refine x_aload_n h dX7_held_24 rfl ?_
        refine x_geti (j := 8) 8 h dX7_held_25 (sM0 hm) rfl in_X7 rfl (by decide) m_fl_X7_198 rfl (fun r25 => ?_)
        try simp only [up_ca1, up_ca07, up_ca08, up_ca09, up_ca010, up_10, up_01, up_0709, up_0710, ca_ca, ca_1, dN_ca, wyM_ca, plN_ca, rpN_ca, ltN_ca, pmN_ca, wnN_ca, nbN_ca, ca_07, ca_08, ca_09, ca_010, beN_ca, ctN_ca, gonN_ca, mvN_ca]
        refine x_if_ge h dX7_held_28 (tgt := 41) (by decide) (by omega) (fun q28 => ?_) (fun q28 => ?_)
        · refine x_aload_n h dX7_held_41 rfl ?_
          refine x_getr (j := 2) (q := 3) h dX7_held_42 (sM0 hm) rfl in_X7 rfl (by decide) m_fl_X7_16 ?_
          refine x_aload_n h dX7_held_45 rfl ?_
          refine x_getr (j := 0) (q := 1) h dX7_held_46 (sM0 hm) rfl in_X7 rfl (by decide) m_fl_X7_9 ?_
          refine x_S2v h dX7_held_49 m_ml_X7_77 m_st_X7_copyRow (by decide) rfl (c_X7_copyRow hm (sM3 hm) (sM1 hm) (by decide)) ?_
          refine x_aload_n h dX7_held_52 rfl ?_
          refine x_geti (j := 8) 8 h dX7_held_53 (sM0 hm) rfl in_X7 rfl (by decide) m_fl_X7_198 rfl (fun r53 => ?_)
          rw [h08]
          refine x_if_ge h dX7_held_56 (tgt := 68) (by decide) (by omega) (fun q56 => ?_) (fun q56 => ?_)
          · refine x_aload_n h dX7_held_68 rfl ?_
            refine x_geti (j := 8) 8 h dX7_held_69 (sM0 hm) rfl in_X7 rfl (by decide) m_fl_X7_198 rfl (fun r69 => ?_)
            try rw [h08]
            exact x_iretq h he dX7_held_72 ⟨by rw [if_neg (by omega)] at hw; unfold nheR; rw [if_neg (by omega)]; exact hw, by rw [if_neg (by omega)] at hw; unfold nheM; rw [if_neg (by omega)]; exact hq⟩
          · exfalso; omega
        · refine x_aload_n h dX7_held_31 rfl ?_
          refine x_Q0v h dX7_held_32 m_ml_X7_204 m_im_X7_step m_se_X7_step (sM0 hm) rfl (by decide) rfl (c_X7_step hm (by exact hs.1) hc (by simp only [ca_1]; omega)) (fun N32 h32 => ?_)
          obtain ⟨f32, d32, rfl, c32⟩ := h32
          try simp only [ca_ca, ca_1, dN_ca, wyM_ca, plN_ca, rpN_ca, ltN_ca, pmN_ca, wnN_ca, nbN_ca, ca_07, ca_08, ca_09, ca_010, beN_ca, ctN_ca, gonN_ca, mvN_ca, stN_ca, thN_ca, fnM_ca, tiN_ca, smN_ca, frN_ca, teN_ca] at c32 ⊢
          refine x_iinc h dX7_held_35 rfl rfl rfl ?_
          dsimp only [xset]
          refine x_goto h dX7_held_38 (tgt := 18) (by decide) ?_
          rw [if_pos (by omega)] at hw
          refine x_rng (fun hR3 => ?_)
          exact ih (n + 1) _ _ (by omega) (by assumption) hR3 hw
  refine x_rng (fun hR3 => ?_)
  exact HH 60 0 _ _ (by omega) hf0 hR3 hdef.symm

theorem dX7_still_0 : decode cX7_still 0 = .ok (.aload_n 0, 1) := by decide +kernel
theorem dX7_still_1 : decode cX7_still 1 = .ok (.getfield 9, 3) := by decide +kernel
theorem dX7_still_4 : decode cX7_still 4 = .ok (.aload_n 0, 1) := by decide +kernel
theorem dX7_still_5 : decode cX7_still 5 = .ok (.getfield 16, 3) := by decide +kernel
theorem dX7_still_8 : decode cX7_still 8 = .ok (.invokestatic 77, 3) := by decide +kernel
theorem dX7_still_11 : decode cX7_still 11 = .ok (.iconst 0, 1) := by decide +kernel
theorem dX7_still_12 : decode cX7_still 12 = .ok (.istore_n 1, 1) := by decide +kernel
theorem dX7_still_13 : decode cX7_still 13 = .ok (.aload_n 0, 1) := by decide +kernel
theorem dX7_still_14 : decode cX7_still 14 = .ok (.invokevirtual 204, 3) := by decide +kernel
theorem dX7_still_17 : decode cX7_still 17 = .ok (.iload_n 1, 1) := by decide +kernel
theorem dX7_still_18 : decode cX7_still 18 = .ok (.bipush 60, 2) := by decide +kernel
theorem dX7_still_20 : decode cX7_still 20 = .ok (.if_icmp .ge 20, 3) := by decide +kernel
theorem dX7_still_23 : decode cX7_still 23 = .ok (.aload_n 0, 1) := by decide +kernel
theorem dX7_still_24 : decode cX7_still 24 = .ok (.getfield 181, 3) := by decide +kernel
theorem dX7_still_27 : decode cX7_still 27 = .ok (.ifCond .le 13, 3) := by decide +kernel
theorem dX7_still_30 : decode cX7_still 30 = .ok (.aload_n 0, 1) := by decide +kernel
theorem dX7_still_31 : decode cX7_still 31 = .ok (.invokevirtual 204, 3) := by decide +kernel
theorem dX7_still_34 : decode cX7_still 34 = .ok (.iinc 1 1, 3) := by decide +kernel
theorem dX7_still_37 : decode cX7_still 37 = .ok (.goto (-20), 3) := by decide +kernel
theorem dX7_still_40 : decode cX7_still 40 = .ok (.aload_n 0, 1) := by decide +kernel
theorem dX7_still_41 : decode cX7_still 41 = .ok (.getfield 181, 3) := by decide +kernel
theorem dX7_still_44 : decode cX7_still 44 = .ok (.ifCond .ne 7, 3) := by decide +kernel
theorem dX7_still_47 : decode cX7_still 47 = .ok (.iconst 1, 1) := by decide +kernel
theorem dX7_still_48 : decode cX7_still 48 = .ok (.goto 4, 3) := by decide +kernel
theorem dX7_still_51 : decode cX7_still 51 = .ok (.iconst 0, 1) := by decide +kernel
theorem dX7_still_52 : decode cX7_still 52 = .ok (.istore_n 2, 1) := by decide +kernel
theorem dX7_still_53 : decode cX7_still 53 = .ok (.aload_n 0, 1) := by decide +kernel
theorem dX7_still_54 : decode cX7_still 54 = .ok (.getfield 16, 3) := by decide +kernel
theorem dX7_still_57 : decode cX7_still 57 = .ok (.aload_n 0, 1) := by decide +kernel
theorem dX7_still_58 : decode cX7_still 58 = .ok (.getfield 9, 3) := by decide +kernel
theorem dX7_still_61 : decode cX7_still 61 = .ok (.invokestatic 77, 3) := by decide +kernel
theorem dX7_still_64 : decode cX7_still 64 = .ok (.iload_n 2, 1) := by decide +kernel
theorem dX7_still_65 : decode cX7_still 65 = .ok (.ifCond .eq 7, 3) := by decide +kernel
theorem dX7_still_68 : decode cX7_still 68 = .ok (.iload_n 1, 1) := by decide +kernel
theorem dX7_still_69 : decode cX7_still 69 = .ok (.goto 9, 3) := by decide +kernel
theorem dX7_still_72 : decode cX7_still 72 = .ok (.aload_n 0, 1) := by decide +kernel
theorem dX7_still_73 : decode cX7_still 73 = .ok (.ldc 177, 2) := by decide +kernel
theorem dX7_still_75 : decode cX7_still 75 = .ok (.invokevirtual 101, 3) := by decide +kernel
theorem dX7_still_78 : decode cX7_still 78 = .ok (.ireturn, 1) := by decide +kernel
set_option maxHeartbeats 800000 in
set_option maxRecDepth 100000 in
theorem c_X7_still {l : Launch} {ω : xO} {ks : Nat → Option Nat} (hm : xsh ω = mdS ks)  {M : xMem} (hI : MInv M) (hf : Fc M)  (hcl : M 1 0 ≤ 1000000) : Cq l ω yX7_still ({ frames := 7, cells := 0, slots := 0, locals := 156 } : Room) 3 0 [.ref (xad ω 0)] M (pI1 (fun r N' => r = toR (nslN M) ∧ QuE (toM M (nslN M)) N')) := by
  refine Cq.of (bytes := cX7_still) (ret := (some .int)) (lv0 := [some (.ref (xad ω 0)), none, none]) m_cd_X7_still m_in_X7 (by decide +kernel) (by decide +kernel) rfl rfl rfl rfl ?_
  intro κ h he hR
  have hn := hI.1
  have hA : cyM M 1 3 1 = M 1 := by unfold cyM; rw [upr_n (by decide)]
  have hA3 : cyM M 1 3 3 = fiC (M 1) 177 (M 3) := by unfold cyM; rw [upr_s]
  have hAq : QuR M (cyM M 1 3) := ⟨hA, fun k a b c => by unfold cyM; rw [upr_n b], fun j a b c d e => by unfold cyM; rw [upr_n (by decide)]⟩
  have hAI : MInv (cyM M 1 3) := MInv_c hA hI
  have hAf : Fc (cyM M 1 3) := Fc_e1 (N := M) (wyM_c hA) (by unfold cyM; rw [upr_n (by decide)]) (by unfold cyM; rw [upr_n (by decide)]) hf
  have hB := hA
  have hB3 := hA3
  have hBq := hAq
  have hBI := hAI
  have hdef : nslN M = nslF (cyM M 1 3) 60 0 := rfl
  have hcA : cyM M 1 3 1 0 = M 1 0 := by rw [hA]
  refine x_aload_n h dX7_still_0 rfl ?_
  refine x_getr (j := 0) (q := 1) h dX7_still_1 (sM0 hm) rfl in_X7 rfl (by decide) m_fl_X7_9 ?_
  refine x_aload_n h dX7_still_4 rfl ?_
  refine x_getr (j := 2) (q := 3) h dX7_still_5 (sM0 hm) rfl in_X7 rfl (by decide) m_fl_X7_16 ?_
  refine x_S2v h dX7_still_8 m_ml_X7_77 m_st_X7_copyRow (by decide) rfl (c_X7_copyRow hm (sM1 hm) (sM3 hm) (by decide)) ?_
  refine x_iconst h dX7_still_11 ?_
  refine x_istore_n h dX7_still_12 rfl rfl ?_
  dsimp only [xset]
  refine x_aload_n h dX7_still_13 rfl ?_
  refine x_Q0v h dX7_still_14 m_ml_X7_204 m_im_X7_step m_se_X7_step (sM0 hm) rfl (by decide) rfl (c_X7_step hm (by exact hAI) hAf (by omega)) (fun N14 h14 => ?_)
  obtain ⟨f14, d14, rfl, c14⟩ := h14
  try simp only [ca_ca, ca_1, dN_ca, wyM_ca, plN_ca, rpN_ca, ltN_ca, pmN_ca, wnN_ca, nbN_ca, ca_07, ca_08, ca_09, ca_010, beN_ca, ctN_ca, gonN_ca, mvN_ca, stN_ca, thN_ca, fnM_ca, tiN_ca, smN_ca, frN_ca, teN_ca] at c14 ⊢
  rw [show stN (cyM M 1 3) = siN (cyM M 1 3) 1 from rfl] at *
  generalize cyM M 1 3 = A at *
  have HH : ∀ (k n : Nat) (f : Int) (d : Int → Int), n + k = 60 → Fc (ca (siN A (n + 1)) f d) → xR (ca (siN A (n + 1)) f d) → nslF A k n = nslN M → X ω κ 17 [some (.ref (xad ω 0)), some (.int (iI (n : Int))), none] [] (ca (siN A (n + 1)) f d) := by
    intro k
    induction k with
    | zero =>
      intro n f d e hc hR2 hw
      have hs0 := siN_I hBI n
      have hs := siN_I hBI (n + 1)
      have r8 : inR (siN A (n + 1) 0 7) := hR2 0 7
      unfold nslF at hw
      have hq := back_q hB hB3 hBq hs.2.1 hc
      refine x_iload_n h dX7_still_17 rfl ?_
      refine x_bipush h dX7_still_18 (by decide) ?_
      refine x_icmp_ge h dX7_still_20 (tgt := 40) (by decide) (by omega) (by omega) (fun q20 => ?_) (fun q20 => ?_)
      · refine x_aload_n h dX7_still_40 rfl ?_
        refine x_geti (j := 7) 7 h dX7_still_41 (sM0 hm) rfl in_X7 rfl (by decide) m_fl_X7_181 rfl (fun r41 => ?_)
        try simp only [up_ca1, up_ca07, up_ca08, up_ca09, up_ca010, up_10, up_01, up_0709, up_0710, ca_ca, ca_1, dN_ca, wyM_ca, plN_ca, rpN_ca, ltN_ca, pmN_ca, wnN_ca, nbN_ca, ca_07, ca_08, ca_09, ca_010, beN_ca, ctN_ca, gonN_ca, mvN_ca]
        refine x_if_ne h dX7_still_44 (tgt := 51) (by decide) (by omega) (fun q44 => ?_) (fun q44 => ?_)
        · refine x_iconst h dX7_still_51 ?_
          refine x_istore_n h dX7_still_52 rfl rfl ?_
          dsimp only [xset]
          refine x_aload_n h dX7_still_53 rfl ?_
          refine x_getr (j := 2) (q := 3) h dX7_still_54 (sM0 hm) rfl in_X7 rfl (by decide) m_fl_X7_16 ?_
          refine x_aload_n h dX7_still_57 rfl ?_
          refine x_getr (j := 0) (q := 1) h dX7_still_58 (sM0 hm) rfl in_X7 rfl (by decide) m_fl_X7_9 ?_
          refine x_S2v h dX7_still_61 m_ml_X7_77 m_st_X7_copyRow (by decide) rfl (c_X7_copyRow hm (sM3 hm) (sM1 hm) (by decide)) ?_
          refine x_iload_n h dX7_still_64 rfl ?_
          refine x_if_eq h dX7_still_65 (tgt := 72) (by decide) (by omega) (fun q65 => ?_) (fun q65 => ?_)
          · refine x_aload_n h dX7_still_72 rfl ?_
            refine x_ldc h m_k_X7_177 dX7_still_73 ?_
            refine x_V1i h dX7_still_75 m_ml_X7_101 m_im_X7_finding m_se_X7_finding (sM0 hm) rfl (by decide) rfl (c_X7_finding hm (by omega)) ?_
            try simp only [ca_ca, ca_1, dN_ca, wyM_ca, plN_ca, rpN_ca, ltN_ca, pmN_ca, wnN_ca, nbN_ca, ca_07, ca_08, ca_09, ca_010, beN_ca, ctN_ca, gonN_ca, mvN_ca, stN_ca, thN_ca, fnM_ca, tiN_ca, smN_ca, frN_ca, teN_ca]
            exact x_iretq h he dX7_still_78 ⟨by unfold toR; rw [← hw]; (repeat' split) <;> first | rfl | omega, by unfold toM; rw [← hw]; (repeat' split) <;> first | exact hq | exact hq.fn | (exfalso; omega)⟩
          · refine x_iload_n h dX7_still_68 rfl ?_
            refine x_goto h dX7_still_69 (tgt := 78) (by decide) ?_
            exact x_iretq h he dX7_still_78 ⟨by unfold toR; rw [← hw]; (repeat' split) <;> first | rfl | omega, by unfold toM; rw [← hw]; (repeat' split) <;> first | exact hq | exact hq.fn | (exfalso; omega)⟩
        · refine x_iconst h dX7_still_47 ?_
          refine x_goto h dX7_still_48 (tgt := 52) (by decide) ?_
          refine x_istore_n h dX7_still_52 rfl rfl ?_
          dsimp only [xset]
          refine x_aload_n h dX7_still_53 rfl ?_
          refine x_getr (j := 2) (q := 3) h dX7_still_54 (sM0 hm) rfl in_X7 rfl (by decide) m_fl_X7_16 ?_
          refine x_aload_n h dX7_still_57 rfl ?_
          refine x_getr (j := 0) (q := 1) h dX7_still_58 (sM0 hm) rfl in_X7 rfl (by decide) m_fl_X7_9 ?_
          refine x_S2v h dX7_still_61 m_ml_X7_77 m_st_X7_copyRow (by decide) rfl (c_X7_copyRow hm (sM3 hm) (sM1 hm) (by decide)) ?_
          refine x_iload_n h dX7_still_64 rfl ?_
          refine x_if_eq h dX7_still_65 (tgt := 72) (by decide) (by omega) (fun q65 => ?_) (fun q65 => ?_)
          · refine x_aload_n h dX7_still_72 rfl ?_
            refine x_ldc h m_k_X7_177 dX7_still_73 ?_
            refine x_V1i h dX7_still_75 m_ml_X7_101 m_im_X7_finding m_se_X7_finding (sM0 hm) rfl (by decide) rfl (c_X7_finding hm (by omega)) ?_
            try simp only [ca_ca, ca_1, dN_ca, wyM_ca, plN_ca, rpN_ca, ltN_ca, pmN_ca, wnN_ca, nbN_ca, ca_07, ca_08, ca_09, ca_010, beN_ca, ctN_ca, gonN_ca, mvN_ca, stN_ca, thN_ca, fnM_ca, tiN_ca, smN_ca, frN_ca, teN_ca]
            exact x_iretq h he dX7_still_78 ⟨by unfold toR; rw [← hw]; (repeat' split) <;> first | rfl | omega, by unfold toM; rw [← hw]; (repeat' split) <;> first | exact hq | exact hq.fn | (exfalso; omega)⟩
          · refine x_iload_n h dX7_still_68 rfl ?_
            refine x_goto h dX7_still_69 (tgt := 78) (by decide) ?_
            exact x_iretq h he dX7_still_78 ⟨by unfold toR; rw [← hw]; (repeat' split) <;> first | rfl | omega, by unfold toM; rw [← hw]; (repeat' split) <;> first | exact hq | exact hq.fn | (exfalso; omega)⟩
      · exfalso; omega
    | succ k ih =>
      intro n f d e hc hR2 hw
      have hs0 := siN_I hBI n
      have hs := siN_I hBI (n + 1)
      have r8 : inR (siN A (n + 1) 0 7) := hR2 0 7
      unfold nslF at hw
      have hq := back_q hB hB3 hBq hs.2.1 hc
      refine x_iload_n h dX7_still_17 rfl ?_
      refine x_bipush h dX7_still_18 (by decide) ?_
      refine x_icmp_ge h dX7_still_20 (tgt := 40) (by decide) (by omega) (by omega) (fun q20 => ?_) (fun q20 => ?_)
      · exfalso; omega
      · refine x_aload_n h dX7_still_23 rfl ?_
        refine x_geti (j := 7) 7 h dX7_still_24 (sM0 hm) rfl in_X7 rfl (by decide) m_fl_X7_181 rfl (fun r24 => ?_)
        try simp only [up_ca1, up_ca07, up_ca08, up_ca09, up_ca010, up_10, up_01, up_0709, up_0710, ca_ca, ca_1, dN_ca, wyM_ca, plN_ca, rpN_ca, ltN_ca, pmN_ca, wnN_ca, nbN_ca, ca_07, ca_08, ca_09, ca_010, beN_ca, ctN_ca, gonN_ca, mvN_ca]
        refine x_if_le h dX7_still_27 (tgt := 40) (by decide) (by omega) (fun q27 => ?_) (fun q27 => ?_)
        · rw [if_neg (by omega)] at hw
          try simp only [ca_ca, ca_1, dN_ca, wyM_ca, plN_ca, rpN_ca, ltN_ca, pmN_ca, wnN_ca, nbN_ca, ca_07, ca_08, ca_09, ca_010, beN_ca, ctN_ca, gonN_ca, mvN_ca, stN_ca, thN_ca, fnM_ca, tiN_ca, smN_ca, frN_ca, teN_ca]
          refine x_aload_n h dX7_still_40 rfl ?_
          refine x_geti (j := 7) 7 h dX7_still_41 (sM0 hm) rfl in_X7 rfl (by decide) m_fl_X7_181 rfl (fun r41 => ?_)
          try simp only [up_ca1, up_ca07, up_ca08, up_ca09, up_ca010, up_10, up_01, up_0709, up_0710, ca_ca, ca_1, dN_ca, wyM_ca, plN_ca, rpN_ca, ltN_ca, pmN_ca, wnN_ca, nbN_ca, ca_07, ca_08, ca_09, ca_010, beN_ca, ctN_ca, gonN_ca, mvN_ca]
          refine x_if_ne h dX7_still_44 (tgt := 51) (by decide) (by omega) (fun q44 => ?_) (fun q44 => ?_)
          · refine x_iconst h dX7_still_51 ?_
            refine x_istore_n h dX7_still_52 rfl rfl ?_
            dsimp only [xset]
            refine x_aload_n h dX7_still_53 rfl ?_
            refine x_getr (j := 2) (q := 3) h dX7_still_54 (sM0 hm) rfl in_X7 rfl (by decide) m_fl_X7_16 ?_
            refine x_aload_n h dX7_still_57 rfl ?_
            refine x_getr (j := 0) (q := 1) h dX7_still_58 (sM0 hm) rfl in_X7 rfl (by decide) m_fl_X7_9 ?_
            refine x_S2v h dX7_still_61 m_ml_X7_77 m_st_X7_copyRow (by decide) rfl (c_X7_copyRow hm (sM3 hm) (sM1 hm) (by decide)) ?_
            refine x_iload_n h dX7_still_64 rfl ?_
            refine x_if_eq h dX7_still_65 (tgt := 72) (by decide) (by omega) (fun q65 => ?_) (fun q65 => ?_)
            · refine x_aload_n h dX7_still_72 rfl ?_
              refine x_ldc h m_k_X7_177 dX7_still_73 ?_
              refine x_V1i h dX7_still_75 m_ml_X7_101 m_im_X7_finding m_se_X7_finding (sM0 hm) rfl (by decide) rfl (c_X7_finding hm (by omega)) ?_
              try simp only [ca_ca, ca_1, dN_ca, wyM_ca, plN_ca, rpN_ca, ltN_ca, pmN_ca, wnN_ca, nbN_ca, ca_07, ca_08, ca_09, ca_010, beN_ca, ctN_ca, gonN_ca, mvN_ca, stN_ca, thN_ca, fnM_ca, tiN_ca, smN_ca, frN_ca, teN_ca]
              exact x_iretq h he dX7_still_78 ⟨by unfold toR; rw [← hw]; (repeat' split) <;> first | rfl | omega, by unfold toM; rw [← hw]; (repeat' split) <;> first | exact hq | exact hq.fn | (exfalso; omega)⟩
            · refine x_iload_n h dX7_still_68 rfl ?_
              refine x_goto h dX7_still_69 (tgt := 78) (by decide) ?_
              exact x_iretq h he dX7_still_78 ⟨by unfold toR; rw [← hw]; (repeat' split) <;> first | rfl | omega, by unfold toM; rw [← hw]; (repeat' split) <;> first | exact hq | exact hq.fn | (exfalso; omega)⟩
          · refine x_iconst h dX7_still_47 ?_
            refine x_goto h dX7_still_48 (tgt := 52) (by decide) ?_
            refine x_istore_n h dX7_still_52 rfl rfl ?_
            dsimp only [xset]
            refine x_aload_n h dX7_still_53 rfl ?_
            refine x_getr (j := 2) (q := 3) h dX7_still_54 (sM0 hm) rfl in_X7 rfl (by decide) m_fl_X7_16 ?_
            refine x_aload_n h dX7_still_57 rfl ?_
            refine x_getr (j := 0) (q := 1) h dX7_still_58 (sM0 hm) rfl in_X7 rfl (by decide) m_fl_X7_9 ?_
            refine x_S2v h dX7_still_61 m_ml_X7_77 m_st_X7_copyRow (by decide) rfl (c_X7_copyRow hm (sM3 hm) (sM1 hm) (by decide)) ?_
            refine x_iload_n h dX7_still_64 rfl ?_
            refine x_if_eq h dX7_still_65 (tgt := 72) (by decide) (by omega) (fun q65 => ?_) (fun q65 => ?_)
            · refine x_aload_n h dX7_still_72 rfl ?_
              refine x_ldc h m_k_X7_177 dX7_still_73 ?_
              refine x_V1i h dX7_still_75 m_ml_X7_101 m_im_X7_finding m_se_X7_finding (sM0 hm) rfl (by decide) rfl (c_X7_finding hm (by omega)) ?_
              try simp only [ca_ca, ca_1, dN_ca, wyM_ca, plN_ca, rpN_ca, ltN_ca, pmN_ca, wnN_ca, nbN_ca, ca_07, ca_08, ca_09, ca_010, beN_ca, ctN_ca, gonN_ca, mvN_ca, stN_ca, thN_ca, fnM_ca, tiN_ca, smN_ca, frN_ca, teN_ca]
              exact x_iretq h he dX7_still_78 ⟨by unfold toR; rw [← hw]; (repeat' split) <;> first | rfl | omega, by unfold toM; rw [← hw]; (repeat' split) <;> first | exact hq | exact hq.fn | (exfalso; omega)⟩
            · refine x_iload_n h dX7_still_68 rfl ?_
              refine x_goto h dX7_still_69 (tgt := 78) (by decide) ?_
              exact x_iretq h he dX7_still_78 ⟨by unfold toR; rw [← hw]; (repeat' split) <;> first | rfl | omega, by unfold toM; rw [← hw]; (repeat' split) <;> first | exact hq | exact hq.fn | (exfalso; omega)⟩
        · refine x_aload_n h dX7_still_30 rfl ?_
          refine x_Q0v h dX7_still_31 m_ml_X7_204 m_im_X7_step m_se_X7_step (sM0 hm) rfl (by decide) rfl (c_X7_step hm (by exact hs.1) hc (by simp only [ca_1]; omega)) (fun N31 h31 => ?_)
          obtain ⟨f31, d31, rfl, c31⟩ := h31
          try simp only [ca_ca, ca_1, dN_ca, wyM_ca, plN_ca, rpN_ca, ltN_ca, pmN_ca, wnN_ca, nbN_ca, ca_07, ca_08, ca_09, ca_010, beN_ca, ctN_ca, gonN_ca, mvN_ca, stN_ca, thN_ca, fnM_ca, tiN_ca, smN_ca, frN_ca, teN_ca] at c31 ⊢
          refine x_iinc h dX7_still_34 rfl rfl rfl ?_
          dsimp only [xset]
          refine x_goto h dX7_still_37 (tgt := 17) (by decide) ?_
          rw [if_pos (by omega)] at hw
          refine x_rng (fun hR3 => ?_)
          exact ih (n + 1) _ _ (by omega) (by assumption) hR3 hw
  refine x_rng (fun hR3 => ?_)
  exact HH 60 0 _ _ (by omega) (by assumption) hR3 hdef.symm
