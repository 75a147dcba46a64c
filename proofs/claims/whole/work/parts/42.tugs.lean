/-! the reference: tugs that were told -/
noncomputable def tuI (A : xMem) : Nat → xMem
  | 0 => A
  | k + 1 => stN (up (tuI A k) 0 10 0)
theorem tuI_I {A : xMem} (h : MInv A) : ∀ n : Nat, MInv (tuI A n) ∧ StN A (tuI A n) ∧ tuI A n 1 0 = A 1 0 + n := by
  intro n
  induction n with
  | zero => exact ⟨h, StN.rf, by rw [tuI]; omega⟩
  | succ n ih =>
    have h0 : MInv (up (tuI A n) 0 10 0) := ih.1.up0
    have := stN_I h0
    have hst : StN (tuI A n) (up (tuI A n) 0 10 0) := ⟨fun k a b => up_n a, fun j a b c => up_nn (by omega), fun j a b => rfl, fun q g a b c => rfl⟩
    exact ⟨this.1, (ih.2.1.tr hst).tr this.2.1, by rw [tuI, this.2.2, up_01, ih.2.2]; omega⟩
def tgF (A : xMem) (s : Int) : Nat → Nat → Prop
  | 0, _ => True
  | k + 1, n => tuI A (n + 1) 0 10 = A 14 (40 * s + n) ∧ tgF A s k (n + 1)
def tgdN (M : xMem) (s p : Int) : Prop := tgF (up (cyM M 1 3) 0 9 p) s (M 13 s).toNat 0
theorem ca_13 {N : xMem} {f : Int} {d : Int → Int} : ca N f d 13 = N 13 := rfl
theorem ca_14 {N : xMem} {f : Int} {d : Int → Int} : ca N f d 14 = N 14 := rfl
theorem dX7_isTugged_0 : decode cX7_isTugged 0 = .ok (.aload_n 0, 1) := by decide +kernel
theorem dX7_isTugged_1 : decode cX7_isTugged 1 = .ok (.getfield 9, 3) := by decide +kernel
theorem dX7_isTugged_4 : decode cX7_isTugged 4 = .ok (.aload_n 0, 1) := by decide +kernel
theorem dX7_isTugged_5 : decode cX7_isTugged 5 = .ok (.getfield 16, 3) := by decide +kernel
theorem dX7_isTugged_8 : decode cX7_isTugged 8 = .ok (.invokestatic 77, 3) := by decide +kernel
theorem dX7_isTugged_11 : decode cX7_isTugged 11 = .ok (.aload_n 0, 1) := by decide +kernel
theorem dX7_isTugged_12 : decode cX7_isTugged 12 = .ok (.iload_n 2, 1) := by decide +kernel
theorem dX7_isTugged_13 : decode cX7_isTugged 13 = .ok (.putfield 195, 3) := by decide +kernel
theorem dX7_isTugged_16 : decode cX7_isTugged 16 = .ok (.iconst 1, 1) := by decide +kernel
theorem dX7_isTugged_17 : decode cX7_isTugged 17 = .ok (.istore_n 3, 1) := by decide +kernel
theorem dX7_isTugged_18 : decode cX7_isTugged 18 = .ok (.iconst 0, 1) := by decide +kernel
theorem dX7_isTugged_19 : decode cX7_isTugged 19 = .ok (.istore 4, 2) := by decide +kernel
theorem dX7_isTugged_21 : decode cX7_isTugged 21 = .ok (.iload 4, 2) := by decide +kernel
theorem dX7_isTugged_23 : decode cX7_isTugged 23 = .ok (.aload_n 0, 1) := by decide +kernel
theorem dX7_isTugged_24 : decode cX7_isTugged 24 = .ok (.getfield 63, 3) := by decide +kernel
theorem dX7_isTugged_27 : decode cX7_isTugged 27 = .ok (.iload_n 1, 1) := by decide +kernel
theorem dX7_isTugged_28 : decode cX7_isTugged 28 = .ok (.iaload, 1) := by decide +kernel
theorem dX7_isTugged_29 : decode cX7_isTugged 29 = .ok (.if_icmp .ge 47, 3) := by decide +kernel
theorem dX7_isTugged_32 : decode cX7_isTugged 32 = .ok (.iload_n 3, 1) := by decide +kernel
theorem dX7_isTugged_33 : decode cX7_isTugged 33 = .ok (.ifCond .eq 43, 3) := by decide +kernel
theorem dX7_isTugged_36 : decode cX7_isTugged 36 = .ok (.aload_n 0, 1) := by decide +kernel
theorem dX7_isTugged_37 : decode cX7_isTugged 37 = .ok (.iconst 0, 1) := by decide +kernel
theorem dX7_isTugged_38 : decode cX7_isTugged 38 = .ok (.putfield 192, 3) := by decide +kernel
theorem dX7_isTugged_41 : decode cX7_isTugged 41 = .ok (.aload_n 0, 1) := by decide +kernel
theorem dX7_isTugged_42 : decode cX7_isTugged 42 = .ok (.invokevirtual 204, 3) := by decide +kernel
theorem dX7_isTugged_45 : decode cX7_isTugged 45 = .ok (.aload_n 0, 1) := by decide +kernel
theorem dX7_isTugged_46 : decode cX7_isTugged 46 = .ok (.getfield 192, 3) := by decide +kernel
theorem dX7_isTugged_49 : decode cX7_isTugged 49 = .ok (.aload_n 0, 1) := by decide +kernel
theorem dX7_isTugged_50 : decode cX7_isTugged 50 = .ok (.getfield 66, 3) := by decide +kernel
theorem dX7_isTugged_53 : decode cX7_isTugged 53 = .ok (.bipush 40, 2) := by decide +kernel
theorem dX7_isTugged_55 : decode cX7_isTugged 55 = .ok (.iload_n 1, 1) := by decide +kernel
theorem dX7_isTugged_56 : decode cX7_isTugged 56 = .ok (.imul, 1) := by decide +kernel
theorem dX7_isTugged_57 : decode cX7_isTugged 57 = .ok (.iload 4, 2) := by decide +kernel
theorem dX7_isTugged_59 : decode cX7_isTugged 59 = .ok (.iadd, 1) := by decide +kernel
theorem dX7_isTugged_60 : decode cX7_isTugged 60 = .ok (.iaload, 1) := by decide +kernel
theorem dX7_isTugged_61 : decode cX7_isTugged 61 = .ok (.if_icmp .ne 7, 3) := by decide +kernel
theorem dX7_isTugged_64 : decode cX7_isTugged 64 = .ok (.iconst 1, 1) := by decide +kernel
theorem dX7_isTugged_65 : decode cX7_isTugged 65 = .ok (.goto 4, 3) := by decide +kernel
theorem dX7_isTugged_68 : decode cX7_isTugged 68 = .ok (.iconst 0, 1) := by decide +kernel
theorem dX7_isTugged_69 : decode cX7_isTugged 69 = .ok (.istore_n 3, 1) := by decide +kernel
theorem dX7_isTugged_70 : decode cX7_isTugged 70 = .ok (.iinc 4 1, 3) := by decide +kernel
theorem dX7_isTugged_73 : decode cX7_isTugged 73 = .ok (.goto (-52), 3) := by decide +kernel
theorem dX7_isTugged_76 : decode cX7_isTugged 76 = .ok (.aload_n 0, 1) := by decide +kernel
theorem dX7_isTugged_77 : decode cX7_isTugged 77 = .ok (.getfield 16, 3) := by decide +kernel
theorem dX7_isTugged_80 : decode cX7_isTugged 80 = .ok (.aload_n 0, 1) := by decide +kernel
theorem dX7_isTugged_81 : decode cX7_isTugged 81 = .ok (.getfield 9, 3) := by decide +kernel
theorem dX7_isTugged_84 : decode cX7_isTugged 84 = .ok (.invokestatic 77, 3) := by decide +kernel
theorem dX7_isTugged_87 : decode cX7_isTugged 87 = .ok (.iload_n 3, 1) := by decide +kernel
theorem dX7_isTugged_88 : decode cX7_isTugged 88 = .ok (.ireturn, 1) := by decide +kernel
set_option maxHeartbeats 800000 in
set_option maxRecDepth 100000 in
theorem c_X7_isTugged {l : Launch} {ω : xO} {ks : Nat → Option Nat} (hm : xsh ω = mdS ks) {s p : Int} {M : xMem} (hI : MInv M) (hf : Fc M) (hs9 : 0 ≤ s ∧ s < 4) (hz : 0 ≤ M 13 s ∧ M 13 s ≤ 40) (hp : inR p) (hcl : M 1 0 ≤ 1000000) : Cq l ω yX7_isTugged ({ frames := 7, cells := 0, slots := 0, locals := 156 } : Room) 5 2 [.ref (xad ω 0), .int (iI s), .int (iI p)] M (pI1 (fun r N' => r = bI (tgdN M s p) ∧ QuE M N')) := by
  refine Cq.of (bytes := cX7_isTugged) (ret := (some .boolean)) (lv0 := [some (.ref (xad ω 0)), some (.int (iI s)), some (.int (iI p)), none, none]) m_cd_X7_isTugged m_in_X7 (by decide +kernel) (by decide +kernel) rfl rfl rfl rfl ?_
  intro κ h he hR
  have hn := hI.1
  have hA : cyM M 1 3 1 = M 1 := by unfold cyM; rw [upr_n (by decide)]
  have hA3 : cyM M 1 3 3 = fiC (M 1) 177 (M 3) := by unfold cyM; rw [upr_s]
  have hAq : QuR M (cyM M 1 3) := ⟨hA, fun k a b c => by unfold cyM; rw [upr_n b], fun j a b c d e => by unfold cyM; rw [upr_n (by decide)]⟩
  have hAI : MInv (cyM M 1 3) := MInv_c hA hI
  have hAf : Fc (cyM M 1 3) := Fc_e1 (N := M) (wyM_c hA) (by unfold cyM; rw [upr_n (by decide)]) (by unfold cyM; rw [upr_n (by decide)]) hf
  refine x_aload_n h dX7_isTugged_0 rfl ?_
  refine x_getr (j := 0) (q := 1) h dX7_isTugged_1 (sM0 hm) rfl in_X7 rfl (by decide) m_fl_X7_9 ?_
  refine x_aload_n h dX7_isTugged_4 rfl ?_
  refine x_getr (j := 2) (q := 3) h dX7_isTugged_5 (sM0 hm) rfl in_X7 rfl (by decide) m_fl_X7_16 ?_
  refine x_S2v h dX7_isTugged_8 m_ml_X7_77 m_st_X7_copyRow (by decide) rfl (c_X7_copyRow hm (sM1 hm) (sM3 hm) (by decide)) ?_
  refine x_aload_n h dX7_isTugged_11 rfl ?_
  refine x_iload_n h dX7_isTugged_12 rfl ?_
  refine x_puti (j := 9) 9 h dX7_isTugged_13 (sM0 hm) rfl in_X7 rfl (by decide) m_fl_X7_195 tyX7_ok nmX7 rfl (tyX7_ok 9 (by decide)) rfl rfl (by omega) rfl ?_
  refine x_rng (fun hRA => ?_)
  refine x_iconst h dX7_isTugged_16 ?_
  refine x_istore_n h dX7_isTugged_17 rfl rfl ?_
  dsimp only [xset]
  refine x_iconst h dX7_isTugged_18 ?_
  refine x_istore h dX7_isTugged_19 rfl rfl ?_
  dsimp only [xset]
  have hB : up (cyM M 1 3) 0 9 p 1 = M 1 := hA
  have hB3 : up (cyM M 1 3) 0 9 p 3 = fiC (M 1) 177 (M 3) := hA3
  have hBq : QuR M (up (cyM M 1 3) 0 9 p) := hAq.up0 (by omega)
  have hBI : MInv (up (cyM M 1 3) 0 9 p) := hAI.up0
  have hBf : Fc (up (cyM M 1 3) 0 9 p) := Fc_e1 (N := cyM M 1 3) rfl (up_nn (by decide)) (up_n (by decide)) hAf
  have hdef : tgdN M s p = tgF (up (cyM M 1 3) 0 9 p) s (M 13 s).toNat 0 := rfl
  clear hA hA3 hAq hAI hAf
  generalize up (cyM M 1 3) 0 9 p = A at hB hB3 hBq hBI hBf hdef ⊢
  have hA13 : A 13 = M 13 := hBq.2.1 13 (by decide) (by decide) (by decide)
  have hA14 : A 14 = M 14 := hBq.2.1 14 (by decide) (by decide) (by decide)
  refine x_mem (M' := ca (tuI A 0) (A 0 6) (A 5)) (ca_self A).symm ?_
  have hf0 : Fc (ca (tuI A 0) (A 0 6) (A 5)) := by rw [tuI, ca_self]; exact hBf
  have hcA : A 1 0 = M 1 0 := by rw [hB]
  have H0 : ∀ (n : Nat) (f : Int) (d : Int → Int), n ≤ 40 → Fc (ca (tuI A n) f d) → xR (ca (tuI A n) f d) → ¬ tgdN M s p → X ω κ 21 [some (.ref (xad ω 0)), some (.int (iI s)), some (.int (iI p)), some (.int (iI 0)), some (.int (iI (n : Int)))] [] (ca (tuI A n) f d) := by
    intro n f d hn4 hc hR2 hw
    have hs := tuI_I hBI n
    have r13 : inR (tuI A n 13 s) := hR2 13 s
    refine x_iload h dX7_isTugged_21 rfl ?_
    refine x_aload_n h dX7_isTugged_23 rfl ?_
    refine x_getr (j := 27) (q := 13) h dX7_isTugged_24 (sM0 hm) rfl in_X7 rfl (by decide) m_fl_X7_63 ?_
    refine x_iload_n h dX7_isTugged_27 rfl ?_
    refine x_iaload h dX7_isTugged_28 (sM13 hm) (by omega) (fun r28 => ?_)
    try simp only [up_ca1, up_ca07, up_ca08, up_ca09, up_ca010, up_10, up_01, up_0709, up_0710, ca_ca, ca_13, ca_14, ca_1, dN_ca, wyM_ca, plN_ca, rpN_ca, ltN_ca, pmN_ca, wnN_ca, nbN_ca, ca_07, ca_08, ca_09, ca_010, beN_ca, ctN_ca, gonN_ca, mvN_ca]
    refine x_icmp_ge h dX7_isTugged_29 (tgt := 76) (by decide) (by omega) (by omega) (fun q29 => ?_) (fun q29 => ?_)
    · refine x_aload_n h dX7_isTugged_76 rfl ?_
      refine x_getr (j := 2) (q := 3) h dX7_isTugged_77 (sM0 hm) rfl in_X7 rfl (by decide) m_fl_X7_16 ?_
      refine x_aload_n h dX7_isTugged_80 rfl ?_
      refine x_getr (j := 0) (q := 1) h dX7_isTugged_81 (sM0 hm) rfl in_X7 rfl (by decide) m_fl_X7_9 ?_
      refine x_S2v h dX7_isTugged_84 m_ml_X7_77 m_st_X7_copyRow (by decide) rfl (c_X7_copyRow hm (sM3 hm) (sM1 hm) (by decide)) ?_
      refine x_iload_n h dX7_isTugged_87 rfl ?_
      exact x_zretq h he dX7_isTugged_88 (by first | exact Or.inl rfl | exact Or.inr rfl | exact bI_01 _ | omega) ⟨(bI_f hw).symm, back_q hB hB3 hBq hs.2.1 hc⟩
    · refine x_iload_n h dX7_isTugged_32 rfl ?_
      refine x_if_eq h dX7_isTugged_33 (tgt := 76) (by decide) (by omega) (fun q33 => ?_) (fun q33 => ?_)
      · refine x_aload_n h dX7_isTugged_76 rfl ?_
        refine x_getr (j := 2) (q := 3) h dX7_isTugged_77 (sM0 hm) rfl in_X7 rfl (by decide) m_fl_X7_16 ?_
        refine x_aload_n h dX7_isTugged_80 rfl ?_
        refine x_getr (j := 0) (q := 1) h dX7_isTugged_81 (sM0 hm) rfl in_X7 rfl (by decide) m_fl_X7_9 ?_
        refine x_S2v h dX7_isTugged_84 m_ml_X7_77 m_st_X7_copyRow (by decide) rfl (c_X7_copyRow hm (sM3 hm) (sM1 hm) (by decide)) ?_
        refine x_iload_n h dX7_isTugged_87 rfl ?_
        exact x_zretq h he dX7_isTugged_88 (by first | exact Or.inl rfl | exact Or.inr rfl | exact bI_01 _ | omega) ⟨(bI_f hw).symm, back_q hB hB3 hBq hs.2.1 hc⟩
      · exfalso; omega
  have HH : ∀ (k n : Nat) (f : Int) (d : Int → Int), n + k = (M 13 s).toNat → Fc (ca (tuI A n) f d) → xR (ca (tuI A n) f d) → (tgF A s k n ↔ tgdN M s p) → X ω κ 21 [some (.ref (xad ω 0)), some (.int (iI s)), some (.int (iI p)), some (.int (iI 1)), some (.int (iI (n : Int)))] [] (ca (tuI A n) f d) := by
    intro k
    induction k with
    | zero =>
      intro n f d e hc hR2 hw
      have hs := tuI_I hBI n
      have e13 : tuI A n 13 = M 13 := by rw [hs.2.1.1 13 (by decide) (by decide), hA13]
      refine x_iload h dX7_isTugged_21 rfl ?_
      refine x_aload_n h dX7_isTugged_23 rfl ?_
      refine x_getr (j := 27) (q := 13) h dX7_isTugged_24 (sM0 hm) rfl in_X7 rfl (by decide) m_fl_X7_63 ?_
      refine x_iload_n h dX7_isTugged_27 rfl ?_
      refine x_iaload h dX7_isTugged_28 (sM13 hm) (by omega) (fun r28 => ?_)
      try simp only [up_ca1, up_ca07, up_ca08, up_ca09, up_ca010, up_10, up_01, up_0709, up_0710, ca_ca, ca_13, ca_14, ca_1, dN_ca, wyM_ca, plN_ca, rpN_ca, ltN_ca, pmN_ca, wnN_ca, nbN_ca, ca_07, ca_08, ca_09, ca_010, beN_ca, ctN_ca, gonN_ca, mvN_ca]
      rw [e13]
      refine x_icmp_ge h dX7_isTugged_29 (tgt := 76) (by decide) (by omega) (by omega) (fun q29 => ?_) (fun q29 => ?_)
      · refine x_aload_n h dX7_isTugged_76 rfl ?_
        refine x_getr (j := 2) (q := 3) h dX7_isTugged_77 (sM0 hm) rfl in_X7 rfl (by decide) m_fl_X7_16 ?_
        refine x_aload_n h dX7_isTugged_80 rfl ?_
        refine x_getr (j := 0) (q := 1) h dX7_isTugged_81 (sM0 hm) rfl in_X7 rfl (by decide) m_fl_X7_9 ?_
        refine x_S2v h dX7_isTugged_84 m_ml_X7_77 m_st_X7_copyRow (by decide) rfl (c_X7_copyRow hm (sM3 hm) (sM1 hm) (by decide)) ?_
        refine x_iload_n h dX7_isTugged_87 rfl ?_
        exact x_zretq h he dX7_isTugged_88 (by first | exact Or.inl rfl | exact Or.inr rfl | exact bI_01 _ | omega) ⟨(bI_t (hw.mp trivial)).symm, back_q hB hB3 hBq hs.2.1 hc⟩
      · exfalso; omega
    | succ k ih =>
      intro n f d e hc hR2 hw
      have hs := tuI_I hBI n
      have hs1 := tuI_I hBI (n + 1)
      have e13 : tuI A n 13 = M 13 := by rw [hs.2.1.1 13 (by decide) (by decide), hA13]
      have e14 : tuI A (n + 1) 14 = M 14 := by rw [hs1.2.1.1 14 (by decide) (by decide), hA14]
      rw [show tgF A s (k + 1) n = (tuI A (n + 1) 0 10 = A 14 (40 * s + n) ∧ tgF A s k (n + 1)) from rfl, hA14] at hw
      have hne : tuI A (n + 1) 0 10 ≠ M 14 (40 * s + n) → ¬ tgdN M s p := fun z y => z (hw.mpr y).1
      have heq : tuI A (n + 1) 0 10 = M 14 (40 * s + n) → (tgF A s k (n + 1) ↔ tgdN M s p) := fun z => ⟨fun y => hw.mp ⟨z, y⟩, fun y => (hw.mpr y).2⟩
      have ec : stN (up (tuI A n) 0 10 0) = tuI A (n + 1) := rfl
      have hn40 : n + 1 ≤ 40 := by omega
      have hn41 : n + 1 + k = (M 13 s).toNat := by omega
      refine x_iload h dX7_isTugged_21 rfl ?_
      refine x_aload_n h dX7_isTugged_23 rfl ?_
      refine x_getr (j := 27) (q := 13) h dX7_isTugged_24 (sM0 hm) rfl in_X7 rfl (by decide) m_fl_X7_63 ?_
      refine x_iload_n h dX7_isTugged_27 rfl ?_
      refine x_iaload h dX7_isTugged_28 (sM13 hm) (by omega) (fun r28 => ?_)
      try simp only [up_ca1, up_ca07, up_ca08, up_ca09, up_ca010, up_10, up_01, up_0709, up_0710, ca_ca, ca_13, ca_14, ca_1, dN_ca, wyM_ca, plN_ca, rpN_ca, ltN_ca, pmN_ca, wnN_ca, nbN_ca, ca_07, ca_08, ca_09, ca_010, beN_ca, ctN_ca, gonN_ca, mvN_ca]
      rw [e13]
      refine x_icmp_ge h dX7_isTugged_29 (tgt := 76) (by decide) (by omega) (by omega) (fun q29 => ?_) (fun q29 => ?_)
      · exfalso; omega
      · refine x_iload_n h dX7_isTugged_32 rfl ?_
        refine x_if_eq h dX7_isTugged_33 (tgt := 76) (by decide) (by omega) (fun q33 => ?_) (fun q33 => ?_)
        · exfalso; omega
        · refine x_aload_n h dX7_isTugged_36 rfl ?_
          refine x_iconst h dX7_isTugged_37 ?_
          refine x_puti (j := 10) 10 h dX7_isTugged_38 (sM0 hm) rfl in_X7 rfl (by decide) m_fl_X7_192 tyX7_ok nmX7 rfl (tyX7_ok 10 (by decide)) rfl rfl (by omega) rfl ?_
          try simp only [up_ca1, up_ca07, up_ca08, up_ca09, up_ca010, up_10, up_01, up_0709, up_0710, ca_ca, ca_13, ca_14, ca_1, dN_ca, wyM_ca, plN_ca, rpN_ca, ltN_ca, pmN_ca, wnN_ca, nbN_ca, ca_07, ca_08, ca_09, ca_010, beN_ca, ctN_ca, gonN_ca, mvN_ca]
          refine x_aload_n h dX7_isTugged_41 rfl ?_
          refine x_Q0v h dX7_isTugged_42 m_ml_X7_204 m_im_X7_step m_se_X7_step (sM0 hm) rfl (by decide) rfl (c_X7_step hm (MInv.ca (MInv.up0 (i := 10) (v := 0) hs.1)) (Fc_e (N := tuI A n) rfl hc) (by simp only [ca_1, up_01]; omega)) (fun N42 h42 => ?_)
          obtain ⟨f42, d42, rfl, c42⟩ := h42
          try simp only [ca_ca, ca_1, dN_ca, wyM_ca, plN_ca, rpN_ca, ltN_ca, pmN_ca, wnN_ca, nbN_ca, ca_07, ca_08, ca_09, ca_010, beN_ca, ctN_ca, gonN_ca, mvN_ca, stN_ca, thN_ca, fnM_ca, tiN_ca, smN_ca, frN_ca, teN_ca, apN_ca, ca_13, ca_14] at c42 ⊢
          try simp only [ec]
          refine x_rng (fun hR3 => ?_)
          have r10 : inR (tuI A (n + 1) 0 10) := hR3 0 10
          have r14 : inR (M 14 (40 * s + n)) := hR 14 _
          refine x_aload_n h dX7_isTugged_45 rfl ?_
          refine x_geti (j := 10) 10 h dX7_isTugged_46 (sM0 hm) rfl in_X7 rfl (by decide) m_fl_X7_192 rfl (fun r46 => ?_)
          try simp only [up_ca1, up_ca07, up_ca08, up_ca09, up_ca010, up_10, up_01, up_0709, up_0710, ca_ca, ca_13, ca_14, ca_1, dN_ca, wyM_ca, plN_ca, rpN_ca, ltN_ca, pmN_ca, wnN_ca, nbN_ca, ca_07, ca_08, ca_09, ca_010, beN_ca, ctN_ca, gonN_ca, mvN_ca]
          refine x_aload_n h dX7_isTugged_49 rfl ?_
          refine x_getr (j := 28) (q := 14) h dX7_isTugged_50 (sM0 hm) rfl in_X7 rfl (by decide) m_fl_X7_66 ?_
          refine x_bipush h dX7_isTugged_53 (by decide) ?_
          refine x_iload_n h dX7_isTugged_55 rfl ?_
          refine x_imul h dX7_isTugged_56 ?_
          refine x_iload h dX7_isTugged_57 rfl ?_
          refine x_iadd h dX7_isTugged_59 ?_
          refine x_iaload h dX7_isTugged_60 (sM14 hm) (by omega) (fun r60 => ?_)
          try simp only [up_ca1, up_ca07, up_ca08, up_ca09, up_ca010, up_10, up_01, up_0709, up_0710, ca_ca, ca_13, ca_14, ca_1, dN_ca, wyM_ca, plN_ca, rpN_ca, ltN_ca, pmN_ca, wnN_ca, nbN_ca, ca_07, ca_08, ca_09, ca_010, beN_ca, ctN_ca, gonN_ca, mvN_ca]
          rw [e14]
          refine x_icmp_ne h dX7_isTugged_61 (tgt := 68) (by decide) (by omega) (by omega) (fun q61 => ?_) (fun q61 => ?_)
          · refine x_iconst h dX7_isTugged_68 ?_
            refine x_istore_n h dX7_isTugged_69 rfl rfl ?_
            dsimp only [xset]
            refine x_iinc h dX7_isTugged_70 rfl rfl rfl ?_
            dsimp only [xset]
            refine x_goto h dX7_isTugged_73 (tgt := 21) (by decide) ?_
            first
              | exact H0 (n + 1) _ _ hn40 (by assumption) hR3 (hne q61)
              | exact ih (n + 1) _ _ hn41 (by assumption) hR3 (heq q61)
          · refine x_iconst h dX7_isTugged_64 ?_
            refine x_goto h dX7_isTugged_65 (tgt := 69) (by decide) ?_
            refine x_istore_n h dX7_isTugged_69 rfl rfl ?_
            dsimp only [xset]
            refine x_iinc h dX7_isTugged_70 rfl rfl rfl ?_
            dsimp only [xset]
            refine x_goto h dX7_isTugged_73 (tgt := 21) (by decide) ?_
            first
              | exact H0 (n + 1) _ _ hn40 (by assumption) hR3 (hne q61)
              | exact ih (n + 1) _ _ hn41 (by assumption) hR3 (heq q61)
  refine x_rng (fun hR9 => ?_)
  exact HH (M 13 s).toNat 0 _ _ (by omega) hf0 hR9 (by rw [hdef])
