/-! the reference: leastWith, judge -/
theorem ca_7 {N : xMem} {f : Int} {d : Int → Int} : ca N f d 7 = N 7 := rfl
theorem lwN_ca {N : xMem} {f s o : Int} {d : Int → Int} : lwN (ca N f d) s o = lwN N s o := rfl
noncomputable def jgF (A : xMem) (s : Int) : Nat → Nat → Int
  | 0, _ => 0
  | k + 1, n => if 0 < A 1 1 ∧ A 14 (40 * s + n) = siN A (n + 1) 1 (113 + 8 * 0 + 1) then jgF A s k (n + 1) else 1 + (n : Int)
noncomputable def jgN (M : xMem) (s : Int) : Int := jgF (cyM M 1 3) s (M 13 s).toNat 0
noncomputable def njuR (M : xMem) (s : Int) : Int := if 0 ≤ s ∧ s ≤ 3 then (if M 12 s = 0 then -1000006 else jgN M s) else -1000001
def njuM (M : xMem) (s : Int) : xMem := if 0 ≤ s ∧ s ≤ 3 then (if M 12 s = 0 then fnM M (-1000006) else M) else fnM M (-1000001)
theorem dX7_leastWith_0 : decode cX7_leastWith 0 = .ok (.iload_n 1, 1) := by decide +kernel
theorem dX7_leastWith_1 : decode cX7_leastWith 1 = .ok (.invokestatic 262, 3) := by decide +kernel
theorem dX7_leastWith_4 : decode cX7_leastWith 4 = .ok (.istore_n 3, 1) := by decide +kernel
theorem dX7_leastWith_5 : decode cX7_leastWith 5 = .ok (.iload_n 2, 1) := by decide +kernel
theorem dX7_leastWith_6 : decode cX7_leastWith 6 = .ok (.iload_n 3, 1) := by decide +kernel
theorem dX7_leastWith_7 : decode cX7_leastWith 7 = .ok (.if_icmp .ne 7, 3) := by decide +kernel
theorem dX7_leastWith_10 : decode cX7_leastWith 10 = .ok (.iconst 0, 1) := by decide +kernel
theorem dX7_leastWith_11 : decode cX7_leastWith 11 = .ok (.goto 9, 3) := by decide +kernel
theorem dX7_leastWith_14 : decode cX7_leastWith 14 = .ok (.aload_n 0, 1) := by decide +kernel
theorem dX7_leastWith_15 : decode cX7_leastWith 15 = .ok (.iload_n 3, 1) := by decide +kernel
theorem dX7_leastWith_16 : decode cX7_leastWith 16 = .ok (.iload_n 2, 1) := by decide +kernel
theorem dX7_leastWith_17 : decode cX7_leastWith 17 = .ok (.invokevirtual 259, 3) := by decide +kernel
theorem dX7_leastWith_20 : decode cX7_leastWith 20 = .ok (.aload_n 0, 1) := by decide +kernel
theorem dX7_leastWith_21 : decode cX7_leastWith 21 = .ok (.getfield 28, 3) := by decide +kernel
theorem dX7_leastWith_24 : decode cX7_leastWith 24 = .ok (.iload_n 1, 1) := by decide +kernel
theorem dX7_leastWith_25 : decode cX7_leastWith 25 = .ok (.iload_n 2, 1) := by decide +kernel
theorem dX7_leastWith_26 : decode cX7_leastWith 26 = .ok (.invokestatic 265, 3) := by decide +kernel
theorem dX7_leastWith_29 : decode cX7_leastWith 29 = .ok (.iaload, 1) := by decide +kernel
theorem dX7_leastWith_30 : decode cX7_leastWith 30 = .ok (.iadd, 1) := by decide +kernel
theorem dX7_leastWith_31 : decode cX7_leastWith 31 = .ok (.ireturn, 1) := by decide +kernel
set_option maxHeartbeats 800000 in
set_option maxRecDepth 100000 in
theorem c_X7_leastWith {l : Launch} {ω : xO} {ks : Nat → Option Nat} (hm : xsh ω = mdS ks) {s o : Int} {M : xMem} (hI : MInv M) (hf : Fc M) (hs : 0 < s ∧ s < 256) (hl : lowN s < M 1 1) (ho : 0 ≤ o ∧ o < M 1 1) : Cq l ω yX7_leastWith ({ frames := 4, cells := 0, slots := 0, locals := 89 } : Room) 4 2 [.ref (xad ω 0), .int (iI s), .int (iI o)] M (pI1 (fun r N' => r = lwN M s o ∧ CaE M N')) := by
  refine Cq.of (bytes := cX7_leastWith) (ret := (some .int)) (lv0 := [some (.ref (xad ω 0)), some (.int (iI s)), some (.int (iI o)), none]) m_cd_X7_leastWith m_in_X7 (by decide +kernel) (by decide +kernel) rfl rfl rfl rfl ?_
  intro κ h he hR
  have hn := hI.1
  have hlx := (lowN_x hs).1
  have hwi := wiN_R (s := s) (by omega) o
  refine x_iload_n h dX7_leastWith_0 rfl ?_
  refine x_S1i h dX7_leastWith_1 m_ml_X7_262 m_st_X7_lowest (by decide) rfl (c_X7_lowest hm (by omega)) ?_
  refine x_istore_n h dX7_leastWith_4 rfl rfl ?_
  dsimp only [xset]
  refine x_iload_n h dX7_leastWith_5 rfl ?_
  refine x_iload_n h dX7_leastWith_6 rfl ?_
  refine x_icmp_ne h dX7_leastWith_7 (tgt := 14) (by decide) (by omega) (by omega) (fun q7 => ?_) (fun q7 => ?_)
  · refine x_aload_n h dX7_leastWith_14 rfl ?_
    refine x_iload_n h dX7_leastWith_15 rfl ?_
    refine x_iload_n h dX7_leastWith_16 rfl ?_
    refine x_Q2i h dX7_leastWith_17 m_ml_X7_259 m_im_X7_apartOf m_se_X7_apartOf (sM0 hm) rfl (by decide) rfl (c_X7_apartOf hm (by exact hI) (by assumption) (by first | omega | (simp only [ca_1]; omega)) (by first | omega | (simp only [ca_1]; omega))) (fun r17 N17 h17 => ?_)
    obtain ⟨rfl, f17, d17, rfl, c17⟩ := h17
    try simp only [ca_ca, ca_1, dN_ca, wyM_ca, plN_ca, rpN_ca, ltN_ca, pmN_ca, wnN_ca, nbN_ca, ca_07, ca_08, ca_09, ca_010, beN_ca, ctN_ca, gonN_ca, mvN_ca, stN_ca, thN_ca, fnM_ca, tiN_ca, smN_ca, frN_ca, teN_ca, apN_ca, ca_13, ca_14, ca_7, lwN_ca] at c17 ⊢
    refine x_aload_n h dX7_leastWith_20 rfl ?_
    refine x_getr (j := 13) (q := 7) h dX7_leastWith_21 (sM0 hm) rfl in_X7 rfl (by decide) m_fl_X7_28 ?_
    refine x_iload_n h dX7_leastWith_24 rfl ?_
    refine x_iload_n h dX7_leastWith_25 rfl ?_
    refine x_S2i h dX7_leastWith_26 m_ml_X7_265 m_st_X7_without (by decide) rfl (c_X7_without hm (by omega)) ?_
    try simp only [ca_ca, ca_1, dN_ca, wyM_ca, plN_ca, rpN_ca, ltN_ca, pmN_ca, wnN_ca, nbN_ca, ca_07, ca_08, ca_09, ca_010, beN_ca, ctN_ca, gonN_ca, mvN_ca, stN_ca, thN_ca, fnM_ca, tiN_ca, smN_ca, frN_ca, teN_ca, apN_ca, ca_13, ca_14, ca_7, lwN_ca]
    refine x_iaload h dX7_leastWith_29 (sM7 hm) (by omega) (fun r29 => ?_)
    try simp only [ca_7]
    refine x_iadd h dX7_leastWith_30 ?_
    exact x_iretq h he dX7_leastWith_31 ⟨by unfold lwN; first | rw [if_pos (by omega)] | rw [if_neg (by omega)], (by first | exact CaE.of (by assumption) | exact CaE.rf (by assumption))⟩
  · refine x_iconst h dX7_leastWith_10 ?_
    refine x_goto h dX7_leastWith_11 (tgt := 20) (by decide) ?_
    refine x_aload_n h dX7_leastWith_20 rfl ?_
    refine x_getr (j := 13) (q := 7) h dX7_leastWith_21 (sM0 hm) rfl in_X7 rfl (by decide) m_fl_X7_28 ?_
    refine x_iload_n h dX7_leastWith_24 rfl ?_
    refine x_iload_n h dX7_leastWith_25 rfl ?_
    refine x_S2i h dX7_leastWith_26 m_ml_X7_265 m_st_X7_without (by decide) rfl (c_X7_without hm (by omega)) ?_
    try simp only [ca_ca, ca_1, dN_ca, wyM_ca, plN_ca, rpN_ca, ltN_ca, pmN_ca, wnN_ca, nbN_ca, ca_07, ca_08, ca_09, ca_010, beN_ca, ctN_ca, gonN_ca, mvN_ca, stN_ca, thN_ca, fnM_ca, tiN_ca, smN_ca, frN_ca, teN_ca, apN_ca, ca_13, ca_14, ca_7, lwN_ca]
    refine x_iaload h dX7_leastWith_29 (sM7 hm) (by omega) (fun r29 => ?_)
    try simp only [ca_7]
    refine x_iadd h dX7_leastWith_30 ?_
    exact x_iretq h he dX7_leastWith_31 ⟨by unfold lwN; first | rw [if_pos (by omega)] | rw [if_neg (by omega)], (by first | exact CaE.of (by assumption) | exact CaE.rf (by assumption))⟩

theorem dX7_judge_0 : decode cX7_judge 0 = .ok (.iload_n 1, 1) := by decide +kernel
theorem dX7_judge_1 : decode cX7_judge 1 = .ok (.invokestatic 280, 3) := by decide +kernel
theorem dX7_judge_4 : decode cX7_judge 4 = .ok (.ifCond .ne 10, 3) := by decide +kernel
theorem dX7_judge_7 : decode cX7_judge 7 = .ok (.aload_n 0, 1) := by decide +kernel
theorem dX7_judge_8 : decode cX7_judge 8 = .ok (.ldc 76, 2) := by decide +kernel
theorem dX7_judge_10 : decode cX7_judge 10 = .ok (.invokevirtual 101, 3) := by decide +kernel
theorem dX7_judge_13 : decode cX7_judge 13 = .ok (.ireturn, 1) := by decide +kernel
theorem dX7_judge_14 : decode cX7_judge 14 = .ok (.aload_n 0, 1) := by decide +kernel
theorem dX7_judge_15 : decode cX7_judge 15 = .ok (.getfield 60, 3) := by decide +kernel
theorem dX7_judge_18 : decode cX7_judge 18 = .ok (.iload_n 1, 1) := by decide +kernel
theorem dX7_judge_19 : decode cX7_judge 19 = .ok (.iaload, 1) := by decide +kernel
theorem dX7_judge_20 : decode cX7_judge 20 = .ok (.ifCond .ne 11, 3) := by decide +kernel
theorem dX7_judge_23 : decode cX7_judge 23 = .ok (.aload_n 0, 1) := by decide +kernel
theorem dX7_judge_24 : decode cX7_judge 24 = .ok (.ldc_w 283, 3) := by decide +kernel
theorem dX7_judge_27 : decode cX7_judge 27 = .ok (.invokevirtual 101, 3) := by decide +kernel
theorem dX7_judge_30 : decode cX7_judge 30 = .ok (.ireturn, 1) := by decide +kernel
theorem dX7_judge_31 : decode cX7_judge 31 = .ok (.aload_n 0, 1) := by decide +kernel
theorem dX7_judge_32 : decode cX7_judge 32 = .ok (.getfield 9, 3) := by decide +kernel
theorem dX7_judge_35 : decode cX7_judge 35 = .ok (.aload_n 0, 1) := by decide +kernel
theorem dX7_judge_36 : decode cX7_judge 36 = .ok (.getfield 16, 3) := by decide +kernel
theorem dX7_judge_39 : decode cX7_judge 39 = .ok (.invokestatic 77, 3) := by decide +kernel
theorem dX7_judge_42 : decode cX7_judge 42 = .ok (.iconst 0, 1) := by decide +kernel
theorem dX7_judge_43 : decode cX7_judge 43 = .ok (.istore_n 2, 1) := by decide +kernel
theorem dX7_judge_44 : decode cX7_judge 44 = .ok (.iconst 1, 1) := by decide +kernel
theorem dX7_judge_45 : decode cX7_judge 45 = .ok (.istore_n 3, 1) := by decide +kernel
theorem dX7_judge_46 : decode cX7_judge 46 = .ok (.iload_n 2, 1) := by decide +kernel
theorem dX7_judge_47 : decode cX7_judge 47 = .ok (.aload_n 0, 1) := by decide +kernel
theorem dX7_judge_48 : decode cX7_judge 48 = .ok (.getfield 63, 3) := by decide +kernel
theorem dX7_judge_51 : decode cX7_judge 51 = .ok (.iload_n 1, 1) := by decide +kernel
theorem dX7_judge_52 : decode cX7_judge 52 = .ok (.iaload, 1) := by decide +kernel
theorem dX7_judge_53 : decode cX7_judge 53 = .ok (.if_icmp .ge 61, 3) := by decide +kernel
theorem dX7_judge_56 : decode cX7_judge 56 = .ok (.iload_n 3, 1) := by decide +kernel
theorem dX7_judge_57 : decode cX7_judge 57 = .ok (.ifCond .eq 57, 3) := by decide +kernel
theorem dX7_judge_60 : decode cX7_judge 60 = .ok (.aload_n 0, 1) := by decide +kernel
theorem dX7_judge_61 : decode cX7_judge 61 = .ok (.invokevirtual 204, 3) := by decide +kernel
theorem dX7_judge_64 : decode cX7_judge 64 = .ok (.aload_n 0, 1) := by decide +kernel
theorem dX7_judge_65 : decode cX7_judge 65 = .ok (.getfield 9, 3) := by decide +kernel
theorem dX7_judge_68 : decode cX7_judge 68 = .ok (.iconst 1, 1) := by decide +kernel
theorem dX7_judge_69 : decode cX7_judge 69 = .ok (.iaload, 1) := by decide +kernel
theorem dX7_judge_70 : decode cX7_judge 70 = .ok (.ifCond .le 27, 3) := by decide +kernel
theorem dX7_judge_73 : decode cX7_judge 73 = .ok (.aload_n 0, 1) := by decide +kernel
theorem dX7_judge_74 : decode cX7_judge 74 = .ok (.getfield 66, 3) := by decide +kernel
theorem dX7_judge_77 : decode cX7_judge 77 = .ok (.bipush 40, 2) := by decide +kernel
theorem dX7_judge_79 : decode cX7_judge 79 = .ok (.iload_n 1, 1) := by decide +kernel
theorem dX7_judge_80 : decode cX7_judge 80 = .ok (.imul, 1) := by decide +kernel
theorem dX7_judge_81 : decode cX7_judge 81 = .ok (.iload_n 2, 1) := by decide +kernel
theorem dX7_judge_82 : decode cX7_judge 82 = .ok (.iadd, 1) := by decide +kernel
theorem dX7_judge_83 : decode cX7_judge 83 = .ok (.iaload, 1) := by decide +kernel
theorem dX7_judge_84 : decode cX7_judge 84 = .ok (.aload_n 0, 1) := by decide +kernel
theorem dX7_judge_85 : decode cX7_judge 85 = .ok (.iconst 0, 1) := by decide +kernel
theorem dX7_judge_86 : decode cX7_judge 86 = .ok (.iconst 1, 1) := by decide +kernel
theorem dX7_judge_87 : decode cX7_judge 87 = .ok (.invokevirtual 133, 3) := by decide +kernel
theorem dX7_judge_90 : decode cX7_judge 90 = .ok (.if_icmp .ne 7, 3) := by decide +kernel
theorem dX7_judge_93 : decode cX7_judge 93 = .ok (.iconst 1, 1) := by decide +kernel
theorem dX7_judge_94 : decode cX7_judge 94 = .ok (.goto 4, 3) := by decide +kernel
theorem dX7_judge_97 : decode cX7_judge 97 = .ok (.iconst 0, 1) := by decide +kernel
theorem dX7_judge_98 : decode cX7_judge 98 = .ok (.istore_n 3, 1) := by decide +kernel
theorem dX7_judge_99 : decode cX7_judge 99 = .ok (.iload_n 2, 1) := by decide +kernel
theorem dX7_judge_100 : decode cX7_judge 100 = .ok (.iload_n 3, 1) := by decide +kernel
theorem dX7_judge_101 : decode cX7_judge 101 = .ok (.ifCond .eq 7, 3) := by decide +kernel
theorem dX7_judge_104 : decode cX7_judge 104 = .ok (.iconst 1, 1) := by decide +kernel
theorem dX7_judge_105 : decode cX7_judge 105 = .ok (.goto 4, 3) := by decide +kernel
theorem dX7_judge_108 : decode cX7_judge 108 = .ok (.iconst 0, 1) := by decide +kernel
theorem dX7_judge_109 : decode cX7_judge 109 = .ok (.iadd, 1) := by decide +kernel
theorem dX7_judge_110 : decode cX7_judge 110 = .ok (.istore_n 2, 1) := by decide +kernel
theorem dX7_judge_111 : decode cX7_judge 111 = .ok (.goto (-65), 3) := by decide +kernel
theorem dX7_judge_114 : decode cX7_judge 114 = .ok (.aload_n 0, 1) := by decide +kernel
theorem dX7_judge_115 : decode cX7_judge 115 = .ok (.iload_n 3, 1) := by decide +kernel
theorem dX7_judge_116 : decode cX7_judge 116 = .ok (.ifCond .eq 7, 3) := by decide +kernel
theorem dX7_judge_119 : decode cX7_judge 119 = .ok (.iconst 0, 1) := by decide +kernel
theorem dX7_judge_120 : decode cX7_judge 120 = .ok (.goto 6, 3) := by decide +kernel
theorem dX7_judge_123 : decode cX7_judge 123 = .ok (.iconst 1, 1) := by decide +kernel
theorem dX7_judge_124 : decode cX7_judge 124 = .ok (.iload_n 2, 1) := by decide +kernel
theorem dX7_judge_125 : decode cX7_judge 125 = .ok (.iadd, 1) := by decide +kernel
theorem dX7_judge_126 : decode cX7_judge 126 = .ok (.invokevirtual 231, 3) := by decide +kernel
theorem dX7_judge_129 : decode cX7_judge 129 = .ok (.ireturn, 1) := by decide +kernel
set_option maxHeartbeats 800000 in
set_option maxRecDepth 100000 in
theorem c_X7_judge {l : Launch} {ω : xO} {ks : Nat → Option Nat} (hm : xsh ω = mdS ks) {s : Int} {M : xMem} (hI : MInv M) (hf : Fc M) (hz : ∀ t, 0 ≤ t → t < 4 → 0 ≤ M 13 t ∧ M 13 t ≤ 40) (hs : inR s) (hcl : M 1 0 ≤ 1000000) : Cq l ω yX7_judge ({ frames := 7, cells := 0, slots := 0, locals := 156 } : Room) 4 1 [.ref (xad ω 0), .int (iI s)] M (pI1 (fun r N' => r = njuR M s ∧ QuE (njuM M s) N')) := by
  refine Cq.of (bytes := cX7_judge) (ret := (some .int)) (lv0 := [some (.ref (xad ω 0)), some (.int (iI s)), none, none]) m_cd_X7_judge m_in_X7 (by decide +kernel) (by decide +kernel) rfl rfl rfl rfl ?_
  intro κ h he hR
  have hn := hI.1
  have hzs := hz s
  have r12 : inR (M 12 s) := hR 12 s
  have hA : cyM M 1 3 1 = M 1 := by unfold cyM; rw [upr_n (by decide)]
  have hA3 : cyM M 1 3 3 = fiC (M 1) 177 (M 3) := by unfold cyM; rw [upr_s]
  have hAq : QuR M (cyM M 1 3) := ⟨hA, fun k a b c => by unfold cyM; rw [upr_n b], fun j a b c d e => by unfold cyM; rw [upr_n (by decide)]⟩
  have hAI : MInv (cyM M 1 3) := MInv_c hA hI
  have hAf : Fc (cyM M 1 3) := Fc_e1 (N := M) (wyM_c hA) (by unfold cyM; rw [upr_n (by decide)]) (by unfold cyM; rw [upr_n (by decide)]) hf
  refine x_iload_n h dX7_judge_0 rfl ?_
  refine x_S1i h dX7_judge_1 m_ml_X7_280 m_st_X7_isSheet (by decide) rfl (c_X7_isSheet hm (by omega)) ?_
  refine x_ifneB h dX7_judge_4 (tgt := 14) (by decide) (fun q4 => ?_) (fun q4 => ?_)
  · refine x_aload_n h dX7_judge_14 rfl ?_
    refine x_getr (j := 26) (q := 12) h dX7_judge_15 (sM0 hm) rfl in_X7 rfl (by decide) m_fl_X7_60 ?_
    refine x_iload_n h dX7_judge_18 rfl ?_
    refine x_iaload h dX7_judge_19 (sM12 hm) (by omega) (fun r19 => ?_)
    refine x_if_ne h dX7_judge_20 (tgt := 31) (by decide) (by omega) (fun q20 => ?_) (fun q20 => ?_)
    · refine x_aload_n h dX7_judge_31 rfl ?_
      refine x_getr (j := 0) (q := 1) h dX7_judge_32 (sM0 hm) rfl in_X7 rfl (by decide) m_fl_X7_9 ?_
      refine x_aload_n h dX7_judge_35 rfl ?_
      refine x_getr (j := 2) (q := 3) h dX7_judge_36 (sM0 hm) rfl in_X7 rfl (by decide) m_fl_X7_16 ?_
      refine x_S2v h dX7_judge_39 m_ml_X7_77 m_st_X7_copyRow (by decide) rfl (c_X7_copyRow hm (sM1 hm) (sM3 hm) (by decide)) ?_
      refine x_iconst h dX7_judge_42 ?_
      refine x_istore_n h dX7_judge_43 rfl rfl ?_
      dsimp only [xset]
      refine x_iconst h dX7_judge_44 ?_
      refine x_istore_n h dX7_judge_45 rfl rfl ?_
      dsimp only [xset]
      have hz2 := hzs (by omega) (by omega)
      have hB := hA
      have hdef : jgN M s = jgF (cyM M 1 3) s (M 13 s).toNat 0 := rfl
      have hA13 : cyM M 1 3 13 = M 13 := hAq.2.1 13 (by decide) (by decide) (by decide)
      have hA14 : cyM M 1 3 14 = M 14 := hAq.2.1 14 (by decide) (by decide) (by decide)
      generalize cyM M 1 3 = A at hA hB hA3 hAq hAI hAf hdef hA13 hA14 ⊢
      refine x_mem (M' := ca (siN A 0) (A 0 6) (A 5)) (ca_self A).symm ?_
      have hf0 : Fc (ca (siN A 0) (A 0 6) (A 5)) := by rw [siN, ca_self]; exact hAf
      have hcA : A 1 0 = M 1 0 := by rw [hB]
      have hnA : A 1 1 = M 1 1 := by rw [hB]
      have H0 : ∀ (n : Nat) (f : Int) (d : Int → Int), (n : Int) < M 13 s → Fc (ca (siN A (n + 1)) f d) → 1 + (n : Int) = jgN M s → X ω κ 46 [some (.ref (xad ω 0)), some (.int (iI s)), some (.int (iI (n : Int))), some (.int (iI 0))] [] (ca (siN A (n + 1)) f d) := by
        intro n f d hn4 hc hw
        have hs := siN_I hAI (n + 1)
        have e13 : siN A (n + 1) 13 = M 13 := by rw [hs.2.1.1 13 (by decide) (by decide), hA13]
        refine x_iload_n h dX7_judge_46 rfl ?_
        refine x_aload_n h dX7_judge_47 rfl ?_
        refine x_getr (j := 27) (q := 13) h dX7_judge_48 (sM0 hm) rfl in_X7 rfl (by decide) m_fl_X7_63 ?_
        refine x_iload_n h dX7_judge_51 rfl ?_
        refine x_iaload h dX7_judge_52 (sM13 hm) (by omega) (fun r52 => ?_)
        try simp only [up_ca1, up_ca07, up_ca08, up_ca09, up_ca010, up_10, up_01, up_0709, up_0710, ca_ca, ca_13, ca_14, ca_1, dN_ca, wyM_ca, plN_ca, rpN_ca, ltN_ca, pmN_ca, wnN_ca, nbN_ca, ca_07, ca_08, ca_09, ca_010, beN_ca, ctN_ca, gonN_ca, mvN_ca]
        rw [e13]
        refine x_icmp_ge h dX7_judge_53 (tgt := 114) (by decide) (by omega) (by omega) (fun q53 => ?_) (fun q53 => ?_)
        · exfalso; omega
        · refine x_iload_n h dX7_judge_56 rfl ?_
          refine x_if_eq h dX7_judge_57 (tgt := 114) (by decide) (by omega) (fun q57 => ?_) (fun q57 => ?_)
          · refine x_aload_n h dX7_judge_114 rfl ?_
            refine x_iload_n h dX7_judge_115 rfl ?_
            refine x_if_eq h dX7_judge_116 (tgt := 123) (by decide) (by omega) (fun q116 => ?_) (fun q116 => ?_)
            · refine x_iconst h dX7_judge_123 ?_
              refine x_iload_n h dX7_judge_124 rfl ?_
              refine x_iadd h dX7_judge_125 ?_
              refine x_V1i h dX7_judge_126 m_ml_X7_231 m_im_X7_putBack m_se_X7_putBack (sM0 hm) rfl (by decide) rfl (c_X7_putBack hm) ?_
              try simp only [ca_ca, ca_1, dN_ca, wyM_ca, plN_ca, rpN_ca, ltN_ca, pmN_ca, wnN_ca, nbN_ca, ca_07, ca_08, ca_09, ca_010, beN_ca, ctN_ca, gonN_ca, mvN_ca, stN_ca, thN_ca, fnM_ca, tiN_ca, smN_ca, frN_ca, teN_ca, apN_ca, ca_13, ca_14, ca_7, lwN_ca]
              exact x_iretq h he dX7_judge_129 ⟨by unfold njuR; rw [if_pos (by omega), if_neg (by omega), ← hw], by unfold njuM; rw [if_pos (by omega), if_neg (by omega)]; exact back_q hA hA3 hAq hs.2.1 hc⟩
            · exfalso; omega
          · exfalso; omega
      have HH : ∀ (k n : Nat) (f : Int) (d : Int → Int), n + k = (M 13 s).toNat → Fc (ca (siN A n) f d) → jgF A s k n = jgN M s → X ω κ 46 [some (.ref (xad ω 0)), some (.int (iI s)), some (.int (iI (n : Int))), some (.int (iI 1))] [] (ca (siN A n) f d) := by
        intro k
        induction k with
        | zero =>
          intro n f d e hc hw
          have hs := siN_I hAI n
          have e13 : siN A n 13 = M 13 := by rw [hs.2.1.1 13 (by decide) (by decide), hA13]
          replace hw : 0 = jgN M s := hw
          refine x_iload_n h dX7_judge_46 rfl ?_
          refine x_aload_n h dX7_judge_47 rfl ?_
          refine x_getr (j := 27) (q := 13) h dX7_judge_48 (sM0 hm) rfl in_X7 rfl (by decide) m_fl_X7_63 ?_
          refine x_iload_n h dX7_judge_51 rfl ?_
          refine x_iaload h dX7_judge_52 (sM13 hm) (by omega) (fun r52 => ?_)
          try simp only [up_ca1, up_ca07, up_ca08, up_ca09, up_ca010, up_10, up_01, up_0709, up_0710, ca_ca, ca_13, ca_14, ca_1, dN_ca, wyM_ca, plN_ca, rpN_ca, ltN_ca, pmN_ca, wnN_ca, nbN_ca, ca_07, ca_08, ca_09, ca_010, beN_ca, ctN_ca, gonN_ca, mvN_ca]
          rw [e13]
          refine x_icmp_ge h dX7_judge_53 (tgt := 114) (by decide) (by omega) (by omega) (fun q53 => ?_) (fun q53 => ?_)
          · refine x_aload_n h dX7_judge_114 rfl ?_
            refine x_iload_n h dX7_judge_115 rfl ?_
            refine x_if_eq h dX7_judge_116 (tgt := 123) (by decide) (by omega) (fun q116 => ?_) (fun q116 => ?_)
            · exfalso; omega
            · refine x_iconst h dX7_judge_119 ?_
              refine x_goto h dX7_judge_120 (tgt := 126) (by decide) ?_
              refine x_V1i h dX7_judge_126 m_ml_X7_231 m_im_X7_putBack m_se_X7_putBack (sM0 hm) rfl (by decide) rfl (c_X7_putBack hm) ?_
              try simp only [ca_ca, ca_1, dN_ca, wyM_ca, plN_ca, rpN_ca, ltN_ca, pmN_ca, wnN_ca, nbN_ca, ca_07, ca_08, ca_09, ca_010, beN_ca, ctN_ca, gonN_ca, mvN_ca, stN_ca, thN_ca, fnM_ca, tiN_ca, smN_ca, frN_ca, teN_ca, apN_ca, ca_13, ca_14, ca_7, lwN_ca]
              exact x_iretq h he dX7_judge_129 ⟨by unfold njuR; rw [if_pos (by omega), if_neg (by omega), ← hw], by unfold njuM; rw [if_pos (by omega), if_neg (by omega)]; exact back_q hA hA3 hAq hs.2.1 hc⟩
          · exfalso; omega
        | succ k ih =>
          intro n f d e hc hw
          have hs := siN_I hAI n
          have hs1 := siN_I hAI (n + 1)
          have e13 : siN A n 13 = M 13 := by rw [hs.2.1.1 13 (by decide) (by decide), hA13]
          have e14 : siN A (n + 1) 14 = M 14 := by rw [hs1.2.1.1 14 (by decide) (by decide), hA14]
          have hn1 : siN A (n + 1) 1 1 = M 1 1 := by rw [hs1.2.1.n, hnA]
          rw [show jgF A s (k + 1) n = if 0 < A 1 1 ∧ A 14 (40 * s + n) = siN A (n + 1) 1 (113 + 8 * 0 + 1) then jgF A s k (n + 1) else 1 + (n : Int) from rfl, hA14, hnA] at hw
          have ec : stN (siN A n) = siN A (n + 1) := rfl
          have hq0 : ¬ (0 < M 1 1 ∧ M 14 (40 * s + n) = siN A (n + 1) 1 (113 + 8 * 0 + 1)) → 1 + (n : Int) = jgN M s := fun z => by rw [if_neg z] at hw; exact hw
          have hq1 : (0 < M 1 1 ∧ M 14 (40 * s + n) = siN A (n + 1) 1 (113 + 8 * 0 + 1)) → jgF A s k (n + 1) = jgN M s := fun z => by rw [if_pos z] at hw; exact hw
          have hnn : (n : Int) < M 13 s := by omega
          have hnk : n + 1 + k = (M 13 s).toNat := by omega
          have r14 : inR (M 14 (40 * s + n)) := hR 14 _
          have hpl := hs1.1.2.2.2 0
          refine x_iload_n h dX7_judge_46 rfl ?_
          refine x_aload_n h dX7_judge_47 rfl ?_
          refine x_getr (j := 27) (q := 13) h dX7_judge_48 (sM0 hm) rfl in_X7 rfl (by decide) m_fl_X7_63 ?_
          refine x_iload_n h dX7_judge_51 rfl ?_
          refine x_iaload h dX7_judge_52 (sM13 hm) (by omega) (fun r52 => ?_)
          try simp only [up_ca1, up_ca07, up_ca08, up_ca09, up_ca010, up_10, up_01, up_0709, up_0710, ca_ca, ca_13, ca_14, ca_1, dN_ca, wyM_ca, plN_ca, rpN_ca, ltN_ca, pmN_ca, wnN_ca, nbN_ca, ca_07, ca_08, ca_09, ca_010, beN_ca, ctN_ca, gonN_ca, mvN_ca]
          rw [e13]
          refine x_icmp_ge h dX7_judge_53 (tgt := 114) (by decide) (by omega) (by omega) (fun q53 => ?_) (fun q53 => ?_)
          · exfalso; omega
          · refine x_iload_n h dX7_judge_56 rfl ?_
            refine x_if_eq h dX7_judge_57 (tgt := 114) (by decide) (by omega) (fun q57 => ?_) (fun q57 => ?_)
            · exfalso; omega
            · refine x_aload_n h dX7_judge_60 rfl ?_
              refine x_Q0v h dX7_judge_61 m_ml_X7_204 m_im_X7_step m_se_X7_step (sM0 hm) rfl (by decide) rfl (c_X7_step hm (MInv.ca hs.1) hc (by simp only [ca_1]; omega)) (fun N61 h61 => ?_)
              obtain ⟨f61, d61, rfl, c61⟩ := h61
              try simp only [ca_ca, ca_1, dN_ca, wyM_ca, plN_ca, rpN_ca, ltN_ca, pmN_ca, wnN_ca, nbN_ca, ca_07, ca_08, ca_09, ca_010, beN_ca, ctN_ca, gonN_ca, mvN_ca, stN_ca, thN_ca, fnM_ca, tiN_ca, smN_ca, frN_ca, teN_ca, apN_ca, ca_13, ca_14, ca_7, lwN_ca] at c61 ⊢
              try simp only [ec]
              refine x_aload_n h dX7_judge_64 rfl ?_
              refine x_getr (j := 0) (q := 1) h dX7_judge_65 (sM0 hm) rfl in_X7 rfl (by decide) m_fl_X7_9 ?_
              refine x_iconst h dX7_judge_68 ?_
              refine x_iaload h dX7_judge_69 (sM1 hm) (by omega) (fun r69 => ?_)
              try simp only [up_ca1, up_ca07, up_ca08, up_ca09, up_ca010, up_10, up_01, up_0709, up_0710, ca_ca, ca_13, ca_14, ca_1, dN_ca, wyM_ca, plN_ca, rpN_ca, ltN_ca, pmN_ca, wnN_ca, nbN_ca, ca_07, ca_08, ca_09, ca_010, beN_ca, ctN_ca, gonN_ca, mvN_ca]
              rw [hn1]
              refine x_if_le h dX7_judge_70 (tgt := 97) (by decide) (by omega) (fun q70 => ?_) (fun q70 => ?_)
              · refine x_iconst h dX7_judge_97 ?_
                refine x_istore_n h dX7_judge_98 rfl rfl ?_
                dsimp only [xset]
                refine x_iload_n h dX7_judge_99 rfl ?_
                refine x_iload_n h dX7_judge_100 rfl ?_
                refine x_if_eq h dX7_judge_101 (tgt := 108) (by decide) (by omega) (fun q101 => ?_) (fun q101 => ?_)
                · refine x_iconst h dX7_judge_108 ?_
                  refine x_iadd h dX7_judge_109 ?_
                  refine x_istore_n h dX7_judge_110 rfl rfl ?_
                  dsimp only [xset]
                  refine x_goto h dX7_judge_111 (tgt := 46) (by decide) ?_
                  first
                    | (exfalso; omega)
                    | exact ih (n + 1) _ _ hnk (by assumption) (hq1 ⟨Int.not_le.mp q70, q90⟩)
                    | exact H0 n _ _ hnn (by assumption) (hq0 (fun z => q90 z.2))
                    | exact H0 n _ _ hnn (by assumption) (hq0 (fun z => absurd z.1 (Int.not_lt.mpr q70)))
                · refine x_iconst h dX7_judge_104 ?_
                  refine x_goto h dX7_judge_105 (tgt := 109) (by decide) ?_
                  refine x_iadd h dX7_judge_109 ?_
                  refine x_istore_n h dX7_judge_110 rfl rfl ?_
                  dsimp only [xset]
                  refine x_goto h dX7_judge_111 (tgt := 46) (by decide) ?_
                  first
                    | (exfalso; omega)
                    | exact ih (n + 1) _ _ hnk (by assumption) (hq1 ⟨Int.not_le.mp q70, q90⟩)
                    | exact H0 n _ _ hnn (by assumption) (hq0 (fun z => q90 z.2))
                    | exact H0 n _ _ hnn (by assumption) (hq0 (fun z => absurd z.1 (Int.not_lt.mpr q70)))
              · refine x_aload_n h dX7_judge_73 rfl ?_
                refine x_getr (j := 28) (q := 14) h dX7_judge_74 (sM0 hm) rfl in_X7 rfl (by decide) m_fl_X7_66 ?_
                refine x_bipush h dX7_judge_77 (by decide) ?_
                refine x_iload_n h dX7_judge_79 rfl ?_
                refine x_imul h dX7_judge_80 ?_
                refine x_iload_n h dX7_judge_81 rfl ?_
                refine x_iadd h dX7_judge_82 ?_
                refine x_iaload h dX7_judge_83 (sM14 hm) (by omega) (fun r83 => ?_)
                refine x_aload_n h dX7_judge_84 rfl ?_
                refine x_iconst h dX7_judge_85 ?_
                refine x_iconst h dX7_judge_86 ?_
                refine x_V2i h dX7_judge_87 m_ml_X7_133 m_im_X7_personIs m_se_X7_personIs (sM0 hm) rfl (by decide) rfl (c_X7_personIs hm (by omega) (by omega)) ?_
                try simp only [ca_ca, ca_1, dN_ca, wyM_ca, plN_ca, rpN_ca, ltN_ca, pmN_ca, wnN_ca, nbN_ca, ca_07, ca_08, ca_09, ca_010, beN_ca, ctN_ca, gonN_ca, mvN_ca, stN_ca, thN_ca, fnM_ca, tiN_ca, smN_ca, frN_ca, teN_ca, apN_ca, ca_13, ca_14, ca_7, lwN_ca]
                try simp only [up_ca1, up_ca07, up_ca08, up_ca09, up_ca010, up_10, up_01, up_0709, up_0710, ca_ca, ca_13, ca_14, ca_1, dN_ca, wyM_ca, plN_ca, rpN_ca, ltN_ca, pmN_ca, wnN_ca, nbN_ca, ca_07, ca_08, ca_09, ca_010, beN_ca, ctN_ca, gonN_ca, mvN_ca]
                rw [e14]
                refine x_icmp_ne h dX7_judge_90 (tgt := 97) (by decide) (by omega) (by omega) (fun q90 => ?_) (fun q90 => ?_)
                · refine x_iconst h dX7_judge_97 ?_
                  refine x_istore_n h dX7_judge_98 rfl rfl ?_
                  dsimp only [xset]
                  refine x_iload_n h dX7_judge_99 rfl ?_
                  refine x_iload_n h dX7_judge_100 rfl ?_
                  refine x_if_eq h dX7_judge_101 (tgt := 108) (by decide) (by omega) (fun q101 => ?_) (fun q101 => ?_)
                  · refine x_iconst h dX7_judge_108 ?_
                    refine x_iadd h dX7_judge_109 ?_
                    refine x_istore_n h dX7_judge_110 rfl rfl ?_
                    dsimp only [xset]
                    refine x_goto h dX7_judge_111 (tgt := 46) (by decide) ?_
                    first
                      | (exfalso; omega)
                      | exact ih (n + 1) _ _ hnk (by assumption) (hq1 ⟨Int.not_le.mp q70, q90⟩)
                      | exact H0 n _ _ hnn (by assumption) (hq0 (fun z => q90 z.2))
                      | exact H0 n _ _ hnn (by assumption) (hq0 (fun z => absurd z.1 (Int.not_lt.mpr q70)))
                  · refine x_iconst h dX7_judge_104 ?_
                    refine x_goto h dX7_judge_105 (tgt := 109) (by decide) ?_
                    refine x_iadd h dX7_judge_109 ?_
                    refine x_istore_n h dX7_judge_110 rfl rfl ?_
                    dsimp only [xset]
                    refine x_goto h dX7_judge_111 (tgt := 46) (by decide) ?_
                    first
                      | (exfalso; omega)
                      | exact ih (n + 1) _ _ hnk (by assumption) (hq1 ⟨Int.not_le.mp q70, q90⟩)
                      | exact H0 n _ _ hnn (by assumption) (hq0 (fun z => q90 z.2))
                      | exact H0 n _ _ hnn (by assumption) (hq0 (fun z => absurd z.1 (Int.not_lt.mpr q70)))
                · refine x_iconst h dX7_judge_93 ?_
                  refine x_goto h dX7_judge_94 (tgt := 98) (by decide) ?_
                  refine x_istore_n h dX7_judge_98 rfl rfl ?_
                  dsimp only [xset]
                  refine x_iload_n h dX7_judge_99 rfl ?_
                  refine x_iload_n h dX7_judge_100 rfl ?_
                  refine x_if_eq h dX7_judge_101 (tgt := 108) (by decide) (by omega) (fun q101 => ?_) (fun q101 => ?_)
                  · refine x_iconst h dX7_judge_108 ?_
                    refine x_iadd h dX7_judge_109 ?_
                    refine x_istore_n h dX7_judge_110 rfl rfl ?_
                    dsimp only [xset]
                    refine x_goto h dX7_judge_111 (tgt := 46) (by decide) ?_
                    first
                      | (exfalso; omega)
                      | exact ih (n + 1) _ _ hnk (by assumption) (hq1 ⟨Int.not_le.mp q70, q90⟩)
                      | exact H0 n _ _ hnn (by assumption) (hq0 (fun z => q90 z.2))
                      | exact H0 n _ _ hnn (by assumption) (hq0 (fun z => absurd z.1 (Int.not_lt.mpr q70)))
                  · refine x_iconst h dX7_judge_104 ?_
                    refine x_goto h dX7_judge_105 (tgt := 109) (by decide) ?_
                    refine x_iadd h dX7_judge_109 ?_
                    refine x_istore_n h dX7_judge_110 rfl rfl ?_
                    dsimp only [xset]
                    refine x_goto h dX7_judge_111 (tgt := 46) (by decide) ?_
                    first
                      | (exfalso; omega)
                      | exact ih (n + 1) _ _ hnk (by assumption) (hq1 ⟨Int.not_le.mp q70, q90⟩)
                      | exact H0 n _ _ hnn (by assumption) (hq0 (fun z => q90 z.2))
                      | exact H0 n _ _ hnn (by assumption) (hq0 (fun z => absurd z.1 (Int.not_lt.mpr q70)))
      exact HH (M 13 s).toNat 0 _ _ (by omega) hf0 hdef.symm
    · refine x_aload_n h dX7_judge_23 rfl ?_
      refine x_ldcw h m_k_X7_283 dX7_judge_24 ?_
      refine x_V1i h dX7_judge_27 m_ml_X7_101 m_im_X7_finding m_se_X7_finding (sM0 hm) rfl (by decide) rfl (c_X7_finding hm (by omega)) ?_
      exact x_iretq h he dX7_judge_30 ⟨by unfold njuR; first | rw [if_neg (by omega)] | rw [if_pos (by omega), if_pos (by omega)], by unfold njuM; first | (rw [if_neg (by omega)]; exact (QuE.rf hf).fn) | (rw [if_pos (by omega), if_pos (by omega)]; exact (QuE.rf hf).fn)⟩
  · refine x_aload_n h dX7_judge_7 rfl ?_
    refine x_ldc h m_k_X7_76 dX7_judge_8 ?_
    refine x_V1i h dX7_judge_10 m_ml_X7_101 m_im_X7_finding m_se_X7_finding (sM0 hm) rfl (by decide) rfl (c_X7_finding hm (by omega)) ?_
    exact x_iretq h he dX7_judge_13 ⟨by unfold njuR; first | rw [if_neg (by omega)] | rw [if_pos (by omega), if_pos (by omega)], by unfold njuM; first | (rw [if_neg (by omega)]; exact (QuE.rf hf).fn) | (rw [if_pos (by omega), if_pos (by omega)]; exact (QuE.rf hf).fn)⟩
