/-! the reference: who fits -/
/-- N stands as M but for rows that only serve searches, pairings and cuts -/
def QuW (M N : xMem) : Prop := (N 1 = M 1 ∧ (∀ k, k ≠ 0 → k ≠ 3 → k ≠ 5 → k ≠ 6 → k ≠ 7 → k ≠ 8 → N k = M k) ∧ (∀ j, j ≠ 6 → j ≠ 7 → j ≠ 8 → j ≠ 9 → j ≠ 10 → j ≠ 11 → N 0 j = M 0 j)) ∧ Fc N
theorem QuE.w {M N : xMem} (h : QuE M N) : QuW M N := ⟨⟨h.1.1, fun k a b c d e f => h.1.2.1 k a b c, fun j a b c d e f => h.1.2.2 j a b c d e⟩, h.2⟩
theorem QuW.fn {M N : xMem} {v : Int} (h : QuW M N) : QuW (fnM M v) (fnM N v) := by
  have h4 := h.1.2.1 4 (by decide) (by decide) (by decide) (by decide) (by decide) (by decide)
  refine ⟨⟨h.1.1, fun k a b c d' e g => ?_, fun j a b c d' e g => h.1.2.2 j a b c d' e g⟩, Fc_e1 (N := N) fnM_y rfl rfl h.2⟩
  by_cases hk : k = 4
  · subst hk
    unfold fnM
    rw [up_s, up_s, up_s, up_s, h4]
  · unfold fnM
    rw [up_n hk, up_n hk, up_n hk, up_n hk]
    exact h.1.2.1 k a b c d' e g
theorem QuW.of6 {M B N : xMem} (hB : B = cyM M 1 6) (h : QuR B N) (hF : Fc N) : QuW M N := by
  subst hB
  refine ⟨⟨h.1.trans (by unfold cyM; rw [upr_n (by decide)]), fun k a b c d e f => ?_, fun j a b c d e f => ?_⟩, hF⟩
  · rw [h.2.1 k a b c]; unfold cyM; rw [upr_n d]
  · rw [h.2.2 j a b c d e]; unfold cyM; rw [upr_n (by decide)]
def TuE (M N : xMem) : Prop := N 1 = M 1 ∧ N 0 9 = M 0 9 ∧ N 0 10 = M 0 10
theorem mvN_t {M N : xMem} {p : Int} (h : TuE M N) : TuE (mvN M p) (mvN N p) := by
  refine ⟨mvN_c h.1 p, ?_⟩
  unfold mvN tI
  rw [wnN_c h.1, h.1, ltN_c h.1, pmN_c h.1, ctN_c h.1]
  split
  · exact h.2
  · split
    · exact h.2
    · split
      · refine ⟨h.2.1, ?_⟩
        show wr (N 0 10 + bI (N 1 (113 + 8 * p + 3) = N 0 9)) = wr (M 0 10 + bI (M 1 (113 + 8 * p + 3) = M 0 9))
        rw [h.1, h.2.1, h.2.2]
      · exact h.2
theorem gwN_t (p : Int) : ∀ (n : Nat) (M N : xMem), TuE M N → TuE (gwN p n M) (gwN p n N) := by
  intro n
  induction n with
  | zero => intro M N h; exact h
  | succ n ih =>
    intro M N h
    unfold gwN tI
    rw [gonN_c h.1]
    split
    · exact ih _ _ (mvN_t h)
    · exact mvN_t h
theorem saN_t {M N : xMem} (h : TuE M N) : ∀ n : Nat, TuE (saN M n) (saN N n) := by
  intro n
  induction n with
  | zero => exact h
  | succ n ih => rw [saN, saN, ih.1]; exact gwN_t _ _ _ _ ih
theorem stN_t {M N : xMem} (h : TuE M N) : TuE (stN M) (stN N) := by
  have e : TuE (sa0 M) (sa0 N) := by
    unfold sa0
    rw [h.1]
    exact saN_t (M := up M 0 7 0) (N := up N 0 7 0) h _
  exact ⟨stN_c h.1, e.2⟩
theorem tuI_t {A C : xMem} (h : C 1 = A 1) (h9 : C 0 9 = A 0 9) : ∀ n : Nat, (tuI C n 1 = tuI A n 1 ∧ tuI C n 0 9 = tuI A n 0 9) ∧ (0 < n → tuI C n 0 10 = tuI A n 0 10) := by
  intro n
  induction n with
  | zero => exact ⟨⟨h, h9⟩, fun z => absurd z (by decide)⟩
  | succ n ih =>
    have := stN_t (M := up (tuI A n) 0 10 0) (N := up (tuI C n) 0 10 0) ⟨ih.1.1, ih.1.2, rfl⟩
    exact ⟨⟨this.1, this.2.1⟩, fun _ => this.2.2⟩
theorem tgF_c {A C : xMem} {s : Int} (h : C 1 = A 1) (h9 : C 0 9 = A 0 9) (h14 : C 14 = A 14) : ∀ k n : Nat, tgF C s k n = tgF A s k n := by
  intro k
  induction k with
  | zero => intro n; rfl
  | succ k ih => intro n; rw [tgF, tgF, ih, (tuI_t h h9 (n + 1)).2 (by omega), h14]
theorem tgdN_c {M N : xMem} {s p : Int} (h : N 1 = M 1) (h13 : N 13 = M 13) (h14 : N 14 = M 14) : tgdN N s p = tgdN M s p := by
  unfold tgdN
  rw [h13]
  have h9 : up (cyM N 1 3) 0 9 p 0 9 = up (cyM M 1 3) 0 9 p 0 9 := by rw [up_ss, up_ss]
  exact tgF_c (A := up (cyM M 1 3) 0 9 p) (C := up (cyM N 1 3) 0 9 p) h h9 h14 _ _
theorem frN_c {M N : xMem} {p : Int} (h : N 1 = M 1) : frN N p 1 = frN M p 1 := by
  unfold frN
  rw [h]
  split
  · rw [up_s, up_s, up_s, up_s, up_s, up_s, up_s, up_s, h]
  · rw [up_s, up_s, up_s, up_s, h]
theorem teN_c {M N : xMem} {a c n : Int} (h : N 1 = M 1) : teN N a c n 1 = teN M a c n 1 := by
  unfold teN
  rw [up_s, up_s, up_s, up_s, up_s, up_s, up_s, up_s, frN_c (frN_c h)]
theorem bk_q {M B N T T' : xMem} (h1 : B 1 = M 1) (h6 : B 6 = fiC (M 1) 177 (M 6)) (hN : QuR B N) (hT : TiR N T) (hQ : QuE T T') : QuR B (cyM T' 6 1) ∧ Fc (cyM T' 6 1) := by
  have e6 : T' 6 = fiC (M 1) 177 (M 6) := by rw [hQ.1.2.1 6 (by decide) (by decide) (by decide), hT.1 6 (by decide), hN.2.1 6 (by decide) (by decide) (by decide), h6]
  have e1 : cyM T' 6 1 1 = B 1 := by
    unfold cyM
    rw [upr_s, e6, h1]
    funext j
    unfold fiC
    by_cases hj : 0 ≤ j ∧ j < 177
    · rw [if_pos hj, if_pos hj]
    · rw [if_neg hj, hQ.1.1, hT.2.1 j (by omega), hN.1, h1]
  have hq : QuR B (cyM T' 6 1) := by
    refine ⟨e1, fun k a b c => ?_, fun j a b c d e => ?_⟩
    · by_cases hk : k = 1
      · subst hk; exact e1
      · unfold cyM
        rw [upr_n hk, hQ.1.2.1 k a b c, hT.1 k hk]
        exact hN.2.1 k a b c
    · unfold cyM
      rw [upr_n (by decide), hQ.1.2.2 j a b c d e, hT.1 0 (by decide)]
      exact hN.2.2 j a b c d e
  refine ⟨hq, Fc_e1 (N := T') ?_ ?_ ?_ hQ.2⟩
  · rw [hq.y, hQ.1.y, hT.y, hN.y]
  · unfold cyM; rw [upr_n (by decide)]
  · unfold cyM; rw [upr_n (by decide)]
noncomputable def wfG (M : xMem) (s p n : Int) (m acc : Int) : Int := tI (m ≠ p ∧ tgdN (teN M p m n) s p) (bor acc (bshl 1 m)) acc
noncomputable def wfN (M : xMem) (s p n : Int) (k : Nat) : Int := xfo (wfG M s p n) 0 k
theorem wfN_s (M : xMem) (s p n : Int) (k : Nat) : wfN M s p n (k + 1) = wfG M s p n (k : Int) (wfN M s p n k) := by
  unfold wfN
  rw [xfo_s (wfG M s p n) 0 k]
theorem dX7_whoFits_0 : decode cX7_whoFits 0 = .ok (.aload_n 0, 1) := by decide +kernel
theorem dX7_whoFits_1 : decode cX7_whoFits 1 = .ok (.getfield 9, 3) := by decide +kernel
theorem dX7_whoFits_4 : decode cX7_whoFits 4 = .ok (.aload_n 0, 1) := by decide +kernel
theorem dX7_whoFits_5 : decode cX7_whoFits 5 = .ok (.getfield 25, 3) := by decide +kernel
theorem dX7_whoFits_8 : decode cX7_whoFits 8 = .ok (.invokestatic 77, 3) := by decide +kernel
theorem dX7_whoFits_11 : decode cX7_whoFits 11 = .ok (.iconst 0, 1) := by decide +kernel
theorem dX7_whoFits_12 : decode cX7_whoFits 12 = .ok (.istore 4, 2) := by decide +kernel
theorem dX7_whoFits_14 : decode cX7_whoFits 14 = .ok (.iconst 0, 1) := by decide +kernel
theorem dX7_whoFits_15 : decode cX7_whoFits 15 = .ok (.istore 5, 2) := by decide +kernel
theorem dX7_whoFits_17 : decode cX7_whoFits 17 = .ok (.iload 5, 2) := by decide +kernel
theorem dX7_whoFits_19 : decode cX7_whoFits 19 = .ok (.aload_n 0, 1) := by decide +kernel
theorem dX7_whoFits_20 : decode cX7_whoFits 20 = .ok (.getfield 9, 3) := by decide +kernel
theorem dX7_whoFits_23 : decode cX7_whoFits 23 = .ok (.iconst 1, 1) := by decide +kernel
theorem dX7_whoFits_24 : decode cX7_whoFits 24 = .ok (.iaload, 1) := by decide +kernel
theorem dX7_whoFits_25 : decode cX7_whoFits 25 = .ok (.if_icmp .ge 56, 3) := by decide +kernel
theorem dX7_whoFits_28 : decode cX7_whoFits 28 = .ok (.iload 5, 2) := by decide +kernel
theorem dX7_whoFits_30 : decode cX7_whoFits 30 = .ok (.iload_n 2, 1) := by decide +kernel
theorem dX7_whoFits_31 : decode cX7_whoFits 31 = .ok (.if_icmp .eq 44, 3) := by decide +kernel
theorem dX7_whoFits_34 : decode cX7_whoFits 34 = .ok (.aload_n 0, 1) := by decide +kernel
theorem dX7_whoFits_35 : decode cX7_whoFits 35 = .ok (.iload_n 2, 1) := by decide +kernel
theorem dX7_whoFits_36 : decode cX7_whoFits 36 = .ok (.iload 5, 2) := by decide +kernel
theorem dX7_whoFits_38 : decode cX7_whoFits 38 = .ok (.iload_n 3, 1) := by decide +kernel
theorem dX7_whoFits_39 : decode cX7_whoFits 39 = .ok (.invokevirtual 167, 3) := by decide +kernel
theorem dX7_whoFits_42 : decode cX7_whoFits 42 = .ok (.iload 4, 2) := by decide +kernel
theorem dX7_whoFits_44 : decode cX7_whoFits 44 = .ok (.aload_n 0, 1) := by decide +kernel
theorem dX7_whoFits_45 : decode cX7_whoFits 45 = .ok (.iload_n 1, 1) := by decide +kernel
theorem dX7_whoFits_46 : decode cX7_whoFits 46 = .ok (.iload_n 2, 1) := by decide +kernel
theorem dX7_whoFits_47 : decode cX7_whoFits 47 = .ok (.invokevirtual 277, 3) := by decide +kernel
theorem dX7_whoFits_50 : decode cX7_whoFits 50 = .ok (.ifCond .eq 10, 3) := by decide +kernel
theorem dX7_whoFits_53 : decode cX7_whoFits 53 = .ok (.iconst 1, 1) := by decide +kernel
theorem dX7_whoFits_54 : decode cX7_whoFits 54 = .ok (.iload 5, 2) := by decide +kernel
theorem dX7_whoFits_56 : decode cX7_whoFits 56 = .ok (.ishl, 1) := by decide +kernel
theorem dX7_whoFits_57 : decode cX7_whoFits 57 = .ok (.goto 4, 3) := by decide +kernel
theorem dX7_whoFits_60 : decode cX7_whoFits 60 = .ok (.iconst 0, 1) := by decide +kernel
theorem dX7_whoFits_61 : decode cX7_whoFits 61 = .ok (.ior, 1) := by decide +kernel
theorem dX7_whoFits_62 : decode cX7_whoFits 62 = .ok (.istore 4, 2) := by decide +kernel
theorem dX7_whoFits_64 : decode cX7_whoFits 64 = .ok (.aload_n 0, 1) := by decide +kernel
theorem dX7_whoFits_65 : decode cX7_whoFits 65 = .ok (.getfield 25, 3) := by decide +kernel
theorem dX7_whoFits_68 : decode cX7_whoFits 68 = .ok (.aload_n 0, 1) := by decide +kernel
theorem dX7_whoFits_69 : decode cX7_whoFits 69 = .ok (.getfield 9, 3) := by decide +kernel
theorem dX7_whoFits_72 : decode cX7_whoFits 72 = .ok (.invokestatic 77, 3) := by decide +kernel
theorem dX7_whoFits_75 : decode cX7_whoFits 75 = .ok (.iinc 5 1, 3) := by decide +kernel
theorem dX7_whoFits_78 : decode cX7_whoFits 78 = .ok (.goto (-61), 3) := by decide +kernel
theorem dX7_whoFits_81 : decode cX7_whoFits 81 = .ok (.iload 4, 2) := by decide +kernel
theorem dX7_whoFits_83 : decode cX7_whoFits 83 = .ok (.ireturn, 1) := by decide +kernel
set_option maxHeartbeats 800000 in
set_option maxRecDepth 100000 in
theorem c_X7_whoFits {l : Launch} {ω : xO} {ks : Nat → Option Nat} (hm : xsh ω = mdS ks) {s p n : Int} {M : xMem} (hI : MInv M) (hf : Fc M) (hs9 : 0 ≤ s ∧ s < 4) (hz : 0 ≤ M 13 s ∧ M 13 s ≤ 40) (hp9 : 0 ≤ p ∧ p < M 1 1) (hn9 : 0 ≤ n ∧ n ≤ 99) (hcl : M 1 0 ≤ 1000000) : Cq l ω yX7_whoFits ({ frames := 8, cells := 0, slots := 0, locals := 180 } : Room) 6 3 [.ref (xad ω 0), .int (iI s), .int (iI p), .int (iI n)] M (pI1 (fun r N' => r = wfN M s p n (M 1 1).toNat ∧ QuW M N')) := by
  refine Cq.of (bytes := cX7_whoFits) (ret := (some .int)) (lv0 := [some (.ref (xad ω 0)), some (.int (iI s)), some (.int (iI p)), some (.int (iI n)), none, none]) m_cd_X7_whoFits m_in_X7 (by decide +kernel) (by decide +kernel) rfl rfl rfl rfl ?_
  intro κ h he hR
  have hn := hI.1
  refine x_aload_n h dX7_whoFits_0 rfl ?_
  refine x_getr (j := 0) (q := 1) h dX7_whoFits_1 (sM0 hm) rfl in_X7 rfl (by decide) m_fl_X7_9 ?_
  refine x_aload_n h dX7_whoFits_4 rfl ?_
  refine x_getr (j := 12) (q := 6) h dX7_whoFits_5 (sM0 hm) rfl in_X7 rfl (by decide) m_fl_X7_25 ?_
  refine x_S2v h dX7_whoFits_8 m_ml_X7_77 m_st_X7_copyRow (by decide) rfl (c_X7_copyRow hm (sM1 hm) (sM6 hm) (by decide)) ?_
  refine x_iconst h dX7_whoFits_11 ?_
  refine x_istore h dX7_whoFits_12 rfl rfl ?_
  dsimp only [xset]
  refine x_iconst h dX7_whoFits_14 ?_
  refine x_istore h dX7_whoFits_15 rfl rfl ?_
  dsimp only [xset]
  have hB1 : cyM M 1 6 1 = M 1 := by unfold cyM; rw [upr_n (by decide)]
  have hB6 : cyM M 1 6 6 = fiC (M 1) 177 (M 6) := by unfold cyM; rw [upr_s]
  have hB13 : cyM M 1 6 13 = M 13 := by unfold cyM; rw [upr_n (by decide)]
  have hB14 : cyM M 1 6 14 = M 14 := by unfold cyM; rw [upr_n (by decide)]
  have hBf : Fc (cyM M 1 6) := Fc_e1 (N := M) (wyM_c hB1) (by unfold cyM; rw [upr_n (by decide)]) (by unfold cyM; rw [upr_n (by decide)]) hf
  generalize hBd : cyM M 1 6 = B at hB1 hB6 hB13 hB14 hBf ⊢
  have HH : ∀ (k j : Nat) (N : xMem), j + k = (M 1 1).toNat → QuR B N → Fc N → X ω κ 17 [some (.ref (xad ω 0)), some (.int (iI s)), some (.int (iI p)), some (.int (iI n)), some (.int (iI (wfN M s p n j))), some (.int (iI (j : Int)))] [] N := by
    intro k
    induction k with
    | zero =>
      intro j N e hq hF
      have ej : j = (M 1 1).toNat := by omega
      subst ej
      have hn1 : N 1 1 = M 1 1 := by rw [hq.1, hB1]
      refine x_iload h dX7_whoFits_17 rfl ?_
      refine x_aload_n h dX7_whoFits_19 rfl ?_
      refine x_getr (j := 0) (q := 1) h dX7_whoFits_20 (sM0 hm) rfl in_X7 rfl (by decide) m_fl_X7_9 ?_
      refine x_iconst h dX7_whoFits_23 ?_
      refine x_iaload h dX7_whoFits_24 (sM1 hm) (by omega) (fun r24 => ?_)
      rw [hn1]
      refine x_icmp_ge h dX7_whoFits_25 (tgt := 81) (by decide) (by omega) (by omega) (fun q25 => ?_) (fun q25 => ?_)
      · refine x_iload h dX7_whoFits_81 rfl ?_
        exact x_iretq h he dX7_whoFits_83 ⟨rfl, QuW.of6 hBd.symm hq hF⟩
      · exfalso; omega
    | succ k ih =>
      intro j N e hq hF
      have hn1 : N 1 1 = M 1 1 := by rw [hq.1, hB1]
      have hk1 : N 1 0 = M 1 0 := by rw [hq.1, hB1]
      have hNM : N 1 = M 1 := by rw [hq.1, hB1]
      have hNI : MInv N := MInv_c hNM hI
      have hj : (j : Int) < M 1 1 := by omega
      have hT := teN_I (n := n) hNI (a := p) (c := (j : Int)) (by omega) (by omega) (by omega)
      have hT1 := hT.2.nq
      have hT0 : teN N p (j : Int) n 1 0 = N 1 0 := hT.2.2.1 0 (by decide)
      have hN13 : N 13 = M 13 := by rw [hq.2.1 13 (by decide) (by decide) (by decide), hB13]
      have hN14 : N 14 = M 14 := by rw [hq.2.1 14 (by decide) (by decide) (by decide), hB14]
      have hTF : Fc (teN N p (j : Int) n) := Fc_e1 (N := N) hT.2.y (by rw [hT.2.1 0 (by decide)]) (by rw [hT.2.1 5 (by decide)]) hF
      have hT13 : teN N p (j : Int) n 13 = M 13 := by rw [hT.2.1 13 (by decide), hN13]
      have htg : tgdN (teN N p (j : Int) n) s p = tgdN (teN M p (j : Int) n) s p := tgdN_c (teN_c hNM) (by rw [hT13, (teN_I hI (a := p) (c := (j : Int)) (n := n) hp9 (by omega) (by omega)).2.1 13 (by decide)]) (by rw [hT.2.1 14 (by decide), hN14, (teN_I hI (a := p) (c := (j : Int)) (n := n) hp9 (by omega) (by omega)).2.1 14 (by decide)])
      have ihj := ih (j + 1)
      rw [wfN_s] at ihj
      unfold wfG at ihj
      refine x_iload h dX7_whoFits_17 rfl ?_
      refine x_aload_n h dX7_whoFits_19 rfl ?_
      refine x_getr (j := 0) (q := 1) h dX7_whoFits_20 (sM0 hm) rfl in_X7 rfl (by decide) m_fl_X7_9 ?_
      refine x_iconst h dX7_whoFits_23 ?_
      refine x_iaload h dX7_whoFits_24 (sM1 hm) (by omega) (fun r24 => ?_)
      rw [hn1]
      refine x_icmp_ge h dX7_whoFits_25 (tgt := 81) (by decide) (by omega) (by omega) (fun q25 => ?_) (fun q25 => ?_)
      · exfalso; omega
      · refine x_iload h dX7_whoFits_28 rfl ?_
        refine x_iload_n h dX7_whoFits_30 rfl ?_
        refine x_icmp_eq h dX7_whoFits_31 (tgt := 75) (by decide) (by omega) (by omega) (fun q31 => ?_) (fun q31 => ?_)
        · refine x_iinc h dX7_whoFits_75 rfl rfl rfl ?_
          dsimp only [xset]
          refine x_goto h dX7_whoFits_78 (tgt := 17) (by decide) ?_
          first
            | (rw [tI_n (fun z => z.1 q31)] at ihj; exact ihj _ (by omega) hq hF)
            | (rw [tI_p (And.intro q31 q50)] at ihj; exact ihj _ (by omega) hbk.1 hbk.2)
            | (rw [tI_n (fun z => q50 z.2), ← iI_bor0 (wfN M s p n j)] at ihj; exact ihj _ (by omega) hbk.1 hbk.2)
        · refine x_aload_n h dX7_whoFits_34 rfl ?_
          refine x_iload_n h dX7_whoFits_35 rfl ?_
          refine x_iload h dX7_whoFits_36 rfl ?_
          refine x_iload_n h dX7_whoFits_38 rfl ?_
          refine x_V3v h dX7_whoFits_39 m_ml_X7_167 m_im_X7_ties m_se_X7_ties (sM0 hm) rfl (by decide) rfl (c_X7_ties hm hNI (by omega) (by omega) (by omega)) ?_
          refine x_iload h dX7_whoFits_42 rfl ?_
          refine x_aload_n h dX7_whoFits_44 rfl ?_
          refine x_iload_n h dX7_whoFits_45 rfl ?_
          refine x_iload_n h dX7_whoFits_46 rfl ?_
          refine x_Q2i h dX7_whoFits_47 m_ml_X7_277 m_im_X7_isTugged m_se_X7_isTugged (sM0 hm) rfl (by decide) rfl (c_X7_isTugged hm hT.1 hTF (by omega) (by rw [hT13]; omega) (by omega) (by omega)) (fun r47 N47 h47 => ?_)
          obtain ⟨rfl, hQ47⟩ := h47
          rw [htg]
          refine x_ifeqB h dX7_whoFits_50 (tgt := 60) (by decide) (fun q50 => ?_) (fun q50 => ?_)
          · refine x_iconst h dX7_whoFits_60 ?_
            refine x_ior h dX7_whoFits_61 (fun r61 => ?_)
            refine x_istore h dX7_whoFits_62 rfl rfl ?_
            dsimp only [xset]
            have hbk := bk_q hB1 hB6 hq hT.2 hQ47
            refine x_aload_n h dX7_whoFits_64 rfl ?_
            refine x_getr (j := 12) (q := 6) h dX7_whoFits_65 (sM0 hm) rfl in_X7 rfl (by decide) m_fl_X7_25 ?_
            refine x_aload_n h dX7_whoFits_68 rfl ?_
            refine x_getr (j := 0) (q := 1) h dX7_whoFits_69 (sM0 hm) rfl in_X7 rfl (by decide) m_fl_X7_9 ?_
            refine x_S2v h dX7_whoFits_72 m_ml_X7_77 m_st_X7_copyRow (by decide) rfl (c_X7_copyRow hm (sM6 hm) (sM1 hm) (by decide)) ?_
            refine x_iinc h dX7_whoFits_75 rfl rfl rfl ?_
            dsimp only [xset]
            refine x_goto h dX7_whoFits_78 (tgt := 17) (by decide) ?_
            first
              | (rw [tI_n (fun z => z.1 q31)] at ihj; exact ihj _ (by omega) hq hF)
              | (rw [tI_p (And.intro q31 q50)] at ihj; exact ihj _ (by omega) hbk.1 hbk.2)
              | (rw [tI_n (fun z => q50 z.2), ← iI_bor0 (wfN M s p n j)] at ihj; exact ihj _ (by omega) hbk.1 hbk.2)
          · refine x_iconst h dX7_whoFits_53 ?_
            refine x_iload h dX7_whoFits_54 rfl ?_
            refine x_ishl h dX7_whoFits_56 (fun r56 => ?_)
            refine x_goto h dX7_whoFits_57 (tgt := 61) (by decide) ?_
            refine x_ior h dX7_whoFits_61 (fun r61 => ?_)
            refine x_istore h dX7_whoFits_62 rfl rfl ?_
            dsimp only [xset]
            have hbk := bk_q hB1 hB6 hq hT.2 hQ47
            refine x_aload_n h dX7_whoFits_64 rfl ?_
            refine x_getr (j := 12) (q := 6) h dX7_whoFits_65 (sM0 hm) rfl in_X7 rfl (by decide) m_fl_X7_25 ?_
            refine x_aload_n h dX7_whoFits_68 rfl ?_
            refine x_getr (j := 0) (q := 1) h dX7_whoFits_69 (sM0 hm) rfl in_X7 rfl (by decide) m_fl_X7_9 ?_
            refine x_S2v h dX7_whoFits_72 m_ml_X7_77 m_st_X7_copyRow (by decide) rfl (c_X7_copyRow hm (sM6 hm) (sM1 hm) (by decide)) ?_
            refine x_iinc h dX7_whoFits_75 rfl rfl rfl ?_
            dsimp only [xset]
            refine x_goto h dX7_whoFits_78 (tgt := 17) (by decide) ?_
            first
              | (rw [tI_n (fun z => z.1 q31)] at ihj; exact ihj _ (by omega) hq hF)
              | (rw [tI_p (And.intro q31 q50)] at ihj; exact ihj _ (by omega) hbk.1 hbk.2)
              | (rw [tI_n (fun z => q50 z.2), ← iI_bor0 (wfN M s p n j)] at ihj; exact ihj _ (by omega) hbk.1 hbk.2)
  exact HH (M 1 1).toNat 0 B (by omega) QuR.rf hBf
