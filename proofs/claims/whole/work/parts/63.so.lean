/-! the reference: texts carried out -/
section MO
variable {b : Int → Int} {n q : Int}
theorem nuQ_m (hb : BtO b n) (hq : 0 ≤ q ∧ q ≤ n) {m : Int} : q ≤ nuQ b q m := by
  have h1 := tkB_x hb hq
  have h2 := tkE_x hb hq
  unfold nuQ tI
  split <;> omega
theorem tkE_m (hb : BtO b n) (hq : 0 ≤ q ∧ q ≤ n) : q ≤ tkE b q ∧ (tkS b q ≠ 0 → q + 1 ≤ tkE b q) := by
  have h1 := tkB_x hb hq
  have h2 := tkE_x hb hq
  exact ⟨by omega, fun h => by have := h2.2.2.2 h; omega⟩
theorem opQ_m (hb : BtO b n) (hq : 0 ≤ q ∧ q ≤ n) {wd : Nat} {m : Int} : q ≤ opQ b q wd m := by
  have h1 := (tkE_m hb hq).1
  have h2 := nuQ_m hb (tkE_R hb hq) (m := m)
  unfold opQ tI
  split <;> omega
theorem tpQ_m (hb : BtO b n) (hq : 0 ≤ q ∧ q ≤ n) : q ≤ tpQ b q := by
  obtain ⟨h1, h2, h3⟩ := tp_R hb hq
  have g1 : q ≤ tp1 b q := opQ_m hb hq
  have g2 : tp1 b q ≤ tp2 b q := opQ_m hb h1
  have g3 : tp2 b q ≤ tp3 b q := opQ_m hb h2
  unfold tpQ tI
  (repeat' split) <;> omega
theorem ttQ_m (hb : BtO b n) (hq : 0 ≤ q ∧ q ≤ n) {it m m3 : Int} {pa : Int → Int} : q ≤ ttQ b it q m m3 pa := by
  obtain ⟨h1, h2, h3⟩ := th_R hb hq (m := m) (m3 := m3)
  have g1 : q ≤ th1 b q m := nuQ_m hb hq
  have g2 : th1 b q m ≤ th2 b q m := nuQ_m hb h1
  have g3 : th2 b q m ≤ th3 b q m m3 := nuQ_m hb h2
  unfold ttQ tI
  (repeat' split) <;> omega
theorem heF_w {q : Int} (h : heF b q ≠ -1) : tkS b q = 1 := by
  refine Classical.byContradiction fun g => h ?_
  have nw : ∀ i, ¬ wdP b q i := fun i y => g y.1
  unfold heF
  rw [tI_n (nw _), tI_n (nw _), tI_n (nw _), tI_n (nw _), tI_n (nw _), tI_n (nw _), tI_n (nw _), tI_n (nw _), tI_n (nw _)]
theorem tjN_m {r : RdS} (hb : BtO b n) (hr : RdR n r) (h : tiP b r) : r.1 + 1 ≤ (tjN b r).1 := by
  have hE := tkE_R hb hr.1
  have h1 : heF b r.1 ≠ -1 := fun y => h.1 (Or.inl y)
  have h2 := (tkE_m hb hr.1).2 (by rw [heF_w h1]; decide)
  by_cases hk : knd (heF b r.1)
  · rw [(tjN_k h.1 hk).1]
    have := tpQ_m hb hE
    show r.1 + 1 ≤ tpQ b (tkE b r.1)
    omega
  · rw [(tjN_t h.1 hk).1]
    have := ttQ_m hb hE (it := r.2.1) (m := m2F (heF b r.1) r.2.2.1) (m3 := m3F (heF b r.1)) (pa := ti0 b r)
    show r.1 + 1 ≤ ttQ b r.2.1 (tkE b r.1) (m2F (heF b r.1) r.2.2.1) (m3F (heF b r.1)) (ti0 b r)
    omega
end MO
noncomputable def isoM (M : xMem) (j : Int) : xMem :=
  if M 11 (4 * j + 0) = 10 then lyM M (M 11 (4 * j + 1)) (M 11 (4 * j + 2)) (M 11 (4 * j + 3))
  else if M 11 (4 * j + 0) = 11 then teN M (M 11 (4 * j + 1)) (M 11 (4 * j + 2)) (M 11 (4 * j + 3))
  else coM M (M 11 (4 * j + 0)) (M 11 (4 * j + 1)) (M 11 (4 * j + 2)) (M 11 (4 * j + 3))
def isoG (M : xMem) (j : Int) : Prop :=
  (M 11 (4 * j + 0) = 10 ∧ plc (M 11 (4 * j + 1)) ∧ plc (M 11 (4 * j + 2)) ∧ 0 ≤ M 11 (4 * j + 3) ∧ M 11 (4 * j + 3) ≤ 9) ∨
  (M 11 (4 * j + 0) = 11 ∧ (0 ≤ M 11 (4 * j + 1) ∧ M 11 (4 * j + 1) < M 1 1) ∧ (0 ≤ M 11 (4 * j + 2) ∧ M 11 (4 * j + 2) < M 1 1) ∧ M 11 (4 * j + 1) ≠ M 11 (4 * j + 2) ∧ 0 ≤ M 11 (4 * j + 3) ∧ M 11 (4 * j + 3) ≤ 999) ∨
  (knd (M 11 (4 * j + 0)) ∧ M 1 1 < 8 ∧ plc (M 11 (4 * j + 1)) ∧ plc (M 11 (4 * j + 2)) ∧ 0 ≤ M 11 (4 * j + 3) ∧ M 11 (4 * j + 3) ≤ 9)
theorem lyM_F {M : xMem} {a c v : Int} : Fc (lyM M a c v) := ⟨Or.inl rfl, fun h => absurd (show (0 : Int) = 1 from h) (by decide)⟩
theorem coM_y {M : xMem} {k a e s : Int} (hn : 0 ≤ M 1 1) : wyM (coM M k a e s) = wyM M := by
  unfold coM
  rw [wyM_up (by omega), wyM_up (by omega), wyM_up (by omega), wyM_up (by omega), wyM_up (by omega), wyM_up (by omega), wyM_up (by omega), wyM_up (by omega), wyM_up (by omega)]
theorem coM_F {M : xMem} {k a e s : Int} (hn : 0 ≤ M 1 1) (h : Fc M) : Fc (coM M k a e s) := Fc_e1 (coM_y hn) rfl rfl h
theorem lyM_I {M : xMem} {a c v : Int} (h : MInv M) (ha : plc a) (hc : plc c) (hv : 0 ≤ v ∧ v ≤ 9) : MInv (lyM M a c v) := by
  have key : ∀ i, (i < 13 ∨ 113 ≤ i) → lyM M a c v 1 i = M 1 i := by
    intro i hi
    unfold lyM
    rw [up_nn (by omega), up_nn (by omega)]
    rfl
  refine ⟨by rw [key 1 (by omega)]; exact h.1, by rw [key 0 (by omega)]; exact h.2.1, ?_, ?_⟩
  · intro i i0 i1
    have hl := h.2.2.1 i i0 i1
    unfold wyM at hl ⊢
    rw [if_pos (by omega)] at hl ⊢
    unfold lyM
    rw [up_s, up_s]
    unfold ur
    (repeat' split) <;> first | exact hv | exact hl
  · intro q q0 q1
    rw [key 1 (by omega)] at q1
    have g := h.2.2.2 q q0 q1
    rw [key _ (by omega), key _ (by omega), key _ (by omega), key _ (by omega), key _ (by omega), key _ (by omega), key _ (by omega), key _ (by omega), key _ (by omega)]
    exact g
theorem coM_1 {M : xMem} {k a e s : Int} : coM M k a e s 1 1 = M 1 1 + 1 := by unfold coM; rw [up_ss]
theorem coM_o {M : xMem} {k a e s : Int} {i : Int} (hn : 0 ≤ M 1 1) (hi : i ≠ 1) (hi2 : i < 113 + 8 * M 1 1 ∨ 113 + 8 * M 1 1 + 8 ≤ i) : coM M k a e s 1 i = M 1 i := by
  unfold coM
  rw [up_nn (by omega), up_nn (by omega), up_nn (by omega), up_nn (by omega), up_nn (by omega), up_nn (by omega), up_nn (by omega), up_nn (by omega), up_nn (by omega)]
theorem coM_f {M : xMem} {k a e s : Int} (hn : 0 ≤ M 1 1) : coM M k a e s 1 (113 + 8 * M 1 1 + 0) = k ∧ coM M k a e s 1 (113 + 8 * M 1 1 + 1) = a ∧ coM M k a e s 1 (113 + 8 * M 1 1 + 2) = e ∧ coM M k a e s 1 (113 + 8 * M 1 1 + 3) = -1 ∧ coM M k a e s 1 (113 + 8 * M 1 1 + 4) = s ∧ coM M k a e s 1 (113 + 8 * M 1 1 + 5) = 0 ∧ coM M k a e s 1 (113 + 8 * M 1 1 + 6) = 0 ∧ coM M k a e s 1 (113 + 8 * M 1 1 + 7) = 0 := by
  unfold coM
  refine ⟨?_, ?_, ?_, ?_, ?_, ?_, ?_, ?_⟩
  · rw [up_nn (by omega), up_nn (by omega), up_nn (by omega), up_nn (by omega), up_nn (by omega), up_nn (by omega), up_nn (by omega), up_nn (by omega), up_ss]
  · rw [up_nn (by omega), up_nn (by omega), up_nn (by omega), up_nn (by omega), up_nn (by omega), up_nn (by omega), up_nn (by omega), up_ss]
  · rw [up_nn (by omega), up_nn (by omega), up_nn (by omega), up_nn (by omega), up_nn (by omega), up_nn (by omega), up_ss]
  · rw [up_nn (by omega), up_nn (by omega), up_nn (by omega), up_nn (by omega), up_nn (by omega), up_ss]
  · rw [up_nn (by omega), up_nn (by omega), up_nn (by omega), up_nn (by omega), up_ss]
  · rw [up_nn (by omega), up_nn (by omega), up_nn (by omega), up_ss]
  · rw [up_nn (by omega), up_nn (by omega), up_ss]
  · rw [up_nn (by omega), up_ss]
theorem coM_I {M : xMem} {k a e s : Int} (h : MInv M) (hn : M 1 1 < 8) (hk : 0 ≤ k ∧ k ≤ 6) (ha : plc a) (he : plc e) (hs : 0 ≤ s ∧ s ≤ 9) : MInv (coM M k a e s) := by
  have h1 := h.1
  have hm := h.2.2.2
  refine ⟨by rw [coM_1]; omega, by rw [coM_o h1.1 (by omega) (by omega)]; exact h.2.1, by rw [coM_y h1.1]; exact h.2.2.1, ?_⟩
  intro q q0 q1
  rw [coM_1] at q1 ⊢
  by_cases hq : q = M 1 1
  · obtain ⟨f0, f1, f2, f3, f4, f5, f6, f7⟩ := coM_f (M := M) (k := k) (a := a) (e := e) (s := s) h1.1
    rw [hq, f0, f1, f2, f3, f4, f5, f6, f7]
    omega
  · have g := hm q q0 (by omega)
    rw [coM_o h1.1 (by omega) (by omega), coM_o h1.1 (by omega) (by omega), coM_o h1.1 (by omega) (by omega), coM_o h1.1 (by omega) (by omega), coM_o h1.1 (by omega) (by omega), coM_o h1.1 (by omega) (by omega), coM_o h1.1 (by omega) (by omega), coM_o h1.1 (by omega) (by omega)]
    omega
theorem isoM_I {M : xMem} {j : Int} (h : MInv M) (hg : isoG M j) : MInv (isoM M j) ∧ (isoM M j) 1 1 = (if M 11 (4 * j + 0) < 7 then M 1 1 + 1 else M 1 1) ∧ isoM M j 1 0 = M 1 0 ∧ (∀ k, k ≠ 0 → k ≠ 1 → isoM M j k = M k) ∧ (∀ i, i ≠ 6 → isoM M j 0 i = M 0 i) := by
  have h1 := h.1
  unfold isoG knd at hg
  unfold isoM
  by_cases h10 : M 11 (4 * j + 0) = 10
  · have hv : 0 ≤ M 11 (4 * j + 3) ∧ M 11 (4 * j + 3) ≤ 9 := by omega
    rw [if_pos h10, if_neg (by omega)]
    refine ⟨lyM_I h (by omega) (by omega) hv, ?_, ?_, fun k k0 k1 => ?_, fun i hi => ?_⟩
    · unfold lyM; rw [up_nn (by omega), up_nn (by omega)]; rfl
    · unfold lyM; rw [up_nn (by omega), up_nn (by omega)]; rfl
    · unfold lyM; rw [up_n k1, up_n k1, up_n k0]
    · unfold lyM; rw [up_n (by decide), up_n (by decide), up_nn (by omega)]
  · by_cases h11 : M 11 (4 * j + 0) = 11
    · rw [if_neg h10, if_pos h11, if_neg (by omega)]
      have g := teN_I h (a := M 11 (4 * j + 1)) (c := M 11 (4 * j + 2)) (n := M 11 (4 * j + 3)) (by omega) (by omega) (by omega)
      exact ⟨g.1, g.2.nq, g.2.2.1 0 (by decide), fun k k0 k1 => g.2.1 k k1, fun i hi => by rw [g.2.1 0 (by decide)]⟩
    · rw [if_neg h10, if_neg h11, if_pos (by omega)]
      refine ⟨coM_I h (by omega) (by omega) (by omega) (by omega) (by omega), coM_1, coM_o h1.1 (by omega) (by omega), fun k k0 k1 => ?_, fun i hi => rfl⟩
      unfold coM
      rw [up_n k1, up_n k1, up_n k1, up_n k1, up_n k1, up_n k1, up_n k1, up_n k1, up_n k1]
theorem dX7_isSo_0 : decode cX7_isSo 0 = .ok (.aload_n 0, 1) := by decide +kernel
theorem dX7_isSo_1 : decode cX7_isSo 1 = .ok (.getfield 57, 3) := by decide +kernel
theorem dX7_isSo_4 : decode cX7_isSo 4 = .ok (.iload_n 1, 1) := by decide +kernel
theorem dX7_isSo_5 : decode cX7_isSo 5 = .ok (.iconst 1, 1) := by decide +kernel
theorem dX7_isSo_6 : decode cX7_isSo 6 = .ok (.iadd, 1) := by decide +kernel
theorem dX7_isSo_7 : decode cX7_isSo 7 = .ok (.iaload, 1) := by decide +kernel
theorem dX7_isSo_8 : decode cX7_isSo 8 = .ok (.istore_n 2, 1) := by decide +kernel
theorem dX7_isSo_9 : decode cX7_isSo 9 = .ok (.aload_n 0, 1) := by decide +kernel
theorem dX7_isSo_10 : decode cX7_isSo 10 = .ok (.getfield 57, 3) := by decide +kernel
theorem dX7_isSo_13 : decode cX7_isSo 13 = .ok (.iload_n 1, 1) := by decide +kernel
theorem dX7_isSo_14 : decode cX7_isSo 14 = .ok (.iconst 2, 1) := by decide +kernel
theorem dX7_isSo_15 : decode cX7_isSo 15 = .ok (.iadd, 1) := by decide +kernel
theorem dX7_isSo_16 : decode cX7_isSo 16 = .ok (.iaload, 1) := by decide +kernel
theorem dX7_isSo_17 : decode cX7_isSo 17 = .ok (.istore_n 3, 1) := by decide +kernel
theorem dX7_isSo_18 : decode cX7_isSo 18 = .ok (.aload_n 0, 1) := by decide +kernel
theorem dX7_isSo_19 : decode cX7_isSo 19 = .ok (.getfield 57, 3) := by decide +kernel
theorem dX7_isSo_22 : decode cX7_isSo 22 = .ok (.iload_n 1, 1) := by decide +kernel
theorem dX7_isSo_23 : decode cX7_isSo 23 = .ok (.iconst 3, 1) := by decide +kernel
theorem dX7_isSo_24 : decode cX7_isSo 24 = .ok (.iadd, 1) := by decide +kernel
theorem dX7_isSo_25 : decode cX7_isSo 25 = .ok (.iaload, 1) := by decide +kernel
theorem dX7_isSo_26 : decode cX7_isSo 26 = .ok (.istore 4, 2) := by decide +kernel
theorem dX7_isSo_28 : decode cX7_isSo 28 = .ok (.aload_n 0, 1) := by decide +kernel
theorem dX7_isSo_29 : decode cX7_isSo 29 = .ok (.getfield 57, 3) := by decide +kernel
theorem dX7_isSo_32 : decode cX7_isSo 32 = .ok (.iload_n 1, 1) := by decide +kernel
theorem dX7_isSo_33 : decode cX7_isSo 33 = .ok (.iaload, 1) := by decide +kernel
theorem dX7_isSo_34 : decode cX7_isSo 34 = .ok (.bipush 10, 2) := by decide +kernel
theorem dX7_isSo_36 : decode cX7_isSo 36 = .ok (.if_icmp .ne 14, 3) := by decide +kernel
theorem dX7_isSo_39 : decode cX7_isSo 39 = .ok (.aload_n 0, 1) := by decide +kernel
theorem dX7_isSo_40 : decode cX7_isSo 40 = .ok (.iload_n 2, 1) := by decide +kernel
theorem dX7_isSo_41 : decode cX7_isSo 41 = .ok (.iload_n 3, 1) := by decide +kernel
theorem dX7_isSo_42 : decode cX7_isSo 42 = .ok (.iload 4, 2) := by decide +kernel
theorem dX7_isSo_44 : decode cX7_isSo 44 = .ok (.invokevirtual 72, 3) := by decide +kernel
theorem dX7_isSo_47 : decode cX7_isSo 47 = .ok (.goto 39, 3) := by decide +kernel
theorem dX7_isSo_50 : decode cX7_isSo 50 = .ok (.aload_n 0, 1) := by decide +kernel
theorem dX7_isSo_51 : decode cX7_isSo 51 = .ok (.getfield 57, 3) := by decide +kernel
theorem dX7_isSo_54 : decode cX7_isSo 54 = .ok (.iload_n 1, 1) := by decide +kernel
theorem dX7_isSo_55 : decode cX7_isSo 55 = .ok (.iaload, 1) := by decide +kernel
theorem dX7_isSo_56 : decode cX7_isSo 56 = .ok (.bipush 11, 2) := by decide +kernel
theorem dX7_isSo_58 : decode cX7_isSo 58 = .ok (.if_icmp .ne 14, 3) := by decide +kernel
theorem dX7_isSo_61 : decode cX7_isSo 61 = .ok (.aload_n 0, 1) := by decide +kernel
theorem dX7_isSo_62 : decode cX7_isSo 62 = .ok (.iload_n 2, 1) := by decide +kernel
theorem dX7_isSo_63 : decode cX7_isSo 63 = .ok (.iload_n 3, 1) := by decide +kernel
theorem dX7_isSo_64 : decode cX7_isSo 64 = .ok (.iload 4, 2) := by decide +kernel
theorem dX7_isSo_66 : decode cX7_isSo 66 = .ok (.invokevirtual 174, 3) := by decide +kernel
theorem dX7_isSo_69 : decode cX7_isSo 69 = .ok (.goto 17, 3) := by decide +kernel
theorem dX7_isSo_72 : decode cX7_isSo 72 = .ok (.aload_n 0, 1) := by decide +kernel
theorem dX7_isSo_73 : decode cX7_isSo 73 = .ok (.aload_n 0, 1) := by decide +kernel
theorem dX7_isSo_74 : decode cX7_isSo 74 = .ok (.getfield 57, 3) := by decide +kernel
theorem dX7_isSo_77 : decode cX7_isSo 77 = .ok (.iload_n 1, 1) := by decide +kernel
theorem dX7_isSo_78 : decode cX7_isSo 78 = .ok (.iaload, 1) := by decide +kernel
theorem dX7_isSo_79 : decode cX7_isSo 79 = .ok (.iload_n 2, 1) := by decide +kernel
theorem dX7_isSo_80 : decode cX7_isSo 80 = .ok (.iload_n 3, 1) := by decide +kernel
theorem dX7_isSo_81 : decode cX7_isSo 81 = .ok (.iload 4, 2) := by decide +kernel
theorem dX7_isSo_83 : decode cX7_isSo 83 = .ok (.invokevirtual 126, 3) := by decide +kernel
theorem dX7_isSo_86 : decode cX7_isSo 86 = .ok (.ireturn, 1) := by decide +kernel
set_option maxHeartbeats 800000 in
set_option maxRecDepth 100000 in
theorem c_X7_isSo {l : Launch} {ω : xO} {ks : Nat → Option Nat} (hm : xsh ω = mdS ks) {j : Int} {M : xMem} (hI : MInv M) (hf : Fc M) (hj : 0 ≤ j ∧ j < 120) (hg : isoG M j) : Cq l ω yX7_isSo ({ frames := 6, cells := 0, slots := 0, locals := 131 } : Room) 5 1 [.ref (xad ω 0), .int (iI (4 * j))] M (pI1 (fun r N' => (0 ≤ r ∧ r ≤ 1000) ∧ CaE (isoM M j) N')) := by
  refine Cq.of (bytes := cX7_isSo) (ret := (some .int)) (lv0 := [some (.ref (xad ω 0)), some (.int (iI (4 * j))), none, none, none]) m_cd_X7_isSo m_in_X7 (by decide +kernel) (by decide +kernel) rfl rfl rfl rfl ?_
  intro κ h he hR
  have r11 := hR 11
  have hg2 := hg
  unfold isoG knd at hg2
  have hn := hI.1
  have ra := r11 (4 * j + 0)
  have rb := r11 (4 * j + 1)
  have rc := r11 (4 * j + 2)
  have rd := r11 (4 * j + 3)
  rw [Int.add_zero] at hg2 ra
  have hA : M 11 (4 * j) = 10 → (0 ≤ ur (M 1) (13 + 10 * M 11 (4 * j + 1) + M 11 (4 * j + 2)) (M 11 (4 * j + 3)) (13 + 10 * M 11 (4 * j + 2) + M 11 (4 * j + 1)) ∧ ur (M 1) (13 + 10 * M 11 (4 * j + 1) + M 11 (4 * j + 2)) (M 11 (4 * j + 3)) (13 + 10 * M 11 (4 * j + 2) + M 11 (4 * j + 1)) ≤ 1000) ∧ isoM M j = lyM M (M 11 (4 * j + 1)) (M 11 (4 * j + 2)) (M 11 (4 * j + 3)) := by
    intro y
    have hl := hI.2.2.1 (10 * M 11 (4 * j + 2) + M 11 (4 * j + 1)) (by omega) (by omega)
    unfold wyM at hl
    rw [if_pos (by omega), show 13 + (10 * M 11 (4 * j + 2) + M 11 (4 * j + 1)) = 13 + 10 * M 11 (4 * j + 2) + M 11 (4 * j + 1) by omega] at hl
    refine ⟨?_, by unfold isoM; rw [Int.add_zero, if_pos y]⟩
    unfold ur
    split <;> omega
  have hB : ¬ M 11 (4 * j) = 10 → M 11 (4 * j) = 11 → isoM M j = teN M (M 11 (4 * j + 1)) (M 11 (4 * j + 2)) (M 11 (4 * j + 3)) := fun y z => by unfold isoM; rw [Int.add_zero, if_neg y, if_pos z]
  have hC : ¬ M 11 (4 * j) = 10 → ¬ M 11 (4 * j) = 11 → isoM M j = coM M (M 11 (4 * j)) (M 11 (4 * j + 1)) (M 11 (4 * j + 2)) (M 11 (4 * j + 3)) := fun y z => by unfold isoM; rw [Int.add_zero, if_neg y, if_neg z]
  have hT : 0 ≤ tdR M (M 11 (4 * j + 1)) (M 11 (4 * j + 2)) (M 11 (4 * j + 3)) ∧ tdR M (M 11 (4 * j + 1)) (M 11 (4 * j + 2)) (M 11 (4 * j + 3)) ≤ 1000 := by
    unfold tdR
    rcases bI_01 (ltN (teN M (M 11 (4 * j + 1)) (M 11 (4 * j + 2)) (M 11 (4 * j + 3))) (M 11 (4 * j + 1)) (M 1 (113 + 8 * M 11 (4 * j + 1) + 1)) (M 1 (113 + 8 * M 11 (4 * j + 2) + 1))) with z | z <;> rw [z] <;> decide
  refine x_aload_n h dX7_isSo_0 rfl ?_
  refine x_getr (j := 23) (q := 11) h dX7_isSo_1 (sM0 hm) rfl in_X7 rfl (by decide) m_fl_X7_57 ?_
  refine x_iload_n h dX7_isSo_4 rfl ?_
  refine x_iconst h dX7_isSo_5 ?_
  refine x_iadd h dX7_isSo_6 ?_
  refine x_iaload h dX7_isSo_7 (sM11 hm) (by first | omega | exact r11 _) (fun r7 => ?_)
  refine x_istore_n h dX7_isSo_8 rfl rfl ?_
  dsimp only [xset]
  refine x_aload_n h dX7_isSo_9 rfl ?_
  refine x_getr (j := 23) (q := 11) h dX7_isSo_10 (sM0 hm) rfl in_X7 rfl (by decide) m_fl_X7_57 ?_
  refine x_iload_n h dX7_isSo_13 rfl ?_
  refine x_iconst h dX7_isSo_14 ?_
  refine x_iadd h dX7_isSo_15 ?_
  refine x_iaload h dX7_isSo_16 (sM11 hm) (by first | omega | exact r11 _) (fun r16 => ?_)
  refine x_istore_n h dX7_isSo_17 rfl rfl ?_
  dsimp only [xset]
  refine x_aload_n h dX7_isSo_18 rfl ?_
  refine x_getr (j := 23) (q := 11) h dX7_isSo_19 (sM0 hm) rfl in_X7 rfl (by decide) m_fl_X7_57 ?_
  refine x_iload_n h dX7_isSo_22 rfl ?_
  refine x_iconst h dX7_isSo_23 ?_
  refine x_iadd h dX7_isSo_24 ?_
  refine x_iaload h dX7_isSo_25 (sM11 hm) (by first | omega | exact r11 _) (fun r25 => ?_)
  refine x_istore h dX7_isSo_26 rfl rfl ?_
  dsimp only [xset]
  refine x_aload_n h dX7_isSo_28 rfl ?_
  refine x_getr (j := 23) (q := 11) h dX7_isSo_29 (sM0 hm) rfl in_X7 rfl (by decide) m_fl_X7_57 ?_
  refine x_iload_n h dX7_isSo_32 rfl ?_
  refine x_iaload h dX7_isSo_33 (sM11 hm) (by first | omega | exact r11 _) (fun r33 => ?_)
  refine x_bipush h dX7_isSo_34 (by decide) ?_
  refine x_icmp_ne h dX7_isSo_36 (tgt := 50) (by decide) (by first | omega | exact r11 _) (by first | omega | exact r11 _) (fun q36 => ?_) (fun q36 => ?_)
  · refine x_aload_n h dX7_isSo_50 rfl ?_
    refine x_getr (j := 23) (q := 11) h dX7_isSo_51 (sM0 hm) rfl in_X7 rfl (by decide) m_fl_X7_57 ?_
    refine x_iload_n h dX7_isSo_54 rfl ?_
    refine x_iaload h dX7_isSo_55 (sM11 hm) (by first | omega | exact r11 _) (fun r55 => ?_)
    refine x_bipush h dX7_isSo_56 (by decide) ?_
    refine x_icmp_ne h dX7_isSo_58 (tgt := 72) (by decide) (by first | omega | exact r11 _) (by first | omega | exact r11 _) (fun q58 => ?_) (fun q58 => ?_)
    · refine x_aload_n h dX7_isSo_72 rfl ?_
      refine x_aload_n h dX7_isSo_73 rfl ?_
      refine x_getr (j := 23) (q := 11) h dX7_isSo_74 (sM0 hm) rfl in_X7 rfl (by decide) m_fl_X7_57 ?_
      refine x_iload_n h dX7_isSo_77 rfl ?_
      refine x_iaload h dX7_isSo_78 (sM11 hm) (by first | omega | exact r11 _) (fun r78 => ?_)
      refine x_iload_n h dX7_isSo_79 rfl ?_
      refine x_iload_n h dX7_isSo_80 rfl ?_
      refine x_iload h dX7_isSo_81 rfl ?_
      refine x_V4i h dX7_isSo_83 m_ml_X7_126 m_im_X7_comes m_se_X7_comes (sM0 hm) rfl (by decide) rfl (c_X7_comes hm (by omega) (r11 _) (r11 _) (r11 _) (r11 _)) ?_
      exact x_iretq h he dX7_isSo_86 (by first | (have y10 : M 11 (4 * j) = 10 := q36; rw [(hA y10).2]; exact ⟨(hA y10).1, CaE.rf lyM_F⟩) | (have y11 : M 11 (4 * j) = 11 := q58; rw [hB q36 y11]; exact ⟨hT, CaE.of (by assumption)⟩) | (rw [hC q36 q58]; exact ⟨by omega, CaE.rf (coM_F hn.1 hf)⟩))
    · refine x_aload_n h dX7_isSo_61 rfl ?_
      refine x_iload_n h dX7_isSo_62 rfl ?_
      refine x_iload_n h dX7_isSo_63 rfl ?_
      refine x_iload h dX7_isSo_64 rfl ?_
      refine x_Q3i h dX7_isSo_66 m_ml_X7_174 m_im_X7_tied m_se_X7_tied (sM0 hm) rfl (by decide) rfl (c_X7_tied hm hI hf (by omega) (by omega) (by omega)) (fun r66 N66 h66 => ?_)
      obtain ⟨rfl, f66, d66, rfl, c66⟩ := h66
      try simp only [ca_ca, ca_1, dN_ca, wyM_ca, plN_ca, rpN_ca, ltN_ca, pmN_ca, wnN_ca, nbN_ca, ca_07, ca_08, ca_09, ca_010, beN_ca, ctN_ca, gonN_ca, mvN_ca, stN_ca, thN_ca, fnM_ca, tiN_ca, smN_ca, frN_ca, teN_ca, apN_ca, ca_13, ca_14, ca_7, lwN_ca, ndN_ca, lwN_p] at c66 ⊢
      refine x_goto h dX7_isSo_69 (tgt := 86) (by decide) ?_
      exact x_iretq h he dX7_isSo_86 (by first | (have y10 : M 11 (4 * j) = 10 := q36; rw [(hA y10).2]; exact ⟨(hA y10).1, CaE.rf lyM_F⟩) | (have y11 : M 11 (4 * j) = 11 := q58; rw [hB q36 y11]; exact ⟨hT, CaE.of (by assumption)⟩) | (rw [hC q36 q58]; exact ⟨by omega, CaE.rf (coM_F hn.1 hf)⟩))
  · refine x_aload_n h dX7_isSo_39 rfl ?_
    refine x_iload_n h dX7_isSo_40 rfl ?_
    refine x_iload_n h dX7_isSo_41 rfl ?_
    refine x_iload h dX7_isSo_42 rfl ?_
    refine x_V3i h dX7_isSo_44 m_ml_X7_72 m_im_X7_lays m_se_X7_lays (sM0 hm) rfl (by decide) rfl (c_X7_lays hm (by omega) (by omega) (r11 _)) ?_
    try simp only [ca_ca, ca_1, dN_ca, wyM_ca, plN_ca, rpN_ca, ltN_ca, pmN_ca, wnN_ca, nbN_ca, ca_07, ca_08, ca_09, ca_010, beN_ca, ctN_ca, gonN_ca, mvN_ca, stN_ca, thN_ca, fnM_ca, tiN_ca, smN_ca, frN_ca, teN_ca, apN_ca, ca_13, ca_14, ca_7, lwN_ca, ndN_ca, lwN_p]
    refine x_goto h dX7_isSo_47 (tgt := 86) (by decide) ?_
    exact x_iretq h he dX7_isSo_86 (by first | (have y10 : M 11 (4 * j) = 10 := q36; rw [(hA y10).2]; exact ⟨(hA y10).1, CaE.rf lyM_F⟩) | (have y11 : M 11 (4 * j) = 11 := q58; rw [hB q36 y11]; exact ⟨hT, CaE.of (by assumption)⟩) | (rw [hC q36 q58]; exact ⟨by omega, CaE.rf (coM_F hn.1 hf)⟩))

