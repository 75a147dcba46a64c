/-! the class: texts carried out -/
def peA (pa : Int → Int) (p0 : Int) : Nat → Int
  | 0 => p0
  | j + 1 => if pa ((j : Int) * 4 + 0) < 7 then peA pa p0 j + 1 else peA pa p0 j
def itO (pa : Int → Int) (p0 : Int) (j : Nat) : Prop :=
  (pa ((j : Int) * 4 + 0) = 7 ∧ plc (pa ((j : Int) * 4 + 1)) ∧ plc (pa ((j : Int) * 4 + 2)) ∧ pa ((j : Int) * 4 + 1) ≠ pa ((j : Int) * 4 + 2) ∧ 0 ≤ pa ((j : Int) * 4 + 3) ∧ pa ((j : Int) * 4 + 3) ≤ 9) ∨
  (pa ((j : Int) * 4 + 0) = 8 ∧ (0 ≤ pa ((j : Int) * 4 + 1) ∧ pa ((j : Int) * 4 + 1) < peA pa p0 j) ∧ (0 ≤ pa ((j : Int) * 4 + 2) ∧ pa ((j : Int) * 4 + 2) < peA pa p0 j) ∧ pa ((j : Int) * 4 + 1) ≠ pa ((j : Int) * 4 + 2) ∧ 0 ≤ pa ((j : Int) * 4 + 3) ∧ pa ((j : Int) * 4 + 3) ≤ 999) ∨
  (knd (pa ((j : Int) * 4 + 0)) ∧ peA pa p0 j < 8 ∧ plc (pa ((j : Int) * 4 + 1)) ∧ plc (pa ((j : Int) * 4 + 2)) ∧ 0 ≤ pa ((j : Int) * 4 + 3) ∧ pa ((j : Int) * 4 + 3) ≤ 9)
theorem peA_c {pa pb : Int → Int} {p0 : Int} : ∀ j : Nat, (∀ k, k < (j : Int) * 4 → pb k = pa k) → peA pb p0 j = peA pa p0 j := by
  intro j
  induction j with
  | zero => intro _; rfl
  | succ j ih =>
    intro h
    unfold peA
    rw [h _ (by omega), ih (fun k hk => h k (by omega))]
theorem itO_c {pa pb : Int → Int} {p0 : Int} {j : Nat} (h : ∀ k, k < (j : Int) * 4 + 4 → pb k = pa k) (g : itO pa p0 j) : itO pb p0 j := by
  unfold itO
  rw [h _ (by omega), h _ (by omega), h _ (by omega), h _ (by omega), peA_c j (fun k hk => h k (by omega))]
  exact g
section WF
variable {b : Int → Int} {n : Int}
theorem nuA_o {it i m q k : Int} {pa : Int → Int} (h : k ≠ it * 4 + i) : nuA b it i m q pa k = pa k := by
  unfold nuA tI
  split
  · exact ur_n h
  · rfl
theorem nuA_v {it i m q : Int} {pa : Int → Int} (hb : BtO b n) (hq : 0 ≤ q ∧ q ≤ n) (h : nuP b q m) : nuA b it i m q pa (it * 4 + i) = tkV b q ∧ 0 ≤ tkV b q ∧ tkV b q ≤ m := by
  have := tkV_R hb hq
  unfold nuA
  rw [tI_p h, ur_s]
  exact ⟨rfl, this.1, h.2⟩
theorem opA_o {it i m wo q k : Int} {wd : Nat} {pa : Int → Int} (h : k ≠ it * 4 + i) : opA b it i m wo q wd pa k = pa k := by
  unfold opA tI
  split
  · rw [nuA_o h, ur_n h]
  · exact ur_n h
theorem opA_v {it i m wo q : Int} {wd : Nat} {pa : Int → Int} (hb : BtO b n) (hq : 0 ≤ q ∧ q ≤ n) (hw : 0 ≤ wo ∧ wo ≤ m) (h : opP b q wd m) : 0 ≤ opA b it i m wo q wd pa (it * 4 + i) ∧ opA b it i m wo q wd pa (it * 4 + i) ≤ m := by
  unfold opA
  by_cases g : wdP b q wd
  · rw [tI_p g]
    have hn : nuP b (tkE b q) m := h.elim (fun z => absurd g z) id
    have e := nuA_v (it := it) (i := i) (pa := ur pa (it * 4 + i) wo) hb (tkE_R hb hq) hn
    rw [e.1]
    exact e.2
  · rw [tI_n g, ur_s]
    exact hw
theorem tp_w {it q : Int} {pa : Int → Int} (hb : BtO b n) (hq : 0 ≤ q ∧ q ≤ n) (h : tpP b q) : tpA b it q pa = ta3 b it q pa ∧ (∀ k, (k < it * 4 + 1 ∨ it * 4 + 3 < k) → ta3 b it q pa k = pa k) ∧ plc (ta3 b it q pa (it * 4 + 1)) ∧ plc (ta3 b it q pa (it * 4 + 2)) ∧ 0 ≤ ta3 b it q pa (it * 4 + 3) ∧ ta3 b it q pa (it * 4 + 3) ≤ 9 := by
  obtain ⟨g1, g2, g3⟩ := h
  obtain ⟨r1, r2, r3⟩ := tp_R hb hq
  have v1 : 0 ≤ ta1 b it q pa (it * 4 + 1) ∧ ta1 b it q pa (it * 4 + 1) ≤ 9 := opA_v hb hq (by decide) g1
  have v2 : 0 ≤ ta2 b it q pa (it * 4 + 2) ∧ ta2 b it q pa (it * 4 + 2) ≤ 9 := opA_v hb r1 v1 g2
  have v3 : 0 ≤ ta3 b it q pa (it * 4 + 3) ∧ ta3 b it q pa (it * 4 + 3) ≤ 9 := opA_v hb r2 (by decide) g3
  have o1 : ∀ k, k ≠ it * 4 + 1 → ta1 b it q pa k = pa k := fun k hk => opA_o hk
  have o2 : ∀ k, k ≠ it * 4 + 2 → ta2 b it q pa k = ta1 b it q pa k := fun k hk => opA_o hk
  have o3 : ∀ k, k ≠ it * 4 + 3 → ta3 b it q pa k = ta2 b it q pa k := fun k hk => opA_o hk
  refine ⟨?_, fun k hk => ?_, ?_, ?_, v3⟩
  · unfold tpA; rw [tI_p g1, tI_p g2]
  · rw [o3 k (by omega), o2 k (by omega), o1 k (by omega)]
  · rw [o3 _ (by omega), o2 _ (by omega)]; omega
  · rw [o3 _ (by omega)]; omega
theorem tt_w {it q m m3 : Int} {pa : Int → Int} (hb : BtO b n) (hq : 0 ≤ q ∧ q ≤ n) (h : ttP b it q m m3 pa) : ttA b it q m m3 pa = tb3 b it q m m3 pa ∧ (∀ k, (k < it * 4 + 1 ∨ it * 4 + 3 < k) → tb3 b it q m m3 pa k = pa k) ∧ (0 ≤ tb3 b it q m m3 pa (it * 4 + 1) ∧ tb3 b it q m m3 pa (it * 4 + 1) ≤ m) ∧ (0 ≤ tb3 b it q m m3 pa (it * 4 + 2) ∧ tb3 b it q m m3 pa (it * 4 + 2) ≤ m) ∧ tb3 b it q m m3 pa (it * 4 + 1) ≠ tb3 b it q m m3 pa (it * 4 + 2) ∧ 0 ≤ tb3 b it q m m3 pa (it * 4 + 3) ∧ tb3 b it q m m3 pa (it * 4 + 3) ≤ m3 := by
  obtain ⟨g1, gn, g2, g3⟩ := h
  obtain ⟨r1, r2, r3⟩ := th_R hb hq (m := m) (m3 := m3)
  have v1 : tb1 b it q m pa (it * 4 + 1) = tkV b q ∧ 0 ≤ tkV b q ∧ tkV b q ≤ m := nuA_v hb hq g1
  have v2 : tb2 b it q m pa (it * 4 + 2) = tkV b (th1 b q m) ∧ 0 ≤ tkV b (th1 b q m) ∧ tkV b (th1 b q m) ≤ m := nuA_v hb r1 g2
  have v3 : tb3 b it q m m3 pa (it * 4 + 3) = tkV b (th2 b q m) ∧ 0 ≤ tkV b (th2 b q m) ∧ tkV b (th2 b q m) ≤ m3 := nuA_v hb r2 g3
  have o1 : ∀ k, k ≠ it * 4 + 1 → tb1 b it q m pa k = pa k := fun k hk => nuA_o hk
  have o2 : ∀ k, k ≠ it * 4 + 2 → tb2 b it q m pa k = tb1 b it q m pa k := fun k hk => nuA_o hk
  have o3 : ∀ k, k ≠ it * 4 + 3 → tb3 b it q m m3 pa k = tb2 b it q m pa k := fun k hk => nuA_o hk
  have hne : tkV b (th1 b q m) ≠ tb1 b it q m pa (it * 4 + 1) := fun z => gn ⟨g2.1, z⟩
  have e1 : tb3 b it q m m3 pa (it * 4 + 1) = tb1 b it q m pa (it * 4 + 1) := by rw [o3 _ (by omega), o2 _ (by omega)]
  have e2 : tb3 b it q m m3 pa (it * 4 + 2) = tb2 b it q m pa (it * 4 + 2) := by rw [o3 _ (by omega)]
  refine ⟨?_, fun k hk => ?_, ?_, ?_, ?_, ?_⟩
  · unfold ttA; rw [tI_p ⟨g1, gn⟩, tI_p g2]
  · rw [o3 k (by omega), o2 k (by omega), o1 k (by omega)]
  · rw [e1, v1.1]; exact v1.2
  · rw [e2, v2.1]; exact v2.2
  · rw [e1, e2, v2.1]; exact fun z => hne z.symm
  · rw [v3.1]; exact v3.2
def RdO (n p0 : Int) (r : RdS) : Prop := RdR n r ∧ ∃ i : Nat, r.2.1 = (i : Int) ∧ peA r.2.2.2 p0 i = r.2.2.1 ∧ ∀ j : Nat, j < i → itO r.2.2.2 p0 j
theorem RdO_add {p0 : Int} {pa pb : Int → Int} {i : Nat} (h : ∀ j : Nat, j < i → itO pa p0 j) (e : ∀ k, k < (i : Int) * 4 → pb k = pa k) (g : itO pb p0 i) : ∀ j : Nat, j < i + 1 → itO pb p0 j := by
  intro j hj
  by_cases ej : j = i
  · subst ej; exact g
  · exact itO_c (fun k hk => e k (by omega)) (h j (by omega))
theorem RdO_s {p0 : Int} {r : RdS} (hb : BtO b n) (h : RdO n p0 r) (hi : r.2.1 < 120) (hP : tiP b r) : RdO n p0 (tjN b r) := by
  obtain ⟨hR, i, hi1, hpe, hit⟩ := h
  have hj := tjN_R hb hR hi
  refine ⟨hj.1, i + 1, by rw [hj.2 hP, hi1]; rfl, ?_⟩
  have hh := heF_R b r.1
  have hE := tkE_R hb hR.1
  have hp0 := hR.2.2.1
  have e0 : ti0 b r ((i : Int) * 4 + 0) = heF b r.1 := by unfold ti0; rw [hi1, ur_s]
  have eo : ∀ k, k < (i : Int) * 4 → ti0 b r k = r.2.2.2 k := fun k hk => by unfold ti0; rw [hi1, ur_n (by omega)]
  by_cases hk : knd (heF b r.1)
  · obtain ⟨e1, e2⟩ := tjN_k hP.1 hk
    have g := e2.mp hP
    have h8 : r.2.2.1 < 8 := by
      by_cases q : r.2.2.1 < 8
      · exact q
      · exact absurd (Or.inr ⟨hk, by omega⟩) hP.1
    obtain ⟨w1, w2, w3, w4, w5⟩ := tp_w (it := (i : Int)) (pa := ti0 b r) hb hE g
    rw [e1, tI_p g, hi1]
    dsimp only
    rw [w1]
    have ea : ∀ k, k < (i : Int) * 4 → ta3 b (i : Int) (tkE b r.1) (ti0 b r) k = r.2.2.2 k := fun k hk => by rw [w2 k (by omega), eo k hk]
    have eh : ta3 b (i : Int) (tkE b r.1) (ti0 b r) ((i : Int) * 4 + 0) = heF b r.1 := by rw [w2 _ (by omega), e0]
    have ep : peA (ta3 b (i : Int) (tkE b r.1) (ti0 b r)) p0 i = r.2.2.1 := by rw [peA_c i ea, hpe]
    refine ⟨?_, RdO_add hit ea (Or.inr (Or.inr ⟨by rw [eh]; exact hk, by rw [ep]; exact h8, w3, w4, w5⟩))⟩
    rw [peA, eh, if_pos hk.2, ep, tI_p g]
  · obtain ⟨e1, e2⟩ := tjN_t hP.1 hk
    have g := e2.mp hP
    have hh7 : heF b r.1 = 7 ∨ heF b r.1 = 8 := by
      have h1 : heF b r.1 ≠ -1 := fun z => hP.1 (Or.inl z)
      unfold knd at hk
      omega
    rw [hi1] at e1 g
    obtain ⟨w1, w2, w3, w4, w5, w6⟩ := tt_w (it := (i : Int)) (pa := ti0 b r) hb hE g
    rw [e1, tI_p g]
    dsimp only
    rw [w1]
    generalize tb3 b (i : Int) (tkE b r.1) (m2F (heF b r.1) r.2.2.1) (m3F (heF b r.1)) (ti0 b r) = pb at w2 w3 w4 w5 w6 ⊢
    have ea : ∀ k, k < (i : Int) * 4 → pb k = r.2.2.2 k := fun k hk => by rw [w2 k (by omega), eo k hk]
    have eh : pb ((i : Int) * 4 + 0) = heF b r.1 := by rw [w2 _ (by omega), e0]
    have ep : peA pb p0 i = r.2.2.1 := by rw [peA_c i ea, hpe]
    refine ⟨?_, RdO_add hit ea ?_⟩
    · rw [peA, eh, if_neg (by omega), ep]
    · unfold m2F at w3 w4
      unfold m3F at w6
      rcases hh7 with h7 | h7
      · rw [if_pos h7] at w3 w4 w6
        exact Or.inl ⟨by rw [eh]; exact h7, by omega, by omega, w5, w6⟩
      · rw [if_neg (by omega)] at w3 w4 w6
        exact Or.inr (Or.inl ⟨by rw [eh]; exact h7, by rw [ep]; omega, by rw [ep]; omega, w5, w6⟩)
/-- where there is no FAULT all ITEMS are well made -/
theorem fuS_O {p0 : Int} (hb : BtO b n) : ∀ (d : Nat) (r : RdS), RdO n p0 r → r.2.1 + d ≤ 120 → fuR b d r = -1 → RdO n p0 (fuS b d r) := by
  intro d
  induction d with
  | zero =>
    intro r h _ hF
    have h1 := tkB_x hb h.1.1
    have h2 := h.1.1
    rw [fuR] at hF
    omega
  | succ d ih =>
    intro r h hd hF
    have hjR := (tjN_R hb h.1 (by omega)).1
    have hB := tkB_x hb hjR.1
    have hjq := hjR.1
    rw [fuR] at hF
    by_cases g : tiP b r
    · have hj := RdO_s hb h (by omega) g
      rw [tI_p g] at hF
      unfold fuS
      by_cases g0 : tkS b (tjN b r).1 = 0
      · rw [tI_n (fun z => by have := z.2; omega)]
        exact hj
      · rw [if_neg g0] at hF
        by_cases g3 : tkS b (tjN b r).1 = 3
        · rw [if_pos g3] at hF
          rw [tI_p ⟨g, g3⟩]
          refine ih _ ⟨⟨tkE_R hb hj.1.1, hj.1.2⟩, hj.2⟩ ?_ hF
          show (tjN b r).2.1 + (d : Int) ≤ 120
          rw [(tjN_R hb h.1 (by omega)).2 g]
          omega
        · rw [if_neg g3] at hF
          omega
    · rw [tI_n g] at hF
      omega
end WF
noncomputable def coC (M : xMem) (j : Int) : xMem :=
  if M 50 (j * 4 + 0) = 7 then layC M 1 (M 50 (j * 4 + 1)) (M 50 (j * 4 + 2)) (M 50 (j * 4 + 3))
  else if M 50 (j * 4 + 0) = 8 then joiC M 11 (M 50 (j * 4 + 1)) (M 50 (j * 4 + 2)) (M 50 (j * 4 + 3))
  else up (up (addC M 11 (M 50 (j * 4 + 0)) (M 50 (j * 4 + 1))) (11 + 3) (M 11 1) (M 50 (j * 4 + 2))) (11 + 5) (M 11 1) (M 50 (j * 4 + 3))
def coG (M : xMem) (j : Int) : Prop :=
  (M 50 (j * 4 + 0) = 7 ∧ plc (M 50 (j * 4 + 1)) ∧ plc (M 50 (j * 4 + 2)) ∧ 0 ≤ M 50 (j * 4 + 3) ∧ M 50 (j * 4 + 3) ≤ 9) ∨
  (M 50 (j * 4 + 0) = 8 ∧ clHas M 11 (M 50 (j * 4 + 1)) ∧ clHas M 11 (M 50 (j * 4 + 2)) ∧ M 50 (j * 4 + 1) ≠ M 50 (j * 4 + 2)) ∨
  (knd (M 50 (j * 4 + 0)) ∧ 0 ≤ M 11 1 ∧ M 11 1 < 8)
theorem coC_R {M : xMem} {j : Int} (h : xR M) (hL : LB (M (1 + 1))) (hg : coG M j) : xR (coC M j) := by
  unfold coG at hg
  unfold coC
  have r := h 50
  split
  · have hv : 0 ≤ M 50 (j * 4 + 3) ∧ M 50 (j * 4 + 3) ≤ 9 := by unfold knd at hg; omega
    unfold layC suC
    exact suA_R (up_R (up_R h (r _)) (r _)) (by rw [up_s, up_s]; exact LB_ur (LB_ur hL hv) hv) (by decide)
  · split
    · unfold joiC
      have hp := prtC_R (p := M 50 (j * 4 + 2)) (prtC_R (p := M 50 (j * 4 + 1)) h (b := 11)) (b := 11)
      exact up_R (up_R (up_R (up_R hp (r _)) (r _)) (r _)) (r _)
    · have hn : inR (M 11 1 + 1) := by unfold knd at hg; omega
      unfold addC
      exact up_R (up_R (up_R (up_R (up_R (up_R (up_R (up_R (up_R (up_R (up_R h (r _)) (r _)) (r _)) (by decide)) (by decide)) (by decide)) (by decide)) (by decide)) hn) (r _)) (r _)
theorem dX6_carryOut_0 : decode cX6_carryOut 0 = .ok (.aload_n 0, 1) := by decide +kernel
theorem dX6_carryOut_1 : decode cX6_carryOut 1 = .ok (.getfield 71, 3) := by decide +kernel
theorem dX6_carryOut_4 : decode cX6_carryOut 4 = .ok (.iload_n 1, 1) := by decide +kernel
theorem dX6_carryOut_5 : decode cX6_carryOut 5 = .ok (.iconst 1, 1) := by decide +kernel
theorem dX6_carryOut_6 : decode cX6_carryOut 6 = .ok (.invokevirtual 301, 3) := by decide +kernel
theorem dX6_carryOut_9 : decode cX6_carryOut 9 = .ok (.istore_n 2, 1) := by decide +kernel
theorem dX6_carryOut_10 : decode cX6_carryOut 10 = .ok (.aload_n 0, 1) := by decide +kernel
theorem dX6_carryOut_11 : decode cX6_carryOut 11 = .ok (.getfield 71, 3) := by decide +kernel
theorem dX6_carryOut_14 : decode cX6_carryOut 14 = .ok (.iload_n 1, 1) := by decide +kernel
theorem dX6_carryOut_15 : decode cX6_carryOut 15 = .ok (.iconst 2, 1) := by decide +kernel
theorem dX6_carryOut_16 : decode cX6_carryOut 16 = .ok (.invokevirtual 301, 3) := by decide +kernel
theorem dX6_carryOut_19 : decode cX6_carryOut 19 = .ok (.istore_n 3, 1) := by decide +kernel
theorem dX6_carryOut_20 : decode cX6_carryOut 20 = .ok (.aload_n 0, 1) := by decide +kernel
theorem dX6_carryOut_21 : decode cX6_carryOut 21 = .ok (.getfield 71, 3) := by decide +kernel
theorem dX6_carryOut_24 : decode cX6_carryOut 24 = .ok (.iload_n 1, 1) := by decide +kernel
theorem dX6_carryOut_25 : decode cX6_carryOut 25 = .ok (.iconst 3, 1) := by decide +kernel
theorem dX6_carryOut_26 : decode cX6_carryOut 26 = .ok (.invokevirtual 301, 3) := by decide +kernel
theorem dX6_carryOut_29 : decode cX6_carryOut 29 = .ok (.istore 4, 2) := by decide +kernel
theorem dX6_carryOut_31 : decode cX6_carryOut 31 = .ok (.aload_n 0, 1) := by decide +kernel
theorem dX6_carryOut_32 : decode cX6_carryOut 32 = .ok (.getfield 71, 3) := by decide +kernel
theorem dX6_carryOut_35 : decode cX6_carryOut 35 = .ok (.iload_n 1, 1) := by decide +kernel
theorem dX6_carryOut_36 : decode cX6_carryOut 36 = .ok (.iconst 0, 1) := by decide +kernel
theorem dX6_carryOut_37 : decode cX6_carryOut 37 = .ok (.invokevirtual 301, 3) := by decide +kernel
theorem dX6_carryOut_40 : decode cX6_carryOut 40 = .ok (.istore 5, 2) := by decide +kernel
theorem dX6_carryOut_42 : decode cX6_carryOut 42 = .ok (.iload 5, 2) := by decide +kernel
theorem dX6_carryOut_44 : decode cX6_carryOut 44 = .ok (.bipush 7, 2) := by decide +kernel
theorem dX6_carryOut_46 : decode cX6_carryOut 46 = .ok (.if_icmp .ne 17, 3) := by decide +kernel
theorem dX6_carryOut_49 : decode cX6_carryOut 49 = .ok (.aload_n 0, 1) := by decide +kernel
theorem dX6_carryOut_50 : decode cX6_carryOut 50 = .ok (.getfield 10, 3) := by decide +kernel
theorem dX6_carryOut_53 : decode cX6_carryOut 53 = .ok (.iload_n 2, 1) := by decide +kernel
theorem dX6_carryOut_54 : decode cX6_carryOut 54 = .ok (.iload_n 3, 1) := by decide +kernel
theorem dX6_carryOut_55 : decode cX6_carryOut 55 = .ok (.iload 4, 2) := by decide +kernel
theorem dX6_carryOut_57 : decode cX6_carryOut 57 = .ok (.invokevirtual 103, 3) := by decide +kernel
theorem dX6_carryOut_60 : decode cX6_carryOut 60 = .ok (.goto 59, 3) := by decide +kernel
theorem dX6_carryOut_63 : decode cX6_carryOut 63 = .ok (.iload 5, 2) := by decide +kernel
theorem dX6_carryOut_65 : decode cX6_carryOut 65 = .ok (.bipush 8, 2) := by decide +kernel
theorem dX6_carryOut_67 : decode cX6_carryOut 67 = .ok (.if_icmp .ne 17, 3) := by decide +kernel
theorem dX6_carryOut_70 : decode cX6_carryOut 70 = .ok (.aload_n 0, 1) := by decide +kernel
theorem dX6_carryOut_71 : decode cX6_carryOut 71 = .ok (.getfield 21, 3) := by decide +kernel
theorem dX6_carryOut_74 : decode cX6_carryOut 74 = .ok (.iload_n 2, 1) := by decide +kernel
theorem dX6_carryOut_75 : decode cX6_carryOut 75 = .ok (.iload_n 3, 1) := by decide +kernel
theorem dX6_carryOut_76 : decode cX6_carryOut 76 = .ok (.iload 4, 2) := by decide +kernel
theorem dX6_carryOut_78 : decode cX6_carryOut 78 = .ok (.invokevirtual 169, 3) := by decide +kernel
theorem dX6_carryOut_81 : decode cX6_carryOut 81 = .ok (.goto 38, 3) := by decide +kernel
theorem dX6_carryOut_84 : decode cX6_carryOut 84 = .ok (.aload_n 0, 1) := by decide +kernel
theorem dX6_carryOut_85 : decode cX6_carryOut 85 = .ok (.getfield 21, 3) := by decide +kernel
theorem dX6_carryOut_88 : decode cX6_carryOut 88 = .ok (.iload 5, 2) := by decide +kernel
theorem dX6_carryOut_90 : decode cX6_carryOut 90 = .ok (.iload_n 2, 1) := by decide +kernel
theorem dX6_carryOut_91 : decode cX6_carryOut 91 = .ok (.invokevirtual 117, 3) := by decide +kernel
theorem dX6_carryOut_94 : decode cX6_carryOut 94 = .ok (.istore 6, 2) := by decide +kernel
theorem dX6_carryOut_96 : decode cX6_carryOut 96 = .ok (.aload_n 0, 1) := by decide +kernel
theorem dX6_carryOut_97 : decode cX6_carryOut 97 = .ok (.getfield 21, 3) := by decide +kernel
theorem dX6_carryOut_100 : decode cX6_carryOut 100 = .ok (.iload 6, 2) := by decide +kernel
theorem dX6_carryOut_102 : decode cX6_carryOut 102 = .ok (.iload_n 3, 1) := by decide +kernel
theorem dX6_carryOut_103 : decode cX6_carryOut 103 = .ok (.invokevirtual 156, 3) := by decide +kernel
theorem dX6_carryOut_106 : decode cX6_carryOut 106 = .ok (.pop, 1) := by decide +kernel
theorem dX6_carryOut_107 : decode cX6_carryOut 107 = .ok (.aload_n 0, 1) := by decide +kernel
theorem dX6_carryOut_108 : decode cX6_carryOut 108 = .ok (.getfield 21, 3) := by decide +kernel
theorem dX6_carryOut_111 : decode cX6_carryOut 111 = .ok (.iload 6, 2) := by decide +kernel
theorem dX6_carryOut_113 : decode cX6_carryOut 113 = .ok (.iload 4, 2) := by decide +kernel
theorem dX6_carryOut_115 : decode cX6_carryOut 115 = .ok (.invokevirtual 159, 3) := by decide +kernel
theorem dX6_carryOut_118 : decode cX6_carryOut 118 = .ok (.pop, 1) := by decide +kernel
theorem dX6_carryOut_119 : decode cX6_carryOut 119 = .ok (.return_, 1) := by decide +kernel
set_option maxHeartbeats 800000 in
set_option maxRecDepth 100000 in
theorem c_X6_carryOut {l : Launch} {ω : xO} (hc : xsh ω = clS) {j : Int} {M : xMem} (hj : 0 ≤ j ∧ j < 120) (hL : LB (M (1 + 1))) (hg : coG M j) : Ct l ω yX6_carryOut ({ frames := 5, cells := 0, slots := 0, locals := 112 } : Room) 7 1 [.ref (xad ω 0), .int (iI j)] M none (coC M j) := by
  refine Ct.of (bytes := cX6_carryOut) (ret := none) (lv0 := [some (.ref (xad ω 0)), some (.int (iI j)), none, none, none, none, none]) m_cd_X6_carryOut m_in_X6 (by decide +kernel) (by decide +kernel) rfl rfl rfl rfl (fun hR => coC_R hR hL hg) ?_
  intro κ h he hR
  have r50 := hR 50
  have hg2 := hg
  unfold coG knd at hg2
  have ra := r50 (j * 4 + 0)
  have rb := r50 (j * 4 + 1)
  have rc := r50 (j * 4 + 2)
  have rd := r50 (j * 4 + 3)
  refine x_aload_n h dX6_carryOut_0 rfl ?_
  refine x_getr (j := 12) (q := 49) h dX6_carryOut_1 (sC0 hc) rfl in_X6 rfl (by decide) m_fl_X6_71 ?_
  refine x_iload_n h dX6_carryOut_4 rfl ?_
  refine x_iconst h dX6_carryOut_5 ?_
  refine x_V2i h dX6_carryOut_6 m_ml_X6_301 m_im_X2_part m_se_X2_part (sC49 hc) rfl (by decide) rfl (c_X2_part hc hj (by omega)) ?_
  refine x_istore_n h dX6_carryOut_9 rfl rfl ?_
  dsimp only [xset]
  refine x_aload_n h dX6_carryOut_10 rfl ?_
  refine x_getr (j := 12) (q := 49) h dX6_carryOut_11 (sC0 hc) rfl in_X6 rfl (by decide) m_fl_X6_71 ?_
  refine x_iload_n h dX6_carryOut_14 rfl ?_
  refine x_iconst h dX6_carryOut_15 ?_
  refine x_V2i h dX6_carryOut_16 m_ml_X6_301 m_im_X2_part m_se_X2_part (sC49 hc) rfl (by decide) rfl (c_X2_part hc hj (by omega)) ?_
  refine x_istore_n h dX6_carryOut_19 rfl rfl ?_
  dsimp only [xset]
  refine x_aload_n h dX6_carryOut_20 rfl ?_
  refine x_getr (j := 12) (q := 49) h dX6_carryOut_21 (sC0 hc) rfl in_X6 rfl (by decide) m_fl_X6_71 ?_
  refine x_iload_n h dX6_carryOut_24 rfl ?_
  refine x_iconst h dX6_carryOut_25 ?_
  refine x_V2i h dX6_carryOut_26 m_ml_X6_301 m_im_X2_part m_se_X2_part (sC49 hc) rfl (by decide) rfl (c_X2_part hc hj (by omega)) ?_
  refine x_istore h dX6_carryOut_29 rfl rfl ?_
  dsimp only [xset]
  refine x_aload_n h dX6_carryOut_31 rfl ?_
  refine x_getr (j := 12) (q := 49) h dX6_carryOut_32 (sC0 hc) rfl in_X6 rfl (by decide) m_fl_X6_71 ?_
  refine x_iload_n h dX6_carryOut_35 rfl ?_
  refine x_iconst h dX6_carryOut_36 ?_
  refine x_V2i h dX6_carryOut_37 m_ml_X6_301 m_im_X2_part m_se_X2_part (sC49 hc) rfl (by decide) rfl (c_X2_part hc hj (by omega)) ?_
  refine x_istore h dX6_carryOut_40 rfl rfl ?_
  dsimp only [xset]
  refine x_iload h dX6_carryOut_42 rfl ?_
  refine x_bipush h dX6_carryOut_44 (by decide) ?_
  refine x_icmp_ne h dX6_carryOut_46 (tgt := 63) (by decide) (by first | omega | exact r50 _) (by first | omega | exact r50 _) (fun q46 => ?_) (fun q46 => ?_)
  · refine x_iload h dX6_carryOut_63 rfl ?_
    refine x_bipush h dX6_carryOut_65 (by decide) ?_
    refine x_icmp_ne h dX6_carryOut_67 (tgt := 84) (by decide) (by first | omega | exact r50 _) (by first | omega | exact r50 _) (fun q67 => ?_) (fun q67 => ?_)
    · refine x_aload_n h dX6_carryOut_84 rfl ?_
      refine x_getr (j := 1) (q := 11) h dX6_carryOut_85 (sC0 hc) rfl in_X6 rfl (by decide) m_fl_X6_21 ?_
      refine x_iload h dX6_carryOut_88 rfl ?_
      refine x_iload_n h dX6_carryOut_90 rfl ?_
      refine x_V2i h dX6_carryOut_91 m_ml_X6_117 m_im_X1_add m_se_X1_add (sPe hc ((Or.inl ⟨rfl, rfl⟩))) rfl (by decide) rfl (c_X1_add hc (Or.inl ⟨rfl, rfl⟩) (by omega) (r50 _) (r50 _)) ?_
      refine x_istore h dX6_carryOut_94 rfl rfl ?_
      dsimp only [xset]
      refine x_aload_n h dX6_carryOut_96 rfl ?_
      refine x_getr (j := 1) (q := 11) h dX6_carryOut_97 (sC0 hc) rfl in_X6 rfl (by decide) m_fl_X6_21 ?_
      refine x_iload h dX6_carryOut_100 rfl ?_
      refine x_iload_n h dX6_carryOut_102 rfl ?_
      refine x_V2i h dX6_carryOut_103 m_ml_X6_156 m_im_X1_setErrand m_se_X1_setErrand (sPe hc ((Or.inl ⟨rfl, rfl⟩))) rfl (by decide) rfl (c_X1_setErrand hc (Or.inl ⟨rfl, rfl⟩) (by show 0 ≤ M 11 1 ∧ M 11 1 < M 11 1 + 1 ∧ M 11 1 < 8; omega) (r50 _)) ?_
      refine x_pop h dX6_carryOut_106 rfl ?_
      refine x_aload_n h dX6_carryOut_107 rfl ?_
      refine x_getr (j := 1) (q := 11) h dX6_carryOut_108 (sC0 hc) rfl in_X6 rfl (by decide) m_fl_X6_21 ?_
      refine x_iload h dX6_carryOut_111 rfl ?_
      refine x_iload h dX6_carryOut_113 rfl ?_
      refine x_V2i h dX6_carryOut_115 m_ml_X6_159 m_im_X1_setStrength m_se_X1_setStrength (sPe hc ((Or.inl ⟨rfl, rfl⟩))) rfl (by decide) rfl (c_X1_setStrength hc (Or.inl ⟨rfl, rfl⟩) (by show 0 ≤ M 11 1 ∧ M 11 1 < M 11 1 + 1 ∧ M 11 1 < 8; omega) (r50 _)) ?_
      refine x_pop h dX6_carryOut_118 rfl ?_
      exact x_vret h he dX6_carryOut_119 (by unfold coC; first | (rw [if_pos (by omega)]) | (rw [if_neg (by omega), if_pos (by omega)]) | (rw [if_neg (by omega), if_neg (by omega)]; try rfl))
    · refine x_aload_n h dX6_carryOut_70 rfl ?_
      refine x_getr (j := 1) (q := 11) h dX6_carryOut_71 (sC0 hc) rfl in_X6 rfl (by decide) m_fl_X6_21 ?_
      refine x_iload_n h dX6_carryOut_74 rfl ?_
      refine x_iload_n h dX6_carryOut_75 rfl ?_
      refine x_iload h dX6_carryOut_76 rfl ?_
      refine x_V3v h dX6_carryOut_78 m_ml_X6_169 m_im_X1_join m_se_X1_join (sPe hc ((Or.inl ⟨rfl, rfl⟩))) rfl (by decide) rfl (c_X1_join hc (Or.inl ⟨rfl, rfl⟩) (by omega) (by omega) (r50 _) (by omega)) ?_
      refine x_goto h dX6_carryOut_81 (tgt := 119) (by decide) ?_
      exact x_vret h he dX6_carryOut_119 (by unfold coC; first | (rw [if_pos (by omega)]) | (rw [if_neg (by omega), if_pos (by omega)]) | (rw [if_neg (by omega), if_neg (by omega)]; try rfl))
  · refine x_aload_n h dX6_carryOut_49 rfl ?_
    refine x_getr (j := 0) (q := 1) h dX6_carryOut_50 (sC0 hc) rfl in_X6 rfl (by decide) m_fl_X6_10 ?_
    refine x_iload_n h dX6_carryOut_53 rfl ?_
    refine x_iload_n h dX6_carryOut_54 rfl ?_
    refine x_iload h dX6_carryOut_55 rfl ?_
    refine x_V3v h dX6_carryOut_57 m_ml_X6_103 m_im_X3_lay m_se_X3_lay (sRd hc ((Or.inl rfl))) rfl (by decide) rfl (c_X3_lay hc (Or.inl rfl) hL (by omega) (by omega) (by omega)) ?_
    refine x_goto h dX6_carryOut_60 (tgt := 119) (by decide) ?_
    exact x_vret h he dX6_carryOut_119 (by unfold coC; first | (rw [if_pos (by omega)]) | (rw [if_neg (by omega), if_pos (by omega)]) | (rw [if_neg (by omega), if_neg (by omega)]; try rfl))

theorem fuR_R {b : Int → Int} {n : Int} (hb : BtO b n) : ∀ (d : Nat) (r : RdS), RdR n r → r.2.1 + d ≤ 120 → -1 ≤ fuR b d r ∧ fuR b d r ≤ n := by
  intro d
  induction d with
  | zero =>
    intro r h _
    have h1 := tkB_x hb h.1
    have h2 := h.1
    rw [fuR]
    omega
  | succ d ih =>
    intro r h hd
    have hj := tjN_R hb h (by omega)
    have hjq := hj.1.1
    have hB := tkB_x hb hjq
    rw [fuR]
    unfold tI
    split
    · split
      · omega
      · split
        · rename_i g1 g2 g3
          refine ih _ ⟨tkE_R hb hj.1.1, hj.1.2⟩ ?_
          show (tjN b r).2.1 + (d : Int) ≤ 120
          rw [hj.2 g1]
          omega
        · omega
    · omega
noncomputable def coF (M : xMem) (n : Nat) : xMem := xfo (fun j T => coC T j) M n
theorem coF_s (M : xMem) (n : Nat) : coF M (n + 1) = coC (coF M n) (n : Int) := by
  unfold coF
  rw [xfo_s (fun j T => coC T j) M n]
theorem coC_n {M : xMem} {j : Int} {k : Nat} (h : k = 0 ∨ (5 < k ∧ k < 11) ∨ 19 < k) : coC M j k = M k := by
  unfold coC
  split
  · unfold layC suC
    rw [suA_n (by omega), up_n (by omega), up_n (by omega)]
  · split
    · unfold joiC
      rw [up_n (by omega), up_n (by omega), up_n (by omega), up_n (by omega), prtC_n (by omega), prtC_n (by omega)]
    · unfold addC
      rw [up_n (by omega), up_n (by omega), up_n (by omega), up_n (by omega), up_n (by omega), up_n (by omega), up_n (by omega), up_n (by omega), up_n (by omega), up_n (by omega), up_n (by omega)]
theorem coC_i {M : xMem} {i : Nat} {p0 : Int} (hL : LB (M (1 + 1))) (hI : itO (M 50) p0 i) (hp : M 11 1 = peA (M 50) p0 i) (hp0 : 0 ≤ M 11 1 ∧ M 11 1 ≤ 8) : coG M (i : Int) ∧ LB (coC M (i : Int) (1 + 1)) ∧ coC M (i : Int) 11 1 = peA (M 50) p0 (i + 1) ∧ (0 ≤ coC M (i : Int) 11 1 ∧ coC M (i : Int) 11 1 ≤ 8) := by
  unfold itO knd at hI
  rw [← hp] at hI
  rw [peA, ← hp]
  unfold coC
  by_cases h7 : M 50 ((i : Int) * 4 + 0) = 7
  · have hv : 0 ≤ M 50 ((i : Int) * 4 + 3) ∧ M 50 ((i : Int) * 4 + 3) ≤ 9 := by omega
    rw [if_pos h7, if_neg (by omega)]
    refine ⟨Or.inl ⟨h7, by omega, by omega, by omega⟩, ?_, ?_, ?_⟩
    · unfold layC suC
      rw [suA_1, up_s, up_s]
      exact LB_ur (LB_ur hL hv) hv
    · unfold layC suC; rw [suA_n (by decide), up_n (by decide), up_n (by decide)]
    · unfold layC suC; rw [suA_n (by decide), up_n (by decide), up_n (by decide)]; exact hp0
  · by_cases h8 : M 50 ((i : Int) * 4 + 0) = 8
    · rw [if_neg h7, if_pos h8, if_neg (by omega)]
      refine ⟨Or.inr (Or.inl ⟨h8, by omega, by omega, by omega⟩), ?_, ?_, ?_⟩
      · unfold joiC
        rw [up_n (by decide), up_n (by decide), up_n (by decide), up_n (by decide), prtC_n (by decide), prtC_n (by decide)]
        exact hL
      · unfold joiC
        rw [up_n (by decide), up_n (by decide), up_n (by decide), up_n (by decide), prtC_n (by decide), prtC_n (by decide)]
      · unfold joiC
        rw [up_n (by decide), up_n (by decide), up_n (by decide), up_n (by decide), prtC_n (by decide), prtC_n (by decide)]
        exact hp0
    · rw [if_neg h7, if_neg h8, if_pos (by omega)]
      refine ⟨Or.inr (Or.inr ⟨by unfold knd; omega, by omega⟩), hL, rfl, ?_⟩
      show 0 ≤ M 11 1 + 1 ∧ M 11 1 + 1 ≤ 8
      omega
noncomputable def txS (M : xMem) : RdS := fuS (btC M) 120 (0, 0, M 11 1, M 50)
noncomputable def txF (M : xMem) : Int := fuR (btC M) 120 (0, 0, M 11 1, M 50)
noncomputable def tx0 (M : xMem) : xMem := up (rtM M (txS M)) 47 1 0
noncomputable def textR (M : xMem) : Int := if txF M = -1 then (txS M).2.1 else -1 - txF M
noncomputable def textM (M : xMem) : xMem := if txF M = -1 then coF (tx0 M) (txS M).2.1.toNat else tx0 M
theorem rd0_O {M : xMem} (hR : xR M) (hb : BtO (btC M) (M 47 1)) (hp : 0 ≤ M 11 1 ∧ M 11 1 ≤ 8) : RdO (M 47 1) (M 11 1) (0, 0, M 11 1, M 50) := ⟨⟨⟨Int.le_refl 0, hb.1.1⟩, ⟨by show (0 : Int) ≤ 0; omega, by show (0 : Int) ≤ 120; omega⟩, hp, hR 50⟩, 0, rfl, rfl, fun j hj => absurd hj (Nat.not_lt_zero j)⟩
/-- what stands behind the first i ITEMS -/
theorem coF_i {M : xMem} (hR : xR M) (hb : BtO (btC M) (M 47 1)) (hp : 0 ≤ M 11 1 ∧ M 11 1 ≤ 8) (hL : LB (M (1 + 1))) (hF : txF M = -1) : ∀ i : Nat, (i : Int) ≤ (txS M).2.1 → LB (coF (tx0 M) i (1 + 1)) ∧ coF (tx0 M) i 11 1 = peA (txS M).2.2.2 (M 11 1) i ∧ (0 ≤ coF (tx0 M) i 11 1 ∧ coF (tx0 M) i 11 1 ≤ 8) ∧ coF (tx0 M) i 50 = (txS M).2.2.2 ∧ coF (tx0 M) i 49 6 = (txS M).2.1 ∧ (xR (tx0 M) → xR (coF (tx0 M) i)) ∧ ((i : Int) < (txS M).2.1 → coG (coF (tx0 M) i) (i : Int)) := by
  have hO : RdO (M 47 1) (M 11 1) (txS M) := fuS_O hb 120 _ (rd0_O hR hb hp) (by show (0 : Int) + ((120 : Nat) : Int) ≤ 120; omega) hF
  obtain ⟨hOR, k, hk1, hk2, hk3⟩ := hO
  have key : ∀ i : Nat, (i : Int) ≤ (txS M).2.1 → LB (coF (tx0 M) i (1 + 1)) ∧ coF (tx0 M) i 11 1 = peA (txS M).2.2.2 (M 11 1) i ∧ (0 ≤ coF (tx0 M) i 11 1 ∧ coF (tx0 M) i 11 1 ≤ 8) ∧ coF (tx0 M) i 50 = (txS M).2.2.2 ∧ coF (tx0 M) i 49 6 = (txS M).2.1 ∧ (xR (tx0 M) → xR (coF (tx0 M) i)) := by
    intro i
    induction i with
    | zero => intro _; exact ⟨hL, rfl, hp, rfl, rfl, id⟩
    | succ i ih =>
      intro hi
      obtain ⟨a1, a2, a3, a4, a5, a6⟩ := ih (by omega)
      have hI := hk3 i (by omega)
      obtain ⟨c1, c2, c3, c4⟩ := coC_i (p0 := M 11 1) a1 (by rw [a4]; exact hI) (by rw [a4]; exact a2) a3
      rw [coF_s]
      refine ⟨c2, by rw [c3, a4], c4, by rw [coC_n (by decide), a4], by rw [coC_n (by decide), a5], fun z => coC_R (a6 z) a1 c1⟩
  intro i hi
  obtain ⟨a1, a2, a3, a4, a5, a6⟩ := key i hi
  refine ⟨a1, a2, a3, a4, a5, a6, fun hlt => ?_⟩
  exact (coC_i (p0 := M 11 1) a1 (by rw [a4]; exact hk3 i (by omega)) (by rw [a4]; exact a2) a3).1
theorem tx0_R {M : xMem} (hR : xR M) (hb : BtO (btC M) (M 47 1)) (hp : 0 ≤ M 11 1 ∧ M 11 1 ≤ 8) : xR (tx0 M) := by
  have h : RdR (M 47 1) (txS M) := fuS_R hb 120 (0, 0, M 11 1, M 50) (rd0_O hR hb hp).1 (by show (0 : Int) + ((120 : Nat) : Int) ≤ 120; omega)
  have h2 := h.2.1
  have h3 := h.2.2.1
  have e1 := tkB_x hb ⟨Int.le_refl 0, hb.1.1⟩
  have e2 := tkE_x hb ⟨Int.le_refl 0, hb.1.1⟩
  have e3 := tkV_R hb ⟨Int.le_refl 0, hb.1.1⟩
  have e4 := tkS_R (btC M) 0
  have e5 := hb.1
  have hR2 : xR (rsM M 0 (M 49 6) (M 49 7) (M 50)) := rr_R2 (by rw [rr_id]; exact hR) (by omega) (by omega) (by omega) (by omega)
  exact up_R (rs_R hR2 hb h.1 (by omega) (by omega) h.2.2.2) (by decide)
theorem BtO_C {M : xMem} (h : CInv M) (hb : ∀ i, 0 ≤ i → i < M 47 1 → 0 ≤ M 48 i ∧ M 48 i ≤ 255) : BtO (btC M) (M 47 1) := by
  have h47 := h.2.2.2.1
  refine ⟨h47, fun k hk => ?_, fun k h1 h2 => ?_⟩
  · unfold btC; rw [if_neg (by omega)]
  · unfold btC; rw [if_pos (by omega)]; exact hb k h1 h2
theorem dX6_text_0 : decode cX6_text 0 = .ok (.aload_n 0, 1) := by decide +kernel
theorem dX6_text_1 : decode cX6_text 1 = .ok (.getfield 71, 3) := by decide +kernel
theorem dX6_text_4 : decode cX6_text 4 = .ok (.aload_n 0, 1) := by decide +kernel
theorem dX6_text_5 : decode cX6_text 5 = .ok (.getfield 21, 3) := by decide +kernel
theorem dX6_text_8 : decode cX6_text 8 = .ok (.invokevirtual 113, 3) := by decide +kernel
theorem dX6_text_11 : decode cX6_text 11 = .ok (.invokevirtual 292, 3) := by decide +kernel
theorem dX6_text_14 : decode cX6_text 14 = .ok (.istore_n 1, 1) := by decide +kernel
theorem dX6_text_15 : decode cX6_text 15 = .ok (.aload_n 0, 1) := by decide +kernel
theorem dX6_text_16 : decode cX6_text 16 = .ok (.getfield 62, 3) := by decide +kernel
theorem dX6_text_19 : decode cX6_text 19 = .ok (.invokevirtual 289, 3) := by decide +kernel
theorem dX6_text_22 : decode cX6_text 22 = .ok (.iload_n 1, 1) := by decide +kernel
theorem dX6_text_23 : decode cX6_text 23 = .ok (.iconst (-1), 1) := by decide +kernel
theorem dX6_text_24 : decode cX6_text 24 = .ok (.if_icmp .eq 7, 3) := by decide +kernel
theorem dX6_text_27 : decode cX6_text 27 = .ok (.iconst (-1), 1) := by decide +kernel
theorem dX6_text_28 : decode cX6_text 28 = .ok (.iload_n 1, 1) := by decide +kernel
theorem dX6_text_29 : decode cX6_text 29 = .ok (.isub, 1) := by decide +kernel
theorem dX6_text_30 : decode cX6_text 30 = .ok (.ireturn, 1) := by decide +kernel
theorem dX6_text_31 : decode cX6_text 31 = .ok (.iconst 0, 1) := by decide +kernel
theorem dX6_text_32 : decode cX6_text 32 = .ok (.istore_n 2, 1) := by decide +kernel
theorem dX6_text_33 : decode cX6_text 33 = .ok (.iload_n 2, 1) := by decide +kernel
theorem dX6_text_34 : decode cX6_text 34 = .ok (.aload_n 0, 1) := by decide +kernel
theorem dX6_text_35 : decode cX6_text 35 = .ok (.getfield 71, 3) := by decide +kernel
theorem dX6_text_38 : decode cX6_text 38 = .ok (.invokevirtual 295, 3) := by decide +kernel
theorem dX6_text_41 : decode cX6_text 41 = .ok (.if_icmp .ge 14, 3) := by decide +kernel
theorem dX6_text_44 : decode cX6_text 44 = .ok (.aload_n 0, 1) := by decide +kernel
theorem dX6_text_45 : decode cX6_text 45 = .ok (.iload_n 2, 1) := by decide +kernel
theorem dX6_text_46 : decode cX6_text 46 = .ok (.invokevirtual 298, 3) := by decide +kernel
theorem dX6_text_49 : decode cX6_text 49 = .ok (.iinc 2 1, 3) := by decide +kernel
theorem dX6_text_52 : decode cX6_text 52 = .ok (.goto (-19), 3) := by decide +kernel
theorem dX6_text_55 : decode cX6_text 55 = .ok (.aload_n 0, 1) := by decide +kernel
theorem dX6_text_56 : decode cX6_text 56 = .ok (.getfield 71, 3) := by decide +kernel
theorem dX6_text_59 : decode cX6_text 59 = .ok (.invokevirtual 295, 3) := by decide +kernel
theorem dX6_text_62 : decode cX6_text 62 = .ok (.ireturn, 1) := by decide +kernel
set_option maxHeartbeats 800000 in
set_option maxRecDepth 100000 in
theorem c_X6_text {l : Launch} {ω : xO} (hc : xsh ω = clS) {ki vi : Nat → Nat}  {M : xMem} (hφ : xph ω = xStr ki vi (xA ω)) (hJ : CInv M) (hb : BtO (btC M) (M 47 1)) : Ct l ω yX6_text ({ frames := 9, cells := 0, slots := 0, locals := 195 } : Room) 3 0 [.ref (xad ω 0)] M (some (.int (iI (textR M)))) (textM M) := by
  refine Ct.of (bytes := cX6_text) (ret := (some .int)) (lv0 := [some (.ref (xad ω 0)), none, none]) m_cd_X6_text m_in_X6 (by decide +kernel) (by decide +kernel) rfl rfl rfl rfl (fun hR => by have hp := hJ.1.1; have h0 := tx0_R hR hb hp; have hS : 0 ≤ (txS M).2.1 ∧ (txS M).2.1 ≤ 120 := (fuS_R hb 120 (0, 0, M 11 1, M 50) (rd0_O hR hb hp).1 (by show (0 : Int) + ((120 : Nat) : Int) ≤ 120; omega)).2.1; unfold textM; split; exact (coF_i hR hb hp hJ.2.2.1 (by assumption) (txS M).2.1.toNat (by omega)).2.2.2.2.2.1 h0; exact h0) ?_
  intro κ h he hR
  have hp := hJ.1.1
  have hSR : RdR (M 47 1) (txS M) := fuS_R hb 120 (0, 0, M 11 1, M 50) (rd0_O hR hb hp).1 (by show (0 : Int) + ((120 : Nat) : Int) ≤ 120; omega)
  have hS1 := hSR.2.1
  have hFR := fuR_R hb 120 (0, 0, M 11 1, M 50) (rd0_O hR hb hp).1 (by show (0 : Int) + ((120 : Nat) : Int) ≤ 120; omega)
  rw [show fuR (btC M) 120 (0, 0, M 11 1, M 50) = txF M from rfl] at hFR
  have hn := hb.1
  refine x_aload_n h dX6_text_0 rfl ?_
  refine x_getr (j := 12) (q := 49) h dX6_text_1 (sC0 hc) rfl in_X6 rfl (by decide) m_fl_X6_71 ?_
  refine x_aload_n h dX6_text_4 rfl ?_
  refine x_getr (j := 1) (q := 11) h dX6_text_5 (sC0 hc) rfl in_X6 rfl (by decide) m_fl_X6_21 ?_
  refine x_V0i h dX6_text_8 m_ml_X6_113 m_im_X1_number m_se_X1_number (sPe hc ((Or.inl ⟨rfl, rfl⟩))) rfl (by decide) rfl (c_X1_number hc (Or.inl ⟨rfl, rfl⟩)) ?_
  refine x_V1i h dX6_text_11 m_ml_X6_292 m_im_X2_faultOf m_se_X2_faultOf (sC49 hc) rfl (by decide) rfl (c_X2_faultOf hc hφ hb hp) ?_
  rw [show fuR (btC M) 120 (0, 0, M 11 1, M 50) = txF M from rfl]
  refine x_istore_n h dX6_text_14 rfl rfl ?_
  dsimp only [xset]
  refine x_aload_n h dX6_text_15 rfl ?_
  refine x_getr (j := 11) (q := 47) h dX6_text_16 (sC0 hc) rfl in_X6 rfl (by decide) m_fl_X6_62 ?_
  refine x_V0v h dX6_text_19 m_ml_X6_289 m_im_X5_clear m_se_X5_clear (sC47 hc) rfl (by decide) rfl (c_X5_clear hc) ?_
  refine x_mem (M' := tx0 M) rfl ?_
  refine x_iload_n h dX6_text_22 rfl ?_
  refine x_iconst h dX6_text_23 ?_
  refine x_icmp_eq h dX6_text_24 (tgt := 31) (by decide) (by omega) (by omega) (fun q24 => ?_) (fun q24 => ?_)
  · refine x_iconst h dX6_text_31 ?_
    refine x_istore_n h dX6_text_32 rfl rfl ?_
    dsimp only [xset]
    have hF : txF M = -1 := q24
    have hci := coF_i hR hb hp hJ.2.2.1 hF
    refine x_mem (M' := coF (tx0 M) 0) rfl ?_
    refine loop_up (fun k => X ω κ 33 [some (.ref (xad ω 0)), some (.int (iI (txF M))), some (.int (iI (k : Int)))] [] (coF (tx0 M) k)) ((txS M).2.1.toNat) ?_ ?_
    · show X ω κ 33 [some (.ref (xad ω 0)), some (.int (iI (txF M))), some (.int (iI (((txS M).2.1.toNat : Nat) : Int)))] [] (coF (tx0 M) ((txS M).2.1.toNat))
      have g0 : (((txS M).2.1.toNat : Nat) : Int) = (txS M).2.1 := by omega
      have hi0 := hci (txS M).2.1.toNat (by omega)
      refine x_iload_n h dX6_text_33 rfl ?_
      refine x_aload_n h dX6_text_34 rfl ?_
      refine x_getr (j := 12) (q := 49) h dX6_text_35 (sC0 hc) rfl in_X6 rfl (by decide) m_fl_X6_71 ?_
      refine x_V0i h dX6_text_38 m_ml_X6_295 m_im_X2_items m_se_X2_items (sC49 hc) rfl (by decide) rfl (c_X2_items hc) ?_
      rw [hi0.2.2.2.2.1]
      refine x_icmp_ge h dX6_text_41 (tgt := 55) (by decide) (by omega) (by omega) (fun q41 => ?_) (fun q41 => ?_)
      · refine x_aload_n h dX6_text_55 rfl ?_
        refine x_getr (j := 12) (q := 49) h dX6_text_56 (sC0 hc) rfl in_X6 rfl (by decide) m_fl_X6_71 ?_
        refine x_V0i h dX6_text_59 m_ml_X6_295 m_im_X2_items m_se_X2_items (sC49 hc) rfl (by decide) rfl (c_X2_items hc) ?_
        rw [hi0.2.2.2.2.1]
        exact x_iret (ret := none) h he dX6_text_62 rfl (by unfold textR; rw [if_pos hF]) (by unfold textM; rw [if_pos hF])
      · exfalso; omega
    · intro k hk ihk
      replace ihk : X ω κ 33 [some (.ref (xad ω 0)), some (.int (iI (txF M))), some (.int (iI ((k + 1 : Nat) : Int)))] [] (coF (tx0 M) (k + 1)) := ihk
      show X ω κ 33 [some (.ref (xad ω 0)), some (.int (iI (txF M))), some (.int (iI (k : Int)))] [] (coF (tx0 M) k)
      have g0 : (k : Int) < (txS M).2.1 := by omega
      have hik := hci k (by omega)
      have hgi := hik.2.2.2.2.2.2 g0
      have hLi := hik.1
      rw [coF_s] at ihk
      refine x_iload_n h dX6_text_33 rfl ?_
      refine x_aload_n h dX6_text_34 rfl ?_
      refine x_getr (j := 12) (q := 49) h dX6_text_35 (sC0 hc) rfl in_X6 rfl (by decide) m_fl_X6_71 ?_
      refine x_V0i h dX6_text_38 m_ml_X6_295 m_im_X2_items m_se_X2_items (sC49 hc) rfl (by decide) rfl (c_X2_items hc) ?_
      rw [hik.2.2.2.2.1]
      refine x_icmp_ge h dX6_text_41 (tgt := 55) (by decide) (by omega) (by omega) (fun q41 => ?_) (fun q41 => ?_)
      · exfalso; omega
      · refine x_aload_n h dX6_text_44 rfl ?_
        refine x_iload_n h dX6_text_45 rfl ?_
        refine x_V1v h dX6_text_46 m_ml_X6_298 m_im_X6_carryOut m_se_X6_carryOut (sC0 hc) rfl (by decide) rfl (c_X6_carryOut hc (by omega) hLi hgi) ?_
        refine x_iinc h dX6_text_49 rfl rfl rfl ?_
        dsimp only [xset]
        refine x_goto h dX6_text_52 (tgt := 33) (by decide) ?_
        exact ihk
  · refine x_iconst h dX6_text_27 ?_
    refine x_iload_n h dX6_text_28 rfl ?_
    refine x_isub h dX6_text_29 ?_
    exact x_iret (ret := none) h he dX6_text_30 rfl (by unfold textR; rw [if_neg q24]) (by unfold textM; rw [if_neg q24])

