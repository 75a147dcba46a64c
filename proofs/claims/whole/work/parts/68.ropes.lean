/-! both worlds: one person changed, ropes -/
theorem PeR.upg {C : xMem} {b : Nat} {n : Int → Int} {p v : Int} (h : PeR C b n) (hp : 0 ≤ p) (f : Nat) (hf : f = 0 ∨ f = 4) (i : Int) (hi : i = 113 + 8 * p + f) (k : Nat) (hk : k = b + 1 + f) : PeR (up C k p v) b (ur n i v) := by
  subst hi hk
  refine ⟨?_, ?_, fun q h1 h2 => ?_⟩
  · rw [ur_n (by omega), up_n (by omega)]; exact h.1
  · rw [ur_n (by omega), up_n (by omega)]; exact h.2.1
  · rw [show up C (b + 1 + f) p v b = C b from up_n (by omega)] at h2
    obtain ⟨a0, a1, a2, a3, a4, a5, a6, a7⟩ := h.2.2 q h1 h2
    by_cases e : q = p
    · subst e
      rcases hf with rfl | rfl
      · refine ⟨?_, ?_, ?_, ?_, ?_, ?_, ?_, ?_⟩ <;> first | (rw [ur_n (by omega), up_n (by omega)]; assumption) | (rw [show b + 1 = b + 1 + 0 from rfl, up_ss]; exact ur_s _ _ _) | (rw [up_n (by omega), ur_n (by omega), up_n (by omega)]; assumption)
      · refine ⟨?_, ?_, ?_, ?_, ?_, ?_, ?_, ?_⟩ <;> first | (rw [ur_n (by omega), up_n (by omega)]; assumption) | (rw [show b + 5 = b + 1 + 4 from rfl, up_ss]; exact ur_s _ _ _) | (rw [up_n (by omega), ur_n (by omega), up_n (by omega)]; assumption)
    · refine ⟨?_, ?_, ?_, ?_, ?_, ?_, ?_, ?_⟩
      · rw [ur_n (by omega), up_nn (by omega)]; exact a0
      · rw [ur_n (by omega), up_nn (by omega)]; exact a1
      · rw [ur_n (by omega), up_nn (by omega)]; exact a2
      · rw [ur_n (by omega), up_nn (by omega)]; exact a3
      · rw [ur_n (by omega), up_nn (by omega)]; exact a4
      · rw [ur_n (by omega), up_nn (by omega), up_nn (by omega)]; exact a5
      · rw [ur_n (by omega), up_nn (by omega)]; exact a6
      · rw [ur_n (by omega), up_nn (by omega)]; exact a7
theorem CoR.upf {K : Int} {C : xMem} {n : Int → Int} {p v : Int} (h : CoR K C 11 1 41 3 n) (hp : 0 ≤ p ∧ p < C 11 1) (f : Nat) (hf : (f = 0 ∧ 0 ≤ v ∧ v ≤ 6) ∨ (f = 1 ∧ 0 ≤ v ∧ v < 10) ∨ (f = 2 ∧ 0 ≤ v ∧ v < 10) ∨ (f = 4 ∧ 0 ≤ v ∧ v ≤ 9)) (i : Int) (hi : i = 113 + 8 * p + f) (k : Nat) (hk : k = 11 + (1 + f)) : CoR K (up C k p v) 11 1 41 3 (ur n i v) := by
  obtain ⟨⟨h1, h2⟩, h3, h4, h5, h6, h7, h8, h9⟩ := h
  have hn := h1.1
  have e11 : up C k p v 11 = C 11 := up_n (by omega)
  have h2' := h2.up1 (p := p) (f := f) (v := v) (by show 0 ≤ p ∧ p < n 1; rw [h3.1]; exact hp) (by unfold fOk; omega)
  refine ⟨⟨?_, ?_⟩, ?_, (h4.n (wyr_ur (by omega))).c (fun k' a b => up_n (by omega)), h5.c (by rw [e11]) (up_n (by omega)) (up_n (by omega)), fun a c ha hc => ?_, by rw [e11]; exact h7, ?_, ?_⟩
  · rw [hk]; exact PeInv_up h1 (by omega)
  · rw [hi]; exact h2'
  · rcases (show (f = 0 ∨ f = 4) ∨ (f = 1 ∨ f = 2 ∨ f = 6 ∨ f = 7) by omega) with q | q
    · exact h3.upg hp.1 f q i hi k (by omega)
    · exact h3.upf hp.1 f q i hi k (by omega)
  · rw [ur_n (by omega), ur_n (by omega)]; exact h6 a c ha hc
  · rw [e11]; intro j j0 j1; rw [ur_n (by omega), up_n (by omega)]; exact h8 j j0 j1
  · rw [ur_n (by omega), up_n (by omega)]; exact h9
/-- one is cut from the other -/
theorem PeR.prt {C N : xMem} {b : Nat} {p : Int} (h : PeR C b (N 1)) (hI : PeInv C b) (hp : 0 ≤ p ∧ p < C b 1) : PeR (prtC C b p) b (frN N p 1) := by
  have hn := hI.1
  have i := hI.2.2 p hp.1 hp.2
  have a := h.2.2 p hp.1 hp.2
  unfold prtC frN
  rw [a.2.2.2.1]
  by_cases hm : 0 ≤ C (b + 4) p
  · rw [if_pos (show clHas C b (C (b + 4) p) from ⟨hm, by omega, by omega⟩), if_pos hm]
    rw [up_s, up_s, up_s, up_s]
    generalize hg : C (b + 4) p = m at *
    refine ⟨?_, ?_, fun q q0 q1 => ?_⟩
    · rw [ur_n (by omega), ur_n (by omega), ur_n (by omega), ur_n (by omega), up_n (by omega), up_n (by omega)]; exact h.1
    · rw [ur_n (by omega), ur_n (by omega), ur_n (by omega), ur_n (by omega), up_n (by omega), up_n (by omega)]; exact h.2.1
    · rw [up_n (by omega), up_n (by omega)] at q1
      obtain ⟨a0, a1, a2, a3, a4, a5, a6, a7⟩ := h.2.2 q q0 q1
      refine ⟨?_, ?_, ?_, ?_, ?_, ?_, ?_, ?_⟩
      · rw [ur_n (by omega), ur_n (by omega), ur_n (by omega), ur_n (by omega), up_n (by omega), up_n (by omega)]; exact a0
      · rw [ur_n (by omega), ur_n (by omega), ur_n (by omega), ur_n (by omega), up_n (by omega), up_n (by omega)]; exact a1
      · rw [ur_n (by omega), ur_n (by omega), ur_n (by omega), ur_n (by omega), up_n (by omega), up_n (by omega)]; exact a2
      · rw [ur_n (by omega), up_s, up_s]
        by_cases e : q = m
        · subst e; rw [ur_s, ur_s]
        · rw [ur_n (by omega), ur_n (by omega), ur_n e]
          by_cases e2 : q = p
          · subst e2; rw [ur_s, ur_s]
          · rw [ur_n (by omega), ur_n e2]; exact a3
      · rw [ur_n (by omega), ur_n (by omega), ur_n (by omega), ur_n (by omega), up_n (by omega), up_n (by omega)]; exact a4
      · rw [up_s, up_s]
        intro z
        by_cases e : q = m
        · subst e; rw [ur_s] at z; omega
        · rw [ur_n e] at z
          by_cases e2 : q = p
          · subst e2; rw [ur_s] at z; omega
          · rw [ur_n e2] at z
            rw [ur_n (by omega), ur_n (by omega), ur_n (by omega), ur_n (by omega), up_n (by omega), up_n (by omega)]; exact a5 z
      · rw [ur_n (by omega), ur_n (by omega), ur_n (by omega), ur_n (by omega), up_n (by omega), up_n (by omega)]; exact a6
      · rw [ur_n (by omega), ur_n (by omega), ur_n (by omega), ur_n (by omega), up_n (by omega), up_n (by omega)]; exact a7
  · rw [if_neg (show ¬ clHas C b (C (b + 4) p) from fun z => hm z.1), if_neg hm, up_s, up_s]
    refine ⟨?_, ?_, fun q q0 q1 => ?_⟩
    · rw [ur_n (by omega), ur_n (by omega)]; exact h.1
    · rw [ur_n (by omega), ur_n (by omega)]; exact h.2.1
    · obtain ⟨a0, a1, a2, a3, a4, a5, a6, a7⟩ := h.2.2 q q0 q1
      refine ⟨?_, ?_, ?_, ?_, ?_, ?_, ?_, ?_⟩
      · rw [ur_n (by omega), ur_n (by omega)]; exact a0
      · rw [ur_n (by omega), ur_n (by omega)]; exact a1
      · rw [ur_n (by omega), ur_n (by omega)]; exact a2
      · rw [ur_n (by omega)]
        by_cases e : q = p
        · subst e; rw [ur_s]; omega
        · rw [ur_n (by omega)]; exact a3
      · rw [ur_n (by omega), ur_n (by omega)]; exact a4
      · intro z
        by_cases e : q = p
        · subst e; omega
        · rw [ur_n (by omega), ur_n (by omega)]; exact a5 z
      · rw [ur_n (by omega), ur_n (by omega)]; exact a6
      · rw [ur_n (by omega), ur_n (by omega)]; exact a7
theorem prtC_m {C : xMem} {b : Nat} {p : Int} (hI : PeInv C b) (hp : 0 ≤ p ∧ p < C b 1) : prtC C b p (b + 4) p = -1 ∧ ∀ q, C (b + 4) q = -1 → prtC C b p (b + 4) q = -1 := by
  have hn := hI.1
  have i := hI.2.2 p hp.1 hp.2
  unfold prtC
  by_cases hm : 0 ≤ C (b + 4) p
  · rw [if_pos (show clHas C b (C (b + 4) p) from ⟨hm, by omega, by omega⟩), up_s, up_s]
    refine ⟨?_, fun q z => ?_⟩
    · unfold ur; split <;> simp
    · unfold ur; split
      · rfl
      · split
        · rfl
        · exact z
  · rw [if_neg (show ¬ clHas C b (C (b + 4) p) from fun z => hm z.1)]
    exact ⟨by omega, fun q z => z⟩
theorem MtS.prt {C : xMem} {b : Nat} {p : Int} (h : MtS C b) (hI : PeInv C b) (hp : 0 ≤ p ∧ p < C b 1) : MtS (prtC C b p) b := by
  have hn := hI.1
  have i := hI.2.2 p hp.1 hp.2
  unfold prtC
  by_cases hm : 0 ≤ C (b + 4) p
  · rw [if_pos (show clHas C b (C (b + 4) p) from ⟨hm, by omega, by omega⟩)]
    have mp := h p hp.1 hp.2 hm
    unfold MtS
    rw [up_s, up_s, up_n (by omega), up_n (by omega), up_n (by omega), up_n (by omega)]
    intro q q0 q1 z
    by_cases e : q = C (b + 4) p
    · rw [e, ur_s] at z; omega
    · rw [ur_n e] at z ⊢
      by_cases e2 : q = p
      · rw [e2, ur_s] at z; omega
      · rw [ur_n e2] at z ⊢
        have mq := h q q0 q1 z
        have f1 : C (b + 4) q ≠ p := by intro w; rw [w] at mq; exact e mq.1.symm
        have f2 : C (b + 4) q ≠ C (b + 4) p := by intro w; rw [w, mp.1] at mq; exact e2 mq.1.symm
        rw [ur_n f2, ur_n f1]
        exact mq
  · rw [if_neg (show ¬ clHas C b (C (b + 4) p) from fun z => hm z.1)]
    exact h
theorem PeR.tie {T : xMem} {b : Nat} {n : Int → Int} {x y l : Int} (h : PeR T b n) (hx : 0 ≤ x) (hy : 0 ≤ y) (hxy : x ≠ y) : PeR (up (up (up (up T (b + 4) x y) (b + 4) y x) (b + 6) x l) (b + 6) y l) b (ur (ur (ur (ur n (113 + 8 * x + 3) y) (113 + 8 * y + 3) x) (113 + 8 * x + 5) l) (113 + 8 * y + 5) l) := by
  refine ⟨?_, ?_, fun q q0 q1 => ?_⟩
  · rw [ur_n (by omega), ur_n (by omega), ur_n (by omega), ur_n (by omega), up_n (by omega), up_n (by omega), up_n (by omega), up_n (by omega)]; exact h.1
  · rw [ur_n (by omega), ur_n (by omega), ur_n (by omega), ur_n (by omega), up_n (by omega), up_n (by omega), up_n (by omega), up_n (by omega)]; exact h.2.1
  · rw [up_n (by omega), up_n (by omega), up_n (by omega), up_n (by omega)] at q1
    obtain ⟨a0, a1, a2, a3, a4, a5, a6, a7⟩ := h.2.2 q q0 q1
    refine ⟨?_, ?_, ?_, ?_, ?_, ?_, ?_, ?_⟩
    · rw [ur_n (by omega), ur_n (by omega), ur_n (by omega), ur_n (by omega), up_n (by omega), up_n (by omega), up_n (by omega), up_n (by omega)]; exact a0
    · rw [ur_n (by omega), ur_n (by omega), ur_n (by omega), ur_n (by omega), up_n (by omega), up_n (by omega), up_n (by omega), up_n (by omega)]; exact a1
    · rw [ur_n (by omega), ur_n (by omega), ur_n (by omega), ur_n (by omega), up_n (by omega), up_n (by omega), up_n (by omega), up_n (by omega)]; exact a2
    · rw [ur_n (by omega), ur_n (by omega), up_n (by omega), up_n (by omega), up_s, up_s]
      by_cases e : q = y
      · subst e; rw [ur_s, ur_s]
      · rw [ur_n (by omega), ur_n e]
        by_cases e2 : q = x
        · subst e2; rw [ur_s, ur_s]
        · rw [ur_n (by omega), ur_n e2]; exact a3
    · rw [ur_n (by omega), ur_n (by omega), ur_n (by omega), ur_n (by omega), up_n (by omega), up_n (by omega), up_n (by omega), up_n (by omega)]; exact a4
    · rw [up_n (by omega), up_n (by omega), up_s, up_s, up_s, up_s, up_n (by omega), up_n (by omega)]
      intro z
      by_cases e : q = y
      · subst e; rw [ur_s, ur_s]
      · rw [ur_n (by omega), ur_n e]
        rw [ur_n e] at z
        by_cases e2 : q = x
        · subst e2; rw [ur_s, ur_s]
        · rw [ur_n (by omega), ur_n (by omega), ur_n (by omega), ur_n e2]
          rw [ur_n e2] at z
          exact a5 z
    · rw [ur_n (by omega), ur_n (by omega), ur_n (by omega), ur_n (by omega), up_n (by omega), up_n (by omega), up_n (by omega), up_n (by omega)]; exact a6
    · rw [ur_n (by omega), ur_n (by omega), ur_n (by omega), ur_n (by omega), up_n (by omega), up_n (by omega), up_n (by omega), up_n (by omega)]; exact a7
theorem MtS.tie {T : xMem} {b : Nat} {x y l : Int} (h : MtS T b) (hx : T (b + 4) x = -1) (hy : T (b + 4) y = -1) (hxy : x ≠ y) (x0 : 0 ≤ x) (y0 : 0 ≤ y) : MtS (up (up (up (up T (b + 4) x y) (b + 4) y x) (b + 6) x l) (b + 6) y l) b := by
  unfold MtS
  have e4 : up (up (up (up T (b + 4) x y) (b + 4) y x) (b + 6) x l) (b + 6) y l (b + 4) = ur (ur (T (b + 4)) x y) y x := by rw [up_n (by omega), up_n (by omega), up_s, up_s]
  have e6 : up (up (up (up T (b + 4) x y) (b + 4) y x) (b + 6) x l) (b + 6) y l (b + 6) = ur (ur (T (b + 6)) x l) y l := by rw [up_s, up_s, up_n (by omega), up_n (by omega)]
  have eb : up (up (up (up T (b + 4) x y) (b + 4) y x) (b + 6) x l) (b + 6) y l b = T b := by rw [up_n (by omega), up_n (by omega), up_n (by omega), up_n (by omega)]
  rw [e4, e6, eb]
  intro q q0 q1 z
  by_cases e : q = y
  · subst e
    rw [ur_s, ur_n hxy, ur_s, ur_n hxy, ur_s, ur_s]
    exact ⟨rfl, hxy, rfl⟩
  · rw [ur_n e] at z ⊢
    by_cases e2 : q = x
    · subst e2
      rw [ur_s, ur_s, ur_s, ur_n e, ur_s]
      exact ⟨rfl, fun w => e w.symm, rfl⟩
    · rw [ur_n e2] at z ⊢
      have mq := h q q0 q1 z
      have f1 : T (b + 4) q ≠ x := by intro w; rw [w, hx] at mq; omega
      have f2 : T (b + 4) q ≠ y := by intro w; rw [w, hy] at mq; omega
      rw [ur_n f2, ur_n f1, ur_n f2, ur_n f1, ur_n e, ur_n e2]
      exact mq
theorem prtC_b {C : xMem} {b k : Nat} {p : Int} (h : k ≠ b + 4) : prtC C b p k = C k := by
  unfold prtC
  split
  · rw [up_n h, up_n h]
  · rfl
theorem joiC_b {C : xMem} {b k : Nat} {x y n : Int} (h : k ≠ b + 4) (h6 : k ≠ b + 6) : joiC C b x y n k = C k := by
  unfold joiC
  rw [up_n h6, up_n h6, up_n h, up_n h, prtC_b h, prtC_b h]
theorem PeR.joi {C N : xMem} {b : Nat} {x y l : Int} (h : PeR C b (N 1)) (hI : PeInv C b) (hx : 0 ≤ x ∧ x < C b 1) (hy : 0 ≤ y ∧ y < C b 1) (hxy : x ≠ y) : PeR (joiC C b x y l) b (teN N x y l 1) := by
  have h1 := h.prt hI hx
  have e1 : prtC C b x b = C b := prtC_b (by omega)
  have h2 := h1.prt (PeInv_prt hI) (p := y) (by rw [e1]; exact hy)
  have h3 := h2.tie (x := x) (y := y) (l := l) hx.1 hy.1 hxy
  unfold joiC teN
  rw [up_s, up_s, up_s, up_s]
  exact h3
theorem MtS.joi {C : xMem} {b : Nat} {x y l : Int} (h : MtS C b) (hI : PeInv C b) (hx : 0 ≤ x ∧ x < C b 1) (hy : 0 ≤ y ∧ y < C b 1) (hxy : x ≠ y) : MtS (joiC C b x y l) b := by
  have e1 : prtC C b x b = C b := prtC_b (by omega)
  have m1 := prtC_m hI hx
  have m2 := prtC_m (PeInv_prt (p := x) hI) (p := y) (by rw [e1]; exact hy)
  unfold joiC
  exact ((h.prt hI hx).prt (PeInv_prt hI) (by rw [e1]; exact hy)).tie (m2.2 _ m1.1) m2.1 hxy hx.1 hy.1
/-- the country, after a cut or a tie -/
theorem CoR.ti {K : Int} {C C' N N' : xMem} (h : CoR K C 11 1 41 3 (N 1)) (e : ∀ k, k ≠ 15 → k ≠ 17 → C' k = C k) (t : TiR N N') (hI : PeInv C' 11) (hN : MInv N') (hP : PeR C' 11 (N' 1)) (hM : MtS C' 11) : CoR K C' 11 1 41 3 (N' 1) := by
  obtain ⟨⟨h1, h2⟩, h3, h4, h5, h6, h7, h8, h9⟩ := h
  have e11 := e 11 (by decide) (by decide)
  have ey : wyr (N' 1) = wyr (N 1) := by
    funext j
    unfold wyr
    by_cases hj : 0 ≤ j ∧ j < 100
    · rw [if_pos hj, if_pos hj, t.2.1 _ (by omega)]
    · rw [if_neg hj, if_neg hj]
  refine ⟨⟨hI, hN⟩, hP, (h4.n ey).c (fun k a b => e k (by omega) (by omega)), hM, fun a c ha hc => ?_, by rw [e11]; exact h7, ?_, ?_⟩
  · rw [t.2.1 _ (by omega), t.2.1 _ (by omega)]; exact h6 a c ha hc
  · rw [e11]; intro j j0 j1; rw [t.2.1 _ (by omega), e 41 (by decide) (by decide)]; exact h8 j j0 j1
  · rw [t.2.1 _ (by omega), e 0 (by decide) (by decide)]; exact h9
theorem CoR.has {K : Int} {C N : xMem} {b r sp : Nat} {dr : Int} (h : CoR K C b r sp dr (N 1)) (p : Int) : (0 ≤ p ∧ p < N 1 1) ↔ clHas C b p := by
  have := h.cn
  rw [h.n1]
  exact ⟨fun z => ⟨z.1, z.2, by omega⟩, fun z => ⟨z.1, z.2.1⟩⟩
theorem Wo.ti {K : Int} {C C' N N' : xMem} (h : Wo K C N) (hk : 0 ≤ K) (e : ∀ k, k ≠ 15 → k ≠ 17 → C' k = C k) (t : TiR N N') (hI : PeInv C' 11) (hN : MInv N') (hP : PeR C' 11 (N' 1)) (hM : MtS C' 11) : Wo (K + 100) C' N' :=
  h.cu (by omega) ((h.1.ti e t hI hN hP hM).le (by omega)) (fun k a b c => e k (by omega) (by omega)) ⟨by rw [e 0 (by decide) (by decide)], by rw [e 0 (by decide) (by decide)]⟩ (fun k _ a _ _ => t.1 k a) ⟨by rw [t.1 0 (by decide)], by rw [t.1 0 (by decide)]⟩
