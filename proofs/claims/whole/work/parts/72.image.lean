/-! both worlds: the kept image -/
theorem rd_row {M : xMem} {r s : Nat} (h : r + 4 < s + 1 ∨ s + 4 < r + 1) : ∀ j, 1 ≤ j → j ≤ 4 → ∀ i : Int, 0 ≤ i → i < 100 → rdC M r s (r + j) i = M (s + j) i := by
  intro j j1 j4 i i0 i1
  unfold rdC rbC
  rcases (show j = 1 ∨ j = 2 ∨ j = 3 ∨ j = 4 by omega) with rfl | rfl | rfl | rfl
  · rw [upr_n (by omega), upr_n (by omega), upr_n (by omega), upr_s]
    unfold rcp
    rw [if_pos (by omega), show (0 : Int) + (i - 0) = i by omega]
  · rw [upr_n (by omega), upr_n (by omega), upr_s]
    unfold rcp
    rw [if_pos (by omega), upr_n (by omega), show (0 : Int) + (i - 0) = i by omega]
  · rw [upr_n (by omega), upr_s]
    unfold rcp
    rw [if_pos (by omega), upr_n (by omega), upr_n (by omega), show (0 : Int) + (i - 0) = i by omega]
  · rw [upr_s]
    unfold rcp
    rw [if_pos (by omega), upr_n (by omega), upr_n (by omega), upr_n (by omega), show (0 : Int) + (i - 0) = i by omega]
theorem rd_n {M : xMem} {r s k : Nat} (h : k < r + 1 ∨ r + 4 < k) : rdC M r s k = M k := by
  unfold rdC rbC
  rw [upr_n (by omega), upr_n (by omega), upr_n (by omega), upr_n (by omega)]
theorem bc_row {M : xMem} {b d : Nat} (h : b + 9 < d ∨ d + 9 < b) : ∀ j, 1 ≤ j → j ≤ 8 → ∀ i : Int, 0 ≤ i → i < 8 → bcC M b d (b + j) i = M (d + j) i := by
  intro j j1 j4 i i0 i1
  unfold bcC cpC
  rcases (show j = 1 ∨ j = 2 ∨ j = 3 ∨ j = 4 ∨ j = 5 ∨ j = 6 ∨ j = 7 ∨ j = 8 by omega) with rfl | rfl | rfl | rfl | rfl | rfl | rfl | rfl
  · rw [upr_n (by omega), upr_n (by omega), upr_n (by omega), upr_n (by omega), upr_n (by omega), upr_n (by omega), upr_n (by omega), upr_s]
    unfold rcp
    rw [if_pos (by omega), up_n (by omega), up_n (by omega), show (0 : Int) + (i - 0) = i by omega]
  · rw [upr_n (by omega), upr_n (by omega), upr_n (by omega), upr_n (by omega), upr_n (by omega), upr_n (by omega), upr_s]
    unfold rcp
    rw [if_pos (by omega), upr_n (by omega), up_n (by omega), up_n (by omega), show (0 : Int) + (i - 0) = i by omega]
  · rw [upr_n (by omega), upr_n (by omega), upr_n (by omega), upr_n (by omega), upr_n (by omega), upr_s]
    unfold rcp
    rw [if_pos (by omega), upr_n (by omega), upr_n (by omega), up_n (by omega), up_n (by omega), show (0 : Int) + (i - 0) = i by omega]
  · rw [upr_n (by omega), upr_n (by omega), upr_n (by omega), upr_n (by omega), upr_s]
    unfold rcp
    rw [if_pos (by omega), upr_n (by omega), upr_n (by omega), upr_n (by omega), up_n (by omega), up_n (by omega), show (0 : Int) + (i - 0) = i by omega]
  · rw [upr_n (by omega), upr_n (by omega), upr_n (by omega), upr_s]
    unfold rcp
    rw [if_pos (by omega), upr_n (by omega), upr_n (by omega), upr_n (by omega), upr_n (by omega), up_n (by omega), up_n (by omega), show (0 : Int) + (i - 0) = i by omega]
  · rw [upr_n (by omega), upr_n (by omega), upr_s]
    unfold rcp
    rw [if_pos (by omega), upr_n (by omega), upr_n (by omega), upr_n (by omega), upr_n (by omega), upr_n (by omega), up_n (by omega), up_n (by omega), show (0 : Int) + (i - 0) = i by omega]
  · rw [upr_n (by omega), upr_s]
    unfold rcp
    rw [if_pos (by omega), upr_n (by omega), upr_n (by omega), upr_n (by omega), upr_n (by omega), upr_n (by omega), upr_n (by omega), up_n (by omega), up_n (by omega), show (0 : Int) + (i - 0) = i by omega]
  · rw [upr_s]
    unfold rcp
    rw [if_pos (by omega), upr_n (by omega), upr_n (by omega), upr_n (by omega), upr_n (by omega), upr_n (by omega), upr_n (by omega), upr_n (by omega), up_n (by omega), up_n (by omega), show (0 : Int) + (i - 0) = i by omega]
theorem bc_1 {M : xMem} {b d : Nat} (h : b + 9 < d ∨ d + 9 < b) : bcC M b d b 1 = M d 1 ∧ bcC M b d b 2 = M d 2 := by
  unfold bcC cpC
  rw [upr_n (by omega), upr_n (by omega), upr_n (by omega), upr_n (by omega), upr_n (by omega), upr_n (by omega), upr_n (by omega), upr_n (by omega)]
  rw [up_ss, up_nn (by omega), up_ss, up_n (by omega)]
  exact ⟨rfl, rfl⟩
theorem bc_n {M : xMem} {b d k : Nat} (h : k < b ∨ b + 8 < k) : bcC M b d k = M k := by
  unfold bcC cpC
  rw [upr_n (by omega), upr_n (by omega), upr_n (by omega), upr_n (by omega), upr_n (by omega), upr_n (by omega), upr_n (by omega), upr_n (by omega), up_n (by omega), up_n (by omega)]
section CP
variable {C C' : xMem} {b b' : Nat} {n n' : Int → Int}
def PeC (C C' : xMem) (b b' : Nat) : Prop := C' b' 1 = C b 1 ∧ C' b' 2 = C b 2 ∧ ∀ j, 1 ≤ j → j ≤ 8 → ∀ p : Int, 0 ≤ p → p < 8 → C' (b' + j) p = C (b + j) p
theorem PeInv.cp (h : PeInv C b) (e : PeC C C' b b') : PeInv C' b' := by
  have hn := h.1
  refine ⟨by rw [e.1]; exact h.1, by rw [e.2.1]; exact h.2.1, fun p p0 p1 => ?_⟩
  rw [e.1] at p1 ⊢
  have f := fun j a c => e.2.2 j a c p p0 (by omega)
  rw [f 1 (by omega) (by omega), f 2 (by omega) (by omega), f 3 (by omega) (by omega), f 4 (by omega) (by omega), f 5 (by omega) (by omega), f 6 (by omega) (by omega), f 7 (by omega) (by omega), f 8 (by omega) (by omega)]
  exact h.2.2 p p0 p1
theorem PeR.cp (h : PeR C b n) (hn : C b 1 ≤ 8) (e : PeC C C' b b') : PeR C' b' n := by
  refine ⟨by rw [e.1]; exact h.1, by rw [e.2.1]; exact h.2.1, fun p p0 p1 => ?_⟩
  rw [e.1] at p1
  have f := fun j a c => e.2.2 j a c p p0 (by omega)
  rw [f 1 (by omega) (by omega), f 2 (by omega) (by omega), f 3 (by omega) (by omega), f 4 (by omega) (by omega), f 5 (by omega) (by omega), f 6 (by omega) (by omega), f 7 (by omega) (by omega), f 8 (by omega) (by omega)]
  exact h.2.2 p p0 p1
theorem MtS.cp (h : MtS C b) (hI : PeInv C b) (e : PeC C C' b b') : MtS C' b' := by
  have hn := hI.1
  intro p p0 p1 z
  rw [e.1] at p1
  have i := hI.2.2 p p0 p1
  have f4 := e.2.2 4 (by omega) (by omega) p p0 (by omega)
  have f6 := e.2.2 6 (by omega) (by omega) p p0 (by omega)
  rw [f4] at z ⊢
  rw [f6, e.2.2 4 (by omega) (by omega) _ z (by omega), e.2.2 6 (by omega) (by omega) _ z (by omega)]
  exact h p p0 p1 z
theorem wyr_c (en : ∀ j, 0 ≤ j → j < 177 → n' j = n j) : wyr n' = wyr n := by
  funext j
  unfold wyr
  by_cases hj : 0 ≤ j ∧ j < 100
  · rw [if_pos hj, if_pos hj, en _ (by omega) (by omega)]
  · rw [if_neg hj, if_neg hj]
theorem MInv.row (h : MInv (fun _ => n)) (en : ∀ j, 0 ≤ j → j < 177 → n' j = n j) : MInv (fun _ => n') := by
  obtain ⟨h1, h2, h3, h4⟩ := h
  replace h1 : 0 ≤ n 1 ∧ n 1 ≤ 8 := h1
  have e1 : n' 1 = n 1 := en 1 (by decide) (by decide)
  refine ⟨by show 0 ≤ n' 1 ∧ n' 1 ≤ 8; rw [e1]; exact h1, by show 0 ≤ n' 0; rw [en 0 (by decide) (by decide)]; exact h2, ?_, fun p p0 p1 => ?_⟩
  · show LB (wyr n')
    rw [wyr_c en]
    exact h3
  · replace p1 : p < n' 1 := p1
    rw [e1] at p1
    have i := h4 p p0 p1
    dsimp only at i ⊢
    rw [← en (113 + 8 * p + 0) (by omega) (by omega), ← en (113 + 8 * p + 1) (by omega) (by omega), ← en (113 + 8 * p + 2) (by omega) (by omega), ← en (113 + 8 * p + 3) (by omega) (by omega), ← en (113 + 8 * p + 4) (by omega) (by omega), ← en (113 + 8 * p + 5) (by omega) (by omega), ← en (113 + 8 * p + 6) (by omega) (by omega), ← en (113 + 8 * p + 7) (by omega) (by omega), ← e1] at i
    exact i
theorem RoR.cp {r r' : Nat} (h : RoR C r n) (e : ∀ j, 1 ≤ j → j ≤ 4 → ∀ i : Int, 0 ≤ i → i < 100 → C' (r' + j) i = C (r + j) i) : RoR C' r' n := by
  refine ⟨fun i i0 i1 => ?_, fun i i0 i1 => ?_, fun a c ha hc => ?_⟩
  · rw [e 1 (by omega) (by omega) i i0 i1]; exact h.1 i i0 i1
  · rw [e 2 (by omega) (by omega) i i0 i1]; exact h.2.1 i i0 i1
  · rw [e 3 (by omega) (by omega) _ (by omega) (by omega), e 4 (by omega) (by omega) _ (by omega) (by omega)]; exact h.2.2 a c ha hc
theorem CoR.cp {K : Int} {r r' sp sp' : Nat} {dr dr' : Int} (h : CoR K C b r sp dr n) (e : PeC C C' b b') (er : ∀ j, 1 ≤ j → j ≤ 4 → ∀ i : Int, 0 ≤ i → i < 100 → C' (r' + j) i = C (r + j) i) (es : ∀ i, 0 ≤ i → i < 10 → C' sp' i = C sp i) (ed : C' 0 dr' = C 0 dr) (en : ∀ j, 0 ≤ j → j < 177 → n' j = n j) : CoR K C' b' r' sp' dr' n' := by
  obtain ⟨⟨h1, h2⟩, h3, h4, h5, h6, h7, h8, h9⟩ := h
  refine ⟨⟨h1.cp e, h2.row en⟩, ?_, (h4.n (wyr_c en)).cp er, h5.cp h1 e, fun a c ha hc => ?_, by rw [e.2.1]; exact h7, ?_, ?_⟩
  · exact ((h3.n h1.1.2 (fun j hj => en j (by omega) (by omega)))).cp h1.1.2 e
  · rw [en _ (by omega) (by omega), en _ (by omega) (by omega)]; exact h6 a c ha hc
  · rw [e.1]
    intro j j0 j1
    rw [en _ (by omega) (by omega), es j j0 j1]; exact h8 j j0 j1
  · rw [en _ (by omega) (by omega), ed]; exact h9
end CP
theorem im4_n {C : xMem} {k : Nat} (h : (k < 6 ∨ 10 < k) ∧ (k < 21 ∨ 29 < k) ∧ k ≠ 42 ∧ k ≠ 0) : im4 C k = C k := by
  unfold im4 im3 im2
  rw [up_n (by omega), upr_n (by omega), bc_n (by omega), rd_n (by omega)]
theorem un4_n {C : xMem} {k : Nat} (h : (k < 1 ∨ 5 < k) ∧ (k < 11 ∨ 19 < k) ∧ k ≠ 41 ∧ k ≠ 0) : un4 C k = C k := by
  unfold un4 un3 un2
  rw [up_n (by omega), upr_n (by omega), bc_n (by omega), rd_n (by omega)]
section CALLS
variable {K : Int} {C N : xMem}
theorem im4_C : PeC C (im4 C) 11 21 ∧ (∀ j, 1 ≤ j → j ≤ 4 → ∀ i : Int, 0 ≤ i → i < 100 → im4 C (6 + j) i = C (1 + j) i) ∧ (∀ i, 0 ≤ i → i < 10 → im4 C 42 i = C 41 i) ∧ im4 C 0 7 = C 0 3 ∧ ∀ j, j ≠ 7 → im4 C 0 j = C 0 j := by
  have e2 : ∀ k, k < 6 ∨ (10 < k ∧ k < 21) ∨ 29 < k → im2 C k = C k := fun k g => by unfold im2; rw [bc_n (by omega), rd_n (by omega)]
  have e3 : ∀ k, k ≠ 42 → im3 C k = im2 C k := fun k g => by unfold im3; rw [upr_n g]
  have e4 : ∀ k, k ≠ 0 → im4 C k = im3 C k := fun k g => by unfold im4; rw [up_n g]
  refine ⟨⟨?_, ?_, fun j j1 j8 p p0 p1 => ?_⟩, fun j j1 j4 i i0 i1 => ?_, fun i i0 i1 => ?_, ?_, fun j g => ?_⟩
  · rw [e4 21 (by decide), e3 21 (by decide)]
    unfold im2
    rw [(bc_1 (by omega)).1, rd_n (by omega)]
  · rw [e4 21 (by decide), e3 21 (by decide)]
    unfold im2
    rw [(bc_1 (by omega)).2, rd_n (by omega)]
  · rw [e4 _ (by omega), e3 _ (by omega)]
    unfold im2
    rw [bc_row (by omega) j j1 j8 p p0 p1, rd_n (by omega)]
  · rw [e4 _ (by omega), e3 _ (by omega)]
    unfold im2
    rw [bc_n (by omega), rd_row (by omega) j j1 j4 i i0 i1]
  · rw [e4 42 (by decide)]
    unfold im3
    rw [upr_s]
    unfold rcp
    rw [if_pos (by omega), e2 41 (by omega), show (0 : Int) + (i - 0) = i by omega]
  · unfold im4
    rw [up_ss, e3 0 (by decide), e2 0 (by omega)]
  · unfold im4
    rw [up_nn (by omega), e3 0 (by decide), e2 0 (by omega)]
theorem un4_C : PeC C (un4 C) 21 11 ∧ (∀ j, 1 ≤ j → j ≤ 4 → ∀ i : Int, 0 ≤ i → i < 100 → un4 C (1 + j) i = C (6 + j) i) ∧ (∀ i, 0 ≤ i → i < 10 → un4 C 41 i = C 42 i) ∧ un4 C 0 3 = C 0 7 ∧ ∀ j, j ≠ 3 → un4 C 0 j = C 0 j := by
  have e2 : ∀ k, k < 1 ∨ (5 < k ∧ k < 11) ∨ 19 < k → un2 C k = C k := fun k g => by unfold un2; rw [bc_n (by omega), rd_n (by omega)]
  have e3 : ∀ k, k ≠ 41 → un3 C k = un2 C k := fun k g => by unfold un3; rw [upr_n g]
  have e4 : ∀ k, k ≠ 0 → un4 C k = un3 C k := fun k g => by unfold un4; rw [up_n g]
  refine ⟨⟨?_, ?_, fun j j1 j8 p p0 p1 => ?_⟩, fun j j1 j4 i i0 i1 => ?_, fun i i0 i1 => ?_, ?_, fun j g => ?_⟩
  · rw [e4 11 (by decide), e3 11 (by decide)]
    unfold un2
    rw [(bc_1 (by omega)).1, rd_n (by omega)]
  · rw [e4 11 (by decide), e3 11 (by decide)]
    unfold un2
    rw [(bc_1 (by omega)).2, rd_n (by omega)]
  · rw [e4 _ (by omega), e3 _ (by omega)]
    unfold un2
    rw [bc_row (by omega) j j1 j8 p p0 p1, rd_n (by omega)]
  · rw [e4 _ (by omega), e3 _ (by omega)]
    unfold un2
    rw [bc_n (by omega), rd_row (by omega) j j1 j4 i i0 i1]
  · rw [e4 41 (by decide)]
    unfold un3
    rw [upr_s]
    unfold rcp
    rw [if_pos (by omega), e2 42 (by omega), show (0 : Int) + (i - 0) = i by omega]
  · unfold un4
    rw [up_ss, e3 0 (by decide), e2 0 (by omega)]
  · unfold un4
    rw [up_nn (by omega), e3 0 (by decide), e2 0 (by omega)]
theorem w_image (h : Wo K C N) (hk : kI K) : Sa K (imageR C) 1 (imageM C) (up (cyM N 1 2) 0 3 1) := by
  unfold imageR imageM
  obtain ⟨h1, h2, h3, h4, h5, h6, h7⟩ := h.le (show K ≤ K + 100 by omega)
  obtain ⟨i1, i2, i3, i4, i5⟩ := im4_C (C := C)
  have e0 : ∀ k, k ≠ 0 → up (im4 C) 0 8 1 k = im4 C k := fun k a => up_n a
  have eh : ∀ k, (k < 6 ∨ 10 < k) ∧ (k < 21 ∨ 29 < k) ∧ k ≠ 42 ∧ k ≠ 0 → up (im4 C) 0 8 1 k = C k := fun k a => by rw [e0 k a.2.2.2, im4_n a]
  have en : ∀ k, k ≠ 2 → k ≠ 0 → up (cyM N 1 2) 0 3 1 k = N k := fun k a c => by rw [up_n c]; unfold cyM; rw [upr_n a]
  have en0 : ∀ j, j ≠ 3 → up (cyM N 1 2) 0 3 1 0 j = N 0 j := fun j a => by rw [up_nn (by omega)]; unfold cyM; rw [upr_n (by decide)]
  refine ⟨rfl, ?_, Or.inr (up_ss _ _ _ _), by rw [up_ss, up_ss], fun _ => ?_, h5.e (by rw [eh 47 (by decide)]) (eh 48 (by decide)) (en0 16 (by decide)) (en 9 (by decide) (by decide)), h6.e (eh 52 (by decide)) (eh 53 (by decide)) (eh 54 (by decide)) (en 12 (by decide) (by decide)) (en 13 (by decide) (by decide)) (en 14 (by decide) (by decide)), h7.e (Int.le_refl _) (eh 55 (by decide)) (en 4 (by decide) (by decide))⟩
  · rw [en 1 (by decide) (by decide)]
    exact h1.c (fun k a c => eh k (by omega)) (by rw [eh 11 (by decide)]) (by rw [eh 11 (by decide)]) (fun k a c => eh k (by omega)) (eh 41 (by decide)) (by rw [up_nn (by omega)]; exact i5 3 (by decide))
  · refine h1.cp ⟨?_, ?_, fun j a c p p0 p1 => ?_⟩ (fun j a c i i0 i1 => ?_) (fun i i0 i1 => ?_) ?_ (fun j j0 j1 => ?_)
    · rw [e0 21 (by decide)]; exact i1.1
    · rw [e0 21 (by decide)]; exact i1.2.1
    · rw [e0 _ (by omega)]; exact i1.2.2 j a c p p0 p1
    · rw [e0 _ (by omega)]; exact i2 j a c i i0 i1
    · rw [e0 42 (by decide)]; exact i3 i i0 i1
    · rw [up_nn (by omega)]; exact i4
    · rw [up_n (by decide)]; unfold cyM; rw [upr_s]; unfold fiC; rw [if_pos ⟨j0, j1⟩]
theorem w_undo (h : Wo K C N) (hk : kI K) : Sa K (undoR C) (nunR N) (undoM C) (nunM N) := by
  unfold undoR nunR undoM nunM
  obtain ⟨i1, i2, i3, i4, i5⟩ := un4_C (C := C)
  rw [h.2.2.1]
  by_cases q : C 0 8 = 0
  · rw [if_pos q, if_pos q, if_pos q, if_pos q]
    exact ⟨rfl, h.fnd hk (by omega) rfl⟩
  · rw [if_neg q, if_neg q, if_neg q, if_neg q]
    have q1 : C 0 8 = 1 := by have := h.2.1; omega
    obtain ⟨h1, h2, h3, h4, h5, h6, h7⟩ := h.le (show K ≤ K + 100 by omega)
    have h4' := h4 q1
    have eh : ∀ k, (k < 1 ∨ 5 < k) ∧ (k < 11 ∨ 19 < k) ∧ k ≠ 41 ∧ k ≠ 0 → un4 C k = C k := fun k a => un4_n a
    have en : ∀ k, k ≠ 1 → k ≠ 0 → up (cyM N 2 1) 0 6 0 k = N k := fun k a c => by rw [up_n c]; unfold cyM; rw [upr_n a]
    have en0 : ∀ j, j ≠ 6 → up (cyM N 2 1) 0 6 0 0 j = N 0 j := fun j a => by rw [up_nn (by omega)]; unfold cyM; rw [upr_n (by decide)]
    refine ⟨by rw [i1.2.1]; exact h4'.2.1.2.1.symm, ?_, by rw [i5 8 (by decide)]; exact h2, by rw [i5 8 (by decide), en0 3 (by decide)]; exact h3, fun _ => ?_, h5.e (by rw [eh 47 (by decide)]) (eh 48 (by decide)) (en0 16 (by decide)) (en 9 (by decide) (by decide)), h6.e (eh 52 (by decide)) (eh 53 (by decide)) (eh 54 (by decide)) (en 12 (by decide) (by decide)) (en 13 (by decide) (by decide)) (en 14 (by decide) (by decide)), h7.e (Int.le_refl _) (eh 55 (by decide)) (en 4 (by decide) (by decide))⟩
    · refine h4'.cp i1 i2 i3 i4 (fun j j0 j1 => ?_)
      rw [up_n (by decide)]; unfold cyM; rw [upr_s]; unfold fiC; rw [if_pos ⟨j0, j1⟩]
    · rw [en 2 (by decide) (by decide)]
      exact h4'.c (fun k a c => eh k (by omega)) (by rw [eh 21 (by decide)]) (by rw [eh 21 (by decide)]) (fun k a c => eh k (by omega)) (eh 42 (by decide)) (i5 7 (by decide))
end CALLS
