/-! both worlds related: Wo -/
/-- ropes are tied on both sides, and as long on both -/
def MtS (C : xMem) (b : Nat) : Prop := ∀ p, 0 ≤ p → p < C b 1 → 0 ≤ C (b + 4) p → C (b + 4) (C (b + 4) p) = p ∧ C (b + 4) p ≠ p ∧ C (b + 6) (C (b + 4) p) = C (b + 6) p
def WyS (n : Int → Int) : Prop := ∀ a c, plc a → plc c → n (13 + 10 * a + c) = n (13 + 10 * c + a) ∧ (a = c → n (13 + 10 * a + c) = 0)
def SpR (C : xMem) (sp : Nat) (m : Int) (n : Int → Int) : Prop := ∀ i, 0 ≤ i → i < 10 → n (3 + i) = C sp i ∧ -1 ≤ C sp i ∧ C sp i < m
/-- one country: the class's rows from `b`, `r`, `sp` and its draw, and a row of the reference -/
def CoR (K : Int) (C : xMem) (b r sp : Nat) (dr : Int) (n : Int → Int) : Prop := (PeInv C b ∧ MInv (fun _ => n)) ∧ PeR C b n ∧ RoR C r n ∧ MtS C b ∧ WyS n ∧ C b 2 ≤ K ∧ SpR C sp (C b 1) n ∧ n 2 = C 0 dr
def TaR (C N : xMem) : Prop := N 0 16 = C 47 1 ∧ (0 ≤ C 47 1 ∧ C 47 1 ≤ 120) ∧ ∀ i, 0 ≤ i → i < C 47 1 → N 9 i = C 48 i ∧ 0 ≤ C 48 i ∧ C 48 i ≤ 255
def ShR (C N : xMem) : Prop := ∀ s, 0 ≤ s → s < 4 → N 12 s = C 52 s ∧ N 13 s = C 53 s ∧ (0 ≤ C 53 s ∧ C 53 s ≤ 40) ∧ (C 52 s = 0 ∨ C 52 s = 8 ∨ C 52 s = 16 ∨ C 52 s = 32) ∧ ∀ i, 0 ≤ i → i < C 53 s → N 14 (40 * s + i) = C 54 (s * 40 + i)
def TyR (K : Int) (C N : xMem) : Prop := (∀ f, 0 ≤ f → f < 7 → N 4 (f + 1) = C 55 f ∧ 0 ≤ C 55 f ∧ C 55 f ≤ K) ∧ N 4 0 = tyS C 7
/-- the class's object stands as the reference's -/
def Wo (K : Int) (C N : xMem) : Prop := CoR K C 11 1 41 3 (N 1) ∧ (C 0 8 = 0 ∨ C 0 8 = 1) ∧ N 0 3 = C 0 8 ∧ (C 0 8 = 1 → CoR K C 21 6 42 7 (N 2)) ∧ TaR C N ∧ ShR C N ∧ TyR K C N
theorem CoR.le {K K' : Int} {C : xMem} {b r sp : Nat} {dr : Int} {n : Int → Int} (h : CoR K C b r sp dr n) (hk : K ≤ K') : CoR K' C b r sp dr n := ⟨h.1, h.2.1, h.2.2.1, h.2.2.2.1, h.2.2.2.2.1, by have := h.2.2.2.2.2.1; omega, h.2.2.2.2.2.2⟩
theorem PeInv.c {C C' : xMem} {b : Nat} (h : PeInv C b) (e : ∀ k, b + 1 ≤ k → k ≤ b + 8 → C' k = C k) (e1 : C' b 1 = C b 1) (e2 : C' b 2 = C b 2) : PeInv C' b := by
  unfold PeInv at h ⊢
  rw [e1, e2, e (b + 1) (by omega) (by omega), e (b + 2) (by omega) (by omega), e (b + 3) (by omega) (by omega), e (b + 4) (by omega) (by omega), e (b + 5) (by omega) (by omega), e (b + 6) (by omega) (by omega), e (b + 7) (by omega) (by omega), e (b + 8) (by omega) (by omega)]
  exact h
theorem MtS.c {C C' : xMem} {b : Nat} (h : MtS C b) (e1 : C' b 1 = C b 1) (e4 : C' (b + 4) = C (b + 4)) (e6 : C' (b + 6) = C (b + 6)) : MtS C' b := by
  unfold MtS at h ⊢
  rw [e1, e4, e6]
  exact h
theorem SpR.c {C C' : xMem} {sp : Nat} {m : Int} {n : Int → Int} (h : SpR C sp m n) (e : C' sp = C sp) : SpR C' sp m n := by
  unfold SpR at h ⊢
  rw [e]
  exact h
theorem CoR.c {K : Int} {C C' : xMem} {b r sp : Nat} {dr : Int} {n : Int → Int} (h : CoR K C b r sp dr n) (e : ∀ k, b + 1 ≤ k → k ≤ b + 8 → C' k = C k) (e1 : C' b 1 = C b 1) (e2 : C' b 2 = C b 2) (er : ∀ k, r + 1 ≤ k → k ≤ r + 4 → C' k = C k) (es : C' sp = C sp) (ed : C' 0 dr = C 0 dr) : CoR K C' b r sp dr n := by
  obtain ⟨⟨h1, h2⟩, h3, h4, h5, h6, h7, h8, h9⟩ := h
  exact ⟨⟨h1.c e e1 e2, h2⟩, h3.c (fun k a b c => e k (by omega) (by omega)) e1 e2, h4.c er, h5.c e1 (e _ (by omega) (by omega)) (e _ (by omega) (by omega)), h6, by rw [e2]; exact h7, by rw [e1]; exact h8.c es, by rw [ed]; exact h9⟩
theorem CoR.n1 {K : Int} {C : xMem} {b r sp : Nat} {dr : Int} {n : Int → Int} (h : CoR K C b r sp dr n) : n 1 = C b 1 := h.2.1.1
theorem CoR.cn {K : Int} {C : xMem} {b r sp : Nat} {dr : Int} {n : Int → Int} (h : CoR K C b r sp dr n) : 0 ≤ C b 1 ∧ C b 1 ≤ 8 := h.1.1.1
theorem RoR.inv {C : xMem} {r : Nat} {n : Int → Int} (h : RoR C r n) (hL : LB (wyr n)) : RdInv C r ∧ LB (C (r + 1)) := by
  constructor
  · intro a c a0 a1 c0 c1
    have e1 := h.1 (a * 10 + c) (by omega) (by omega)
    have e2 := h.2.1 (a * 10 + c) (by omega) (by omega)
    have e3 := h.2.2 a c ⟨a0, a1⟩ ⟨c0, c1⟩
    have b1 := hL (a * 10 + c) (by omega) (by omega)
    have b2 := meC_B (r := fun _ => 0) hL (a * 10 + c) (by omega) (by omega)
    have b3 := nxF_R (L := wyr n) (D := dR n) (a := a) (c := c) ⟨a0, a1⟩
    have b4 := neF_R (L := wyr n) (D := dR n) (a := a) (c := c) ⟨a0, a1⟩
    rw [e1, e2, e3.1, e3.2]
    exact ⟨b1, b2, b3, b4⟩
  · intro i h1 h2
    rw [h.1 i h1 h2]
    exact hL i h1 h2
theorem CoR.rd {K : Int} {C : xMem} {b r sp : Nat} {dr : Int} {n : Int → Int} (h : CoR K C b r sp dr n) : RdInv C r ∧ LB (C (r + 1)) := h.2.2.1.inv h.1.2.2.2.1
theorem CoR.pin {K : Int} {C : xMem} {b r sp : Nat} {dr : Int} {n : Int → Int} (h : CoR K C b r sp dr n) (hx : xR C) : PIn C b r := ⟨hx, h.1.1, h.rd.1⟩
theorem Wo.inv {K : Int} {C N : xMem} (h : Wo K C N) : CInv C ∧ MInv N := ⟨⟨h.1.1.1, h.1.rd.1, h.1.rd.2, h.2.2.2.2.1.2.1, fun s a b => (h.2.2.2.2.2.1 s a b).2.2.1⟩, h.1.1.2⟩
theorem TaR.e {C N C' N' : xMem} (h : TaR C N) (e1 : C' 47 1 = C 47 1) (e2 : C' 48 = C 48) (e3 : N' 0 16 = N 0 16) (e4 : N' 9 = N 9) : TaR C' N' := by
  unfold TaR at h ⊢
  rw [e1, e2, e3, e4]
  exact h
theorem ShR.e {C N C' N' : xMem} (h : ShR C N) (e1 : C' 52 = C 52) (e2 : C' 53 = C 53) (e3 : C' 54 = C 54) (e4 : N' 12 = N 12) (e5 : N' 13 = N 13) (e6 : N' 14 = N 14) : ShR C' N' := by
  unfold ShR at h ⊢
  rw [e1, e2, e3, e4, e5, e6]
  exact h
theorem TyR.e {K K' : Int} {C N C' N' : xMem} (h : TyR K C N) (hk : K ≤ K') (e1 : C' 55 = C 55) (e2 : N' 4 = N 4) : TyR K' C' N' := by
  unfold TyR tyS at h ⊢
  rw [e1, e2]
  exact ⟨fun f a b => by have := h.1 f a b; omega, h.2⟩
/-- the country changes, and nothing else -/
theorem Wo.cu {K K' : Int} {C N C' N' : xMem} (h : Wo K C N) (hk : K ≤ K') (hn : CoR K' C' 11 1 41 3 (N' 1)) (eC : ∀ k, 6 ≤ k → (k < 11 ∨ 20 < k) → k ≠ 41 → C' k = C k) (e0 : C' 0 7 = C 0 7 ∧ C' 0 8 = C 0 8) (eN : ∀ k, k ≠ 0 → k ≠ 1 → k ≠ 3 → k ≠ 5 → N' k = N k) (eN0 : N' 0 3 = N 0 3 ∧ N' 0 16 = N 0 16) : Wo K' C' N' := by
  obtain ⟨h1, h2, h3, h4, h5, h6, h7⟩ := h
  refine ⟨hn, by rw [e0.2]; exact h2, by rw [e0.2, eN0.1]; exact h3, ?_, h5.e (by rw [eC 47 (by decide) (by decide) (by decide)]) (eC 48 (by decide) (by decide) (by decide)) eN0.2 (eN 9 (by decide) (by decide) (by decide) (by decide)), h6.e (eC 52 (by decide) (by decide) (by decide)) (eC 53 (by decide) (by decide) (by decide)) (eC 54 (by decide) (by decide) (by decide)) (eN 12 (by decide) (by decide) (by decide) (by decide)) (eN 13 (by decide) (by decide) (by decide) (by decide)) (eN 14 (by decide) (by decide) (by decide) (by decide)), h7.e hk (eC 55 (by decide) (by decide) (by decide)) (eN 4 (by decide) (by decide) (by decide) (by decide))⟩
  intro z
  rw [e0.2] at z
  rw [eN 2 (by decide) (by decide) (by decide) (by decide)]
  refine ((h4 z).le hk).c (fun k a b => eC k (by omega) (by omega) (by omega)) ?_ ?_ (fun k a b => eC k (by omega) (by omega) (by omega)) (eC 42 (by decide) (by decide) (by decide)) e0.1
  · rw [eC 21 (by decide) (by decide) (by decide)]
  · rw [eC 21 (by decide) (by decide) (by decide)]
/-- only what is tried changes -/
theorem Wo.tr {K : Int} {C N C' : xMem} (h : Wo K C N) (eC : ∀ k, (k < 31 ∨ 46 < k ∨ k = 41 ∨ k = 42) → C' k = C k) : Wo K C' N := by
  obtain ⟨h1, h2, h3, h4, h5, h6, h7⟩ := h
  refine ⟨?_, by rw [eC 0 (by decide)]; exact h2, by rw [eC 0 (by decide)]; exact h3, ?_, h5.e (by rw [eC 47 (by decide)]) (eC 48 (by decide)) rfl rfl, h6.e (eC 52 (by decide)) (eC 53 (by decide)) (eC 54 (by decide)) rfl rfl rfl, h7.e (by omega) (eC 55 (by decide)) rfl⟩
  · exact h1.c (fun k a b => eC k (by omega)) (by rw [eC 11 (by decide)]) (by rw [eC 11 (by decide)]) (fun k a b => eC k (by omega)) (eC 41 (by decide)) (by rw [eC 0 (by decide)])
  · intro z
    rw [eC 0 (by decide)] at z
    exact (h4 z).c (fun k a b => eC k (by omega)) (by rw [eC 21 (by decide)]) (by rw [eC 21 (by decide)]) (fun k a b => eC k (by omega)) (eC 42 (by decide)) (by rw [eC 0 (by decide)])
theorem Wo.trE {K : Int} {C N C' : xMem} (h : Wo K C N) (e : TrE C C') : Wo K C' N := h.tr (fun k a => e k (by omega))
theorem Wo.le {K K' : Int} {C N : xMem} (h : Wo K C N) (hk : K ≤ K') : Wo K' C N := h.cu hk (h.1.le hk) (fun _ _ _ _ => rfl) ⟨rfl, rfl⟩ (fun _ _ _ _ _ => rfl) ⟨rfl, rfl⟩
theorem Wo.q {K : Int} {C N N' : xMem} (h : Wo K C N) (q : QuR N N') : Wo K C N' := h.cu (Int.le_refl _) (by rw [q.1]; exact h.1) (fun _ _ _ _ => rfl) ⟨rfl, rfl⟩ (fun k a b c d => q.2.1 k a c d) ⟨q.2.2 3 (by decide) (by decide) (by decide) (by decide) (by decide), q.2.2 16 (by decide) (by decide) (by decide) (by decide) (by decide)⟩
theorem Wo.qe {K : Int} {C N N' : xMem} (h : Wo K C N) (q : QuE N N') : Wo K C N' := h.q q.1
theorem Wo.qw {K : Int} {C N N' : xMem} (h : Wo K C N) (q : QuW N N') : Wo K C N' := by
  obtain ⟨⟨q1, q2, q3⟩, _⟩ := q
  obtain ⟨h1, h2, h3, h4, h5, h6, h7⟩ := h
  refine ⟨by rw [q1]; exact h1, h2, by rw [q3 3 (by decide) (by decide) (by decide) (by decide) (by decide) (by decide)]; exact h3, by rw [q2 2 (by decide) (by decide) (by decide) (by decide) (by decide) (by decide)]; exact h4, h5.e rfl rfl (q3 16 (by decide) (by decide) (by decide) (by decide) (by decide) (by decide)) (q2 9 (by decide) (by decide) (by decide) (by decide) (by decide) (by decide)), h6.e rfl rfl rfl (q2 12 (by decide) (by decide) (by decide) (by decide) (by decide) (by decide)) (q2 13 (by decide) (by decide) (by decide) (by decide) (by decide) (by decide)) (q2 14 (by decide) (by decide) (by decide) (by decide) (by decide) (by decide)), h7.e (Int.le_refl _) rfl (q2 4 (by decide) (by decide) (by decide) (by decide) (by decide) (by decide))⟩
theorem tyS_7 (C : xMem) : tyS C 7 = C 55 0 + C 55 1 + C 55 2 + C 55 3 + C 55 4 + C 55 5 + C 55 6 := by
  show 0 + C 55 0 + C 55 1 + C 55 2 + C 55 3 + C 55 4 + C 55 5 + C 55 6 = _
  omega
/-- a finding is counted in both -/
theorem Wo.fnd {K : Int} {C N : xMem} (h : Wo K C N) (hk : 0 ≤ K ∧ K ≤ 60000) {f v : Int} (hf : 0 ≤ f ∧ f < 7) (hv : v = -1000001 - f) : Wo (K + 100) (fndC C f) (fnM N v) := by
  obtain ⟨h1, h2, h3, h4, h5, h6, h7⟩ := h.le (show K ≤ K + 100 by omega)
  have t := h.2.2.2.2.2.2
  unfold fndC fnM
  rw [show -1000001 - v + 1 = f + 1 by omega]
  refine ⟨?_, h2, h3, ?_, h5, h6, ?_, ?_⟩
  · exact h1.c (fun k a b => up_n (by omega)) (by rw [up_n (by omega)]) (by rw [up_n (by omega)]) (fun k a b => up_n (by omega)) (up_n (by omega)) (by rw [up_n (by omega)])
  · intro z
    exact (h4 z).c (fun k a b => up_n (by omega)) (by rw [up_n (by omega)]) (by rw [up_n (by omega)]) (fun k a b => up_n (by omega)) (up_n (by omega)) (by rw [up_n (by omega)])
  · intro g g0 g1
    have tg := t.1 g g0 g1
    have tf := t.1 f hf.1 hf.2
    rw [up_nn (by omega), up_s, up_s]
    unfold ur
    by_cases e : g = f
    · subst e
      rw [if_pos rfl, if_pos rfl, tg.1, wr_eq (by omega)]
      omega
    · rw [if_neg (by omega), if_neg e]
      omega
  · have t0 := t.1 0 (by omega) (by omega)
    have t1 := t.1 1 (by omega) (by omega)
    have t2 := t.1 2 (by omega) (by omega)
    have t3 := t.1 3 (by omega) (by omega)
    have t4 := t.1 4 (by omega) (by omega)
    have t5 := t.1 5 (by omega) (by omega)
    have t6 := t.1 6 (by omega) (by omega)
    have tt := t.2
    rw [tyS_7] at tt ⊢
    rw [up_ss, tt, wr_eq (by omega), up_s]
    rcases (show f = 0 ∨ f = 1 ∨ f = 2 ∨ f = 3 ∨ f = 4 ∨ f = 5 ∨ f = 6 by omega) with rfl | rfl | rfl | rfl | rfl | rfl | rfl <;> (rw [wr_eq (by omega)]; unfold ur; simp only [reduceIte, show ((0:Int) = 1) = False by decide, show ((0:Int) = 2) = False by decide, show ((0:Int) = 3) = False by decide, show ((0:Int) = 4) = False by decide, show ((0:Int) = 5) = False by decide, show ((0:Int) = 6) = False by decide, show ((1:Int) = 0) = False by decide, show ((1:Int) = 2) = False by decide, show ((1:Int) = 3) = False by decide, show ((1:Int) = 4) = False by decide, show ((1:Int) = 5) = False by decide, show ((1:Int) = 6) = False by decide, show ((2:Int) = 0) = False by decide, show ((2:Int) = 1) = False by decide, show ((2:Int) = 3) = False by decide, show ((2:Int) = 4) = False by decide, show ((2:Int) = 5) = False by decide, show ((2:Int) = 6) = False by decide, show ((3:Int) = 0) = False by decide, show ((3:Int) = 1) = False by decide, show ((3:Int) = 2) = False by decide, show ((3:Int) = 4) = False by decide, show ((3:Int) = 5) = False by decide, show ((3:Int) = 6) = False by decide, show ((4:Int) = 0) = False by decide, show ((4:Int) = 1) = False by decide, show ((4:Int) = 2) = False by decide, show ((4:Int) = 3) = False by decide, show ((4:Int) = 5) = False by decide, show ((4:Int) = 6) = False by decide, show ((5:Int) = 0) = False by decide, show ((5:Int) = 1) = False by decide, show ((5:Int) = 2) = False by decide, show ((5:Int) = 3) = False by decide, show ((5:Int) = 4) = False by decide, show ((5:Int) = 6) = False by decide, show ((6:Int) = 0) = False by decide, show ((6:Int) = 1) = False by decide, show ((6:Int) = 2) = False by decide, show ((6:Int) = 3) = False by decide, show ((6:Int) = 4) = False by decide, show ((6:Int) = 5) = False by decide]; omega)
