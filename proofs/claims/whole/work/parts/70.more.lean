/-! both worlds: ways laid, people made, steps gone; little calls -/
theorem PeR.n {C : xMem} {b : Nat} {n n' : Int → Int} (h : PeR C b n) (hn : C b 1 ≤ 8) (e : ∀ j, j = 0 ∨ j = 1 ∨ (113 ≤ j ∧ j < 177) → n' j = n j) : PeR C b n' := by
  refine ⟨by rw [e 1 (by omega)]; exact h.1, by rw [e 0 (by omega)]; exact h.2.1, fun p h0 h1 => ?_⟩
  rw [e _ (by omega), e _ (by omega), e _ (by omega), e _ (by omega), e _ (by omega), e _ (by omega), e _ (by omega), e _ (by omega)]
  exact h.2.2 p h0 h1
theorem layC_n {C : xMem} {a c v : Int} {k : Nat} (h : k < 2 ∨ 6 ≤ k) : layC C 1 a c v k = C k := by
  unfold layC suC
  rw [suA_n (by omega), up_n (by omega), up_n (by omega)]
theorem CoR.lay {K : Int} {C : xMem} {n : Int → Int} {a c v : Int} (h : CoR K C 11 1 41 3 n) (ha : plc a) (hc : plc c) (hac : a ≠ c) (hv : 0 ≤ v ∧ v ≤ 9) : CoR K (layC C 1 a c v) 11 1 41 3 (ur (ur n (13 + 10 * a + c) v) (13 + 10 * c + a) v) := by
  obtain ⟨⟨h1, h2⟩, h3, h4, h5, h6, h7, h8, h9⟩ := h
  have e1 : layC C 1 a c v 11 = C 11 := layC_n (by omega)
  have hN : MInv (fun _ => ur (ur n (13 + 10 * a + c) v) (13 + 10 * c + a) v) := MInv_c (M := lyM (fun _ => n) a c v) (by unfold lyM; rw [up_s, up_s, up_n (by decide)]) (lyM_I h2 ha hc hv)
  refine ⟨⟨h1.c (fun k g1 g2 => layC_n (by omega)) (by rw [e1]) (by rw [e1]), hN⟩, ?_, ?_, h5.c (by rw [e1]) (layC_n (by omega)) (layC_n (by omega)), ?_, by rw [e1]; exact h7, ?_, ?_⟩
  · refine (h3.c (fun k g1 g2 g3 => layC_n (by omega)) (by rw [e1]) (by rw [e1])).n (by rw [e1]; exact h1.1.2) (fun j hj => ?_)
    rw [ur_n (by omega), ur_n (by omega)]
  · unfold layC
    refine RoR.su ?_ hN.2.2.1
    intro i i0 i1
    have e := h4.1 i i0 i1
    rw [up_s, up_s]
    unfold wyr at e ⊢
    rw [if_pos ⟨i0, i1⟩] at e ⊢
    by_cases q1 : i = c * 10 + a
    · subst q1
      rw [ur_s, show 13 + (c * 10 + a) = 13 + 10 * c + a by omega, ur_s]
    · rw [ur_n q1, ur_n (show 13 + i ≠ 13 + 10 * c + a by omega)]
      by_cases q2 : i = a * 10 + c
      · subst q2
        rw [ur_s, show 13 + (a * 10 + c) = 13 + 10 * a + c by omega, ur_s]
      · rw [ur_n q2, ur_n (show 13 + i ≠ 13 + 10 * a + c by omega)]
        exact e
  · intro x y hx hy
    have e := h6 x y hx hy
    by_cases q1 : x = a ∧ y = c
    · obtain ⟨rfl, rfl⟩ := q1
      rw [ur_n (by omega), ur_s, ur_s]
      exact ⟨rfl, fun z => absurd z hac⟩
    · by_cases q2 : x = c ∧ y = a
      · obtain ⟨rfl, rfl⟩ := q2
        rw [ur_s, ur_n (by omega), ur_s]
        exact ⟨rfl, fun z => absurd z.symm hac⟩
      · rw [ur_n (by omega), ur_n (by omega), ur_n (by omega), ur_n (by omega)]
        exact e
  · rw [e1]
    intro j j0 j1
    rw [ur_n (by omega), ur_n (by omega), layC_n (by omega)]
    exact h8 j j0 j1
  · rw [ur_n (by omega), ur_n (by omega), layC_n (by omega)]
    exact h9
theorem addC_1 {C : xMem} {b : Nat} {k a : Int} : addC C b k a b = ur (C b) 1 (C b 1 + 1) := by
  unfold addC
  rw [up_s, up_n (by omega), up_n (by omega), up_n (by omega), up_n (by omega), up_n (by omega), up_n (by omega), up_n (by omega), up_n (by omega)]
theorem addC_f {C : xMem} {b : Nat} {k a : Int} : addC C b k a (b + 1) = ur (C (b + 1)) (C b 1) k ∧ addC C b k a (b + 2) = ur (C (b + 2)) (C b 1) a ∧ addC C b k a (b + 3) = ur (C (b + 3)) (C b 1) a ∧ addC C b k a (b + 4) = ur (C (b + 4)) (C b 1) (-1) ∧ addC C b k a (b + 5) = ur (C (b + 5)) (C b 1) 3 ∧ addC C b k a (b + 6) = ur (C (b + 6)) (C b 1) 0 ∧ addC C b k a (b + 7) = ur (C (b + 7)) (C b 1) 0 ∧ addC C b k a (b + 8) = ur (C (b + 8)) (C b 1) 0 := by
  unfold addC
  refine ⟨?_, ?_, ?_, ?_, ?_, ?_, ?_, ?_⟩
  · rw [up_n (by omega), up_n (by omega), up_n (by omega), up_n (by omega), up_n (by omega), up_n (by omega), up_n (by omega), up_n (by omega), up_s]
  · rw [up_n (by omega), up_n (by omega), up_n (by omega), up_n (by omega), up_n (by omega), up_n (by omega), up_n (by omega), up_s, up_n (by omega)]
  · rw [up_n (by omega), up_n (by omega), up_n (by omega), up_n (by omega), up_n (by omega), up_n (by omega), up_s, up_n (by omega), up_n (by omega)]
  · rw [up_n (by omega), up_n (by omega), up_n (by omega), up_n (by omega), up_n (by omega), up_s, up_n (by omega), up_n (by omega), up_n (by omega)]
  · rw [up_n (by omega), up_n (by omega), up_n (by omega), up_n (by omega), up_s, up_n (by omega), up_n (by omega), up_n (by omega), up_n (by omega)]
  · rw [up_n (by omega), up_n (by omega), up_n (by omega), up_s, up_n (by omega), up_n (by omega), up_n (by omega), up_n (by omega), up_n (by omega)]
  · rw [up_n (by omega), up_n (by omega), up_s, up_n (by omega), up_n (by omega), up_n (by omega), up_n (by omega), up_n (by omega), up_n (by omega)]
  · rw [up_n (by omega), up_s, up_n (by omega), up_n (by omega), up_n (by omega), up_n (by omega), up_n (by omega), up_n (by omega), up_n (by omega)]
theorem addC_n {C : xMem} {b i : Nat} {k a : Int} (h : i < b ∨ b + 8 < i) : addC C b k a i = C i := by
  unfold addC
  rw [up_n (by omega), up_n (by omega), up_n (by omega), up_n (by omega), up_n (by omega), up_n (by omega), up_n (by omega), up_n (by omega), up_n (by omega)]
theorem CoR.add {K : Int} {C N : xMem} {k a : Int} (h : CoR K C 11 1 41 3 (N 1)) (hn : C 11 1 < 8) (hk : 0 ≤ k ∧ k ≤ 6) (ha : plc a) : CoR K (addC C 11 k a) 11 1 41 3 (coM N k a a 3 1) := by
  obtain ⟨⟨h1, h2⟩, h3, h4, h5, h6, h7, h8, h9⟩ := h
  have hc := h1.1
  have hc' : 0 ≤ N 1 1 := by rw [h3.1]; exact hc.1
  obtain ⟨r1, r2, r3, r4, r5, r6, r7, r8⟩ := addC_f (C := C) (b := 11) (k := k) (a := a)
  obtain ⟨f0, f1, f2, f3, f4, f5, f6, f7⟩ := coM_f (M := N) (k := k) (a := a) (e := a) (s := 3) hc'
  have hN : MInv (coM N k a a 3) := coM_I h2 (by show N 1 1 < 8; rw [h3.1]; exact hn) hk ha ha (by omega)
  have e1 : addC C 11 k a 11 1 = C 11 1 + 1 := by rw [addC_1, ur_s]
  have e2 : addC C 11 k a 11 2 = C 11 2 := by rw [addC_1, ur_n (by decide)]
  have ey : wyr (coM N k a a 3 1) = wyr (N 1) := coM_y (M := N) hc'
  refine ⟨⟨⟨by rw [e1]; omega, by rw [e2]; exact h1.2.1, fun p p0 p1 => ?_⟩, hN⟩, ⟨?_, ?_, fun p p0 p1 => ?_⟩, (h4.n ey).c (fun i g1 g2 => addC_n (by omega)), ?_, ?_, by rw [e2]; exact h7, ?_, ?_⟩
  · rw [e1] at p1 ⊢
    rw [r1, r2, r3, r4, r5, r6, r7, r8]
    by_cases q : p = C 11 1
    · subst q
      rw [ur_s, ur_s, ur_s, ur_s, ur_s, ur_s, ur_s, ur_s]
      omega
    · have i := h1.2.2 p p0 (by omega)
      rw [ur_n q, ur_n q, ur_n q, ur_n q, ur_n q, ur_n q, ur_n q, ur_n q]
      omega
  · rw [coM_1, e1, h3.1]
  · rw [coM_o hc' (by decide) (by omega), e2]; exact h3.2.1
  · rw [e1] at p1
    rw [r1, r2, r3, r4, r5, r6, r7, r8]
    by_cases q : p = C 11 1
    · subst q
      rw [ur_s, ur_s, ur_s, ur_s, ur_s, ur_s, ur_s, ur_s]
      rw [h3.1] at f0 f1 f2 f3 f4 f5 f6 f7
      exact ⟨f0, f1, f2, f3, f4, fun _ => f5, f6, f7⟩
    · have i := h3.2.2 p p0 (by omega)
      rw [ur_n q, ur_n q, ur_n q, ur_n q, ur_n q, ur_n q, ur_n q, ur_n q]
      rw [coM_o hc' (by omega) (by rw [h3.1]; omega), coM_o hc' (by omega) (by rw [h3.1]; omega), coM_o hc' (by omega) (by rw [h3.1]; omega), coM_o hc' (by omega) (by rw [h3.1]; omega), coM_o hc' (by omega) (by rw [h3.1]; omega), coM_o hc' (by omega) (by rw [h3.1]; omega), coM_o hc' (by omega) (by rw [h3.1]; omega), coM_o hc' (by omega) (by rw [h3.1]; omega)]
      exact i
  · unfold MtS
    rw [e1, r4, r6]
    intro p p0 p1 z
    by_cases q : p = C 11 1
    · subst q; rw [ur_s] at z; omega
    · rw [ur_n q] at z ⊢
      have i := h1.2.2 p p0 (by omega)
      have q2 : C (11 + 4) p ≠ C 11 1 := by omega
      rw [ur_n q2, ur_n q2, ur_n q]
      exact h5 p p0 (by omega) z
  · intro x y hx hy
    rw [coM_o hc' (by omega) (by omega), coM_o hc' (by omega) (by omega)]
    exact h6 x y hx hy
  · rw [e1]
    intro j j0 j1
    have := h8 j j0 j1
    rw [coM_o hc' (by omega) (by omega), addC_n (by omega)]
    omega
  · rw [coM_o hc' (by omega) (by omega), addC_n (by omega)]
    exact h9
theorem CoR.st {K : Int} {C N : xMem} (h : CoR K C 11 1 41 3 (N 1)) (hx : xR C) (n : Nat) (hn : C 11 2 + n ≤ 99999) : CoR (K + n) (tkC 11 1 C n) 11 1 41 3 (siN N n 1) := by
  have hp : pI 11 1 := by omega
  have hN : MInv N := h.1.2
  have s := siS hp (h.pin hx) hN h.2.1 h.2.2.1 n hn
  have i := siN_I hN n
  have p := tkC_in hp (h.pin hx) n
  have r := tkC_r hp (h.pin hx) n
  obtain ⟨⟨h1, h2⟩, h3, h4, h5, h6, h7, h8, h9⟩ := h
  have e1 := r.2 1 (by omega) (by omega) (by omega)
  refine ⟨⟨p.2.1, i.1⟩, s.1, s.2.1, h5.c e1 (r.1 _ (by omega) (by omega) (by omega) (by omega) (by omega)) (r.1 _ (by omega) (by omega) (by omega) (by omega) (by omega)), fun x y hx hy => ?_, by rw [s.2.2]; omega, ?_, ?_⟩
  · rw [i.2.1.2.2.1 _ (by omega) (by omega), i.2.1.2.2.1 _ (by omega) (by omega)]
    exact h6 x y hx hy
  · rw [e1]
    intro j j0 j1
    rw [i.2.1.2.2.1 _ (by omega) (by omega), r.1 _ (by omega) (by omega) (by omega) (by omega) (by omega)]
    exact h8 j j0 j1
  · rw [i.2.1.2.2.1 _ (by omega) (by omega), r.1 _ (by omega) (by omega) (by omega) (by omega) (by omega)]
    exact h9
theorem Wo.st {K : Int} {C N : xMem} (h : Wo K C N) (hx : xR C) (n : Nat) (hn : C 11 2 + n ≤ 99999) : Wo (K + n) (tkC 11 1 C n) (siN N n) := by
  have r := tkC_r (b := 11) (r := 1) (by omega) (h.1.pin hx) n
  have i := siN_I (M := N) h.1.1.2 n
  have i2 := siN_I (M := N) h.inv.2 n
  exact h.cu (by omega) (h.1.st hx n hn) (fun k a b c => r.1 k (by omega) (by omega) (by omega) (by omega) (by omega)) ⟨by rw [r.1 0 (by omega) (by omega) (by omega) (by omega) (by omega)], by rw [r.1 0 (by omega) (by omega) (by omega) (by omega) (by omega)]⟩ (fun k a b _ _ => i2.2.1.1 k a b) ⟨i2.2.1.2.1 3 (by decide) (by decide) (by decide), i2.2.1.2.1 16 (by decide) (by decide) (by decide)⟩
section CALLS
variable {K : Int} {C N : xMem}
theorem w_way {a c v : Int} (h : Wo K C N) (hk : kI K) : Sa K (wayR C a c v) (nwaR N a c v) (wayM C a c v) (nwaM N a c v) := by
  unfold wayR nwaR wayM nwaM
  by_cases q : plc a ∧ plc c ∧ a ≠ c ∧ 0 ≤ v ∧ v ≤ 9
  · have q' : (plc a ∧ plc c ∧ a ≠ c) ∧ 0 ≤ v ∧ v ≤ 9 := ⟨⟨q.1, q.2.1, q.2.2.1⟩, q.2.2.2⟩
    rw [if_pos q, if_pos q, if_pos q', if_pos q']
    refine ⟨?_, ?_⟩
    · rw [h.1.2.2.1.1 (a * 10 + c) (by omega) (by omega)]
      unfold wyr
      rw [if_pos (by omega), show 13 + (a * 10 + c) = 13 + 10 * a + c by omega]
      exact (h.1.2.2.2.2.1 a c q.1 q.2.1).1
    · have e1 : lyM N a c v 1 = ur (ur (N 1) (13 + 10 * a + c) v) (13 + 10 * c + a) v := by unfold lyM; rw [up_s, up_s, up_n (by decide)]
      have e2 : ∀ k, k ≠ 1 → k ≠ 0 → lyM N a c v k = N k := fun k g1 g2 => by unfold lyM; rw [up_n g1, up_n g1, up_n g2]
      have e3 : ∀ j, j ≠ 6 → lyM N a c v 0 j = N 0 j := fun j g => by unfold lyM; rw [up_n (by decide), up_n (by decide), up_nn (by omega)]
      refine h.cu (by omega) ?_ (fun k a b c => layC_n (by omega)) ⟨by rw [layC_n (by omega)], by rw [layC_n (by omega)]⟩ (fun k g0 g1 _ _ => e2 k g1 g0) ⟨e3 3 (by decide), e3 16 (by decide)⟩
      rw [e1]
      exact (h.1.lay q.1 q.2.1 q.2.2.1 q.2.2.2).le (by omega)
  · have q' : ¬ ((plc a ∧ plc c ∧ a ≠ c) ∧ 0 ≤ v ∧ v ≤ 9) := fun z => q ⟨z.1.1, z.1.2.1, z.1.2.2, z.2⟩
    rw [if_neg q, if_neg q, if_neg q', if_neg q']
    exact ⟨rfl, h.fnd hk (by omega) rfl⟩
theorem coM_nn {k : Nat} {p a e s : Int} (h : k ≠ 1) : coM N p a e s k = N k := by
  unfold coM
  rw [up_n h, up_n h, up_n h, up_n h, up_n h, up_n h, up_n h, up_n h, up_n h]
theorem w_person {k a : Int} (h : Wo K C N) (hk : kI K) : Sa K (personR C k a) (npeR N k a) (personM C k a) (npeM N k a) := by
  unfold personR npeR personM npeM
  have hc := h.1.cn
  by_cases q : (0 ≤ k ∧ k < 7) ∧ plc a
  · have q' : (0 ≤ k ∧ k ≤ 6) ∧ plc a := ⟨by omega, q.2⟩
    rw [if_pos q, if_pos q, if_pos q', if_pos q']
    rw [h.1.n1]
    by_cases g : C 11 1 < 8
    · have g' : ¬ C 11 1 = 8 := by omega
      rw [if_pos g, if_pos g, if_neg g', if_neg g']
      refine ⟨rfl, ?_⟩
      exact h.cu (by omega) ((h.1.add g (by omega) q.2).le (by omega)) (fun i g0 g1 g2 => addC_n (by omega)) ⟨by rw [addC_n (by omega)], by rw [addC_n (by omega)]⟩ (fun i _ g1 _ _ => coM_nn g1) ⟨by rw [coM_nn (by decide)], by rw [coM_nn (by decide)]⟩
    · have g' : C 11 1 = 8 := by omega
      rw [if_neg g, if_neg g, if_pos g', if_pos g']
      exact ⟨rfl, h.fnd hk (by omega) rfl⟩
  · have q' : ¬ ((0 ≤ k ∧ k ≤ 6) ∧ plc a) := fun z => q ⟨by omega, z.2⟩
    rw [if_neg q, if_neg q, if_neg q', if_neg q']
    exact ⟨rfl, h.fnd hk (by omega) rfl⟩
theorem w_go {n : Int} (h : Wo K C N) (hx : xR C) (hk : kI K) : Sa K (goR C n) (ngoR N n) (goM C n) (ngoM N n) := by
  unfold goR ngoR goM ngoM
  have c0 := h.1.1.1.2.1
  have c1 := h.1.2.1.2.1
  by_cases q : 1 ≤ n ∧ n ≤ 40
  · rw [if_pos q, if_pos q, if_pos q, if_pos q, c1]
    by_cases g : C 11 2 + n ≤ 99999
    · have g' : ¬ 99999 < C 11 2 + n := by omega
      rw [if_pos g, if_pos g, if_neg g', if_neg g']
      have e := (siS (by omega) (h.1.pin hx) h.inv.2 h.1.2.1 h.1.2.2.1 n.toNat (by omega)).2.2
      exact ⟨by rw [e]; omega, (h.st hx n.toNat (by omega)).le (by omega)⟩
    · have g' : 99999 < C 11 2 + n := by omega
      rw [if_neg g, if_neg g, if_pos g', if_pos g']
      exact ⟨rfl, h.fnd hk (by omega) rfl⟩
  · rw [if_neg q, if_neg q, if_neg q, if_neg q]
    exact ⟨rfl, h.fnd hk (by omega) rfl⟩
theorem PeR.th {b : Nat} (h : PeR C b (N 1)) : thN N = thS C b := by
  unfold thN thS
  rw [h.1]
  refine xfo_c _ (fun k hk acc => ?_)
  have a := h.2.2 (k : Int) (by omega) (by omega)
  rw [a.2.1, a.2.2.1]
theorem PeR.ti {b r : Nat} (h : PeR C b (N 1)) (hr : RoR C r (N 1)) (hI : PeInv C b) : tiN N = tgS C b r := by
  have hn := hI.1
  unfold tiN tgS
  rw [h.1]
  refine xfo_c _ (fun k hk acc => ?_)
  have a := h.2.2 (k : Int) (by omega) (by omega)
  have i := hI.2.2 (k : Int) (by omega) (by omega)
  rw [a.2.1, a.2.2.2.1]
  by_cases m : 0 ≤ C (b + 4) k
  · have c := h.2.2 _ m (by omega)
    have j := hI.2.2 _ m (by omega)
    have e : pmN N (k : Int) = C (b + 2) (C (b + 4) k) := by unfold pmN; rw [a.2.2.2.1, if_pos m, c.2.1]
    rw [e, h.rp ⟨by omega, by omega⟩ ⟨m, by omega⟩, hr.di i.2.1 j.2.1]
    by_cases g : C (r + 2) (C (b + 2) k * 10 + C (b + 2) (C (b + 4) k)) = rchC C b k
    · rw [if_pos ⟨m, g⟩, if_pos ⟨⟨m, by omega, by omega⟩, g⟩]
    · rw [if_neg (fun z => g z.2), if_neg (fun z => g z.2)]
  · rw [if_neg (fun z => m z.1), if_neg (fun z => m z.1.1)]
theorem PeR.ho {b : Nat} (h : PeR C b (N 1)) : smN N 6 = hoS C b 7 ∧ smN N 7 = hoS C b 8 := by
  unfold smN hoS
  rw [h.1]
  exact ⟨xfo_c _ (fun k hk acc => by rw [(h.2.2 (k : Int) (by omega) (by omega)).2.2.2.2.2.2.1]), xfo_c _ (fun k hk acc => by rw [(h.2.2 (k : Int) (by omega) (by omega)).2.2.2.2.2.2.2])⟩
theorem w_now {v : Int} (h : Wo K C N) (hk : kI K) : Sa K (nowR C v) (nnoR N v) (nowM C v) (nnoM N v) := by
  unfold nowR nnoR nowM nnoM
  rw [h.1.2.1.2.1, h.1.2.1.th, h.1.2.1.ti h.1.2.2.1 h.1.1.1, h.1.2.1.ho.1, h.1.2.1.ho.2]
  refine ⟨rfl, ?_⟩
  by_cases q : 0 ≤ v ∧ v ≤ 4
  · rw [if_pos q, if_pos q]; exact h.le (by omega)
  · rw [if_neg q, if_neg q]; exact h.fnd hk (by omega) rfl
/-- a cell of the reference's row that holds the draw or a spot -/
theorem CoR.lo {C' : xMem} {n : Int → Int} {i v : Int} (h : CoR K C 11 1 41 3 n) (hi : 2 ≤ i ∧ i < 13) (e : ∀ k, k ≠ 0 → k ≠ 41 → C' k = C k) (hs : SpR C' 41 (C 11 1) (ur n i v)) (hd : ur n i v 2 = C' 0 3) : CoR K C' 11 1 41 3 (ur n i v) := by
  obtain ⟨⟨h1, h2⟩, h3, h4, h5, h6, h7, h8, h9⟩ := h
  have e1 := e 11 (by decide) (by decide)
  refine ⟨⟨h1.c (fun k a b => e k (by omega) (by omega)) (by rw [e1]) (by rw [e1]), ?_⟩, ?_, (h4.n (wyr_ur (by omega))).c (fun k a b => e k (by omega) (by omega)), h5.c (by rw [e1]) (e _ (by decide) (by decide)) (e _ (by decide) (by decide)), fun a c ha hc => ?_, by rw [e1]; exact h7, by rw [e1]; exact hs, hd⟩
  · exact MInv_c (M := up (fun _ => n) 1 i v) (by rw [up_s]) (h2.lo hi)
  · exact (h3.c (fun k a b c => e k (by omega) (by omega)) (by rw [e1]) (by rw [e1])).n (by rw [e1]; exact h1.1.2) (fun j hj => ur_n (by omega))
  · rw [ur_n (by omega), ur_n (by omega)]; exact h6 a c ha hc
theorem w_seed {v : Int} (h : Wo K C N) (hk : kI K) : Sa K (seedR C v) (N 1 2) (seedM C v) (up N 1 2 v) := by
  unfold seedR seedM
  refine ⟨h.1.2.2.2.2.2.2.2.symm, ?_⟩
  refine h.cu (by omega) ?_ (fun k a b c => up_n (by omega)) ⟨up_nn (by omega), up_nn (by omega)⟩ (fun k _ a _ _ => up_n a) ⟨rfl, rfl⟩
  rw [up_s]
  refine (h.1.lo (by omega) (fun k a b => up_n a) (fun j j0 j1 => ?_) ?_).le (by omega)
  · rw [ur_n (by omega), up_n (by omega)]; exact h.1.2.2.2.2.2.2.1 j j0 j1
  · rw [ur_s, up_ss]
theorem w_hold {i p : Int} (h : Wo K C N) (hk : kI K) : Sa K (holdR C i p) (nhoR N i p) (holdM C i p) (nhoM N i p) := by
  unfold holdR nhoR holdM nhoM
  have hc := h.1.cn
  by_cases q : (0 ≤ i ∧ i < 10) ∧ (p = -1 ∨ clHas C 11 p)
  · have q' : (0 ≤ i ∧ i ≤ 9) ∧ (p = -1 ∨ (0 ≤ p ∧ p < N 1 1)) := ⟨by omega, q.2.elim Or.inl (fun z => Or.inr ((h.1.has p).2 z))⟩
    rw [if_pos q, if_pos q, if_pos q', if_pos q']
    refine ⟨rfl, ?_⟩
    refine h.cu (by omega) ?_ (fun k a b c => up_n c) ⟨rfl, rfl⟩ (fun k _ a _ _ => up_n a) ⟨rfl, rfl⟩
    rw [up_s]
    refine (h.1.lo (by omega) (fun k a b => up_n b) (fun j j0 j1 => ?_) ?_).le (by omega)
    · by_cases e : j = i
      · subst e
        rw [ur_s, up_ss]
        refine ⟨rfl, ?_⟩
        rcases q.2 with z | z <;> omega
      · rw [ur_n (by omega), up_nn (by omega)]; exact h.1.2.2.2.2.2.2.1 j j0 j1
    · rw [ur_n (by omega), up_n (by omega)]; exact h.1.2.2.2.2.2.2.2
  · have q' : ¬ ((0 ≤ i ∧ i ≤ 9) ∧ (p = -1 ∨ (0 ≤ p ∧ p < N 1 1))) := fun z => q ⟨by omega, z.2.elim Or.inl (fun y => Or.inr ((h.1.has p).1 y))⟩
    rw [if_neg q, if_neg q, if_neg q', if_neg q']
    exact ⟨rfl, h.fnd hk (by omega) rfl⟩
theorem unP_F {k a : Int} (hk : 0 ≤ k ∧ k ≤ 6) (ha : 0 ≤ a ∧ a ≤ 6) : unF (dpF k) k a ↔ unP 7 k a := by
  rcases (show k = 0 ∨ k = 1 ∨ k = 2 ∨ k = 3 ∨ k = 4 ∨ k = 5 ∨ k = 6 by omega) with rfl | rfl | rfl | rfl | rfl | rfl | rfl <;> rcases (show a = 0 ∨ a = 1 ∨ a = 2 ∨ a = 3 ∨ a = 4 ∨ a = 5 ∨ a = 6 by omega) with rfl | rfl | rfl | rfl | rfl | rfl | rfl <;> simp [unF, unP, dpF, kaF]
theorem w_as {i k : Int} (h : Wo K C N) (hk : kI K) : Sa K (asR C i k) (nasR N i k) (asM C i k) (nasM N i k) := by
  unfold asR nasR asM nasM
  have hc := h.1.cn
  by_cases q : (0 ≤ i ∧ i < 10) ∧ (0 ≤ k ∧ k < 7)
  · have q' : (0 ≤ i ∧ i ≤ 9) ∧ 0 ≤ k ∧ k ≤ 6 := by omega
    have s := h.1.2.2.2.2.2.2.1 i q.1.1 q.1.2
    rw [if_pos q, if_pos q, if_pos q', if_pos q', s.1]
    by_cases g : C 41 i = -1
    · have g' : C 41 i < 0 := by omega
      rw [if_pos g, if_pos g, if_pos g', if_pos g']
      exact ⟨rfl, h.fnd hk (by omega) rfl⟩
    · have g' : ¬ C 41 i < 0 := by omega
      rw [if_neg g, if_neg g, if_neg g', if_neg g']
      have a := h.1.2.1.2.2 (C 41 i) (by omega) (by omega)
      have c := h.1.1.1.2.2 (C 41 i) (by omega) (by omega)
      rw [a.1]
      have e := unP_F (k := C (11 + 1) (C 41 i)) (a := k) c.1 (by omega)
      by_cases u : unP 7 (C (11 + 1) (C 41 i)) k
      · rw [tI_p u, tI_p u, tI_p (e.2 u), tI_p (e.2 u)]
        exact ⟨rfl, h.le (by omega)⟩
      · have u' := fun z => u (e.1 z)
        rw [tI_n u, tI_n u, tI_n u', tI_n u']
        exact ⟨rfl, h.fnd hk (by omega) rfl⟩
  · have q' : ¬ ((0 ≤ i ∧ i ≤ 9) ∧ 0 ≤ k ∧ k ≤ 6) := by omega
    rw [if_neg q, if_neg q, if_neg q', if_neg q']
    exact ⟨rfl, h.fnd hk (by omega) rfl⟩
theorem w_tear (h : Wo K C N) (hk : kI K) : Sa K (tearR C) (if N 0 3 = 0 then 0 else 1) (tearM C) (up N 0 3 0) := by
  unfold tearR tearM
  obtain ⟨h1, h2, h3, h4, h5, h6, h7⟩ := h.le (show K ≤ K + 100 by omega)
  rw [h3]
  have e0 : ∀ k, k ≠ 0 → up C 0 8 0 k = C k := fun k a => up_n a
  refine ⟨rfl, h1.c (fun k a b => e0 k (by omega)) rfl rfl (fun k a b => e0 k (by omega)) rfl (up_nn (by omega)), Or.inl (up_ss _ _ _ _), by rw [up_ss, up_ss], fun z => ?_, h5.e rfl rfl (up_nn (by omega)) rfl, h6.e rfl rfl rfl rfl rfl rfl, h7.e (Int.le_refl _) rfl rfl⟩
  rw [up_ss] at z
  omega
theorem w_wipe (h : Wo K C N) (hk : kI K) : Sa K (wipeR C) (N 0 16) (wipeM C) (up N 0 16 0) := by
  unfold wipeR wipeM
  obtain ⟨h1, h2, h3, h4, h5, h6, h7⟩ := h.le (show K ≤ K + 100 by omega)
  have e0 : ∀ k, k ≠ 47 → up C 47 1 0 k = C k := fun k a => up_n a
  refine ⟨h5.1.symm, h1.c (fun k a b => e0 k (by omega)) rfl rfl (fun k a b => e0 k (by omega)) rfl rfl, h2, ?_, ?_, ⟨?_, ?_, fun i i0 i1 => ?_⟩, h6.e rfl rfl rfl rfl rfl rfl, h7.e (Int.le_refl _) rfl rfl⟩
  · rw [up_nn (by omega)]; exact h3
  · intro z
    exact (h4 z).c (fun k a b => e0 k (by omega)) rfl rfl (fun k a b => e0 k (by omega)) rfl rfl
  · rw [up_ss, up_ss]
  · rw [up_ss]; omega
  · rw [up_ss] at i1; omega
theorem w_status {x : Int} (h : Wo K C N) (hk : kI K) : Sa K (statusR C x) (nstR N x) (statusM C x) (nstM N x) := by
  unfold statusR nstR statusM nstM
  have t := h.2.2.2.2.2.2
  by_cases q : 0 ≤ x ∧ x < 7
  · have q' : -1 ≤ x ∧ x ≤ 6 := by omega
    rw [if_pos q, if_pos q, if_pos q', if_pos q']
    exact ⟨(t.1 x q.1 q.2).1.symm, h.le (by omega)⟩
  · rw [if_neg q, if_neg q]
    by_cases g : x = -1
    · have q' : -1 ≤ x ∧ x ≤ 6 := by omega
      rw [if_pos g, if_pos g, if_pos q', if_pos q', g]
      exact ⟨t.2.symm, h.le (by omega)⟩
    · have q' : ¬ (-1 ≤ x ∧ x ≤ 6) := by omega
      rw [if_neg g, if_neg g, if_neg q', if_neg q']
      exact ⟨rfl, h.fnd hk (by omega) rfl⟩
end CALLS
