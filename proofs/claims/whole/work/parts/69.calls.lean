/-! both worlds: the calls that ask and change one thing -/
abbrev Sa (K rC rN : Int) (C' N' : xMem) : Prop := rC = rN ∧ Wo (K + 100) C' N'
abbrev kI (K : Int) : Prop := 0 ≤ K ∧ K ≤ 60000
theorem xfo_c {σ : Type} {f g : Int → σ → σ} {s : σ} : ∀ (n : Nat), (∀ k : Nat, k < n → ∀ acc, f (k : Int) acc = g (k : Int) acc) → xfo f s n = xfo g s n := by
  intro n
  induction n with
  | zero => intro _; rfl
  | succ n ih =>
    intro h
    rw [xfo_s, xfo_s, ih (fun k hk => h k (by omega)), h n (by omega)]
section CALLS
variable {K : Int} {C N : xMem}
theorem w_far {a c : Int} (h : Wo K C N) (hk : kI K) : Sa K (farR C a c) (nfaR N a c) (farM C a c) (nfaM N a c) := by
  unfold farR nfaR farM nfaM
  by_cases q : plc a ∧ plc c
  · simp only [if_pos q]
    exact ⟨(h.1.2.2.1.di q.1 q.2).symm, h.le (by omega)⟩
  · simp only [if_neg q]
    exact ⟨rfl, h.fnd hk (by omega) rfl⟩
theorem w_next {p : Int} (h : Wo K C N) (hk : kI K) : Sa K (nextR C p) (nneR N p) (nextM C p) (nneM N p) := by
  unfold nextR nneR nextM nneM
  by_cases q : clHas C 11 p
  · have q' := (h.1.has p).2 q
    simp only [if_pos q, if_pos q']
    exact ⟨(RoR.wn h.1.2.1 h.1.2.2.1 h.1.1.1 ⟨q.1, q.2.1⟩).symm, h.le (by omega)⟩
  · have q' := fun z => q ((h.1.has p).1 z)
    simp only [if_neg q, if_neg q']
    exact ⟨rfl, h.fnd hk (by omega) rfl⟩
theorem w_may {p a : Int} (h : Wo K C N) (hk : kI K) : Sa K (mayR C p a) (nmaR N p a) (mayM C p a) (nmaM N p a) := by
  unfold mayR nmaR mayM nmaM
  by_cases q : clHas C 11 p ∧ plc a
  · have q' := And.intro ((h.1.has p).2 q.1) q.2
    simp only [if_pos q, if_pos q']
    exact ⟨bI_eq (RoR.let h.1.2.1 h.1.2.2.1 h.1.1.1 ⟨q.1.1, q.1.2.1⟩ q.2).symm, h.le (by omega)⟩
  · have q' : ¬ ((0 ≤ p ∧ p < N 1 1) ∧ plc a) := fun z => q ⟨(h.1.has p).1 z.1, z.2⟩
    simp only [if_neg q, if_neg q']
    exact ⟨rfl, h.fnd hk (by omega) rfl⟩
theorem PeR.ap {p s : Int} (h : PeR C 11 (N 1)) (hr : RoR C 1 (N 1)) (hI : PeInv C 11) (hp : 0 ≤ p ∧ p < C 11 1) (hs : 0 ≤ s ∧ s < C 11 1) : apN N p s = aptC C p s := by
  have a := h.2.2 p hp.1 hp.2
  have c := h.2.2 s hs.1 hs.2
  have i := hI.2.2 p hp.1 hp.2
  have j := hI.2.2 s hs.1 hs.2
  unfold apN aptC
  rw [a.2.1, a.2.2.1, c.2.1, c.2.2.1, hr.di i.2.1 j.2.1, hr.di i.2.2.1 j.2.2.1]
theorem w_apart {p s : Int} (h : Wo K C N) (hk : kI K) : Sa K (apartR C p s) (napR N p s) (apartM C p s) (napM N p s) := by
  unfold apartR napR apartM napM
  by_cases q : clHas C 11 p ∧ clHas C 11 s ∧ p ≠ s
  · have q' := And.intro ((h.1.has p).2 q.1) (And.intro ((h.1.has s).2 q.2.1) q.2.2)
    simp only [if_pos q, if_pos q']
    exact ⟨(h.1.2.1.ap h.1.2.2.1 h.1.1.1 ⟨q.1.1, q.1.2.1⟩ ⟨q.2.1.1, q.2.1.2.1⟩).symm, h.le (by omega)⟩
  · have q' : ¬ ((0 ≤ p ∧ p < N 1 1) ∧ (0 ≤ s ∧ s < N 1 1) ∧ p ≠ s) := fun z => q ⟨(h.1.has p).1 z.1, (h.1.has s).1 z.2.1, z.2.2⟩
    simp only [if_neg q, if_neg q']
    exact ⟨rfl, h.fnd hk (by omega) rfl⟩
theorem w_of {p w : Int} (h : Wo K C N) (hk : kI K) : Sa K (ofR C p w) (nofR N p w) (ofM C p w) (nofM N p w) := by
  unfold ofR nofR ofM nofM
  by_cases q : clHas C 11 p
  · have q' := (h.1.has p).2 q
    by_cases hw : 0 ≤ w ∧ w ≤ 8
    · have a := h.1.2.1.2.2 p q.1 q.2.1
      have pl := h.1.2.1.pl ⟨q.1, q.2.1⟩
      simp only [if_pos q, if_pos (And.intro q hw), if_pos (And.intro q' hw)]
      refine ⟨?_, h.le (by omega)⟩
      rcases (show w = 0 ∨ w = 1 ∨ w = 2 ∨ w = 3 ∨ w = 4 ∨ w = 5 ∨ w = 6 ∨ w = 7 ∨ w = 8 by omega) with rfl | rfl | rfl | rfl | rfl | rfl | rfl | rfl | rfl
      · exact a.1.symm
      · exact a.2.1.symm
      · exact a.2.2.1.symm
      · exact a.2.2.2.1.symm
      · exact a.2.2.2.2.1.symm
      · exact pl.symm
      · show goF (C (11 + 1) p) = goF (N 1 (113 + 8 * p + 0))
        rw [a.1]
      · exact a.2.2.2.2.2.2.1.symm
      · exact a.2.2.2.2.2.2.2.symm
    · have hw1 : ¬ (clHas C 11 p ∧ 0 ≤ w ∧ w ≤ 8) := fun z => hw z.2
      have hw2 : ¬ ((0 ≤ p ∧ p < N 1 1) ∧ 0 ≤ w ∧ w ≤ 8) := fun z => hw z.2
      simp only [if_pos q, if_neg hw1, if_neg hw2]
      refine ⟨?_, h.fnd hk (by omega) rfl⟩
      rw [if_neg (by omega), if_neg (by omega), if_neg (by omega), if_neg (by omega), if_neg (by omega), if_neg (by omega), if_neg (by omega), if_neg (by omega), if_neg (by omega)]
  · have q1 : ¬ (clHas C 11 p ∧ 0 ≤ w ∧ w ≤ 8) := fun z => q z.1
    have q' : ¬ ((0 ≤ p ∧ p < N 1 1) ∧ 0 ≤ w ∧ w ≤ 8) := fun z => q ((h.1.has p).1 z.1)
    simp only [if_neg q, if_neg q', if_neg q1]
    exact ⟨rfl, h.fnd hk (by omega) rfl⟩
theorem Wo.upf {p v : Int} (h : Wo K C N) (hk : kI K) (hp : 0 ≤ p ∧ p < C 11 1) (f : Nat) (hf : (f = 0 ∧ 0 ≤ v ∧ v ≤ 6) ∨ (f = 1 ∧ 0 ≤ v ∧ v < 10) ∨ (f = 2 ∧ 0 ≤ v ∧ v < 10) ∨ (f = 4 ∧ 0 ≤ v ∧ v ≤ 9)) (i : Int) (hi : i = 113 + 8 * p + f) (k : Nat) (hkk : k = 11 + (1 + f)) : Wo (K + 100) (up C k p v) (up N 1 i v) := by
  refine h.cu (by omega) ?_ (fun j a b c => up_n (by omega)) ⟨by rw [up_n (by omega)], by rw [up_n (by omega)]⟩ (fun j _ a _ _ => up_n a) ⟨rfl, rfl⟩
  rw [up_s]
  exact (h.1.upf hp f hf i hi k hkk).le (by omega)
theorem w_change {p w v : Int} (h : Wo K C N) (hk : kI K) : Sa K (changeR C p w v) (nchR N p w v) (changeM C p w v) (nchM N p w v) := by
  unfold changeR nchR changeM nchM
  by_cases q : clHas C 11 p
  · have q' := (h.1.has p).2 q
    have a := h.1.2.1.2.2 p q.1 q.2.1
    have hL := fun g : plc v => RoR.let h.1.2.1 h.1.2.2.1 h.1.1.1 ⟨q.1, q.2.1⟩ g
    have no : ∀ u : Int, ¬ chGd u v → ¬ ((0 ≤ p ∧ p < N 1 1) ∧ chGd u v) := fun u g z => g z.2
    simp only [if_pos q]
    by_cases w0 : w = 0
    · subst w0
      rw [if_pos (show (0 : Int) = 0 from rfl), if_pos (show (0 : Int) = 0 from rfl)]
      by_cases g : 0 ≤ v ∧ v < 7
      · have g' : (0 ≤ p ∧ p < N 1 1) ∧ chGd 0 v := ⟨q', Or.inl ⟨rfl, by omega, by omega⟩⟩
        have n1 : ¬ ((0 : Int) = 1 ∧ ¬ ltN N p v (pmN N p)) := fun z => absurd z.1 (by decide)
        rw [if_pos g, if_pos g, if_pos g', if_pos g', tI_n n1, tI_n n1]
        exact ⟨a.1.symm, h.upf hk ⟨q.1, q.2.1⟩ 0 (by omega) _ (by omega) _ rfl⟩
      · have g' := no 0 (by unfold chGd; omega)
        rw [if_neg g, if_neg g, if_neg g', if_neg g']
        exact ⟨rfl, h.fnd hk (by omega) rfl⟩
    simp only [if_neg w0]
    by_cases w1 : w = 1
    · subst w1
      rw [if_pos (show (1 : Int) = 1 from rfl), if_pos (show (1 : Int) = 1 from rfl)]
      by_cases g : 0 ≤ v ∧ v < 10
      · have g' : (0 ≤ p ∧ p < N 1 1) ∧ chGd 1 v := ⟨q', Or.inr (Or.inl ⟨Or.inl rfl, g⟩)⟩
        rw [if_pos g, if_pos g, if_pos g', if_pos g']
        unfold moveToR moveToM
        by_cases l : letC C 11 1 p v
        · have n1 : ¬ ((1 : Int) = 1 ∧ ¬ ltN N p v (pmN N p)) := fun z => z.2 ((hL g).2 l)
          rw [if_pos l, if_pos l, tI_n n1, tI_n n1]
          exact ⟨a.2.1.symm, h.upf hk ⟨q.1, q.2.1⟩ 1 (by omega) _ (by omega) _ rfl⟩
        · have n1 : (1 : Int) = 1 ∧ ¬ ltN N p v (pmN N p) := ⟨rfl, fun z => l ((hL g).1 z)⟩
          rw [if_neg l, if_neg l, tI_p n1, tI_p n1]
          exact ⟨rfl, h.fnd hk (by omega) rfl⟩
      · have g' := no 1 (by unfold chGd; omega)
        rw [if_neg g, if_neg g, if_neg g', if_neg g']
        exact ⟨rfl, h.fnd hk (by omega) rfl⟩
    simp only [if_neg w1]
    by_cases w2 : w = 2
    · subst w2
      rw [if_pos (show (2 : Int) = 2 from rfl), if_pos (show (2 : Int) = 2 from rfl)]
      by_cases g : 0 ≤ v ∧ v < 10
      · have g' : (0 ≤ p ∧ p < N 1 1) ∧ chGd 2 v := ⟨q', Or.inr (Or.inl ⟨Or.inr rfl, g⟩)⟩
        have n1 : ¬ ((2 : Int) = 1 ∧ ¬ ltN N p v (pmN N p)) := fun z => absurd z.1 (by decide)
        rw [if_pos g, if_pos g, if_pos g', if_pos g', tI_n n1, tI_n n1]
        exact ⟨a.2.2.1.symm, h.upf hk ⟨q.1, q.2.1⟩ 2 (by omega) _ (by omega) _ rfl⟩
      · have g' := no 2 (by unfold chGd; omega)
        rw [if_neg g, if_neg g, if_neg g', if_neg g']
        exact ⟨rfl, h.fnd hk (by omega) rfl⟩
    simp only [if_neg w2]
    by_cases w4 : w = 4
    · subst w4
      rw [if_pos (show (4 : Int) = 4 from rfl), if_pos (show (4 : Int) = 4 from rfl)]
      by_cases g : 0 ≤ v ∧ v ≤ 9
      · have g' : (0 ≤ p ∧ p < N 1 1) ∧ chGd 4 v := ⟨q', Or.inr (Or.inr ⟨rfl, g⟩)⟩
        have n1 : ¬ ((4 : Int) = 1 ∧ ¬ ltN N p v (pmN N p)) := fun z => absurd z.1 (by decide)
        rw [if_pos g, if_pos g, if_pos g', if_pos g', tI_n n1, tI_n n1]
        exact ⟨a.2.2.2.2.1.symm, h.upf hk ⟨q.1, q.2.1⟩ 4 (by omega) _ (by omega) _ rfl⟩
      · have g' := no 4 (by unfold chGd; omega)
        rw [if_neg g, if_neg g, if_neg g', if_neg g']
        exact ⟨rfl, h.fnd hk (by omega) rfl⟩
    simp only [if_neg w4]
    have g' := no w (by unfold chGd; omega)
    simp only [if_neg g']
    exact ⟨rfl, h.fnd hk (by omega) rfl⟩
  · have q' : ¬ ((0 ≤ p ∧ p < N 1 1) ∧ chGd w v) := fun z => q ((h.1.has p).1 z.1)
    simp only [if_neg q, if_neg q']
    exact ⟨rfl, h.fnd hk (by omega) rfl⟩
theorem w_cut {p : Int} (h : Wo K C N) (hk : kI K) : Sa K (cutR C p) (ncuR N p) (cutM C p) (ncuM N p) := by
  unfold cutR ncuR cutM ncuM
  by_cases q : clHas C 11 p
  · have q' := (h.1.has p).2 q
    have a := h.1.2.1.2.2 p q.1 q.2.1
    have i := h.1.1.1.2.2 p q.1 q.2.1
    have hn := h.1.cn
    simp only [if_pos q, if_pos q', a.2.2.2.1]
    by_cases m : clHas C 11 (C (11 + 4) p)
    · have m' : 0 ≤ C (11 + 4) p := m.1
      simp only [if_pos m, if_pos m']
      exact ⟨rfl, h.ti hk.1 (fun k k1 k2 => prtC_b k1) (frN_I h.inv.2 q').2 (PeInv_prt h.1.1.1) (frN_I h.inv.2 q').1 (h.1.2.1.prt h.1.1.1 ⟨q.1, q.2.1⟩) (h.1.2.2.2.1.prt h.1.1.1 ⟨q.1, q.2.1⟩)⟩
    · have m' : ¬ 0 ≤ C (11 + 4) p := fun z => m ⟨z, by omega, by omega⟩
      simp only [if_neg m, if_neg m']
      exact ⟨rfl, h.fnd hk (by omega) rfl⟩
  · have q' : ¬ (0 ≤ p ∧ p < N 1 1) := fun z => q ((h.1.has p).1 z)
    simp only [if_neg q, if_neg q']
    exact ⟨rfl, h.fnd hk (by omega) rfl⟩
theorem w_rope {p : Int} (h : Wo K C N) (hk : kI K) : Sa K (ropeR C p) (nroR N p) (ropeM C p) (nroM N p) := by
  unfold ropeR nroR ropeM nroM
  by_cases q : clHas C 11 p
  · have q' := (h.1.has p).2 q
    have a := h.1.2.1.2.2 p q.1 q.2.1
    have i := h.1.1.1.2.2 p q.1 q.2.1
    have hn := h.1.cn
    simp only [if_pos q, if_pos q', a.2.2.2.1]
    by_cases m : clHas C 11 (C (11 + 4) p)
    · have m' : 0 ≤ C (11 + 4) p := m.1
      simp only [if_pos m, if_pos m']
      exact ⟨(a.2.2.2.2.2.1 m').symm, h.le (by omega)⟩
    · have m' : ¬ 0 ≤ C (11 + 4) p := fun z => m ⟨z, by omega, by omega⟩
      simp only [if_neg m, if_neg m']
      exact ⟨rfl, h.fnd hk (by omega) rfl⟩
  · have q' : ¬ (0 ≤ p ∧ p < N 1 1) := fun z => q ((h.1.has p).1 z)
    simp only [if_neg q, if_neg q']
    exact ⟨rfl, h.fnd hk (by omega) rfl⟩
theorem w_tie {p s n : Int} (h : Wo K C N) (hk : kI K) : Sa K (tieR C p s n) (ntiR N p s n) (tieM C p s n) (ntiM N p s n) := by
  unfold tieR ntiR tieM ntiM
  by_cases q : clHas C 11 p ∧ clHas C 11 s ∧ p ≠ s ∧ 0 ≤ n ∧ n ≤ 999
  · have q1 := (h.1.has p).2 q.1
    have q2 := (h.1.has s).2 q.2.1
    have q' : tiGd N p s n := ⟨⟨q1, q2, q.2.2.1⟩, q.2.2.2⟩
    have a := h.1.2.1.2.2 p q.1.1 q.1.2.1
    have c := h.1.2.1.2.2 s q.2.1.1 q.2.1.2.1
    have i := h.1.1.1.2.2 p q.1.1 q.1.2.1
    have j := h.1.1.1.2.2 s q.2.1.1 q.2.1.2.1
    have hI2 : PeInv (joiC C 11 p s n) 11 := PeInv_joi h.1.1.1 q.1 q.2.1 q.2.2.2
    have hN2 := teN_I h.inv.2 q1 q2 q.2.2.2
    have hP2 : PeR (joiC C 11 p s n) 11 (teN N p s n 1) := h.1.2.1.joi h.1.1.1 ⟨q.1.1, q.1.2.1⟩ ⟨q.2.1.1, q.2.1.2.1⟩ q.2.2.1
    have hM2 : MtS (joiC C 11 p s n) 11 := h.1.2.2.2.1.joi h.1.1.1 ⟨q.1.1, q.1.2.1⟩ ⟨q.2.1.1, q.2.1.2.1⟩ q.2.2.1
    have hW := h.ti hk.1 (C' := joiC C 11 p s n) (N' := teN N p s n) (fun k k1 k2 => joiC_b k1 k2) hN2.2 hI2 hN2.1 hP2 hM2
    simp only [if_pos q, if_pos q']
    refine ⟨?_, hW⟩
    unfold tdR
    have e11 : joiC C 11 p s n 11 = C 11 := joiC_b (by decide) (by decide)
    have e2 : joiC C 11 p s n (11 + 2) = C (11 + 2) := joiC_b (by decide) (by decide)
    have e4 : joiC C 11 p s n (11 + 4) p = s := by
      unfold joiC
      rw [up_n (by decide), up_n (by decide), up_nn (Or.inr q.2.2.1), up_ss]
    have L := RoR.lt (t := C (11 + 2) s) hW.1.2.1 hW.1.2.2.1 hW.1.1.1 (p := p) (w := C (11 + 2) p) (by rw [e11]; exact ⟨q.1.1, q.1.2.1⟩) i.2.1 j.2.1
    refine bI_eq ?_
    rw [a.2.1, c.2.1, L]
    unfold letC
    rw [e4, e2]
  · have q' : ¬ tiGd N p s n := fun z => q ⟨(h.1.has p).1 z.1.1, (h.1.has s).1 z.1.2.1, z.1.2.2, z.2⟩
    simp only [if_neg q, if_neg q']
    exact ⟨rfl, h.fnd hk (by omega) rfl⟩
end CALLS
