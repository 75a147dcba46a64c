/-! both worlds: whom one pairs with -/
section PA
variable {n : Nat} {A : Int → Int → Int} {La Ca G Lb Wb : Int → Int} {s : Int}
theorem fpS2 {k : Int} (hn : n ≤ 8) (hR : RoS La Ca Lb Wb k) (hB : prB Lb k) (hs : 0 < s ∧ s < 256) (hk : s ≤ k) (hsn : s < bshl 1 n) (hA : ∀ a c : Int, 0 ≤ a → a < n → 0 ≤ c → c < n → 0 ≤ A a c ∧ A a c ≤ 999) (hG : ∀ a c : Int, 0 ≤ a → a < n → 0 ≤ c → c < n → G (a * 8 + c) = A a c) (hx : ∃ o : Int, 0 ≤ o ∧ o < n ∧ mtQ A Lb s o) : fpF La G n s (lowN s) = (if mtO A Lb s = lowN s then -1 else mtO A Lb s) := by
  have hl := lowN_x hs
  have hln := inS_lt (n := (n : Int)) (by omega) ⟨by omega, hsn⟩ hl.1 hl.2.1
  have m := mtO_x (n := (n : Int)) (by omega) hs hx
  have s1 := smS1 (A := A) (G := G) hn hR hB hs (by omega) hA hln
  have eL : loF La s = Lb s := by
    unfold loF
    rw [if_pos (by omega)]
    exact (hR s (by omega) hk).1
  have e1 : fpP La G s (lowN s) (-1) ↔ mtQ A Lb s (lowN s) := by
    unfold fpP mtQ
    rw [s1.1, eL]
    constructor
    · rintro ⟨z1, z2⟩
      refine ⟨⟨hl.2.1, Or.inr ?_⟩, z2⟩
      rcases z1 with z | z
      · exact od_b.1 z.2
      · exact absurd rfl z.1
    · rintro ⟨z1, z2⟩
      refine ⟨Or.inl ⟨rfl, ?_⟩, z2⟩
      rcases z1.2 with z | z
      · exact absurd rfl z
      · exact od_b.2 z
  have e2 : ∀ o : Int, 0 ≤ o → o < n → o ≠ lowN s → (fpP La G s (lowN s) o ↔ mtQ A Lb s o) := by
    intro o o0 o1 ol
    have q := smS (A := A) (G := G) hn hR hB hs (by omega) hA hG hln ⟨o0, o1⟩ ol
    unfold fpP mtQ
    rw [q.1, eL]
    constructor
    · rintro ⟨z1, z2⟩
      rcases z1 with z | z
      · omega
      · exact ⟨⟨z.2.2, Or.inl ol⟩, z2⟩
    · rintro ⟨z1, z2⟩
      exact ⟨Or.inr ⟨by omega, ol, z1.1⟩, z2⟩
  unfold fpF
  by_cases g : mtO A Lb s = lowN s
  · rw [if_pos g]
    refine fsF_first _ (-1) (-1) (-1) (by omega) (by omega) ?_ (fun y y0 y1 => by omega)
    rw [g] at m
    exact e1.2 m.2.1
  · rw [if_neg g]
    refine fsF_first _ (-1) (-1) (mtO A Lb s) (by omega) (by omega) ((e2 _ (by omega) m.1.2 g).2 m.2.1) (fun y y0 y1 z => ?_)
    have no := m.2.2 (lowN s) (Int.le_refl _) (by omega)
    by_cases y2 : y = -1
    · subst y2
      exact no (e1.1 z)
    · by_cases y3 : y = lowN s
      · rcases z.1 with z1 | z1
        · exact y2 z1.1
        · exact z1.2.1 y3
      · have q := (e2 y (by omega) (by omega) y3).1 z
        by_cases y4 : lowN s ≤ y
        · exact m.2.2 y y4 y1 q
        · exact hl.2.2 y (by omega) (by omega) q.1.1
theorem poS {k p : Int} (hn : n ≤ 8) (hR : RoS La Ca Lb Wb k) (hB : prB Lb k) (hk8 : k < 256 ∧ k < bshl 1 n) (hA : ∀ a c : Int, 0 ≤ a → a < n → 0 ≤ c → c < n → 0 ≤ A a c ∧ A a c ≤ 999) (hG : ∀ a c : Int, 0 ≤ a → a < n → 0 ≤ c → c < n → G (a * 8 + c) = A a c) (hx : ∀ s : Int, 0 < s → s ≤ k → ∃ o : Int, 0 ≤ o ∧ o < n ∧ mtQ A Lb s o) (hp : 0 ≤ p ∧ p < n) : ∀ (d i j : Nat) (s : Int), i + d = n → 0 ≤ s → s ≤ k → s ≤ j → inS p s → (∀ q : Int, 0 ≤ q → q < i → ¬ inS q s) → poF La G n p d i s = mtN A Lb p j s := by
  intro d
  induction d with
  | zero =>
    intro i j s hi h0 h1 h2 h3 h4
    exact absurd h3 (h4 p hp.1 (by omega))
  | succ d ih =>
    intro i j s hi h0 h1 h2 h3 h4
    have s0 : 0 < s := by
      by_cases g : s = 0
      · rw [g] at h3
        exact absurd h3 (inS_0 ⟨hp.1, by omega⟩)
      · omega
    have hs : 0 < s ∧ s < 256 := by omega
    have hl := lowN_x hs
    unfold poF
    by_cases g : inS (i : Int) s
    · have el : lowN s = (i : Int) := by
        by_cases a : lowN s < i
        · exact absurd hl.2.1 (h4 _ hl.1.1 a)
        · by_cases c : (i : Int) < lowN s
          · exact absurd g (hl.2.2 _ (by omega) c)
          · omega
      have f := fpS2 (La := La) (G := G) hn hR hB hs h1 (by omega) hA hG (hx s s0 h1)
      have m := mtO_x (n := (n : Int)) (by omega) hs (hx s s0 h1)
      rw [tI_p g]
      rw [el] at f
      cases j with
      | zero => omega
      | succ j =>
        unfold mtN
        rw [el, f]
        by_cases a : (i : Int) = p
        · rw [if_pos a, if_pos a]
        · rw [if_neg a, if_neg a]
          by_cases c : mtO A Lb s = p
          · have c2 : mtO A Lb s ≠ (i : Int) := by omega
            rw [if_neg c2, if_pos c, if_pos c]
          · have w : woF s (i : Int) (if mtO A Lb s = (i : Int) then -1 else mtO A Lb s) = wiN s (mtO A Lb s) := by
              by_cases e : mtO A Lb s = (i : Int)
              · rw [if_pos e, e, ← el]
                exact woF_1
              · rw [if_neg e, ← el]
                exact woF_w (by omega)
            rw [w, if_neg c, if_neg (by split <;> omega)]
            have lt := wiN_lt hs (o := mtO A Lb s) (by omega)
            have mem := fun q (hq : 0 ≤ q ∧ q < 8) => wiN_i hs (o := mtO A Lb s) (q := q) (by omega) hq
            rw [show ((i : Int) + 1) = ((i + 1 : Nat) : Int) by omega]
            refine ih (i + 1) j (wiN s (mtO A Lb s)) (by omega) lt.1 (by omega) (by omega) ((mem p ⟨hp.1, by omega⟩).2 ⟨h3, by omega, fun z => c z.symm⟩) (fun q q0 q1 z => ?_)
            have z2 := (mem q ⟨q0, by omega⟩).1 z
            by_cases e : q = (i : Int)
            · exact z2.2.1 (by omega)
            · exact h4 q q0 (by omega) z2.1
    · rw [tI_n g]
      rw [show ((i : Int) + 1) = ((i + 1 : Nat) : Int) by omega]
      refine ih (i + 1) j s (by omega) h0 h1 h2 h3 (fun q q0 q1 z => ?_)
      by_cases e : q = (i : Int)
      · subst e; exact g z
      · exact h4 q q0 (by omega) z
end PA
section CALLS
variable {K : Int} {C N : xMem}
theorem w_mate {p : Int} (h : Wo K C N) (hx : xR C) (hk : kI K) : Sa K (mateR C p) (nmtR N p) (mateM C p) (nmtM N p) := by
  unfold mateR nmtR mateM nmtM
  by_cases q : clHas C 11 p
  · have q' := (h.1.has p).2 q
    have hn := h.1.cn
    have n1 := h.1.n1
    have hev := evF_R hn
    have f := fpS h hx
    rw [if_pos q, if_pos q, if_pos q', if_pos q', f.2.1, n1]
    refine ⟨?_, (h.rc hx).le (by omega)⟩
    have g8 : (((C 11 1).toNat : Nat) : Int) = C 11 1 := by omega
    have hB := fpK_B h.inv.2
    rw [n1] at hB
    have r := poS (n := (C 11 1).toNat) (A := apN N) (La := rcC C 44) (Ca := rcC C 45) (G := rcC C 46) (Lb := (fpK N).1) (Wb := (fpK N).2) (k := evF (C 11 1)) (p := p) (by omega) f.1 hB (by rw [g8]; unfold evF at hev ⊢; omega) (fun a c a0 a1 c0 c1 => apN_R h.inv.2 a c a0 (by rw [n1]; omega) c0 (by rw [n1]; omega)) (fun a c a0 a1 c0 c1 => f.2.2.2 a c a0 (by omega) c0 (by omega)) (fun s s0 s1 => by
      obtain ⟨o, o1, o2, o3, o4⟩ := fpK_x h.inv.2 s s0 (by rw [n1]; exact s1)
      exact ⟨o, o1, by rw [g8, ← n1]; exact o2, o3, o4⟩) (by rw [g8]; exact ⟨q.1, q.2.1⟩) (C 11 1).toNat 0 255 (evF (C 11 1)) (by omega) hev.1 (Int.le_refl _) (by omega) (inS_all hn ⟨q.1, q.2.1⟩) (fun y y0 y1 => by omega)
    rw [g8] at r
    exact r
  · have q' : ¬ (0 ≤ p ∧ p < N 1 1) := fun z => q ((h.1.has p).1 z)
    rw [if_neg q, if_neg q, if_neg q', if_neg q']
    exact ⟨rfl, h.fnd hk (by omega) rfl⟩
end CALLS
