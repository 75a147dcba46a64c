/-! both worlds: cuts, freed -/
theorem inS_div {a p : Nat} (ha : a < 256) (hp : p < 8) : inS (p : Int) (a : Int) ↔ a / 2 ^ p % 2 = 1 := by
  rw [inS_nat (by omega) (by omega), Nat.testBit_eq_decide_div_mod_eq, decide_eq_true_eq]
def cnS (s : Int) (k : Nat) : Int := xfo (fun (q acc : Int) => if inS q s then acc + 1 else acc) 0 k
theorem cnS_s (s : Int) (k : Nat) : cnS s (k + 1) = if inS (k : Int) s then cnS s k + 1 else cnS s k := rfl
theorem cnS_8 {s : Int} (h : 0 ≤ s ∧ s < 256) : cnS s 8 = pc8 s := by
  obtain ⟨m, rfl⟩ := Int.eq_ofNat_of_zero_le h.1
  have hm : m < 256 := by omega
  rw [pc8_N]
  unfold pcN
  have e : ∀ p : Nat, p < 8 → cnS (m : Int) (p + 1) = cnS (m : Int) p + ((m / 2 ^ p % 2 : Nat) : Int) := by
    intro p hp
    have d := inS_div hm hp
    have l : m / 2 ^ p % 2 < 2 := Nat.mod_lt _ (by decide)
    rw [cnS_s]
    by_cases g : inS (p : Int) (m : Int)
    · rw [if_pos g, d.1 g]; rfl
    · rw [if_neg g]
      have : m / 2 ^ p % 2 = 0 := by
        have := fun z => g (d.2 z)
        omega
      rw [this]
      simp
  have h0 := e 0 (by decide)
  have h1 := e 1 (by decide)
  have h2 := e 2 (by decide)
  have h3 := e 3 (by decide)
  have h4 := e 4 (by decide)
  have h5 := e 5 (by decide)
  have h6 := e 6 (by decide)
  have h7 := e 7 (by decide)
  have z : cnS (m : Int) 0 = 0 := rfl
  simp only [Nat.reduceAdd, Nat.reducePow, Nat.div_one] at h0 h1 h2 h3 h4 h5 h6 h7
  omega
theorem inS_sub {s R : Int} (hs : 0 ≤ s ∧ s < 256) (hR : 0 ≤ R ∧ R < 256) : band s R = s ↔ ∀ q, 0 ≤ q → q < 8 → inS q s → inS q R := by
  constructor
  · intro h q q0 q1 z
    rw [← h] at z
    exact ((inS_band hs hR ⟨q0, q1⟩).1 z).2
  · intro h
    obtain ⟨m, rfl⟩ := Int.eq_ofNat_of_zero_le hs.1
    obtain ⟨r, rfl⟩ := Int.eq_ofNat_of_zero_le hR.1
    rw [band_nat m r (by omega) (by omega)]
    have : m &&& r = m := by
      apply Nat.eq_of_testBit_eq
      intro i
      rw [Nat.testBit_and]
      by_cases hi : i < 8
      · by_cases g : m.testBit i = true
        · have := h i (by omega) (by omega) ((inS_nat (by omega) (by omega)).2 g)
          rw [g, (inS_nat (by omega) (by omega)).1 this]
          rfl
        · simp at g
          rw [g]
          rfl
      · have : m.testBit i = false := Nat.testBit_lt_two_pow (Nat.lt_of_lt_of_le (show m < 2 ^ 8 by omega) (Nat.pow_le_pow_right (by decide) (by omega)))
        rw [this]
        rfl
    rw [this]
theorem inS_pow {s : Int} {n : Nat} (hs : 0 ≤ s ∧ s < 256) (hn : n ≤ 8) (h : ∀ q : Int, 0 ≤ q → q < 8 → inS q s → q < n) : s < ((2 ^ n : Nat) : Int) := by
  obtain ⟨m, rfl⟩ := Int.eq_ofNat_of_zero_le hs.1
  have : m < 2 ^ n := by
    apply Nat.lt_pow_two_of_testBit
    intro i hi
    by_cases h8 : i < 8
    · by_cases g : m.testBit i = true
      · have := h i (by omega) (by omega) ((inS_nat (by omega) (by omega)).2 g)
        omega
      · simpa using g
    · exact Nat.testBit_lt_two_pow (Nat.lt_of_lt_of_le (show m < 2 ^ 8 by omega) (Nat.pow_le_pow_right (by decide) (by omega)))
  omega
section CALLS
variable {K : Int} {C N : xMem}
theorem pcS {s : Int} (h : Wo K C N) (hx : xR C) : ∀ k : Nat, (k : Int) ≤ C 11 1 → TrR K (pcF s (trC C) k) (cfF N s k).2 := by
  have hT := TrR.of h hx
  intro k
  induction k with
  | zero => intro _; exact hT
  | succ k ih =>
    intro hk
    have i := ih (by omega)
    have p := (pcF_in (s := s) hT.1 k).2
    have e31 : pcF s (trC C) k 31 1 = C 11 1 := by rw [p 31 (by decide), trC_1]
    rw [pcF_s, cfF_s]
    unfold pcG cfG
    by_cases g : inS (k : Int) s
    · rw [tI_p g, if_pos g]
      dsimp only
      have I := frN_I (p := (k : Int)) i.2.1 (by rw [i.n, e31]; omega)
      have y : wyr (frN (cfF N s k).2 k 1) = wyr ((cfF N s k).2 1) := by
        funext j
        unfold wyr
        by_cases hj : 0 ≤ j ∧ j < 100
        · rw [if_pos hj, if_pos hj, I.2.2.1 _ (by omega)]
        · rw [if_neg hj, if_neg hj]
      refine ⟨PIn_of (prtC_R i.1.1) (PeInv_prt i.1.2.1) i.1 (fun k h1 h2 => prtC_n (by omega)), I.1, i.2.2.1.prt i.1.2.1 (by rw [e31]; omega), (i.2.2.2.1.n y).c (fun k a b => prtC_b (by omega)), ?_⟩
      rw [prtC_b (by omega)]
      exact i.2.2.2.2
    · rw [tI_n g, if_neg g]
      exact i
theorem tcS {s : Int} (h : Wo K C N) (hx : xR C) (hk : kI K) (hs : sOk C s) : tcN C s = fcR N s := by
  have hn := h.1.cn
  have hT := TrR.of h hx
  have e : ∀ j : Nat, (C 11 1).toNat + j ≤ 8 → pcF s (trC C) ((C 11 1).toNat + j) = pcF s (trC C) (C 11 1).toNat := by
    intro j
    induction j with
    | zero => intro _; rfl
    | succ j ih =>
      intro hj
      rw [show (C 11 1).toNat + (j + 1) = (C 11 1).toNat + j + 1 by omega, pcF_s]
      unfold pcG
      rw [tI_n (fun z => by have := hs.2 _ (by omega) (by omega) z; omega)]
      exact ih (by omega)
  have e8 := e (8 - (C 11 1).toNat) (by omega)
  rw [show (C 11 1).toNat + (8 - (C 11 1).toNat) = 8 by omega] at e8
  have P := pcS (s := s) h hx (C 11 1).toNat (by omega)
  have S := siS H31 P.1 P.2.1 P.2.2.1 P.2.2.2.1 60 (by have := P.2.2.2.2; omega)
  unfold tcN tcM fcR
  rw [show pcF s (bcC C 31 11) 8 = pcF s (trC C) 8 from rfl, e8, h.1.n1, S.1.th]
theorem cfS {s : Int} (h : Wo K C N) (hl : lsN N s (N 1 1).toNat) : ∀ k : Nat, (k : Int) ≤ C 11 1 → (cfF N s k).1 = cnS s k ∧ ∀ q : Int, (k : Int) ≤ q → q < C 11 1 → inS q s → (cfF N s k).2 1 (113 + 8 * q + 3) = N 1 (113 + 8 * q + 3) := by
  have hn := h.1.cn
  have n1 := h.1.n1
  intro k
  induction k with
  | zero => intro _; exact ⟨rfl, fun _ _ _ _ => rfl⟩
  | succ k ih =>
    intro hk
    obtain ⟨i1, i2⟩ := ih (by omega)
    rw [cfF_s, cnS_s]
    unfold cfG
    by_cases g : inS (k : Int) s
    · rw [if_pos g, if_pos g]
      dsimp only
      have m1 := i2 k (by omega) (by omega) g
      have l := hl k (by omega) (by rw [n1]; omega) g
      rw [m1, if_pos (by omega), i1]
      refine ⟨rfl, fun q q0 q1 z => ?_⟩
      have i3 := i2 q (by omega) q1 z
      have lq := hl q (by omega) (by rw [n1]; omega) z
      have a := h.1.2.1.2.2 k (by omega) (by omega)
      have i := h.1.1.1.2.2 k (by omega) (by omega)
      have sy := h.1.2.2.2.1 k (by omega) (by omega)
      have aq := h.1.2.1.2.2 q (by omega) q1
      have ne : q ≠ N 1 (113 + 8 * (k : Int) + 3) := by
        intro w
        rw [a.2.2.2.1] at w l
        have := (sy (by omega)).1
        rw [← w] at this
        rw [aq.2.2.2.1] at lq
        omega
      have j0 : 0 ≤ N 1 (113 + 8 * (k : Int) + 3) := by omega
      unfold frN
      rw [m1, if_pos j0, up_nn (by omega), up_nn (by omega), up_nn (by omega), up_nn (by omega)]
      exact i3
    · rw [if_neg g, if_neg g]
      exact ⟨i1, fun q q0 q1 z => i2 q (by omega) q1 z⟩
theorem fcK_S {s : Int} (h : Wo K C N) (hl : lsN N s (N 1 1).toNat) (hs : sOk C s) : fcK N s = pc8 s := by
  have hn := h.1.cn
  have n1 := h.1.n1
  have e : ∀ j : Nat, (C 11 1).toNat + j ≤ 8 → cnS s ((C 11 1).toNat + j) = cnS s (C 11 1).toNat := by
    intro j
    induction j with
    | zero => intro _; rfl
    | succ j ih =>
      intro hj
      rw [show (C 11 1).toNat + (j + 1) = (C 11 1).toNat + j + 1 by omega, cnS_s]
      rw [if_neg (fun z => by have := hs.2 _ (by omega) (by omega) z; omega)]
      exact ih (by omega)
  have e8 := e (8 - (C 11 1).toNat) (by omega)
  rw [show (C 11 1).toNat + (8 - (C 11 1).toNat) = 8 by omega] at e8
  unfold fcK
  rw [n1, (cfS h hl _ (by omega)).1, ← e8, cnS_8 hs.1]
theorem lsS {s : Int} (h : Wo K C N) (hs : 0 ≤ s ∧ s < 256) (hb : s < ((2 ^ (C 11 1).toNat : Nat) : Int)) : band s (lmS C 11) = s ↔ lsN N s (N 1 1).toNat := by
  have hn := h.1.cn
  have n1 := h.1.n1
  have L := lmS_R (M := C) (b := 11) hn
  rw [inS_sub hs L.1]
  have hbs : s < bshl 1 (C 11 1) := by
    have := bshl_n (C 11 1).toNat (by omega)
    rw [show (((C 11 1).toNat : Nat) : Int) = C 11 1 by omega] at this
    rw [this]; exact hb
  constructor
  · intro g q q0 q1 z
    have w := (L.2 q ⟨q0, by omega⟩).1 (g q q0 (by omega) z)
    rw [(h.1.2.1.2.2 q q0 w.1).2.2.2.1]
    exact w.2
  · intro g q q0 q1 z
    have lt := inS_lt hn ⟨hs.1, hbs⟩ ⟨q0, q1⟩ z
    refine (L.2 q ⟨q0, q1⟩).2 ⟨lt, ?_⟩
    have w := g q q0 (by rw [n1]; omega) z
    rw [(h.1.2.1.2.2 q q0 lt).2.2.2.1] at w
    exact w
theorem cuS (h : Wo K C N) (hx : xR C) (hk : kI K) : ∀ k : Nat, k + 1 ≤ 2 ^ (C 11 1).toNat → (cuF C k).1 = (fcF N (k + 1)).1 ∧ (cuF C k).2.1 = (fcF N (k + 1)).2 ∧ (fcF N (k + 1)).2 = fcR N (fcF N (k + 1)).1 ∧ Wo K (cuF C k).2.2 N ∧ xR (cuF C k).2.2 := by
  have hn := h.1.cn
  have n1 := h.1.n1
  have p8 : (2 : Nat) ^ (C 11 1).toNat ≤ 2 ^ 8 := Nat.pow_le_pow_right (by decide) (by omega)
  have p256 : (2 : Nat) ^ 8 = 256 := by decide
  intro k
  induction k with
  | zero =>
    intro _
    have t0 := tcS (s := 0) h hx hk sOk_0
    have r0 : 0 ≤ fcR N 0 ∧ fcR N 0 ≤ 8 := pc8_R
    have l0 : lsN N ((0 : Nat) : Int) (N 1 1).toNat := fun q q0 q1 z => by
      exact absurd z (inS_0 ⟨q0, by rw [n1] at q1; omega⟩)
    have T := tcM_in (s := 0) hx h.inv.1
    have e : fcF N (0 + 1) = (0, fcR N 0) := by
      rw [fcF_s]
      have e0 : fcF N 0 = (-1, -1) := rfl
      rw [e0]
      unfold fcG
      rw [tI_p l0]
      dsimp only
      rw [tI_p (Or.inl (by show (-1 : Int) < fcR N 0; omega))]
      show ((0 : Int), max (-1) (fcR N 0)) = _
      rw [Int.max_eq_right (by omega)]
    rw [e]
    exact ⟨rfl, t0, rfl, h.trE T.2, T.1.1⟩
  | succ k ih =>
    intro hk2
    obtain ⟨i1, i2, i3, i4, i5⟩ := ih (by omega)
    have o := cuF_o hx h.inv.1 k (by omega)
    have o2 := cuF_o hx h.inv.1 (k + 1) (by omega)
    rw [cuF_s] at o2 ⊢
    rw [fcF_s]
    have ek : ((k + 1 : Nat) : Int) = (k : Int) + 1 := by omega
    rw [ek]
    have hl := lsS (s := (k : Int) + 1) h (by omega) (by omega)
    unfold cuG at o2 ⊢
    unfold fcG
    generalize hst : cuF C k = st at i1 i2 i3 i4 i5 o o2 ⊢
    generalize fcF N (k + 1) = rt at i1 i2 i3 ⊢
    obtain ⟨b1, b2, b3⟩ := st
    obtain ⟨r1, r2⟩ := rt
    dsimp only at i1 i2 i3 i4 i5 o o2 ⊢
    subst i1 i2
    by_cases g : band ((k : Int) + 1) (lmS C 11) = (k : Int) + 1
    · have g' := hl.1 g
      have so := sOk_band h.1.1.1 (s := (k : Int) + 1) (by omega) g
      have o1 : b3 11 = C 11 := o.1 11 (by omega)
      have so2 : sOk b3 ((k : Int) + 1) := ⟨so.1, fun q q0 q1 z => by rw [o1]; exact so.2 q q0 q1 z⟩
      have t := tcS i4 i5 hk so2
      have kk := fcK_S h g' so
      have T := tcM_in (s := (k : Int) + 1) i5 i4.inv.1
      rw [tI_p g, tI_p g', t, kk]
      dsimp only
      refine ⟨rfl, ?_, ?_, i4.trE T.2, T.1.1⟩
      · by_cases w : b2 < fcR N ((k : Int) + 1) ∨ (fcR N ((k : Int) + 1) = b2 ∧ pc8 ((k : Int) + 1) < pc8 b1)
        · rw [tI_p w]
          rcases w with w | w <;> omega
        · rw [tI_n w]
          have : ¬ b2 < fcR N ((k : Int) + 1) := fun z => w (Or.inl z)
          omega
      · by_cases w : b2 < fcR N ((k : Int) + 1) ∨ (fcR N ((k : Int) + 1) = b2 ∧ pc8 ((k : Int) + 1) < pc8 b1)
        · rw [tI_p w]
          rcases w with w | w <;> omega
        · rw [tI_n w]
          have : ¬ b2 < fcR N ((k : Int) + 1) := fun z => w (Or.inl z)
          rw [← i3]
          omega
    · rw [tI_n g, tI_n (fun z => g (hl.2 z))]
      exact ⟨rfl, rfl, i3, i4, i5⟩
theorem cuS2 (h : Wo K C N) (hx : xR C) : ∀ j : Nat, 2 ^ (C 11 1).toNat - 1 + j ≤ 255 → cuF C (2 ^ (C 11 1).toNat - 1 + j) = cuF C (2 ^ (C 11 1).toNat - 1) := by
  have hn := h.1.cn
  have p0 : 0 < (2 : Nat) ^ (C 11 1).toNat := Nat.pow_pos (by decide)
  intro j
  induction j with
  | zero => intro _; rfl
  | succ j ih =>
    intro hj
    rw [show 2 ^ (C 11 1).toNat - 1 + (j + 1) = 2 ^ (C 11 1).toNat - 1 + j + 1 by omega, cuF_s]
    unfold cuG
    rw [tI_n ?_]
    · exact ih (by omega)
    · intro g
      have so := sOk_band h.1.1.1 (by omega) g
      have := inS_pow so.1 (n := (C 11 1).toNat) (by omega) (fun q q0 q1 z => by have := so.2 q q0 q1 z; omega)
      omega
theorem cuS3 (h : Wo K C N) (hx : xR C) (hk : kI K) : (cuF C 255).1 = (fcF N (bshl 1 (N 1 1)).toNat).1 ∧ tcN (cuF C 255).2.2 (cuF C 255).1 = nfrR N ∧ Wo K (cuF C 255).2.2 N ∧ Wo K (tcM (cuF C 255).2.2 (cuF C 255).1) N := by
  have hn := h.1.cn
  have p0 : 0 < (2 : Nat) ^ (C 11 1).toNat := Nat.pow_pos (by decide)
  have p8 : (2 : Nat) ^ (C 11 1).toNat ≤ 2 ^ 8 := Nat.pow_le_pow_right (by decide) (by omega)
  have p256 : (2 : Nat) ^ 8 = 256 := by decide
  have e := cuS2 h hx (255 - (2 ^ (C 11 1).toNat - 1)) (by omega)
  rw [show 2 ^ (C 11 1).toNat - 1 + (255 - (2 ^ (C 11 1).toNat - 1)) = 255 by omega] at e
  have eb : (bshl 1 (N 1 1)).toNat = 2 ^ (C 11 1).toNat - 1 + 1 := by
    have := bshl_n (C 11 1).toNat (by omega)
    rw [show (((C 11 1).toNat : Nat) : Int) = C 11 1 by omega] at this
    rw [h.1.n1, this]
    omega
  obtain ⟨i1, i2, i3, i4, i5⟩ := cuS h hx hk (2 ^ (C 11 1).toNat - 1) (by omega)
  have o := cuF_o hx h.inv.1 255 (by omega)
  unfold nfrR
  rw [eb]
  rw [e] at o ⊢
  generalize cuF C (2 ^ (C 11 1).toNat - 1) = st at i1 i2 i4 i5 o ⊢
  generalize fcF N (2 ^ (C 11 1).toNat - 1 + 1) = rt at i1 i2 i3 ⊢
  have so : sOk st.2.2 st.1 := ⟨o.2.2.2.1, fun q q0 q1 z => by rw [o.1 11 (by omega)]; exact o.2.2.2.2 q q0 q1 z⟩
  refine ⟨i1, ?_, i4, i4.trE (tcM_in i5 i4.inv.1).2⟩
  rw [tcS i4 i5 hk so, if_neg (by rw [← i1]; have := o.2.2.2.1; omega), i3, i1]
end CALLS
