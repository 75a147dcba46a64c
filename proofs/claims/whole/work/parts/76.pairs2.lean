/-! both worlds: pairs -/
theorem band_2 (a m : Int) : band (band a m) m = band a m := by
  unfold band
  rw [iI_of, Int32.and_assoc, Int32.and_self]
/-- what two loops over partners hold -/
def PaR (cap : Int) (a b : Int × Int) : Prop := (a = (0, 0) ∧ b = (1000000, 0)) ∨ (a = b ∧ (1 ≤ a.2 ∧ a.2 ≤ cap) ∧ 0 ≤ a.1 ∧ a.1 < 1000000)
theorem PaR.le {c d : Int} {a b : Int × Int} (h : PaR c a b) (hcd : c ≤ d) : PaR d a b := by
  rcases h with h | ⟨h1, h2, h3⟩
  · exact Or.inl h
  · exact Or.inr ⟨h1, by omega, h3⟩
/-- one more partner -/
theorem PaR.st {B cap v w : Int} {a b : Int × Int} (h : PaR cap a b) (hc : 0 ≤ cap ∧ cap ≤ 1000000000) (hB : B ≤ 1000000000) (hv : 0 ≤ v ∧ v < 1000000) (hw : 1 ≤ w ∧ w ≤ B) : PaR (cap + B) (if a.2 = 0 ∨ v < a.1 then (v, w) else if v = a.1 then (a.1, wr (a.2 + w)) else a) (min b.1 v, if v < b.1 then w else if v = b.1 then wr (b.2 + w) else b.2) := by
  right
  rcases h with ⟨rfl, rfl⟩ | ⟨rfl, h2, h3⟩
  · dsimp only
    rw [if_pos (Or.inl rfl), if_pos (by omega), Int.min_eq_right (by omega)]
    exact ⟨rfl, by dsimp only; omega, hv⟩
  · obtain ⟨a1, a2⟩ := a
    dsimp only at h2 h3 ⊢
    by_cases g : v < a1
    · rw [if_pos (Or.inr g), if_pos g, Int.min_eq_right (by omega)]
      exact ⟨rfl, by dsimp only; omega, hv⟩
    · rw [if_neg (by omega), if_neg g, Int.min_eq_left (by omega)]
      by_cases e : v = a1
      · rw [if_pos e, if_pos e, wr_eq (by omega)]
        exact ⟨rfl, by dsimp only; omega, h3⟩
      · rw [if_neg e, if_neg e]
        exact ⟨rfl, by dsimp only; omega, h3⟩
section PA
variable {n : Nat} {A : Int → Int → Int} {La Ca G Lb Wb : Int → Int} {s : Int}
/-- rows alike for the sets below -/
def RoS (La Ca Lb Wb : Int → Int) (k : Int) : Prop := ∀ t, 0 ≤ t → t ≤ k → La t = Lb t ∧ Ca t = Wb t ∧ (1 ≤ Wb t ∧ Wb t ≤ if t = 0 then 1 else 8 ^ (8 - (lowN t).toNat))
theorem pow8 (m : Nat) (h : m ≤ 8) : (1 : Int) ≤ 8 ^ m ∧ (8 : Int) ^ m ≤ 16777216 := by
  rcases (show m = 0 ∨ m = 1 ∨ m = 2 ∨ m = 3 ∨ m = 4 ∨ m = 5 ∨ m = 6 ∨ m = 7 ∨ m = 8 by omega) with rfl | rfl | rfl | rfl | rfl | rfl | rfl | rfl | rfl <;> decide
theorem RoS.w {k o : Int} (h : RoS La Ca Lb Wb k) (hs : 0 < s ∧ s < 256) (hk : s ≤ k + 1) (ho : 0 ≤ o ∧ o < 8) : La (wiN s o) = Lb (wiN s o) ∧ Ca (wiN s o) = Wb (wiN s o) ∧ 1 ≤ Wb (wiN s o) ∧ Wb (wiN s o) ≤ 8 ^ (7 - (lowN s).toNat) := by
  have hx := lowN_x hs
  have hw := wiN_lt hs ho
  have r := h (wiN s o) hw.1 (by omega)
  refine ⟨r.1, r.2.1, r.2.2.1, ?_⟩
  have b := r.2.2.2
  by_cases e : wiN s o = 0
  · rw [if_pos e] at b
    have := (pow8 (7 - (lowN s).toNat) (by omega)).1
    omega
  · rw [if_neg e] at b
    have hy := lowN_x (s := wiN s o) ⟨by omega, by omega⟩
    have m := (wiN_i hs ho hy.1).1 hy.2.1
    have lt : lowN s < lowN (wiN s o) := by
      by_cases g : lowN (wiN s o) < lowN s
      · exact absurd m.1 (hx.2.2 _ hy.1.1 g)
      · have := m.2.1
        omega
    have : (8 : Int) ^ (8 - (lowN (wiN s o)).toNat) ≤ 8 ^ (7 - (lowN s).toNat) := by
      have := Nat.pow_le_pow_right (n := 8) (by decide) (show 8 - (lowN (wiN s o)).toNat ≤ 7 - (lowN s).toNat by omega)
      exact_mod_cast this
    omega
theorem woF_w {o : Int} (h : o ≠ -1) : woF s (lowN s) o = wiN s o := by
  unfold woF wiN
  rw [if_neg h]
theorem woF_1 : woF s (lowN s) (-1) = wiN s (lowN s) := by
  unfold woF wiN
  rw [if_pos rfl, band_2]
theorem smS {k o : Int} (hn : n ≤ 8) (hR : RoS La Ca Lb Wb k) (hB : prB Lb k) (hs : 0 < s ∧ s < 256) (hk : s ≤ k + 1) (hA : ∀ a c : Int, 0 ≤ a → a < n → 0 ≤ c → c < n → 0 ≤ A a c ∧ A a c ≤ 999) (hG : ∀ a c : Int, 0 ≤ a → a < n → 0 ≤ c → c < n → G (a * 8 + c) = A a c) (hl : lowN s < n) (ho : 0 ≤ o ∧ o < n) (hol : o ≠ lowN s) : smF La G s (lowN s) o = lsA A Lb s o ∧ loF Ca (woF s (lowN s) o) = Wb (wiN s o) ∧ 0 ≤ lsA A Lb s o ∧ lsA A Lb s o < 1000000 := by
  have hx := lowN_x hs
  have w := hR.w hs hk (o := o) (by omega)
  have l := lsA_R (o := o) hA hB hk hs hl ⟨ho.1, ho.2, by omega⟩
  have hw := wiN_lt hs (o := o) (by omega)
  have e1 : smF La G s (lowN s) o = lsA A Lb s o := by
    unfold smF lsA at *
    rw [woF_w (by omega), if_neg hol] at *
    unfold gpF loF
    rw [if_pos (by omega), if_pos (by omega), w.1, hG _ _ hx.1.1 hl ho.1 ho.2, wr_eq (by omega)]
  refine ⟨e1, ?_, by omega⟩
  rw [woF_w (by omega)]
  unfold loF
  rw [if_pos (by omega)]
  exact w.2.1
theorem smS1 {k : Int} (hn : n ≤ 8) (hR : RoS La Ca Lb Wb k) (hB : prB Lb k) (hs : 0 < s ∧ s < 256) (hk : s ≤ k + 1) (hA : ∀ a c : Int, 0 ≤ a → a < n → 0 ≤ c → c < n → 0 ≤ A a c ∧ A a c ≤ 999) (hl : lowN s < n) : smF La G s (lowN s) (-1) = lsA A Lb s (lowN s) ∧ loF Ca (woF s (lowN s) (-1)) = Wb (wiN s (lowN s)) ∧ 0 ≤ lsA A Lb s (lowN s) ∧ lsA A Lb s (lowN s) < 1000000 := by
  have hx := lowN_x hs
  have w := hR.w hs hk (o := lowN s) hx.1
  have l := lsA_R (o := lowN s) hA hB hk hs hl ⟨hx.1.1, hl, by omega⟩
  have hw := wiN_lt hs (o := lowN s) hx.1
  have e1 : smF La G s (lowN s) (-1) = lsA A Lb s (lowN s) := by
    unfold smF lsA at *
    rw [woF_1, if_pos rfl] at *
    unfold gpF loF
    rw [if_neg (by omega), if_pos (by omega), w.1, wr_eq (by omega)]
  refine ⟨e1, ?_, by omega⟩
  rw [woF_1]
  unfold loF
  rw [if_pos (by omega)]
  exact w.2.1
theorem od_b : (band (pc8 s) 1 ≠ 0) ↔ pc8 s % 2 = 1 := by
  have := pc8_R (a := s)
  rw [band_1 (by omega)]
  omega
theorem rsS {k : Int} (hn : n ≤ 8) (hR : RoS La Ca Lb Wb k) (hB : prB Lb k) (hs : 0 < s ∧ s < 256) (hk : s ≤ k + 1) (hsn : s < bshl 1 n) (hA : ∀ a c : Int, 0 ≤ a → a < n → 0 ≤ c → c < n → 0 ≤ A a c ∧ A a c ≤ 999) (hG : ∀ a c : Int, 0 ≤ a → a < n → 0 ≤ c → c < n → G (a * 8 + c) = A a c) : rsF La Ca G s (lowN s) (n + 1) = prF A Lb Wb s n ∧ 1 ≤ (prF A Lb Wb s n).2 ∧ (prF A Lb Wb s n).2 ≤ 8 ^ (8 - (lowN s).toNat) := by
  have hx := lowN_x hs
  have hl := inS_lt (n := (n : Int)) (by omega) ⟨by omega, hsn⟩ hx.1 hx.2.1
  have hp7 := pow8 (7 - (lowN s).toNat) (by omega)
  have p1 : ∀ j : Nat, (j : Int) ≤ lowN s → prF A Lb Wb s j = (1000000, 0) ∧ rsF La Ca G s (lowN s) (j + 1) = rsF La Ca G s (lowN s) 1 := by
    intro j
    induction j with
    | zero => intro _; exact ⟨rfl, rfl⟩
    | succ j ih =>
      intro hj
      obtain ⟨i1, i2⟩ := ih (by omega)
      have no := hx.2.2 (j : Int) (by omega) (by omega)
      constructor
      · rw [prF_s, i1]
        unfold prG
        rw [tI_n (fun z => no z.1)]
      · rw [rsF_s, i2]
        unfold rsG
        rw [show ((j + 1 : Nat) : Int) - 1 = (j : Int) by omega, tI_n (cpP_1 (by omega) (Or.inr no))]
  have s1 := smS1 (A := A) (G := G) hn hR hB hs hk hA hl
  have w1 := hR.w hs hk (o := lowN s) hx.1
  have p2 : ∀ i : Nat, lowN s + 1 + i ≤ n → PaR (((i : Int) + 1) * 8 ^ (7 - (lowN s).toNat)) (rsF La Ca G s (lowN s) ((lowN s).toNat + 1 + i + 1)) (prF A Lb Wb s ((lowN s).toNat + 1 + i)) := by
    intro i
    induction i with
    | zero =>
      intro hi
      obtain ⟨j1, j2⟩ := p1 (lowN s).toNat (by omega)
      have f : ∀ st, rsG La Ca G s (lowN s) (((lowN s).toNat + 1 : Nat) : Int) st = st := by
        intro st
        unfold rsG
        rw [show (((lowN s).toNat + 1 : Nat) : Int) - 1 = lowN s by omega, tI_n (cpP_1 (by omega) (Or.inl rfl))]
      rw [show (lowN s).toNat + 1 + 0 + 1 = (lowN s).toNat + 1 + 1 by omega, rsF_s, f, j2, show (lowN s).toNat + 1 + 0 = (lowN s).toNat + 1 by omega, prF_s, j1]
      rw [show (1 : Nat) = 0 + 1 from rfl, rsF_s]
      have z : rsF La Ca G s (lowN s) 0 = (0, 0) := rfl
      rw [z]
      unfold rsG prG
      rw [show (((lowN s).toNat : Nat) : Int) = lowN s by omega, show ((0 : Nat) : Int) - 1 = -1 by omega]
      by_cases g : pc8 s % 2 = 1
      · rw [tI_p (show cpP s (lowN s) (-1) from Or.inl ⟨rfl, od_b.2 g⟩), tI_p (show mbN s (lowN s) from ⟨hx.2.1, Or.inr g⟩), s1.1, s1.2.1]
        have q : PaR 0 ((0 : Int), (0 : Int)) (1000000, 0) := Or.inl ⟨rfl, rfl⟩
        have r := q.st (by omega) (by omega) s1.2.2 (w := Wb (wiN s (lowN s))) ⟨w1.2.2.1, w1.2.2.2⟩
        exact r.le (by simp)
      · rw [tI_n (show ¬ cpP s (lowN s) (-1) from fun z => z.elim (fun y => g (od_b.1 y.2)) (fun y => y.1 rfl)), tI_n (show ¬ mbN s (lowN s) from fun z => z.2.elim (fun y => y rfl) (fun y => g y))]
        exact Or.inl ⟨rfl, rfl⟩
    | succ i ih =>
      intro hi
      have r := ih (by omega)
      have hcap : 0 ≤ ((i : Int) + 1) * 8 ^ (7 - (lowN s).toNat) ∧ ((i : Int) + 1) * 8 ^ (7 - (lowN s).toNat) ≤ 1000000000 := by
        constructor
        · exact Int.mul_nonneg (by omega) (by omega)
        · have := Int.mul_le_mul (show ((i : Int) + 1) ≤ 8 by omega) hp7.2 (by omega) (by omega)
          omega
      have ecap : (((i + 1 : Nat) : Int) + 1) * 8 ^ (7 - (lowN s).toNat) = ((i : Int) + 1) * 8 ^ (7 - (lowN s).toNat) + 8 ^ (7 - (lowN s).toNat) := by
        rw [show (((i + 1 : Nat) : Int) + 1) = ((i : Int) + 1) + 1 by omega, Int.add_mul, Int.one_mul]
      rw [show (lowN s).toNat + 1 + (i + 1) + 1 = ((lowN s).toNat + 1 + i + 1) + 1 by omega, rsF_s, show (lowN s).toNat + 1 + (i + 1) = ((lowN s).toNat + 1 + i) + 1 by omega, prF_s, ecap]
      generalize hx1 : rsF La Ca G s (lowN s) ((lowN s).toNat + 1 + i + 1) = x at r ⊢
      generalize hy1 : prF A Lb Wb s ((lowN s).toNat + 1 + i) = y at r ⊢
      unfold rsG prG
      rw [show (((lowN s).toNat + 1 + i + 1 : Nat) : Int) - 1 = (((lowN s).toNat + 1 + i : Nat) : Int) by omega]
      have ho : 0 ≤ (((lowN s).toNat + 1 + i : Nat) : Int) ∧ (((lowN s).toNat + 1 + i : Nat) : Int) < n := by omega
      have hol : (((lowN s).toNat + 1 + i : Nat) : Int) ≠ lowN s := by omega
      generalize (((lowN s).toNat + 1 + i : Nat) : Int) = o at ho hol ⊢
      by_cases g : inS o s
      · have m := smS (A := A) (G := G) hn hR hB hs hk hA hG hl ho hol
        have w := hR.w hs hk (o := o) (by omega)
        rw [tI_p (show cpP s (lowN s) o from Or.inr ⟨by omega, hol, g⟩), tI_p (show mbN s o from ⟨g, Or.inl hol⟩), m.1, m.2.1]
        exact r.st hcap (by omega) m.2.2 ⟨w.2.2.1, w.2.2.2⟩
      · rw [tI_n (cpP_1 (by omega) (Or.inr g)), tI_n (fun z => g z.1)]
        exact r.le (by omega)
  have fin := p2 (n - (lowN s).toNat - 1) (by omega)
  rw [show (lowN s).toNat + 1 + (n - (lowN s).toNat - 1) = n by omega] at fin
  have px := prF_x (A := A) (L := Lb) (W := Wb) (s := s) n
  obtain ⟨o, o1, o2, o3⟩ := mbN_ex (n := (n : Int)) (by omega) ⟨hs.1, hsn⟩ hs.2
  have lo := lsA_R (o := o) hA hB hk hs hl ⟨o1, o2, by omega⟩
  have hle := px.2.2 o o1 o2 o3
  rcases fin with ⟨f1, f2⟩ | ⟨f1, f2, f3⟩
  · rw [f2] at hle
    dsimp only at hle
    omega
  · refine ⟨f1, ?_⟩
    rw [← f1]
    refine ⟨f2.1, ?_⟩
    have a : (((n - (lowN s).toNat - 1 : Nat) : Int) + 1) * 8 ^ (7 - (lowN s).toNat) ≤ 8 * 8 ^ (7 - (lowN s).toNat) := Int.mul_le_mul_of_nonneg_right (by omega) (by omega)
    have b : (8 : Int) ^ (8 - (lowN s).toNat) = 8 ^ (7 - (lowN s).toNat) * 8 := by
      rw [show 8 - (lowN s).toNat = (7 - (lowN s).toNat) + 1 by omega]
      exact Int.pow_succ _ _
    omega
end PA
section CALLS
variable {K : Int} {C N : xMem}
theorem apS (h : Wo K C N) {a c : Int} (ha : 0 ≤ a ∧ a < C 11 1) (hc : 0 ≤ c ∧ c < C 11 1) : apN N a c = aptC C a c := h.1.2.1.ap h.1.2.2.1 h.1.1.1 ha hc
theorem foS_l {M : xMem} {s : Int} {n : Nat} (hn : n ≤ 8) (h3 : M 43 3 = n) (hs : 0 < s ∧ s < 256) (hsn : s < bshl 1 n) : foS M s = lowN s := by
  have hx := lowN_x hs
  have hl := inS_lt (n := (n : Int)) (by omega) ⟨by omega, hsn⟩ hx.1 hx.2.1
  unfold foS
  rw [h3]
  exact fsF_first _ 0 (-1) (lowN s) hx.1.1 (by omega) hx.2.1 (fun y y0 y1 => hx.2.2 y y0 y1)
theorem rcS (h : Wo K C N) (hx : xR C) : ∀ k : Nat, (k : Int) ≤ evF (C 11 1) → RoS (rcK C k 44) (rcK C k 45) (prK (apN N) (C 11 1).toNat (N 7) (N 8) k).1 (prK (apN N) (C 11 1).toNat (N 7) (N 8) k).2 k := by
  have hn := h.1.cn
  have n1 := h.1.n1
  have hev := evF_R hn
  have ebs : bshl 1 (((C 11 1).toNat : Nat) : Int) = evF (C 11 1) + 1 := by
    rw [show (((C 11 1).toNat : Nat) : Int) = C 11 1 by omega]; unfold evF; omega
  have hA : ∀ a c : Int, 0 ≤ a → a < ((C 11 1).toNat : Nat) → 0 ≤ c → c < ((C 11 1).toNat : Nat) → 0 ≤ apN N a c ∧ apN N a c ≤ 999 := fun a c a0 a1 c0 c1 => apN_R h.inv.2 a c a0 (by rw [n1]; omega) c0 (by rw [n1]; omega)
  intro k
  induction k with
  | zero =>
    intro _ t t0 t1
    have e : t = 0 := by omega
    subst e
    refine ⟨?_, ?_, ?_⟩
    · show rcH C 44 0 = ur (N 7) 0 0 0
      unfold rcH
      rw [up_n (by decide), up_ss, ur_s]
    · show rcH C 45 0 = ur (N 8) 0 1 0
      unfold rcH
      rw [up_ss, ur_s]
    · show 1 ≤ ur (N 8) 0 1 0 ∧ ur (N 8) 0 1 0 ≤ _
      rw [ur_s, if_pos rfl]
      omega
  | succ k ih =>
    intro hk
    have r := ih (by omega)
    have hB := prK_B (A := apN N) (n := (C 11 1).toNat) (L := N 7) (W := N 8) (by omega) hA k (by rw [ebs]; omega) (by omega)
    have o := rcK_R hx hn k
    have o46 : rcK C k 46 = gaF (C 11 1) (aptC C) (C 11 1) 0 (C 46) := by
      rw [o.2 46 (by decide) (by decide)]
      unfold rcH rcG
      rw [up_n (by decide), up_n (by decide), upr_s]
    have o43 : rcK C k 43 3 = C 11 1 := by rw [o.2 43 (by decide) (by decide)]; exact rcH_3 hn
    have hs : 0 < (k : Int) + 1 ∧ (k : Int) + 1 < 256 := by omega
    have hsn : (k : Int) + 1 < bshl 1 (((C 11 1).toNat : Nat) : Int) := by rw [ebs]; omega
    have fo := foS_l (M := rcK C k) (n := (C 11 1).toNat) (by omega) (by rw [o43]; omega) hs hsn
    have key := rsS (n := (C 11 1).toNat) (A := apN N) (G := rcK C k 46) (by omega) r hB hs (Int.le_refl _) hsn hA (fun a c a0 a1 c0 c1 => by
      rw [o46]
      unfold gaF
      rw [if_pos (by omega), show (a * 8 + c) / 8 = a by omega, show (a * 8 + c) % 8 = c by omega]
      exact (apS h ⟨a0, by omega⟩ ⟨c0, by omega⟩).symm)
    have er : rkR (rcK C k) ((k : Int) + 1) = prF (apN N) (prK (apN N) (C 11 1).toNat (N 7) (N 8) k).1 (prK (apN N) (C 11 1).toNat (N 7) (N 8) k).2 ((k : Int) + 1) (C 11 1).toNat := by
      unfold rkR
      rw [fo, o43, show (C 11 1 + 1).toNat = (C 11 1).toNat + 1 by omega]
      exact key.1
    intro t t0 t1
    rw [rcK_s]
    unfold rkC
    rw [er, up_n (by decide), up_s, up_s, up_n (by decide)]
    show ur _ _ _ t = ur _ ((k : Int) + 1) _ t ∧ ur _ _ _ t = ur _ ((k : Int) + 1) _ t ∧ 1 ≤ ur _ ((k : Int) + 1) _ t ∧ ur _ ((k : Int) + 1) _ t ≤ _
    by_cases e : t = (k : Int) + 1
    · subst e
      rw [ur_s, ur_s, ur_s, ur_s, if_neg (by omega)]
      exact ⟨rfl, rfl, key.2⟩
    · rw [ur_n e, ur_n e, ur_n e, ur_n e]
      exact r t t0 (by omega)
theorem fpS (h : Wo K C N) (hx : xR C) : RoS (rcC C 44) (rcC C 45) (fpK N).1 (fpK N).2 (evF (C 11 1)) ∧ rcC C 43 3 = C 11 1 ∧ (∀ k, k < 43 ∨ 46 < k → rcC C k = C k) ∧ ∀ a c : Int, 0 ≤ a → a < C 11 1 → 0 ≤ c → c < C 11 1 → rcC C 46 (a * 8 + c) = apN N a c := by
  have hn := h.1.cn
  have n1 := h.1.n1
  have hev := evF_R hn
  have r := rcS h hx (evF (C 11 1)).toNat (by omega)
  have o := rcK_R hx hn (evF (C 11 1)).toNat
  rw [show (((evF (C 11 1)).toNat : Nat) : Int) = evF (C 11 1) by omega] at r
  unfold fpK
  rw [n1]
  refine ⟨r, (rcC_3 hx h.1.1.1).1, fun k hk => ?_, fun a c a0 a1 c0 c1 => ?_⟩
  · unfold rcC
    rw [o.2 k (by omega) (by omega), rcH_n hk]
  · unfold rcC
    rw [o.2 46 (by decide) (by decide)]
    unfold rcH rcG
    rw [up_n (by decide), up_n (by decide), upr_s]
    unfold gaF
    rw [if_pos (by omega), show (a * 8 + c) / 8 = a by omega, show (a * 8 + c) % 8 = c by omega]
    exact (apS h ⟨a0, by omega⟩ ⟨c0, by omega⟩).symm
theorem Wo.rc (h : Wo K C N) (hx : xR C) : Wo K (rcC C) (fpM N) := by
  have f := fpS h hx
  have h2 := h.tr (C' := rcC C) (fun k a => by
    by_cases g : k = 41 ∨ k = 42
    · exact f.2.2.1 k (by omega)
    · exact f.2.2.1 k (by omega))
  obtain ⟨h1, h2, h3, h4, h5, h6, h7⟩ := h2
  have e : ∀ k, k ≠ 7 → k ≠ 8 → fpM N k = N k := fun k a c => prM_n a c
  refine ⟨by rw [e 1 (by decide) (by decide)]; exact h1, h2, by rw [e 0 (by decide) (by decide)]; exact h3, by rw [e 2 (by decide) (by decide)]; exact h4, h5.e rfl rfl (by rw [e 0 (by decide) (by decide)]) (e 9 (by decide) (by decide)), h6.e rfl rfl rfl (e 12 (by decide) (by decide)) (e 13 (by decide) (by decide)) (e 14 (by decide) (by decide)), h7.e (Int.le_refl _) rfl (e 4 (by decide) (by decide))⟩
theorem w_least (h : Wo K C N) (hx : xR C) : Sa K (leastR C) (fpR N) (leastM C) (fpM N) := by
  have f := fpS h hx
  have hev := evF_R h.1.cn
  unfold leastR fpR leastM
  rw [f.2.1, h.1.n1]
  unfold loF
  rw [if_pos hev]
  exact ⟨(f.1 _ hev.1 (Int.le_refl _)).1, (h.rc hx).le (by omega)⟩
theorem w_ways (h : Wo K C N) (hx : xR C) : Sa K (waysR C) (nwsR N) (waysM C) (fpM N) := by
  have f := fpS h hx
  have hev := evF_R h.1.cn
  unfold waysR nwsR waysM
  rw [f.2.1, h.1.n1]
  unfold loF
  rw [if_pos hev]
  exact ⟨(f.1 _ hev.1 (Int.le_refl _)).2.1, (h.rc hx).le (by omega)⟩
end CALLS
