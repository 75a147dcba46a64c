/-! the reference: pairs -/
theorem wo_1 : ∀ s, s < 256 → ∀ p, p < 8 → (0 ≤ band ((s : Nat) : Int) (bxor (bshl 1 ((p : Nat) : Int)) (-1)) ∧ band ((s : Nat) : Int) (bxor (bshl 1 ((p : Nat) : Int)) (-1)) ≤ ((s : Nat) : Int)) ∧ (inS ((p : Nat) : Int) ((s : Nat) : Int) → band ((s : Nat) : Int) (bxor (bshl 1 ((p : Nat) : Int)) (-1)) < ((s : Nat) : Int)) := by
  have : (List.range 256).all (fun s => (List.range 8).all (fun p => decide ((0 ≤ band ((s : Nat) : Int) (bxor (bshl 1 ((p : Nat) : Int)) (-1)) ∧ band ((s : Nat) : Int) (bxor (bshl 1 ((p : Nat) : Int)) (-1)) ≤ ((s : Nat) : Int)) ∧ (inS ((p : Nat) : Int) ((s : Nat) : Int) → band ((s : Nat) : Int) (bxor (bshl 1 ((p : Nat) : Int)) (-1)) < ((s : Nat) : Int))))) = true := by decide +kernel
  intro s hs p hp
  exact of_decide_eq_true (List.all_eq_true.mp (List.all_eq_true.mp this s (List.mem_range.mpr hs)) p (List.mem_range.mpr hp))
theorem wo_2 : ∀ s, s < 256 → ∀ p, p < 8 → ∀ q, q < 8 → (inS ((q : Nat) : Int) (band ((s : Nat) : Int) (bxor (bshl 1 ((p : Nat) : Int)) (-1))) ↔ inS ((q : Nat) : Int) ((s : Nat) : Int) ∧ q ≠ p) := by
  have : (List.range 256).all (fun s => (List.range 8).all (fun p => (List.range 8).all (fun q => decide (inS ((q : Nat) : Int) (band ((s : Nat) : Int) (bxor (bshl 1 ((p : Nat) : Int)) (-1))) ↔ inS ((q : Nat) : Int) ((s : Nat) : Int) ∧ q ≠ p)))) = true := by decide +kernel
  intro s hs p hp q hq
  exact of_decide_eq_true (List.all_eq_true.mp (List.all_eq_true.mp (List.all_eq_true.mp this s (List.mem_range.mpr hs)) p (List.mem_range.mpr hp)) q (List.mem_range.mpr hq))
theorem mb_ex : ∀ s, 0 < s → s < 256 → ∀ p, p < 8 → inS ((p : Nat) : Int) ((s : Nat) : Int) → pc8 ((s : Nat) : Int) % 2 = 1 ∨ ∃ o, o < 8 ∧ o ≠ p ∧ inS ((o : Nat) : Int) ((s : Nat) : Int) := by
  have : (List.range 256).all (fun s => (List.range 8).all (fun p => !(decide (inS ((p : Nat) : Int) ((s : Nat) : Int))) || decide (pc8 ((s : Nat) : Int) % 2 = 1) || (List.range 8).any (fun o => !(o == p) && decide (inS ((o : Nat) : Int) ((s : Nat) : Int))))) = true := by decide +kernel
  intro s h0 hs p hp hi
  have h := List.all_eq_true.mp (List.all_eq_true.mp this s (List.mem_range.mpr hs)) p (List.mem_range.mpr hp)
  rw [Bool.or_eq_true, Bool.or_eq_true] at h
  rcases h with (h | h) | h
  · rw [decide_eq_true hi] at h; cases h
  · exact Or.inl (of_decide_eq_true h)
  · obtain ⟨o, ho, h2⟩ := List.any_eq_true.mp h
    rw [Bool.and_eq_true] at h2
    exact Or.inr ⟨o, List.mem_range.mp ho, by simpa using h2.1, of_decide_eq_true h2.2⟩
theorem wo1 {s p : Int} (hs : 0 ≤ s ∧ s < 256) (hp : 0 ≤ p ∧ p < 8) : (0 ≤ band s (bxor (bshl 1 p) (-1)) ∧ band s (bxor (bshl 1 p) (-1)) ≤ s) ∧ (inS p s → band s (bxor (bshl 1 p) (-1)) < s) := by
  obtain ⟨a, rfl⟩ : ∃ n : Nat, s = (n : Int) := ⟨s.toNat, by omega⟩
  obtain ⟨c, rfl⟩ : ∃ n : Nat, p = (n : Int) := ⟨p.toNat, by omega⟩
  exact wo_1 a (by omega) c (by omega)
theorem wo2 {s p q : Int} (hs : 0 ≤ s ∧ s < 256) (hp : 0 ≤ p ∧ p < 8) (hq : 0 ≤ q ∧ q < 8) : inS q (band s (bxor (bshl 1 p) (-1))) ↔ inS q s ∧ q ≠ p := by
  obtain ⟨a, rfl⟩ : ∃ n : Nat, s = (n : Int) := ⟨s.toNat, by omega⟩
  obtain ⟨c, rfl⟩ : ∃ n : Nat, p = (n : Int) := ⟨p.toNat, by omega⟩
  obtain ⟨d, rfl⟩ : ∃ n : Nat, q = (n : Int) := ⟨q.toNat, by omega⟩
  have := wo_2 a (by omega) c (by omega) d (by omega)
  rw [this]
  constructor
  · rintro ⟨h1, h2⟩; exact ⟨h1, by omega⟩
  · rintro ⟨h1, h2⟩; exact ⟨h1, by omega⟩
theorem inS_lt {n p s : Int} (hn : 0 ≤ n ∧ n ≤ 8) (hs : 0 ≤ s ∧ s < bshl 1 n) (hp : 0 ≤ p ∧ p < 8) (hi : inS p s) : p < n := by
  obtain ⟨a, rfl⟩ : ∃ k : Nat, n = (k : Int) := ⟨n.toNat, by omega⟩
  obtain ⟨c, rfl⟩ : ∃ k : Nat, p = (k : Int) := ⟨p.toNat, by omega⟩
  obtain ⟨d, rfl⟩ : ∃ k : Nat, s = (k : Int) := ⟨s.toNat, by omega⟩
  rw [bshl_n a (by omega)] at hs
  have h8 : 2 ^ a ≤ 2 ^ 8 := Nat.pow_le_pow_right (by omega) (by omega)
  rw [inS_nat (by omega) (by omega)] at hi
  by_cases g : c < a
  · omega
  · have h9 : 2 ^ a ≤ 2 ^ c := Nat.pow_le_pow_right (by omega) (by omega)
    have := Nat.testBit_lt_two_pow (x := d) (i := c) (by omega)
    rw [this] at hi
    cases hi
/-- an element less: the lowest, and another one (or the same) -/
theorem wiN_lt {s o : Int} (hs : 0 < s ∧ s < 256) (ho : 0 ≤ o ∧ o < 8) : 0 ≤ wiN s o ∧ wiN s o < s := by
  have hx := lowN_x hs
  have h1 := wo1 (s := s) (by omega) hx.1
  have h3 := h1.2 hx.2.1
  unfold wiN
  have h2 := wo1 (s := band s (bxor (bshl 1 (lowN s)) (-1))) (by omega) ho
  omega
theorem wiN_i {s o q : Int} (hs : 0 < s ∧ s < 256) (ho : 0 ≤ o ∧ o < 8) (hq : 0 ≤ q ∧ q < 8) : inS q (wiN s o) ↔ inS q s ∧ q ≠ lowN s ∧ q ≠ o := by
  have hx := lowN_x hs
  have h1 := wo1 (s := s) (by omega) hx.1
  unfold wiN
  rw [wo2 (by omega) ho hq, wo2 (by omega) hx.1 hq, and_assoc]
theorem mbN_ex {n s : Int} (hn : 0 ≤ n ∧ n ≤ 8) (hs : 0 < s ∧ s < bshl 1 n) (hs2 : s < 256) : ∃ o, 0 ≤ o ∧ o < n ∧ mbN s o := by
  have hx := lowN_x (s := s) ⟨hs.1, hs2⟩
  have hl := inS_lt hn ⟨by omega, hs.2⟩ hx.1 hx.2.1
  have hm := mb_ex s.toNat (by omega) (by omega) (lowN s).toNat (by omega)
  rw [show ((s.toNat : Nat) : Int) = s by omega, show (((lowN s).toNat : Nat) : Int) = lowN s by omega] at hm
  rcases hm hx.2.1 with h | ⟨o, h1, h2, h3⟩
  · exact ⟨lowN s, hx.1.1, hl, hx.2.1, Or.inr h⟩
  · exact ⟨(o : Int), by omega, inS_lt hn ⟨by omega, hs.2⟩ (by omega) h3, h3, Or.inl (by omega)⟩
noncomputable def lsA (A : Int → Int → Int) (L : Int → Int) (s o : Int) : Int := (if o = lowN s then 0 else A (lowN s) o) + L (wiN s o)
noncomputable def prG (A : Int → Int → Int) (L W : Int → Int) (s o : Int) (st : Int × Int) : Int × Int := tI (mbN s o) (min st.1 (lsA A L s o), if lsA A L s o < st.1 then W (wiN s o) else if lsA A L s o = st.1 then wr (st.2 + W (wiN s o)) else st.2) st
noncomputable def prF (A : Int → Int → Int) (L W : Int → Int) (s : Int) (n : Nat) : Int × Int := xfo (prG A L W s) (1000000, 0) n
theorem prF_s (A : Int → Int → Int) (L W : Int → Int) (s : Int) (n : Nat) : prF A L W s (n + 1) = prG A L W s (n : Int) (prF A L W s n) := by
  unfold prF
  rw [xfo_s (prG A L W s) (1000000, 0) n]
theorem prF_x {A : Int → Int → Int} {L W : Int → Int} {s : Int} : ∀ n : Nat, ((prF A L W s n).1 = 1000000 ∨ ∃ o : Int, 0 ≤ o ∧ o < n ∧ mbN s o ∧ lsA A L s o = (prF A L W s n).1) ∧ (prF A L W s n).1 ≤ 1000000 ∧ ∀ o : Int, 0 ≤ o → o < n → mbN s o → (prF A L W s n).1 ≤ lsA A L s o := by
  intro n
  induction n with
  | zero => exact ⟨Or.inl rfl, by show (1000000 : Int) ≤ 1000000; omega, fun o a c => absurd c (by omega)⟩
  | succ n ih =>
    obtain ⟨h1, h2, h3⟩ := ih
    rw [prF_s]
    unfold prG
    by_cases hm : mbN s (n : Int)
    · rw [tI_p hm]
      refine ⟨?_, by show min (prF A L W s n).1 (lsA A L s (n : Int)) ≤ 1000000; omega, fun o a c g => ?_⟩
      · show min (prF A L W s n).1 (lsA A L s (n : Int)) = 1000000 ∨ ∃ o : Int, 0 ≤ o ∧ o < ((n + 1 : Nat) : Int) ∧ mbN s o ∧ lsA A L s o = min (prF A L W s n).1 (lsA A L s (n : Int))
        by_cases hh : lsA A L s (n : Int) < (prF A L W s n).1
        · exact Or.inr ⟨(n : Int), by omega, by omega, hm, by omega⟩
        · rcases h1 with h1 | ⟨o, a, c, g, e⟩
          · exact Or.inl (by omega)
          · exact Or.inr ⟨o, a, by omega, g, by omega⟩
      · show min (prF A L W s n).1 (lsA A L s (n : Int)) ≤ lsA A L s o
        by_cases e : o = (n : Int)
        · subst e; omega
        · have := h3 o a (by omega) g; omega
    · rw [tI_n hm]
      refine ⟨?_, h2, fun o a c g => ?_⟩
      · rcases h1 with h1 | ⟨o, a, c, g, e⟩
        · exact Or.inl h1
        · exact Or.inr ⟨o, a, by omega, g, e⟩
      · by_cases e : o = (n : Int)
        · subst e; exact absurd g hm
        · exact h3 o a (by omega) g
/-- the rows behind the first k sets -/
noncomputable def prK (A : Int → Int → Int) (n : Nat) (L W : Int → Int) : Nat → (Int → Int) × (Int → Int)
  | 0 => (ur L 0 0, ur W 0 1)
  | k + 1 => (ur (prK A n L W k).1 ((k : Int) + 1) (prF A (prK A n L W k).1 (prK A n L W k).2 ((k : Int) + 1) n).1, ur (prK A n L W k).2 ((k : Int) + 1) (prF A (prK A n L W k).1 (prK A n L W k).2 ((k : Int) + 1) n).2)
def prB (L : Int → Int) (k : Int) : Prop := ∀ t, 0 ≤ t → t ≤ k → 0 ≤ L t ∧ L t ≤ 999 * t
theorem lsA_R {A : Int → Int → Int} {L : Int → Int} {n : Nat} {s o k : Int} (hA : ∀ a c : Int, 0 ≤ a → a < n → 0 ≤ c → c < n → 0 ≤ A a c ∧ A a c ≤ 999) (hB : prB L k) (hk : s ≤ k + 1) (hs : 0 < s ∧ s < 256) (hl : lowN s < n) (ho : 0 ≤ o ∧ o < n ∧ o < 8) : 0 ≤ lsA A L s o ∧ lsA A L s o ≤ 999 * s := by
  have hx := lowN_x hs
  have hw := wiN_lt hs (o := o) (by omega)
  have h1 := hB (wiN s o) hw.1 (by omega)
  have h2 := hA (lowN s) o hx.1.1 hl ho.1 ho.2.1
  unfold lsA
  split <;> omega
theorem prK_B {A : Int → Int → Int} {n : Nat} {L W : Int → Int} (hn : n ≤ 8) (hA : ∀ a c : Int, 0 ≤ a → a < n → 0 ≤ c → c < n → 0 ≤ A a c ∧ A a c ≤ 999) : ∀ k : Nat, (k : Int) < bshl 1 n → (k : Int) < 256 → prB (prK A n L W k).1 k := by
  intro k
  induction k with
  | zero =>
    intro _ _ t h1 h2
    have : t = 0 := by omega
    subst this
    show 0 ≤ ur L 0 0 0 ∧ ur L 0 0 0 ≤ 999 * 0
    rw [ur_s]
    omega
  | succ k ih =>
    intro hk h256 t h1 h2
    have hB := ih (by omega) (by omega)
    show 0 ≤ ur (prK A n L W k).1 ((k : Int) + 1) _ t ∧ ur (prK A n L W k).1 ((k : Int) + 1) _ t ≤ 999 * t
    by_cases e : t = (k : Int) + 1
    · subst e
      rw [ur_s]
      have hs : 0 < (k : Int) + 1 ∧ (k : Int) + 1 < 256 := by omega
      have hx := lowN_x hs
      have hl := inS_lt (n := (n : Int)) (by omega) (s := (k : Int) + 1) (by omega) hx.1 hx.2.1
      have hp := prF_x (A := A) (L := (prK A n L W k).1) (W := (prK A n L W k).2) (s := (k : Int) + 1) n
      obtain ⟨o, o1, o2, o3⟩ := mbN_ex (n := (n : Int)) (by omega) (s := (k : Int) + 1) (by omega) hs.2
      have g := hp.2.2 o o1 o2 o3
      have g2 := lsA_R (o := o) hA hB (Int.le_refl _) hs hl (by omega)
      refine ⟨?_, by omega⟩
      rcases hp.1 with h | ⟨q, q1, q2, q3, q4⟩
      · omega
      · have := lsA_R (o := q) hA hB (Int.le_refl _) hs hl (by omega)
        omega
    · rw [ur_n e]
      exact hB t h1 (by omega)
/-- of each set the least is that of some first pair -/
theorem prK_x {A : Int → Int → Int} {n : Nat} {L W : Int → Int} (hn : n ≤ 8) (hA : ∀ a c : Int, 0 ≤ a → a < n → 0 ≤ c → c < n → 0 ≤ A a c ∧ A a c ≤ 999) : ∀ k : Nat, (k : Int) < bshl 1 n → (k : Int) < 256 → ∀ s : Int, 0 < s → s ≤ k → ∃ o : Int, 0 ≤ o ∧ o < n ∧ mbN s o ∧ lsA A (prK A n L W k).1 s o = (prK A n L W k).1 s := by
  intro k
  induction k with
  | zero => intro _ _ s h1 h2; omega
  | succ k ih =>
    intro hk h256 s h1 h2
    have key : ∀ o : Int, 0 ≤ o → o < n → lsA A (prK A n L W (k + 1)).1 s o = lsA A (prK A n L W k).1 s o := by
      intro o o1 o2
      have := wiN_lt (s := s) (o := o) (by omega) (by omega)
      unfold lsA
      rw [show (prK A n L W (k + 1)).1 (wiN s o) = (prK A n L W k).1 (wiN s o) from ur_n (by omega)]
    by_cases e : s = (k : Int) + 1
    · subst e
      have hB := prK_B (L := L) (W := W) hn hA k (by omega) (by omega)
      have hs : 0 < (k : Int) + 1 ∧ (k : Int) + 1 < 256 := by omega
      have hx := lowN_x hs
      have hl := inS_lt (n := (n : Int)) (by omega) (s := (k : Int) + 1) (by omega) hx.1 hx.2.1
      have hp := prF_x (A := A) (L := (prK A n L W k).1) (W := (prK A n L W k).2) (s := (k : Int) + 1) n
      obtain ⟨o, o1, o2, o3⟩ := mbN_ex (n := (n : Int)) (by omega) (s := (k : Int) + 1) (by omega) hs.2
      have g := hp.2.2 o o1 o2 o3
      have g2 := lsA_R (o := o) hA hB (Int.le_refl _) hs hl (by omega)
      rcases hp.1 with h | ⟨q, q1, q2, q3, q4⟩
      · omega
      · refine ⟨q, q1, q2, q3, ?_⟩
        rw [key q q1 q2, q4]
        exact (ur_s _ _ _).symm
    · obtain ⟨o, o1, o2, o3, o4⟩ := ih (by omega) (by omega) s h1 (by omega)
      refine ⟨o, o1, o2, o3, ?_⟩
      rw [key o o1 o2, o4]
      exact (ur_n e).symm
def prM (M : xMem) (L W : Int → Int) : xMem := upr (upr M 7 L) 8 W
theorem prM_n {M : xMem} {L W : Int → Int} {k : Nat} (h7 : k ≠ 7) (h8 : k ≠ 8) : prM M L W k = M k := by unfold prM; rw [upr_n h8, upr_n h7]
theorem prM_7 {M : xMem} {L W : Int → Int} : prM M L W 7 = L := by unfold prM; rw [upr_n (by decide), upr_s]
theorem prM_8 {M : xMem} {L W : Int → Int} : prM M L W 8 = W := by unfold prM; rw [upr_s]
theorem prM_I {M : xMem} {L W : Int → Int} (h : MInv M) : MInv (prM M L W) := MInv_c (prM_n (by decide) (by decide)) h
theorem prM_F {M : xMem} {L W L' W' : Int → Int} {f : Int} {d : Int → Int} (h : Fc (ca (prM M L W) f d)) : Fc (ca (prM M L' W') f d) := Fc_e (by unfold wyM; rw [prM_n (by decide) (by decide), prM_n (by decide) (by decide)]) h
theorem prM_u7 {M : xMem} {L W : Int → Int} {f i v : Int} {d : Int → Int} : up (ca (prM M L W) f d) 7 i v = ca (prM M (ur L i v) W) f d := by
  funext k j
  by_cases h7 : k = 7
  · subst h7
    rw [up_s, ca_n (by decide) (by decide), ca_n (by decide) (by decide), prM_7, prM_7]
  · rw [up_n h7]
    by_cases h0 : k = 0
    · subst h0; rfl
    · by_cases h5 : k = 5
      · subst h5; rfl
      · rw [ca_n h0 h5, ca_n h0 h5]
        by_cases h8 : k = 8
        · subst h8; rw [prM_8, prM_8]
        · rw [prM_n h7 h8, prM_n h7 h8]
theorem prM_u8 {M : xMem} {L W : Int → Int} {f i v : Int} {d : Int → Int} : up (ca (prM M L W) f d) 8 i v = ca (prM M L (ur W i v)) f d := by
  funext k j
  by_cases h8 : k = 8
  · subst h8
    rw [up_s, ca_n (by decide) (by decide), ca_n (by decide) (by decide), prM_8, prM_8]
  · rw [up_n h8]
    by_cases h0 : k = 0
    · subst h0; rfl
    · by_cases h5 : k = 5
      · subst h5; rfl
      · rw [ca_n h0 h5, ca_n h0 h5]
        by_cases h7 : k = 7
        · subst h7; rw [prM_7, prM_7]
        · rw [prM_n h7 h8, prM_n h7 h8]
theorem ur_ur {r : Int → Int} {i v v' : Int} : ur (ur r i v) i v' = ur r i v' := by funext j; unfold ur; split <;> rfl
theorem apN_R {M : xMem} (hI : MInv M) (a c : Int) (ha : 0 ≤ a) (ha2 : a < M 1 1) (hc : 0 ≤ c) (hc2 : c < M 1 1) : 0 ≤ apN M a c ∧ apN M a c ≤ 999 := by
  have hD : DB (dN M) := meC_B hI.2.2.1
  have i1 := hI.2.2.2 a ha ha2
  have i2 := hI.2.2.2 c hc hc2
  have h1 := hD (10 * M 1 (113 + 8 * a + 1) + M 1 (113 + 8 * c + 1)) (by omega) (by omega)
  have h2 := hD (10 * M 1 (113 + 8 * a + 2) + M 1 (113 + 8 * c + 2)) (by omega) (by omega)
  unfold apN
  omega
theorem lwN_p {M : xMem} {L W : Int → Int} {s o : Int} : lwN (prM M L W) s o = lsA (apN M) L s o := by
  unfold lwN lsA
  rw [prM_7]
  rfl
noncomputable def fpK (M : xMem) : (Int → Int) × (Int → Int) := prK (apN M) (M 1 1).toNat (M 7) (M 8) (evF (M 1 1)).toNat
noncomputable def fpM (M : xMem) : xMem := prM M (fpK M).1 (fpK M).2
noncomputable def fpR (M : xMem) : Int := (fpK M).1 (evF (M 1 1))
theorem dX7_findPairs_0 : decode cX7_findPairs 0 = .ok (.aload_n 0, 1) := by decide +kernel
theorem dX7_findPairs_1 : decode cX7_findPairs 1 = .ok (.getfield 28, 3) := by decide +kernel
theorem dX7_findPairs_4 : decode cX7_findPairs 4 = .ok (.iconst 0, 1) := by decide +kernel
theorem dX7_findPairs_5 : decode cX7_findPairs 5 = .ok (.iconst 0, 1) := by decide +kernel
theorem dX7_findPairs_6 : decode cX7_findPairs 6 = .ok (.iastore, 1) := by decide +kernel
theorem dX7_findPairs_7 : decode cX7_findPairs 7 = .ok (.aload_n 0, 1) := by decide +kernel
theorem dX7_findPairs_8 : decode cX7_findPairs 8 = .ok (.getfield 31, 3) := by decide +kernel
theorem dX7_findPairs_11 : decode cX7_findPairs 11 = .ok (.iconst 0, 1) := by decide +kernel
theorem dX7_findPairs_12 : decode cX7_findPairs 12 = .ok (.iconst 1, 1) := by decide +kernel
theorem dX7_findPairs_13 : decode cX7_findPairs 13 = .ok (.iastore, 1) := by decide +kernel
theorem dX7_findPairs_14 : decode cX7_findPairs 14 = .ok (.iconst 1, 1) := by decide +kernel
theorem dX7_findPairs_15 : decode cX7_findPairs 15 = .ok (.istore_n 1, 1) := by decide +kernel
theorem dX7_findPairs_16 : decode cX7_findPairs 16 = .ok (.iload_n 1, 1) := by decide +kernel
theorem dX7_findPairs_17 : decode cX7_findPairs 17 = .ok (.iconst 1, 1) := by decide +kernel
theorem dX7_findPairs_18 : decode cX7_findPairs 18 = .ok (.aload_n 0, 1) := by decide +kernel
theorem dX7_findPairs_19 : decode cX7_findPairs 19 = .ok (.getfield 9, 3) := by decide +kernel
theorem dX7_findPairs_22 : decode cX7_findPairs 22 = .ok (.iconst 1, 1) := by decide +kernel
theorem dX7_findPairs_23 : decode cX7_findPairs 23 = .ok (.iaload, 1) := by decide +kernel
theorem dX7_findPairs_24 : decode cX7_findPairs 24 = .ok (.ishl, 1) := by decide +kernel
theorem dX7_findPairs_25 : decode cX7_findPairs 25 = .ok (.if_icmp .ge 135, 3) := by decide +kernel
theorem dX7_findPairs_28 : decode cX7_findPairs 28 = .ok (.aload_n 0, 1) := by decide +kernel
theorem dX7_findPairs_29 : decode cX7_findPairs 29 = .ok (.getfield 28, 3) := by decide +kernel
theorem dX7_findPairs_32 : decode cX7_findPairs 32 = .ok (.iload_n 1, 1) := by decide +kernel
theorem dX7_findPairs_33 : decode cX7_findPairs 33 = .ok (.ldc 224, 2) := by decide +kernel
theorem dX7_findPairs_35 : decode cX7_findPairs 35 = .ok (.iastore, 1) := by decide +kernel
theorem dX7_findPairs_36 : decode cX7_findPairs 36 = .ok (.aload_n 0, 1) := by decide +kernel
theorem dX7_findPairs_37 : decode cX7_findPairs 37 = .ok (.getfield 31, 3) := by decide +kernel
theorem dX7_findPairs_40 : decode cX7_findPairs 40 = .ok (.iload_n 1, 1) := by decide +kernel
theorem dX7_findPairs_41 : decode cX7_findPairs 41 = .ok (.iconst 0, 1) := by decide +kernel
theorem dX7_findPairs_42 : decode cX7_findPairs 42 = .ok (.iastore, 1) := by decide +kernel
theorem dX7_findPairs_43 : decode cX7_findPairs 43 = .ok (.iconst 0, 1) := by decide +kernel
theorem dX7_findPairs_44 : decode cX7_findPairs 44 = .ok (.istore_n 2, 1) := by decide +kernel
theorem dX7_findPairs_45 : decode cX7_findPairs 45 = .ok (.iload_n 2, 1) := by decide +kernel
theorem dX7_findPairs_46 : decode cX7_findPairs 46 = .ok (.aload_n 0, 1) := by decide +kernel
theorem dX7_findPairs_47 : decode cX7_findPairs 47 = .ok (.getfield 9, 3) := by decide +kernel
theorem dX7_findPairs_50 : decode cX7_findPairs 50 = .ok (.iconst 1, 1) := by decide +kernel
theorem dX7_findPairs_51 : decode cX7_findPairs 51 = .ok (.iaload, 1) := by decide +kernel
theorem dX7_findPairs_52 : decode cX7_findPairs 52 = .ok (.if_icmp .ge 102, 3) := by decide +kernel
theorem dX7_findPairs_55 : decode cX7_findPairs 55 = .ok (.aload_n 0, 1) := by decide +kernel
theorem dX7_findPairs_56 : decode cX7_findPairs 56 = .ok (.iload_n 1, 1) := by decide +kernel
theorem dX7_findPairs_57 : decode cX7_findPairs 57 = .ok (.iload_n 2, 1) := by decide +kernel
theorem dX7_findPairs_58 : decode cX7_findPairs 58 = .ok (.invokevirtual 268, 3) := by decide +kernel
theorem dX7_findPairs_61 : decode cX7_findPairs 61 = .ok (.ifCond .eq 87, 3) := by decide +kernel
theorem dX7_findPairs_64 : decode cX7_findPairs 64 = .ok (.aload_n 0, 1) := by decide +kernel
theorem dX7_findPairs_65 : decode cX7_findPairs 65 = .ok (.iload_n 1, 1) := by decide +kernel
theorem dX7_findPairs_66 : decode cX7_findPairs 66 = .ok (.iload_n 2, 1) := by decide +kernel
theorem dX7_findPairs_67 : decode cX7_findPairs 67 = .ok (.invokevirtual 271, 3) := by decide +kernel
theorem dX7_findPairs_70 : decode cX7_findPairs 70 = .ok (.istore_n 3, 1) := by decide +kernel
theorem dX7_findPairs_71 : decode cX7_findPairs 71 = .ok (.aload_n 0, 1) := by decide +kernel
theorem dX7_findPairs_72 : decode cX7_findPairs 72 = .ok (.getfield 31, 3) := by decide +kernel
theorem dX7_findPairs_75 : decode cX7_findPairs 75 = .ok (.iload_n 1, 1) := by decide +kernel
theorem dX7_findPairs_76 : decode cX7_findPairs 76 = .ok (.iload_n 2, 1) := by decide +kernel
theorem dX7_findPairs_77 : decode cX7_findPairs 77 = .ok (.invokestatic 265, 3) := by decide +kernel
theorem dX7_findPairs_80 : decode cX7_findPairs 80 = .ok (.iaload, 1) := by decide +kernel
theorem dX7_findPairs_81 : decode cX7_findPairs 81 = .ok (.istore 4, 2) := by decide +kernel
theorem dX7_findPairs_83 : decode cX7_findPairs 83 = .ok (.aload_n 0, 1) := by decide +kernel
theorem dX7_findPairs_84 : decode cX7_findPairs 84 = .ok (.getfield 31, 3) := by decide +kernel
theorem dX7_findPairs_87 : decode cX7_findPairs 87 = .ok (.iload_n 1, 1) := by decide +kernel
theorem dX7_findPairs_88 : decode cX7_findPairs 88 = .ok (.iload_n 3, 1) := by decide +kernel
theorem dX7_findPairs_89 : decode cX7_findPairs 89 = .ok (.aload_n 0, 1) := by decide +kernel
theorem dX7_findPairs_90 : decode cX7_findPairs 90 = .ok (.getfield 28, 3) := by decide +kernel
theorem dX7_findPairs_93 : decode cX7_findPairs 93 = .ok (.iload_n 1, 1) := by decide +kernel
theorem dX7_findPairs_94 : decode cX7_findPairs 94 = .ok (.iaload, 1) := by decide +kernel
theorem dX7_findPairs_95 : decode cX7_findPairs 95 = .ok (.if_icmp .ge 8, 3) := by decide +kernel
theorem dX7_findPairs_98 : decode cX7_findPairs 98 = .ok (.iload 4, 2) := by decide +kernel
theorem dX7_findPairs_100 : decode cX7_findPairs 100 = .ok (.goto 31, 3) := by decide +kernel
theorem dX7_findPairs_103 : decode cX7_findPairs 103 = .ok (.iload_n 3, 1) := by decide +kernel
theorem dX7_findPairs_104 : decode cX7_findPairs 104 = .ok (.aload_n 0, 1) := by decide +kernel
theorem dX7_findPairs_105 : decode cX7_findPairs 105 = .ok (.getfield 28, 3) := by decide +kernel
theorem dX7_findPairs_108 : decode cX7_findPairs 108 = .ok (.iload_n 1, 1) := by decide +kernel
theorem dX7_findPairs_109 : decode cX7_findPairs 109 = .ok (.iaload, 1) := by decide +kernel
theorem dX7_findPairs_110 : decode cX7_findPairs 110 = .ok (.if_icmp .ne 15, 3) := by decide +kernel
theorem dX7_findPairs_113 : decode cX7_findPairs 113 = .ok (.aload_n 0, 1) := by decide +kernel
theorem dX7_findPairs_114 : decode cX7_findPairs 114 = .ok (.getfield 31, 3) := by decide +kernel
theorem dX7_findPairs_117 : decode cX7_findPairs 117 = .ok (.iload_n 1, 1) := by decide +kernel
theorem dX7_findPairs_118 : decode cX7_findPairs 118 = .ok (.iaload, 1) := by decide +kernel
theorem dX7_findPairs_119 : decode cX7_findPairs 119 = .ok (.iload 4, 2) := by decide +kernel
theorem dX7_findPairs_121 : decode cX7_findPairs 121 = .ok (.iadd, 1) := by decide +kernel
theorem dX7_findPairs_122 : decode cX7_findPairs 122 = .ok (.goto 9, 3) := by decide +kernel
theorem dX7_findPairs_125 : decode cX7_findPairs 125 = .ok (.aload_n 0, 1) := by decide +kernel
theorem dX7_findPairs_126 : decode cX7_findPairs 126 = .ok (.getfield 31, 3) := by decide +kernel
theorem dX7_findPairs_129 : decode cX7_findPairs 129 = .ok (.iload_n 1, 1) := by decide +kernel
theorem dX7_findPairs_130 : decode cX7_findPairs 130 = .ok (.iaload, 1) := by decide +kernel
theorem dX7_findPairs_131 : decode cX7_findPairs 131 = .ok (.iastore, 1) := by decide +kernel
theorem dX7_findPairs_132 : decode cX7_findPairs 132 = .ok (.aload_n 0, 1) := by decide +kernel
theorem dX7_findPairs_133 : decode cX7_findPairs 133 = .ok (.getfield 28, 3) := by decide +kernel
theorem dX7_findPairs_136 : decode cX7_findPairs 136 = .ok (.iload_n 1, 1) := by decide +kernel
theorem dX7_findPairs_137 : decode cX7_findPairs 137 = .ok (.aload_n 0, 1) := by decide +kernel
theorem dX7_findPairs_138 : decode cX7_findPairs 138 = .ok (.getfield 28, 3) := by decide +kernel
theorem dX7_findPairs_141 : decode cX7_findPairs 141 = .ok (.iload_n 1, 1) := by decide +kernel
theorem dX7_findPairs_142 : decode cX7_findPairs 142 = .ok (.iaload, 1) := by decide +kernel
theorem dX7_findPairs_143 : decode cX7_findPairs 143 = .ok (.iload_n 3, 1) := by decide +kernel
theorem dX7_findPairs_144 : decode cX7_findPairs 144 = .ok (.invokestatic 108, 3) := by decide +kernel
theorem dX7_findPairs_147 : decode cX7_findPairs 147 = .ok (.iastore, 1) := by decide +kernel
theorem dX7_findPairs_148 : decode cX7_findPairs 148 = .ok (.iinc 2 1, 3) := by decide +kernel
theorem dX7_findPairs_151 : decode cX7_findPairs 151 = .ok (.goto (-106), 3) := by decide +kernel
theorem dX7_findPairs_154 : decode cX7_findPairs 154 = .ok (.iinc 1 1, 3) := by decide +kernel
theorem dX7_findPairs_157 : decode cX7_findPairs 157 = .ok (.goto (-141), 3) := by decide +kernel
theorem dX7_findPairs_160 : decode cX7_findPairs 160 = .ok (.aload_n 0, 1) := by decide +kernel
theorem dX7_findPairs_161 : decode cX7_findPairs 161 = .ok (.getfield 28, 3) := by decide +kernel
theorem dX7_findPairs_164 : decode cX7_findPairs 164 = .ok (.iconst 1, 1) := by decide +kernel
theorem dX7_findPairs_165 : decode cX7_findPairs 165 = .ok (.aload_n 0, 1) := by decide +kernel
theorem dX7_findPairs_166 : decode cX7_findPairs 166 = .ok (.getfield 9, 3) := by decide +kernel
theorem dX7_findPairs_169 : decode cX7_findPairs 169 = .ok (.iconst 1, 1) := by decide +kernel
theorem dX7_findPairs_170 : decode cX7_findPairs 170 = .ok (.iaload, 1) := by decide +kernel
theorem dX7_findPairs_171 : decode cX7_findPairs 171 = .ok (.ishl, 1) := by decide +kernel
theorem dX7_findPairs_172 : decode cX7_findPairs 172 = .ok (.iconst 1, 1) := by decide +kernel
theorem dX7_findPairs_173 : decode cX7_findPairs 173 = .ok (.isub, 1) := by decide +kernel
theorem dX7_findPairs_174 : decode cX7_findPairs 174 = .ok (.iaload, 1) := by decide +kernel
theorem dX7_findPairs_175 : decode cX7_findPairs 175 = .ok (.ireturn, 1) := by decide +kernel
set_option maxHeartbeats 800000 in
set_option maxRecDepth 100000 in
theorem c_X7_findPairs {l : Launch} {ω : xO} {ks : Nat → Option Nat} (hm : xsh ω = mdS ks)  {M : xMem} (hI : MInv M) (hf : Fc M)  : Cq l ω yX7_findPairs ({ frames := 5, cells := 0, slots := 0, locals := 112 } : Room) 5 0 [.ref (xad ω 0)] M (pI1 (fun r N' => r = fpR M ∧ CaE (fpM M) N')) := by
  refine Cq.of (bytes := cX7_findPairs) (ret := (some .int)) (lv0 := [some (.ref (xad ω 0)), none, none, none, none]) m_cd_X7_findPairs m_in_X7 (by decide +kernel) (by decide +kernel) rfl rfl rfl rfl ?_
  intro κ h he hR
  have hn := hI.1
  refine x_aload_n h dX7_findPairs_0 rfl ?_
  refine x_getr (j := 13) (q := 7) h dX7_findPairs_1 (sM0 hm) rfl in_X7 rfl (by decide) m_fl_X7_28 ?_
  refine x_iconst h dX7_findPairs_4 ?_
  refine x_iconst h dX7_findPairs_5 ?_
  refine x_iastore h dX7_findPairs_6 (sM7 hm) (by omega) (by omega) ?_
  refine x_aload_n h dX7_findPairs_7 rfl ?_
  refine x_getr (j := 14) (q := 8) h dX7_findPairs_8 (sM0 hm) rfl in_X7 rfl (by decide) m_fl_X7_31 ?_
  refine x_iconst h dX7_findPairs_11 ?_
  refine x_iconst h dX7_findPairs_12 ?_
  refine x_iastore h dX7_findPairs_13 (sM8 hm) (by omega) (by omega) ?_
  refine x_iconst h dX7_findPairs_14 ?_
  refine x_istore_n h dX7_findPairs_15 rfl rfl ?_
  dsimp only [xset]
  have hb := evF_R hn
  unfold evF at hb
  have g8 : (((M 1 1).toNat : Nat) : Int) = M 1 1 := by omega
  have hA : ∀ a c, 0 ≤ a → a < (((M 1 1).toNat : Nat) : Int) → 0 ≤ c → c < (((M 1 1).toNat : Nat) : Int) → 0 ≤ apN M a c ∧ apN M a c ≤ 999 := fun a c h1 h2 h3 h4 => apN_R hI a c h1 (by omega) h3 (by omega)
  have hKB := prK_B (A := apN M) (n := (M 1 1).toNat) (L := M 7) (W := M 8) (by omega) hA
  rw [g8] at hKB
  refine x_mem (M' := ca (prM M (prK (apN M) (M 1 1).toNat (M 7) (M 8) 0).1 (prK (apN M) (M 1 1).toNat (M 7) (M 8) 0).2) (M 0 6) (M 5)) ?_ ?_
  · show up (up M 7 0 0) 8 0 1 = ca (prM M (ur (M 7) 0 0) (ur (M 8) 0 1)) (M 0 6) (M 5)
    rw [show M 0 6 = prM M (ur (M 7) 0 0) (ur (M 8) 0 1) 0 6 from rfl, show M 5 = prM M (ur (M 7) 0 0) (ur (M 8) 0 1) 5 from rfl, ca_self]
    rfl
  have hf0 : Fc (ca (prM M (prK (apN M) (M 1 1).toNat (M 7) (M 8) 0).1 (prK (apN M) (M 1 1).toNat (M 7) (M 8) 0).2) (M 0 6) (M 5)) := by
    rw [show M 0 6 = prM M (prK (apN M) (M 1 1).toNat (M 7) (M 8) 0).1 (prK (apN M) (M 1 1).toNat (M 7) (M 8) 0).2 0 6 from rfl, show M 5 = prM M (prK (apN M) (M 1 1).toNat (M 7) (M 8) 0).1 (prK (apN M) (M 1 1).toNat (M 7) (M 8) 0).2 5 from rfl, ca_self]
    exact Fc_e1 (N := M) (by unfold wyM; rw [prM_n (by decide) (by decide)]) rfl rfl hf
  have HH : ∀ (k j : Nat) (f : Int) (d : Int → Int), j + k + 1 = (bshl 1 (M 1 1)).toNat → Fc (ca (prM M (prK (apN M) (M 1 1).toNat (M 7) (M 8) j).1 (prK (apN M) (M 1 1).toNat (M 7) (M 8) j).2) f d) → X ω κ 16 [some (.ref (xad ω 0)), some (.int (iI ((j : Int) + 1))), none, none, none] [] (ca (prM M (prK (apN M) (M 1 1).toNat (M 7) (M 8) j).1 (prK (apN M) (M 1 1).toNat (M 7) (M 8) j).2) f d) := by
    intro k
    induction k with
    | zero =>
      intro j f d e hc
      have ej : (j : Int) = evF (M 1 1) := by unfold evF; omega
      have ej2 : j = (evF (M 1 1)).toNat := by omega
      refine x_iload_n h dX7_findPairs_16 rfl ?_
      refine x_iconst h dX7_findPairs_17 ?_
      refine x_aload_n h dX7_findPairs_18 rfl ?_
      refine x_getr (j := 0) (q := 1) h dX7_findPairs_19 (sM0 hm) rfl in_X7 rfl (by decide) m_fl_X7_9 ?_
      refine x_iconst h dX7_findPairs_22 ?_
      refine x_iaload h dX7_findPairs_23 (sM1 hm) (by omega) (fun r23 => ?_)
      rw [show ca (prM M (prK (apN M) (M 1 1).toNat (M 7) (M 8) j).1 (prK (apN M) (M 1 1).toNat (M 7) (M 8) j).2) f d 1 1 = M 1 1 from rfl]
      refine x_ishl h dX7_findPairs_24 (fun r24 => ?_)
      refine x_icmp_ge h dX7_findPairs_25 (tgt := 160) (by decide) (by omega) (by omega) (fun q25 => ?_) (fun q25 => ?_)
      · refine x_aload_n h dX7_findPairs_160 rfl ?_
        refine x_getr (j := 13) (q := 7) h dX7_findPairs_161 (sM0 hm) rfl in_X7 rfl (by decide) m_fl_X7_28 ?_
        refine x_iconst h dX7_findPairs_164 ?_
        refine x_aload_n h dX7_findPairs_165 rfl ?_
        refine x_getr (j := 0) (q := 1) h dX7_findPairs_166 (sM0 hm) rfl in_X7 rfl (by decide) m_fl_X7_9 ?_
        refine x_iconst h dX7_findPairs_169 ?_
        refine x_iaload h dX7_findPairs_170 (sM1 hm) (by omega) (fun r170 => ?_)
        rw [show ca (prM M (prK (apN M) (M 1 1).toNat (M 7) (M 8) j).1 (prK (apN M) (M 1 1).toNat (M 7) (M 8) j).2) f d 1 1 = M 1 1 from rfl]
        refine x_ishl h dX7_findPairs_171 (fun r171 => ?_)
        refine x_iconst h dX7_findPairs_172 ?_
        refine x_isub h dX7_findPairs_173 ?_
        refine x_iaload h dX7_findPairs_174 (sM7 hm) (by omega) (fun r174 => ?_)
        exact x_iretq h he dX7_findPairs_175 ⟨by rw [ca_n (by decide) (by decide), prM_7, ej2]; rfl, by rw [ej2] at hc ⊢; exact CaE.of (N := fpM M) hc⟩
      · exfalso; unfold evF at ej; omega
    | succ k ih =>
      intro j f d e hc
      have ihj := ih (j + 1)
      rw [show prK (apN M) (M 1 1).toNat (M 7) (M 8) (j + 1) = (ur (prK (apN M) (M 1 1).toNat (M 7) (M 8) j).1 ((j : Int) + 1) (prF (apN M) (prK (apN M) (M 1 1).toNat (M 7) (M 8) j).1 (prK (apN M) (M 1 1).toNat (M 7) (M 8) j).2 ((j : Int) + 1) (M 1 1).toNat).1, ur (prK (apN M) (M 1 1).toNat (M 7) (M 8) j).2 ((j : Int) + 1) (prF (apN M) (prK (apN M) (M 1 1).toNat (M 7) (M 8) j).1 (prK (apN M) (M 1 1).toNat (M 7) (M 8) j).2 ((j : Int) + 1) (M 1 1).toNat).2) from rfl] at ihj
      have hB := hKB j (by omega) (by omega)
      generalize (prK (apN M) (M 1 1).toNat (M 7) (M 8) j).1 = L at hc ihj hB ⊢
      generalize (prK (apN M) (M 1 1).toNat (M 7) (M 8) j).2 = V at hc ihj ⊢
      have hs : 0 < (j : Int) + 1 ∧ (j : Int) + 1 < 256 := by omega
      have hx := lowN_x hs
      have hl := inS_lt (n := M 1 1) (by omega) (s := (j : Int) + 1) (by omega) hx.1 hx.2.1
      generalize hse : (j : Int) + 1 = s at ihj hs hx hl ⊢
      refine x_iload_n h dX7_findPairs_16 rfl ?_
      refine x_iconst h dX7_findPairs_17 ?_
      refine x_aload_n h dX7_findPairs_18 rfl ?_
      refine x_getr (j := 0) (q := 1) h dX7_findPairs_19 (sM0 hm) rfl in_X7 rfl (by decide) m_fl_X7_9 ?_
      refine x_iconst h dX7_findPairs_22 ?_
      refine x_iaload h dX7_findPairs_23 (sM1 hm) (by omega) (fun r23 => ?_)
      rw [show ca (prM M L V) f d 1 1 = M 1 1 from rfl]
      refine x_ishl h dX7_findPairs_24 (fun r24 => ?_)
      refine x_icmp_ge h dX7_findPairs_25 (tgt := 160) (by decide) (by omega) (by omega) (fun q25 => ?_) (fun q25 => ?_)
      · exfalso; omega
      · refine x_aload_n h dX7_findPairs_28 rfl ?_
        refine x_getr (j := 13) (q := 7) h dX7_findPairs_29 (sM0 hm) rfl in_X7 rfl (by decide) m_fl_X7_28 ?_
        refine x_iload_n h dX7_findPairs_32 rfl ?_
        refine x_ldc h m_k_X7_224 dX7_findPairs_33 ?_
        refine x_iastore h dX7_findPairs_35 (sM7 hm) (by omega) (by omega) ?_
        rw [prM_u7]
        refine x_aload_n h dX7_findPairs_36 rfl ?_
        refine x_getr (j := 14) (q := 8) h dX7_findPairs_37 (sM0 hm) rfl in_X7 rfl (by decide) m_fl_X7_31 ?_
        refine x_iload_n h dX7_findPairs_40 rfl ?_
        refine x_iconst h dX7_findPairs_41 ?_
        refine x_iastore h dX7_findPairs_42 (sM8 hm) (by omega) (by omega) ?_
        rw [prM_u8]
        refine x_iconst h dX7_findPairs_43 ?_
        refine x_istore_n h dX7_findPairs_44 rfl rfl ?_
        dsimp only [xset]
        have hf1 : Fc (ca (prM M (ur L s (prF (apN M) L V s 0).1) (ur V s (prF (apN M) L V s 0).2)) f d) := prM_F hc
        have H2 : ∀ (k2 p : Nat) (f : Int) (d : Int → Int), p + k2 = (M 1 1).toNat → Fc (ca (prM M (ur L s (prF (apN M) L V s p).1) (ur V s (prF (apN M) L V s p).2)) f d) → X ω κ 45 [some (.ref (xad ω 0)), some (.int (iI s)), some (.int (iI (p : Int))), none, none] [] (ca (prM M (ur L s (prF (apN M) L V s p).1) (ur V s (prF (apN M) L V s p).2)) f d) := by
          intro k2
          induction k2 with
          | zero =>
            intro p f d e2 hc
            have ep : p = (M 1 1).toNat := by omega
            subst ep
            refine x_iload_n h dX7_findPairs_45 rfl ?_
            refine x_aload_n h dX7_findPairs_46 rfl ?_
            refine x_getr (j := 0) (q := 1) h dX7_findPairs_47 (sM0 hm) rfl in_X7 rfl (by decide) m_fl_X7_9 ?_
            refine x_iconst h dX7_findPairs_50 ?_
            refine x_iaload h dX7_findPairs_51 (sM1 hm) (by omega) (fun r51 => ?_)
            rw [show ca (prM M (ur L s (prF (apN M) L V s (M 1 1).toNat).1) (ur V s (prF (apN M) L V s (M 1 1).toNat).2)) f d 1 1 = M 1 1 from rfl]
            refine x_icmp_ge h dX7_findPairs_52 (tgt := 154) (by decide) (by omega) (by omega) (fun q52 => ?_) (fun q52 => ?_)
            · refine x_iinc h dX7_findPairs_154 rfl rfl rfl ?_
              dsimp only [xset]
              refine x_goto h dX7_findPairs_157 (tgt := 16) (by decide) ?_
              refine x_drop 2 ?_
              refine x_drop 3 ?_
              refine x_drop 4 ?_
              dsimp only [xclr]
              rw [← hse] at hc ihj ⊢
              exact ihj f d (by omega) hc
            · exfalso; omega
          | succ k2 ih2 =>
            intro p f d e2 hc
            have hp : (p : Int) < M 1 1 := by omega
            have hpf := prF_x (A := apN M) (L := L) (W := V) (s := s) p
            have hw := wiN_lt hs (o := (p : Int)) (by omega)
            have hls := lsA_R (o := (p : Int)) hA hB (by omega) hs (by omega) (by omega)
            have hpr : 0 ≤ (prF (apN M) L V s p).1 := by
              rcases hpf.1 with h1 | ⟨q, q1, q2, q3, q4⟩
              · omega
              · have := lsA_R (o := q) hA hB (by omega) hs (by omega) (by omega); omega
            have hle := hpf.2.1
            have ihp := ih2 (p + 1)
            rw [prF_s] at ihp
            unfold prG at ihp
            have eL : ∀ v, ur L s v (wiN s (p : Int)) = L (wiN s (p : Int)) := fun v => ur_n (by omega)
            have eV : ∀ v, ur V s v (wiN s (p : Int)) = V (wiN s (p : Int)) := fun v => ur_n (by omega)
            have eA : ∀ v, lsA (apN M) (ur L s v) s (p : Int) = lsA (apN M) L s (p : Int) := fun v => by unfold lsA; rw [eL]
            generalize prF (apN M) L V s p = st at hc ihp hpr hle ⊢
            generalize hla : lsA (apN M) L s (p : Int) = q at ihp hls eA
            refine x_iload_n h dX7_findPairs_45 rfl ?_
            refine x_aload_n h dX7_findPairs_46 rfl ?_
            refine x_getr (j := 0) (q := 1) h dX7_findPairs_47 (sM0 hm) rfl in_X7 rfl (by decide) m_fl_X7_9 ?_
            refine x_iconst h dX7_findPairs_50 ?_
            refine x_iaload h dX7_findPairs_51 (sM1 hm) (by omega) (fun r51 => ?_)
            rw [show ca (prM M (ur L s st.1) (ur V s st.2)) f d 1 1 = M 1 1 from rfl]
            refine x_icmp_ge h dX7_findPairs_52 (tgt := 154) (by decide) (by omega) (by omega) (fun q52 => ?_) (fun q52 => ?_)
            · exfalso; omega
            · refine x_aload_n h dX7_findPairs_55 rfl ?_
              refine x_iload_n h dX7_findPairs_56 rfl ?_
              refine x_iload_n h dX7_findPairs_57 rfl ?_
              refine x_V2i h dX7_findPairs_58 m_ml_X7_268 m_im_X7_mayBe m_se_X7_mayBe (sM0 hm) rfl (by decide) rfl (c_X7_mayBe hm hs (by omega)) ?_
              try simp only [ca_ca, ca_1, dN_ca, wyM_ca, plN_ca, rpN_ca, ltN_ca, pmN_ca, wnN_ca, nbN_ca, ca_07, ca_08, ca_09, ca_010, beN_ca, ctN_ca, gonN_ca, mvN_ca, stN_ca, thN_ca, fnM_ca, tiN_ca, smN_ca, frN_ca, teN_ca, apN_ca, ca_13, ca_14, ca_7, lwN_ca, ndN_ca, lwN_p]
              refine x_ifeqB h dX7_findPairs_61 (tgt := 148) (by decide) (fun q61 => ?_) (fun q61 => ?_)
              · try rw [prM_u7, ur_ur]
                refine x_iinc h dX7_findPairs_148 rfl rfl rfl ?_
                dsimp only [xset]
                refine x_goto h dX7_findPairs_151 (tgt := 45) (by decide) ?_
                first
                  | (rw [tI_n q61] at ihp; exact ihp _ _ (by omega) hc)
                  | (refine x_drop 3 ?_; refine x_drop 4 ?_; dsimp only [xclr]; rw [tI_p q61, if_pos (Int.not_le.mp q95)] at ihp; exact ihp _ _ (by omega) (prM_F (by assumption)))
                  | (refine x_drop 3 ?_; refine x_drop 4 ?_; dsimp only [xclr]; rw [tI_p q61, if_neg (Int.not_lt.mpr q95), if_pos q110] at ihp; exact ihp _ _ (by omega) (prM_F (by assumption)))
                  | (refine x_drop 3 ?_; refine x_drop 4 ?_; dsimp only [xclr]; rw [tI_p q61, if_neg (Int.not_lt.mpr q95), if_neg q110] at ihp; exact ihp _ _ (by omega) (prM_F (by assumption)))
              · refine x_aload_n h dX7_findPairs_64 rfl ?_
                refine x_iload_n h dX7_findPairs_65 rfl ?_
                refine x_iload_n h dX7_findPairs_66 rfl ?_
                refine x_Q2i h dX7_findPairs_67 m_ml_X7_271 m_im_X7_leastWith m_se_X7_leastWith (sM0 hm) rfl (by decide) rfl (c_X7_leastWith hm (prM_I hI).ca hc hs hl ⟨by omega, hp⟩) (fun r67 N67 h67 => ?_)
                obtain ⟨rfl, f67, d67, rfl, c67⟩ := h67
                try simp only [ca_ca, ca_1, dN_ca, wyM_ca, plN_ca, rpN_ca, ltN_ca, pmN_ca, wnN_ca, nbN_ca, ca_07, ca_08, ca_09, ca_010, beN_ca, ctN_ca, gonN_ca, mvN_ca, stN_ca, thN_ca, fnM_ca, tiN_ca, smN_ca, frN_ca, teN_ca, apN_ca, ca_13, ca_14, ca_7, lwN_ca, ndN_ca, lwN_p] at c67 ⊢
                try rw [eA]
                refine x_istore_n h dX7_findPairs_70 rfl rfl ?_
                dsimp only [xset]
                refine x_aload_n h dX7_findPairs_71 rfl ?_
                refine x_getr (j := 14) (q := 8) h dX7_findPairs_72 (sM0 hm) rfl in_X7 rfl (by decide) m_fl_X7_31 ?_
                refine x_iload_n h dX7_findPairs_75 rfl ?_
                refine x_iload_n h dX7_findPairs_76 rfl ?_
                refine x_S2i h dX7_findPairs_77 m_ml_X7_265 m_st_X7_without (by decide) rfl (c_X7_without hm hs) ?_
                try simp only [ca_ca, ca_1, dN_ca, wyM_ca, plN_ca, rpN_ca, ltN_ca, pmN_ca, wnN_ca, nbN_ca, ca_07, ca_08, ca_09, ca_010, beN_ca, ctN_ca, gonN_ca, mvN_ca, stN_ca, thN_ca, fnM_ca, tiN_ca, smN_ca, frN_ca, teN_ca, apN_ca, ca_13, ca_14, ca_7, lwN_ca, ndN_ca, lwN_p]
                refine x_iaload h dX7_findPairs_80 (sM8 hm) (by omega) (fun r80 => ?_)
                rw [ca_n (by decide) (by decide), prM_8, eV] at r80 ⊢
                refine x_istore h dX7_findPairs_81 rfl rfl ?_
                dsimp only [xset]
                refine x_aload_n h dX7_findPairs_83 rfl ?_
                refine x_getr (j := 14) (q := 8) h dX7_findPairs_84 (sM0 hm) rfl in_X7 rfl (by decide) m_fl_X7_31 ?_
                refine x_iload_n h dX7_findPairs_87 rfl ?_
                refine x_iload_n h dX7_findPairs_88 rfl ?_
                refine x_aload_n h dX7_findPairs_89 rfl ?_
                refine x_getr (j := 13) (q := 7) h dX7_findPairs_90 (sM0 hm) rfl in_X7 rfl (by decide) m_fl_X7_28 ?_
                refine x_iload_n h dX7_findPairs_93 rfl ?_
                refine x_iaload h dX7_findPairs_94 (sM7 hm) (by omega) (fun r94 => ?_)
                rw [ca_n (by decide) (by decide), prM_7]
                rw [ur_s]
                refine x_icmp_ge h dX7_findPairs_95 (tgt := 103) (by decide) (by omega) (by omega) (fun q95 => ?_) (fun q95 => ?_)
                · refine x_iload_n h dX7_findPairs_103 rfl ?_
                  refine x_aload_n h dX7_findPairs_104 rfl ?_
                  refine x_getr (j := 13) (q := 7) h dX7_findPairs_105 (sM0 hm) rfl in_X7 rfl (by decide) m_fl_X7_28 ?_
                  refine x_iload_n h dX7_findPairs_108 rfl ?_
                  refine x_iaload h dX7_findPairs_109 (sM7 hm) (by omega) (fun r109 => ?_)
                  rw [ca_n (by decide) (by decide), prM_7]
                  rw [ur_s]
                  refine x_icmp_ne h dX7_findPairs_110 (tgt := 125) (by decide) (by omega) (by omega) (fun q110 => ?_) (fun q110 => ?_)
                  · refine x_aload_n h dX7_findPairs_125 rfl ?_
                    refine x_getr (j := 14) (q := 8) h dX7_findPairs_126 (sM0 hm) rfl in_X7 rfl (by decide) m_fl_X7_31 ?_
                    refine x_iload_n h dX7_findPairs_129 rfl ?_
                    refine x_iaload h dX7_findPairs_130 (sM8 hm) (by omega) (fun r130 => ?_)
                    try (rw [ca_n (by decide) (by decide), prM_8, ur_s] at r130 ⊢)
                    refine x_iastore h dX7_findPairs_131 (sM8 hm) (by omega) (by first | assumption | (exact hR 8 _) | omega) ?_
                    rw [prM_u8, ur_ur]
                    refine x_aload_n h dX7_findPairs_132 rfl ?_
                    refine x_getr (j := 13) (q := 7) h dX7_findPairs_133 (sM0 hm) rfl in_X7 rfl (by decide) m_fl_X7_28 ?_
                    refine x_iload_n h dX7_findPairs_136 rfl ?_
                    refine x_aload_n h dX7_findPairs_137 rfl ?_
                    refine x_getr (j := 13) (q := 7) h dX7_findPairs_138 (sM0 hm) rfl in_X7 rfl (by decide) m_fl_X7_28 ?_
                    refine x_iload_n h dX7_findPairs_141 rfl ?_
                    refine x_iaload h dX7_findPairs_142 (sM7 hm) (by omega) (fun r142 => ?_)
                    rw [ca_n (by decide) (by decide), prM_7]
                    rw [ur_s]
                    refine x_iload_n h dX7_findPairs_143 rfl ?_
                    refine x_min h dX7_findPairs_144 m_ml_X7_108 rfl (by decide) (by omega) (by omega) ?_
                    refine x_iastore h dX7_findPairs_147 (sM7 hm) (by omega) (by omega) ?_
                    try rw [prM_u7, ur_ur]
                    refine x_iinc h dX7_findPairs_148 rfl rfl rfl ?_
                    dsimp only [xset]
                    refine x_goto h dX7_findPairs_151 (tgt := 45) (by decide) ?_
                    first
                      | (rw [tI_n q61] at ihp; exact ihp _ _ (by omega) hc)
                      | (refine x_drop 3 ?_; refine x_drop 4 ?_; dsimp only [xclr]; rw [tI_p q61, if_pos (Int.not_le.mp q95)] at ihp; exact ihp _ _ (by omega) (prM_F (by assumption)))
                      | (refine x_drop 3 ?_; refine x_drop 4 ?_; dsimp only [xclr]; rw [tI_p q61, if_neg (Int.not_lt.mpr q95), if_pos q110] at ihp; exact ihp _ _ (by omega) (prM_F (by assumption)))
                      | (refine x_drop 3 ?_; refine x_drop 4 ?_; dsimp only [xclr]; rw [tI_p q61, if_neg (Int.not_lt.mpr q95), if_neg q110] at ihp; exact ihp _ _ (by omega) (prM_F (by assumption)))
                  · refine x_aload_n h dX7_findPairs_113 rfl ?_
                    refine x_getr (j := 14) (q := 8) h dX7_findPairs_114 (sM0 hm) rfl in_X7 rfl (by decide) m_fl_X7_31 ?_
                    refine x_iload_n h dX7_findPairs_117 rfl ?_
                    refine x_iaload h dX7_findPairs_118 (sM8 hm) (by omega) (fun r118 => ?_)
                    refine x_iload h dX7_findPairs_119 rfl ?_
                    rw [ca_n (by decide) (by decide), prM_8]
                    rw [ur_s]
                    refine x_iadd h dX7_findPairs_121 ?_
                    refine x_wr (fun rwr => ?_)
                    refine x_goto h dX7_findPairs_122 (tgt := 131) (by decide) ?_
                    try (rw [ca_n (by decide) (by decide), prM_8, ur_s] at r130 ⊢)
                    refine x_iastore h dX7_findPairs_131 (sM8 hm) (by omega) (by first | assumption | (exact hR 8 _) | omega) ?_
                    rw [prM_u8, ur_ur]
                    refine x_aload_n h dX7_findPairs_132 rfl ?_
                    refine x_getr (j := 13) (q := 7) h dX7_findPairs_133 (sM0 hm) rfl in_X7 rfl (by decide) m_fl_X7_28 ?_
                    refine x_iload_n h dX7_findPairs_136 rfl ?_
                    refine x_aload_n h dX7_findPairs_137 rfl ?_
                    refine x_getr (j := 13) (q := 7) h dX7_findPairs_138 (sM0 hm) rfl in_X7 rfl (by decide) m_fl_X7_28 ?_
                    refine x_iload_n h dX7_findPairs_141 rfl ?_
                    refine x_iaload h dX7_findPairs_142 (sM7 hm) (by omega) (fun r142 => ?_)
                    rw [ca_n (by decide) (by decide), prM_7]
                    rw [ur_s]
                    refine x_iload_n h dX7_findPairs_143 rfl ?_
                    refine x_min h dX7_findPairs_144 m_ml_X7_108 rfl (by decide) (by omega) (by omega) ?_
                    refine x_iastore h dX7_findPairs_147 (sM7 hm) (by omega) (by omega) ?_
                    try rw [prM_u7, ur_ur]
                    refine x_iinc h dX7_findPairs_148 rfl rfl rfl ?_
                    dsimp only [xset]
                    refine x_goto h dX7_findPairs_151 (tgt := 45) (by decide) ?_
                    first
                      | (rw [tI_n q61] at ihp; exact ihp _ _ (by omega) hc)
                      | (refine x_drop 3 ?_; refine x_drop 4 ?_; dsimp only [xclr]; rw [tI_p q61, if_pos (Int.not_le.mp q95)] at ihp; exact ihp _ _ (by omega) (prM_F (by assumption)))
                      | (refine x_drop 3 ?_; refine x_drop 4 ?_; dsimp only [xclr]; rw [tI_p q61, if_neg (Int.not_lt.mpr q95), if_pos q110] at ihp; exact ihp _ _ (by omega) (prM_F (by assumption)))
                      | (refine x_drop 3 ?_; refine x_drop 4 ?_; dsimp only [xclr]; rw [tI_p q61, if_neg (Int.not_lt.mpr q95), if_neg q110] at ihp; exact ihp _ _ (by omega) (prM_F (by assumption)))
                · refine x_iload h dX7_findPairs_98 rfl ?_
                  refine x_goto h dX7_findPairs_100 (tgt := 131) (by decide) ?_
                  try (rw [ca_n (by decide) (by decide), prM_8, ur_s] at r130 ⊢)
                  refine x_iastore h dX7_findPairs_131 (sM8 hm) (by omega) (by first | assumption | (exact hR 8 _) | omega) ?_
                  rw [prM_u8, ur_ur]
                  refine x_aload_n h dX7_findPairs_132 rfl ?_
                  refine x_getr (j := 13) (q := 7) h dX7_findPairs_133 (sM0 hm) rfl in_X7 rfl (by decide) m_fl_X7_28 ?_
                  refine x_iload_n h dX7_findPairs_136 rfl ?_
                  refine x_aload_n h dX7_findPairs_137 rfl ?_
                  refine x_getr (j := 13) (q := 7) h dX7_findPairs_138 (sM0 hm) rfl in_X7 rfl (by decide) m_fl_X7_28 ?_
                  refine x_iload_n h dX7_findPairs_141 rfl ?_
                  refine x_iaload h dX7_findPairs_142 (sM7 hm) (by omega) (fun r142 => ?_)
                  rw [ca_n (by decide) (by decide), prM_7]
                  rw [ur_s]
                  refine x_iload_n h dX7_findPairs_143 rfl ?_
                  refine x_min h dX7_findPairs_144 m_ml_X7_108 rfl (by decide) (by omega) (by omega) ?_
                  refine x_iastore h dX7_findPairs_147 (sM7 hm) (by omega) (by omega) ?_
                  try rw [prM_u7, ur_ur]
                  refine x_iinc h dX7_findPairs_148 rfl rfl rfl ?_
                  dsimp only [xset]
                  refine x_goto h dX7_findPairs_151 (tgt := 45) (by decide) ?_
                  first
                    | (rw [tI_n q61] at ihp; exact ihp _ _ (by omega) hc)
                    | (refine x_drop 3 ?_; refine x_drop 4 ?_; dsimp only [xclr]; rw [tI_p q61, if_pos (Int.not_le.mp q95)] at ihp; exact ihp _ _ (by omega) (prM_F (by assumption)))
                    | (refine x_drop 3 ?_; refine x_drop 4 ?_; dsimp only [xclr]; rw [tI_p q61, if_neg (Int.not_lt.mpr q95), if_pos q110] at ihp; exact ihp _ _ (by omega) (prM_F (by assumption)))
                    | (refine x_drop 3 ?_; refine x_drop 4 ?_; dsimp only [xclr]; rw [tI_p q61, if_neg (Int.not_lt.mpr q95), if_neg q110] at ihp; exact ihp _ _ (by omega) (prM_F (by assumption)))
        refine x_mem (M' := ca (prM M (ur L s (prF (apN M) L V s 0).1) (ur V s (prF (apN M) L V s 0).2)) f d) rfl ?_
        exact H2 (M 1 1).toNat 0 f d (by omega) hf1
  exact HH ((bshl 1 (M 1 1)).toNat - 1) 0 _ _ (by omega) hf0

