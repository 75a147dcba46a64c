/-! numbers: bits, quotients, in whole numbers -/
theorem iI_nI (n : Nat) : iI (n : Int) = nI n := rfl
theorem band_1 {c : Int} (h : 0 ≤ c ∧ c ≤ 2147483647) : band c 1 = c % 2 := by
  obtain ⟨n, rfl⟩ : ∃ n : Nat, c = (n : Int) := ⟨c.toNat, by omega⟩
  unfold band
  rw [iI_nI, show iI 1 = (1 : Int32) from rfl, pk_andN (m := 1) (by omega) 1 rfl, nI_toInt (by omega)]
  omega
theorem band_01 (x : Int) : band x 1 = 0 ∨ band x 1 = 1 := by
  unfold band
  obtain ⟨j, hj, e⟩ := pk_andE (iI x) (m := 1) 1 rfl
  rw [show iI 1 = (1 : Int32) from rfl, e, nI_toInt (by omega)]
  omega
theorem bdiv_p {a d : Int} (h : 0 ≤ a ∧ a ≤ 2147483647) (hd : 0 < d ∧ d ≤ 2147483647) : bdiv a d = a / d := by
  obtain ⟨n, rfl⟩ : ∃ n : Nat, a = (n : Int) := ⟨a.toNat, by omega⟩
  obtain ⟨m, rfl⟩ : ∃ m : Nat, d = (m : Int) := ⟨d.toNat, by omega⟩
  unfold bdiv
  have hle : n / m ≤ n := Nat.div_le_self _ _
  rw [iI_nI, iI_nI, pk_div (by omega) (by omega) (by omega), nI_toInt (by omega)]
  rfl
theorem brem_p {a d : Int} (h : 0 ≤ a ∧ a ≤ 2147483647) (hd : 0 < d ∧ d ≤ 2147483647) : brem a d = a % d := by
  obtain ⟨n, rfl⟩ : ∃ n : Nat, a = (n : Int) := ⟨a.toNat, by omega⟩
  obtain ⟨m, rfl⟩ : ∃ m : Nat, d = (m : Int) := ⟨d.toNat, by omega⟩
  unfold brem
  have hle : n % m < m := Nat.mod_lt _ (by omega)
  rw [iI_nI, iI_nI, pk_rem (by omega) (by omega) (by omega), nI_toInt (by omega)]
  rfl
theorem bor_0 {a : Int} (h : inR a) : bor a 0 = a := by
  unfold bor
  rw [show iI 0 = (0 : Int32) from rfl, Int32.or_zero, iI_toInt h]
/-- a memory apart from some rows -/
theorem up_n {M : xMem} {k i : Nat} {j z : Int} (h : i ≠ k) : up M k j z i = M i := by unfold up; exact upr_n h
theorem up_s (M : xMem) (k : Nat) (j z : Int) : up M k j z k = ur (M k) j z := by unfold up; exact upr_s _ _ _
theorem up_nn {M : xMem} {k i : Nat} {j z q : Int} (h : i ≠ k ∨ q ≠ j) : up M k j z i q = M i q := by
  by_cases e : i = k
  · subst e
    rw [up_s]
    exact ur_n (by omega)
  · rw [up_n e]
theorem up_ss (M : xMem) (k : Nat) (j z : Int) : up M k j z k j = z := by rw [up_s, ur_s]
theorem tI_t {α : Type} {c : Prop} [h : Decidable c] {a b : α} (hc : c) : (if c then a else b) = a := if_pos hc
