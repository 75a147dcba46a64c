/-! the rows behind the constructors, in the class's places; the int array class -/
theorem ty_I {s : State} {A : Array Value} (h : (Cond.arrayClass .int).before A s = true) : ∃ cI, ArrOfT s cI .int ∧ va_RA s cI .int := by
  obtain ⟨cA, kA, comp, h1, h2, h3⟩ := Cond.arrayClass_spec h
  exact ⟨cA, fun N z => ⟨(fun j q => by cases q), kA, h2, comp, h3⟩, h1⟩
theorem su_row {r k : Nat} (hk : 1 ≤ k ∧ k ≤ 4) : suC (upr zM (r + 1) lwL) r (r + k) = suC (upr zM 1 lwL) 0 k := by
  have a1 : upr zM (r + 1) lwL (r + 1) = lwL := upr_s _ _ _
  have b1 : upr zM 1 lwL (0 + 1) = lwL := upr_s _ _ _
  have a2 : upr zM (r + 1) lwL (r + 2) = zRw := upr_n (by omega)
  have b2 : upr zM 1 lwL (0 + 2) = zRw := upr_n (by omega)
  have a3 : upr zM (r + 1) lwL (r + 3) = zRw := upr_n (by omega)
  have b3 : upr zM 1 lwL (0 + 3) = zRw := upr_n (by omega)
  have a4 : upr zM (r + 1) lwL (r + 4) = zRw := upr_n (by omega)
  have b4 : upr zM 1 lwL (0 + 4) = zRw := upr_n (by omega)
  unfold suC suA
  rw [a1, a2, a3, a4, b1, b2, b3, b4]
  rcases (show k = 1 ∨ k = 2 ∨ k = 3 ∨ k = 4 by omega) with rfl | rfl | rfl | rfl
  · rw [upr_n (by omega), upr_n (by omega), upr_n (by omega), a1, upr_n (by omega), upr_n (by omega), upr_n (by omega)]
    exact b1.symm
  · rw [upr_n (by omega), upr_n (by omega), upr_s, upr_n (by omega), upr_n (by omega), upr_s]
  · rw [upr_n (by omega), upr_s, upr_n (by omega), upr_s]
  · rw [upr_s, upr_s]
theorem C0_ro {k : Nat} (hk : 1 ≤ k ∧ k ≤ 4) : (fun j : Nat => iI (C0 (1 + k) (j : Int))) = roI k := by
  have e := su_row (r := 1) hk
  funext j
  unfold roI
  rw [C0_r (by omega), ← e]
theorem C0_ro6 {k : Nat} (hk : 1 ≤ k ∧ k ≤ 4) : (fun j : Nat => iI (C0 (6 + k) (j : Int))) = roI k := by
  have e := su_row (r := 6) hk
  funext j
  unfold roI
  have c : C0 (6 + k) = suC (upr zM 7 lwL) 6 (6 + k) := by
    unfold C0
    rw [if_neg (by omega), if_neg (by omega), if_pos (by omega)]
  rw [c, ← e]
