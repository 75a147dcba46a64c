/-! the String constants at the law's entry -/
def nW : List Cond := flatC (Jvm.Cond.and given_1 narrow_1)
def nwP (i : Nat) : Nat := [9, 19, 29, 41, 54, 68, 82, 98, 112, 127, 142, 158, 181, 203, 225, 249, 274, 299, 326, 354, 379, 405, 438, 467].getD i 0
def srP (i : Nat) : Nat := [853, 906, 907, 908, 909, 910, 911, 912, 913, 923, 932, 937, 1055, 1056, 1057, 1058, 1059, 1060, 1061, 1542, 1551, 1552, 1557, 1562].getD i 0
abbrev stT (i : Nat) : Term := .string (stO i) (stI i)
abbrev stV (i : Nat) : Term := .field (stT i) "java/lang/String" "value" "[B"
theorem nw_1 : ∀ i, i < 24 → nW[nwP i]? = some (Cond.exactly (stT i) "java/lang/String") := by decide +kernel
theorem nw_2 : ∀ i, i < 24 → nW[nwP i + 1]? = some (Cond.eq (.field (stT i) "java/lang/String" "coder" "B") (.int 0)) := by decide +kernel
theorem nw_3 : ∀ i, i < 24 → nW[nwP i + 2]? = some (Cond.arrayOf (stV i) .byte) := by decide +kernel
theorem nw_4 : ∀ i, i < 24 → nW[nwP i + 3]? = some (Cond.eq (.length (stV i)) (.int (Int32.ofNat (stQ i)))) := by decide +kernel
theorem nw_5 : ∀ i, i < 24 → ∀ j, j < stQ i → nW[nwP i + 4 + j]? = some (Cond.eq (.elem (stV i) (.int (Int32.ofNat j))) (.int (iI (stB i j)))) := by decide +kernel
theorem sr_1 : ∀ i, i < 24 → lw_tbl[srP i]? = some (Cond.stringRef (stO i) (stI i) (stX i)) := by decide +kernel
theorem nw_c : nW[4]? = some (Cond.eq (.static "java/lang/String" "COMPACT_STRINGS" "Z") (.int 1)) := by decide +kernel
theorem nw_f : nW[5]? = some (Cond.isRef (.static "jdk/internal/util/Preconditions" "SIOOBE_FORMATTER" "Ljava/util/function/BiFunction;")) := by decide +kernel
theorem ls_c : Cond.laysStatic "java/lang/String" "COMPACT_STRINGS" "Z" ∈ lw_tbl := List.mem_of_getElem? (i := 867) (by decide +kernel)
theorem ls_f : Cond.laysStatic "jdk/internal/util/Preconditions" "SIOOBE_FORMATTER" "Ljava/util/function/BiFunction;" ∈ lw_tbl := List.mem_of_getElem? (i := 883) (by decide +kernel)
theorem ii_c : Cond.initialized "java/lang/String" ∈ lw_tbl := List.mem_of_getElem? (i := 105) (by decide +kernel)
theorem ii_f : Cond.initialized "jdk/internal/util/Preconditions" ∈ lw_tbl := List.mem_of_getElem? (i := 107) (by decide +kernel)
theorem mp_D (l : List Int) (j : Nat) : (l.map iI).getD j 0 = iI (l.getD j 0) := by
  rw [List.getD_eq_getElem?_getD, List.getD_eq_getElem?_getD, List.getElem?_map]
  cases l[j]? <;> rfl
theorem st_one {s : State} {b : Nat} (hts : ∀ w ∈ lw_tbl, w.before #[Value.ref b] s = true) (hgv : (Jvm.Cond.and given_1 narrow_1).before #[Value.ref b] s = true) (i : Nat) (hi : i < 24) : ∃ k v : Nat, vk_R (stO i) (stI i) (stX i) k s ∧ va_O "java/lang/String" k (fun q => s.heap.size ≤ q) s s.heap ∧ va_OF "java/lang/String" "coder" "B" (.int 0) k (fun q => s.heap.size ≤ q) s s.heap ∧ va_OF "java/lang/String" "value" "[B" (.ref v) k (fun q => s.heap.size ≤ q) s s.heap ∧ va_T .byte v (stQ i) (fun j => .int (iI (stB i j))) (fun q => s.heap.size ≤ q) s s.heap := by
  have hw : ∀ w ∈ nW, w.before #[Value.ref b] s = true := flat_of_before _ hgv
  have hq := (stQ_i i hi).2
  have z : ∀ k : Nat, k < 1 → k = 0 := fun k h => by omega
  obtain ⟨adK, adV, hS, hE⟩ := vk_Sof (args := #[Value.ref b]) (s := s) (N := 1) (tm := fun _ => stT i) (len := [stQ i]) (byt := [(stK i).map iI]) (A := fun q => s.heap.size ≤ q)
    (fun k hk => by rw [z k hk]; show stQ i < 2 ^ 31; omega)
    (fun k hk => hw _ (List.mem_of_getElem? (nw_1 i hi)))
    (fun k hk => hw _ (List.mem_of_getElem? (nw_2 i hi)))
    (fun k hk => hw _ (List.mem_of_getElem? (nw_3 i hi)))
    (fun k hk => by rw [z k hk]; exact hw _ (List.mem_of_getElem? (nw_4 i hi)))
    (fun k hk j hj => by
      rw [z k hk] at hj ⊢
      have e : (([(stK i).map iI] : List (List Int32)).getD 0 []).getD j 0 = iI (stB i j) := mp_D (stK i) j
      rw [e]
      exact hw _ (List.mem_of_getElem? (nw_5 i hi j hj)))
    (fun a c ha hc hne => by omega) (fun a ha => by show ¬ s.heap.size ≤ a; omega)
  obtain ⟨h1, h2, h3, h4⟩ := hS.1 0 (by omega)
  refine ⟨adK 0, adV 0, vk_R.of (A := #[Value.ref b]) (hts _ (List.mem_of_getElem? (sr_1 i hi))) (hE 0 (by omega)), h1, h2, h3, ?_⟩
  have e : (fun j : Nat => Value.int (iI (stB i j))) = fun j => .int ((([(stK i).map iI] : List (List Int32)).getD 0 []).getD j 0) := by
    funext j
    exact congrArg Value.int (mp_D (stK i) j).symm
  rw [e]
  exact h4
theorem st_all {s : State} {b : Nat} (hts : ∀ w ∈ lw_tbl, w.before #[Value.ref b] s = true) (hgv : (Jvm.Cond.and given_1 narrow_1).before #[Value.ref b] s = true) : ∃ ki vi : Nat → Nat, xStr ki vi (fun q => s.heap.size ≤ q) s := by
  have hw : ∀ w ∈ nW, w.before #[Value.ref b] s = true := flat_of_before _ hgv
  have hA : ∀ a : Nat, a < s.heap.size → ¬ (fun q => s.heap.size ≤ q) a := fun a ha => by show ¬ s.heap.size ≤ a; omega
  have h : ∀ i : Nat, ∃ q : Nat × Nat, i < 24 → xSt1 (fun _ => q.1) (fun _ => q.2) (fun q => s.heap.size ≤ q) i s := by
    intro i
    by_cases hi : i < 24
    · obtain ⟨k, v, hh⟩ := st_one hts hgv i hi
      exact ⟨(k, v), fun _ => hh⟩
    · exact ⟨(0, 0), fun q => absurd q hi⟩
  refine ⟨fun i => (Classical.choose (h i)).1, fun i => (Classical.choose (h i)).2, fun i hi => Classical.choose_spec (h i) hi, ?_, ?_⟩
  · exact va_Zof (hts _ ls_c) (hts _ ii_c) (va_eqi (hw _ (List.mem_of_getElem? nw_c))) hA
  · exact va_Zqof (hts _ ls_f) (hts _ ii_f) (hw _ (List.mem_of_getElem? nw_f)) hA
