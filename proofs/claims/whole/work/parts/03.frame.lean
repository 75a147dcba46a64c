/-! THE WORLD AS NUMBERS. A memory M tells for each cell k and each place j a whole number; a shape tells what each cell is: a row of ints, an object, a row of references that never change. X: a method's frame at pc, with its locals, its stack and the memory, comes to the method's end. -/
/-- the tables' words that stay, as they stand -/
def xtbl : List Cond := lw_tbl.filter goodWord
theorem xtb {w : Cond} (h : w ∈ lw_tbl) (g : goodWord w = true) : w ∈ xtbl := List.mem_filter.mpr ⟨h, g⟩
theorem xtb_in {w : Cond} (h : w ∈ xtbl) : w ∈ lw_tbl := (List.mem_filter.mp h).1
/-- the words on nest mates -/
def xNest (U : State) : Prop := ∀ (own : String) (i : Nat) (y : MethodName) (host : String), Cond.methodLinkNest own i y host ∈ lw_tbl → va_Nw (.methodLinkNest own i y host) U
theorem xNest.warm {s U : State} (hW : s.WarmedH U.vm) (h : xNest s) : xNest U := fun own i y host hm => va_Nw.warmM hW (h own i y host hm)
theorem xNest.same {s U : State} (hv : s.vm = U.vm) (h : xNest s) : xNest U := fun own i y host hm => va_Nw.same rfl hv (h own i y host hm)
abbrev xMem : Type := Nat → Int → Int
def iI (z : Int) : Int32 := Int32.ofInt z
abbrev inR (z : Int) : Prop := -2147483648 ≤ z ∧ z ≤ 2147483647
def xR (M : xMem) : Prop := ∀ k j, inR (M k j)
def ur (r : Int → Int) (j : Int) (z : Int) : Int → Int := fun i => if i = j then z else r i
def upr (M : xMem) (k : Nat) (r : Int → Int) : xMem := fun i => if i = k then r else M i
def up (M : xMem) (k : Nat) (j z : Int) : xMem := upr M k (ur (M k) j z)
theorem iI_toInt {z : Int} (h : inR z) : (iI z).toInt = z := by
  have h1 := h.1
  have h2 := h.2
  unfold iI
  rw [Int32.toInt_ofInt]
  have e : Int32.size = 4294967296 := rfl
  rw [e]
  exact Int.bmod_eq_of_le (by omega) (by omega)
theorem iI_of (x : Int32) : iI x.toInt = x := by
  unfold iI
  exact Int32.ofInt_toInt x
theorem inR_of (x : Int32) : inR x.toInt := ⟨by have := Int32.le_toInt x; simpa using this, by have := Int32.toInt_lt x; omega⟩
theorem iI_inj {a b : Int} (ha : inR a) (hb : inR b) : iI a = iI b ↔ a = b :=
  ⟨fun h => by rw [← iI_toInt ha, ← iI_toInt hb, h], fun h => by rw [h]⟩
theorem iI_lt {a b : Int} (ha : inR a) (hb : inR b) : iI a < iI b ↔ a < b := by
  rw [Int32.lt_iff_toInt_lt, iI_toInt ha, iI_toInt hb]
theorem iI_le {a b : Int} (ha : inR a) (hb : inR b) : iI a ≤ iI b ↔ a ≤ b := by
  rw [Int32.le_iff_toInt_le, iI_toInt ha, iI_toInt hb]
theorem iI_add (a b : Int) : iI a + iI b = iI (a + b) := (Int32.ofInt_add a b).symm
theorem iI_mul (a b : Int) : iI a * iI b = iI (a * b) := (Int32.ofInt_mul a b).symm
theorem iI_neg (a : Int) : - iI a = iI (- a) := (Int32.ofInt_neg a).symm
theorem iI_sub (a b : Int) : iI a - iI b = iI (a - b) := (Int32.ofInt_sub a b).symm
theorem iI_0 : iI 0 = 0 := rfl
theorem iI_nat {j : Nat} (h : j < 2147483648) : (iI (j : Int)).toNatClampNeg = j := by
  show (iI (j : Int)).toInt.toNat = j
  rw [iI_toInt ⟨by omega, by omega⟩]
  omega
theorem iI_in {z : Int} {j n : Nat} (hz : z = (j : Int)) (hj : j < n) (hn : n ≤ 2147483648) : vp_in (iI z) n := by
  subst hz
  rintro (h | h)
  · rw [show (0 : Int32) = iI 0 from rfl, iI_lt ⟨by omega, by omega⟩ ⟨by omega, by omega⟩] at h
    omega
  · rw [iI_nat (by omega)] at h
    omega
abbrev xS : Type := Nat ⊕ (Nat × List (Option Nat)) ⊕ (Nat × (Nat → Option Nat))
/-- what is the same in a system's life: the class tables, the class of int rows, of rows of texts, where each cell lies, the shape, what else is known of the heap -/
abbrev xO : Type := va_G × ClassId × ClassId × (Nat → Nat) × List xS × (State → Prop)
abbrev xcl : List vw_C := [(RX0, TX0, 4), (RX1, TX1, 14), (RX2, TX2, 8), (RX3, TX3, 4), (RX4, TX4, 3), (RX5, TX5, 2), (RX6, TX6, 15), (RX7, TX7, 30)]
def xad (ω : xO) (k : Nat) : Nat := ω.2.2.2.1 k
def xsh (ω : xO) : List xS := ω.2.2.2.2.1
def xph (ω : xO) : State → Prop := ω.2.2.2.2.2
def xfl (ω : xO) (r : Int → Int) : Nat → List (Option Nat) → List Value
  | _, [] => []
  | j, none :: l => .int (iI (r (j : Int))) :: xfl ω r (j + 1) l
  | j, some q :: l => .ref (xad ω q) :: xfl ω r (j + 1) l
def xce (ω : xO) (r : Int → Int) : xS → va_E
  | .inl n => .inl (ω.2.1, n, .inl (fun j => iI (r (j : Int))))
  | .inr (.inl o) => .inr (o.1, xfl ω r 0 o.2)
  | .inr (.inr q) => .inl (ω.2.2.1, q.1, .inr (.inr (.inr (.inr q.2))))
def xws (ω : xO) (M : xMem) : Nat → List xS → va_W
  | _, [] => []
  | k, c :: l => (xad ω k, xce ω (M k) c) :: xws ω M (k + 1) l
def xw (ω : xO) (M : xMem) : va_W := xws ω M 0 (xsh ω)
theorem xws_at (ω : xO) (M : xMem) : ∀ (l : List xS) (k i : Nat), (xws ω M k l)[i]? = (l[i]?).map (fun c => (xad ω (k + i), xce ω (M (k + i)) c)) := by
  intro l
  induction l with
  | nil => intro k i; simp [xws]
  | cons c l ih =>
    intro k i
    cases i with
    | zero => simp [xws]
    | succ i =>
      rw [xws, List.getElem?_cons_succ, List.getElem?_cons_succ, ih]
      rw [show k + 1 + i = k + (i + 1) by omega]
theorem xw_at {ω : xO} {M : xMem} {k : Nat} {c : xS} (h : (xsh ω)[k]? = some c) : (xw ω M)[k]? = some (xad ω k, xce ω (M k) c) := by
  unfold xw
  rw [xws_at, h, Nat.zero_add]
  rfl
theorem xw_len (ω : xO) (M : xMem) : (xw ω M).length = (xsh ω).length := by
  have : ∀ (l : List xS) (k : Nat), (xws ω M k l).length = l.length := by
    intro l
    induction l with
    | nil => intro k; rfl
    | cons c l ih => intro k; simp [xws, ih]
  exact this _ _
theorem upr_s (M : xMem) (k : Nat) (r : Int → Int) : upr M k r k = r := by simp [upr]
theorem upr_n {M : xMem} {k i : Nat} {r : Int → Int} (h : i ≠ k) : upr M k r i = M i := by simp [upr, h]
theorem ur_s (r : Int → Int) (j z : Int) : ur r j z j = z := by simp [ur]
theorem ur_n {r : Int → Int} {j i z : Int} (h : i ≠ j) : ur r j z i = r i := by simp [ur, h]
theorem xw_set {ω : xO} {M : xMem} {k : Nat} {c : xS} {r : Int → Int} (h : (xsh ω)[k]? = some c) : (xw ω M).set k (xad ω k, xce ω r c) = xw ω (upr M k r) := by
  apply List.ext_getElem?
  intro i
  by_cases hi : i = k
  · subst hi
    have hl : i < (xw ω M).length := by
      rw [xw_len]
      exact (List.getElem?_eq_some_iff.mp h).1
    rw [List.getElem?_set_self hl, xw_at h, upr_s]
  · rw [List.getElem?_set_ne (Ne.symm hi)]
    unfold xw
    rw [xws_at, xws_at, Nat.zero_add, upr_n hi]
theorem xfl_at (ω : xO) (r : Int → Int) : ∀ (l : List (Option Nat)) (k i : Nat), (xfl ω r k l)[i]? = (l[i]?).map (fun f => match f with | none => .int (iI (r ((k + i : Nat) : Int))) | some q => .ref (xad ω q)) := by
  intro l
  induction l with
  | nil => intro k i; simp [xfl]
  | cons c l ih =>
    intro k i
    cases i with
    | zero => cases c <;> simp [xfl]
    | succ i =>
      cases c <;>
      · rw [xfl, List.getElem?_cons_succ, List.getElem?_cons_succ, ih]
        rw [show k + 1 + i = k + (i + 1) by omega]
theorem xfl_len (ω : xO) (r : Int → Int) : ∀ (l : List (Option Nat)) (k : Nat), (xfl ω r k l).length = l.length := by
  intro l
  induction l with
  | nil => intro k; rfl
  | cons c l ih => intro k; cases c <;> simp [xfl, ih]
theorem xfl_set {ω : xO} {r : Int → Int} {l : List (Option Nat)} {j : Nat} {z : Int} (h : l[j]? = some none) : (xfl ω r 0 l).set j (.int (iI z)) = xfl ω (ur r (j : Int) z) 0 l := by
  apply List.ext_getElem?
  intro i
  by_cases hi : i = j
  · subst hi
    have hl : i < (xfl ω r 0 l).length := by
      rw [xfl_len]
      exact (List.getElem?_eq_some_iff.mp h).1
    rw [List.getElem?_set_self hl, xfl_at, h]
    simp [ur]
  · rw [List.getElem?_set_ne (Ne.symm hi), xfl_at, xfl_at]
    have : ¬ (i : Int) = (j : Int) := by omega
    simp [ur, this]
/-- the cells of the system -/
def xA (ω : xO) : Nat → Prop := fun q => ∃ k, k < (xsh ω).length ∧ q = xad ω k
/-- apart; and what else is known stays as long as the rest of the heap stays -/
def xFine (ω : xO) : Prop := (∀ i j, i < (xsh ω).length → j < (xsh ω).length → xad ω i = xad ω j → i = j) ∧ ∀ s U : State, s.WarmedH U.vm → (∀ q, q < s.heap.size → ¬ xA ω q → U.heap[q]? = s.heap[q]?) → xph ω s → xph ω U
theorem xw_D {ω : xO} (h : xFine ω) (M : xMem) : va_D (xA ω) (xw ω M) := by
  have key : ∀ (k : Nat) (q : Nat × va_E), (xw ω M)[k]? = some q → k < (xsh ω).length ∧ q.1 = xad ω k := by
    intro k q hk
    have hl := (List.getElem?_eq_some_iff.mp hk).1
    rw [xw_len] at hl
    refine ⟨hl, ?_⟩
    obtain ⟨c, hc⟩ : ∃ c, (xsh ω)[k]? = some c := ⟨_, List.getElem?_eq_getElem hl⟩
    rw [xw_at hc] at hk
    cases hk
    rfl
  refine ⟨fun i j p q hi hj hpq => ?_, fun k q hk => ⟨k, key k q hk⟩⟩
  obtain ⟨l1, e1⟩ := key i p hi
  obtain ⟨l2, e2⟩ := key j q hj
  exact h.1 i j l1 l2 (by rw [← e1, ← e2, hpq])
/-- locals by their places -/
def xget : List (Option Value) → Nat → Option Value
  | [], _ => none
  | a :: _, 0 => a
  | _ :: l, n + 1 => xget l n
def xset : List (Option Value) → Nat → Value → List (Option Value)
  | [], _, _ => []
  | _ :: l, 0, v => some v :: l
  | a :: l, n + 1, v => a :: xset l n v
def xas : Nat → List (Option Value) → List (Nat × Value)
  | _, [] => []
  | i, none :: l => xas (i + 1) l
  | i, some v :: l => (i, v) :: xas (i + 1) l
def xc1 : List (Option Value) → Bool
  | [] => true
  | none :: l => xc1 l
  | some v :: l => (v.category == 1) && xc1 l
theorem xas_mem : ∀ (l : List (Option Value)) (i j : Nat) (v : Value), (j, v) ∈ xas i l ↔ i ≤ j ∧ xget l (j - i) = some v := by
  intro l
  induction l with
  | nil => intro i j v; simp [xas, xget]
  | cons a l ih =>
    intro i j v
    have hs : (i + 1 ≤ j ∧ xget l (j - (i + 1)) = some v) ↔ (i + 1 ≤ j ∧ xget (a :: l) (j - i) = some v) := by
      constructor
      · rintro ⟨h1, h2⟩
        refine ⟨h1, ?_⟩
        rw [show j - i = (j - (i + 1)) + 1 by omega]
        exact h2
      · rintro ⟨h1, h2⟩
        refine ⟨h1, ?_⟩
        rw [show j - i = (j - (i + 1)) + 1 by omega] at h2
        exact h2
    cases a with
    | none =>
      rw [xas, ih, hs]
      constructor
      · rintro ⟨h1, h2⟩
        exact ⟨by omega, h2⟩
      · rintro ⟨h1, h2⟩
        by_cases he : i = j
        · subst he
          rw [Nat.sub_self] at h2
          exact absurd h2 (by simp [xget])
        · exact ⟨by omega, h2⟩
    | some w =>
      rw [xas, List.mem_cons, ih, hs]
      constructor
      · rintro (h | ⟨h1, h2⟩)
        · cases h
          refine ⟨Nat.le_refl _, ?_⟩
          rw [Nat.sub_self]
          rfl
        · exact ⟨by omega, h2⟩
      · rintro ⟨h1, h2⟩
        by_cases he : i = j
        · subst he
          rw [Nat.sub_self] at h2
          left
          have : w = v := Option.some.inj h2
          rw [this]
        · exact Or.inr ⟨by omega, h2⟩
theorem xget_set : ∀ (l : List (Option Value)) (i j : Nat) (v : Value), xget (xset l i v) j = if j = i ∧ i < l.length then some v else xget l j := by
  intro l
  induction l with
  | nil => intro i j v; simp [xset, xget]
  | cons a l ih =>
    intro i j v
    cases i with
    | zero => cases j <;> simp [xset, xget]
    | succ i =>
      cases j with
      | zero => simp [xset, xget]
      | succ j => simp [xset, xget, ih]
theorem xc1_mem : ∀ (l : List (Option Value)) (j : Nat) (v : Value), xc1 l = true → xget l j = some v → v.category = 1 := by
  intro l
  induction l with
  | nil => intro j v _ h; simp [xget] at h
  | cons a l ih =>
    intro j v hc h
    cases a with
    | none =>
      cases j with
      | zero => simp [xget] at h
      | succ j => exact ih j v hc h
    | some w =>
      simp only [xc1, Bool.and_eq_true, beq_iff_eq] at hc
      cases j with
      | zero =>
        have : w = v := Option.some.inj h
        rw [← this]
        exact hc.1
      | succ j => exact ih j v hc.2 h
theorem xl_at {ls : Array Slot} {nL : Nat} {lv : List (Option Value)} {i : Nat} {v : Value} (h : lv_has ls nL (xas 0 lv)) (hi : xget lv i = some v) : ls[i]? = some (.val v) :=
  h.2.2 (i, v) ((xas_mem lv 0 i v).mpr ⟨Nat.zero_le _, hi⟩)
/-- what a store leaves of the locals -/
theorem xl_set {ls : Array Slot} {nL : Nat} {lv : List (Option Value)} {i : Nat} {v : Value} (hc : xc1 lv = true) (h : lv_has ls nL ((i, v) :: (xas 0 lv).filter (fun q => !(q.1 == i) && !(q.1 + 1 == i && q.2.category == 2)))) : lv_has ls nL (xas 0 (xset lv i v)) := by
  refine ⟨h.1, h.2.1, fun q hq => h.2.2 q ?_⟩
  obtain ⟨j, w⟩ := q
  have h1 := ((xas_mem _ 0 j w).mp hq).2
  rw [Nat.sub_zero, xget_set] at h1
  by_cases he : j = i
  · subst he
    by_cases hl : j < lv.length
    · rw [if_pos ⟨rfl, hl⟩] at h1
      cases h1
      exact List.mem_cons_self
    · rw [if_neg (fun z => hl z.2)] at h1
      exfalso
      have : ∀ (l : List (Option Value)) (n : Nat), ¬ n < l.length → xget l n = none := by
        intro l
        induction l with
        | nil => intro n _; rfl
        | cons a l ih =>
          intro n hn
          cases n with
          | zero => exact absurd (by simp) hn
          | succ n => exact ih n (fun z => hn (by simpa using z))
      rw [this _ _ hl] at h1
      cases h1
  · rw [if_neg (fun z => he z.1)] at h1
    refine List.mem_cons_of_mem _ (List.mem_filter.mpr ⟨(xas_mem lv 0 j w).mpr ⟨Nat.zero_le _, h1⟩, ?_⟩)
    have := xc1_mem lv j w hc h1
    simp [he, this]
