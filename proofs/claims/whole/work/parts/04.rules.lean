/-! THE FRAME AT A PLACE, and a row for each instruction, over the world as numbers -/
abbrev xK : Type := Program × Launch × Env × Room × State × MethodId × Array Value × List Frame × Method × Code × (State → Prop)
abbrev kp (κ : xK) : Program := κ.1
abbrev kl (κ : xK) : Launch := κ.2.1
abbrev ke (κ : xK) : Env := κ.2.2.1
abbrev kR (κ : xK) : Room := κ.2.2.2.1
abbrev ks (κ : xK) : State := κ.2.2.2.2.1
abbrev km (κ : xK) : MethodId := κ.2.2.2.2.2.1
abbrev ka (κ : xK) : Array Value := κ.2.2.2.2.2.2.1
abbrev kb (κ : xK) : List Frame := κ.2.2.2.2.2.2.2.1
abbrev kmeth (κ : xK) : Method := κ.2.2.2.2.2.2.2.2.1
abbrev kc (κ : xK) : Code := κ.2.2.2.2.2.2.2.2.2.1
abbrev kQ (κ : xK) : State → Prop := κ.2.2.2.2.2.2.2.2.2.2
def xty (ω : xO) : List (ClassId × FieldType) := [(ω.2.1, .int), (ω.2.2.1, .object "java/lang/String")]
def X (ω : xO) (κ : xK) (pc : Nat) (lv : List (Option Value)) (st : List Value) (M : xMem) : Prop :=
  xR M → ∀ (H : Heap) (locs : List Loc) (ls : Array Slot), va_P ω.1 xcl (xw ω M) H → va_S (xA ω) (ks κ).heap H locs → lv_has ls (kc κ).maxLocals (xas 0 lv) →
    W (kp κ) (kl κ) (ke κ) (kR κ) (ks κ) (km κ) (ka κ) (kb κ) (kmeth κ) (kc κ) H locs 0 0 (kQ κ) (F0 (km κ) pc ls st)
def xOk (ω : xO) (κ : xK) (l : Launch) (cc : ByteArray) (nL : Nat) (own : String) (R : Room) : Prop :=
  (kp κ).tables.exec = Jvm.exec ∧ (kc κ).code = cc ∧ (kc κ).maxLocals = nL ∧ (ks κ).vm.findClass own = some (km κ).cls ∧ (∀ w ∈ xtbl, w.before (ka κ) (ks κ) = true) ∧ va_K ω.1 xcl (xty ω) (ks κ) ∧ xFine ω ∧ kR κ = R ∧ (kmeth κ).locks = false ∧ kl κ = l ∧ xph ω (ks κ) ∧ xNest (ks κ)
def xQp (ω : xO) (ρ : Option Value) (Mf : xMem) : Array Value → State → Outcome → State → Prop := fun _ st oc t => oc = .returned ρ ∧ va_P ω.1 xcl (xw ω Mf) t.heap ∧ va_F (xA ω) st t
def xEnd (ω : xO) (κ : xK) (ret : Option FieldType) (ρ : Option Value) (Mf : xMem) : Prop := (kmeth κ).sig.returnType = ret ∧ kQ κ = MQ (kb κ) (xQp ω ρ Mf) (ka κ) (ks κ) 0 0 (xA ω)
noncomputable def bI (c : Prop) : Int := @ite Int c (Classical.propDecidable c) 1 0
theorem bI_t {c : Prop} (h : c) : bI c = 1 := by unfold bI; exact if_pos h
theorem bI_f {c : Prop} (h : ¬ c) : bI c = 0 := by unfold bI; exact if_neg h
theorem bI_01 (c : Prop) : bI c = 0 ∨ bI c = 1 := by
  by_cases h : c
  · exact Or.inr (bI_t h)
  · exact Or.inl (bI_f h)
theorem bI_R (c : Prop) : inR (bI c) := by rcases bI_01 c with h | h <;> rw [h] <;> decide
theorem bI_0 {c : Prop} : bI c = 0 ↔ ¬ c := ⟨fun h hc => absurd ((bI_t hc).symm.trans h) (by decide), bI_f⟩
theorem bI_eq {c d : Prop} (h : c ↔ d) : bI c = bI d := by rw [propext h]
def band (a b : Int) : Int := (iI a &&& iI b).toInt
def bor (a b : Int) : Int := (iI a ||| iI b).toInt
def bxor (a b : Int) : Int := (iI a ^^^ iI b).toInt
def bshl (a b : Int) : Int := (iI a <<< (iI b &&& 31)).toInt
def bshr (a b : Int) : Int := (iI a >>> (iI b &&& 31)).toInt
def bushr (a b : Int) : Int := (((iI a).toUInt32 >>> ((iI b).toUInt32 &&& Int32.toUInt32 31)).toInt32).toInt
def bdiv (a b : Int) : Int := (iI a / iI b).toInt
def brem (a b : Int) : Int := (iI a - iI a / iI b * iI b).toInt
def bi2b (a : Int) : Int := (iI a).toInt8.toInt32.toInt
def bi2s (a : Int) : Int := (iI a).toInt16.toInt32.toInt
/-- a whole number as an int -/
def wr (a : Int) : Int := (iI a).toInt
theorem wr_R (a : Int) : inR (wr a) := inR_of _
theorem wr_eq {a : Int} (h : inR a) : wr a = a := iI_toInt h
theorem wr_iI (a : Int) : iI (wr a) = iI a := iI_of _
theorem band_R (a b : Int) : inR (band a b) := inR_of _
theorem bor_R (a b : Int) : inR (bor a b) := inR_of _
theorem bxor_R (a b : Int) : inR (bxor a b) := inR_of _
theorem bshl_R (a b : Int) : inR (bshl a b) := inR_of _
theorem bshr_R (a b : Int) : inR (bshr a b) := inR_of _
theorem bushr_R (a b : Int) : inR (bushr a b) := inR_of _
theorem bdiv_R (a b : Int) : inR (bdiv a b) := inR_of _
theorem brem_R (a b : Int) : inR (brem a b) := inR_of _
theorem upr_R {M : xMem} {k : Nat} {r : Int → Int} (h : xR M) (hr : ∀ j, inR (r j)) : xR (upr M k r) := by
  intro i j
  unfold upr
  split
  · exact hr j
  · exact h i j
theorem up_R {M : xMem} {k : Nat} {j z : Int} (h : xR M) (hz : inR z) : xR (up M k j z) := by
  refine upr_R h fun i => ?_
  unfold ur
  split
  · exact hz
  · exact h k i
section XR
variable {ω : xO} {κ : xK} {l : Launch} {cc : ByteArray} {nL : Nat} {own : String} {R : Room} {pc : Nat} {lv : List (Option Value)} {st : List Value} {M : xMem}
theorem x_iconst {n : Int} (h : xOk ω κ l cc nL own R) (hd : decode cc pc = .ok (.iconst n, 1)) (kk : X ω κ (pc + 1) lv (.int (iI n) :: st) M) : X ω κ pc lv st M :=
  fun hR H locs ls hP hS hl => lv_iconst (v := iI n) h.1 h.2.1 hd rfl (kk hR H locs ls hP hS hl)
theorem x_bipush {n : Int} (h : xOk ω κ l cc nL own R) (hd : decode cc pc = .ok (.bipush n, 2)) (hv : (Int8.ofInt n).toInt32 = iI n) (kk : X ω κ (pc + 2) lv (.int (iI n) :: st) M) : X ω κ pc lv st M :=
  fun hR H locs ls hP hS hl => lv_bipush (v := iI n) h.1 h.2.1 hd hv (kk hR H locs ls hP hS hl)
theorem x_sipush {n : Int} (h : xOk ω κ l cc nL own R) (hd : decode cc pc = .ok (.sipush n, 3)) (hv : (Int16.ofInt n).toInt32 = iI n) (kk : X ω κ (pc + 3) lv (.int (iI n) :: st) M) : X ω κ pc lv st M :=
  fun hR H locs ls hP hS hl => lv_sipush (v := iI n) h.1 h.2.1 hd hv (kk hR H locs ls hP hS hl)
theorem x_ldc {i : Nat} {n : Int} (h : xOk ω κ l cc nL own R) (hw : Cond.constant own i (iI n) ∈ xtbl) (hd : decode cc pc = .ok (.ldc i, 2)) (kk : X ω κ (pc + 2) lv (.int (iI n) :: st) M) : X ω κ pc lv st M :=
  fun hR H locs ls hP hS hl => lv_ldc (v := iI n) h.1 h.2.1 h.2.2.2.1 (h.2.2.2.2.1 _ hw) hd (kk hR H locs ls hP hS hl)
theorem x_ldcw {i : Nat} {n : Int} (h : xOk ω κ l cc nL own R) (hw : Cond.constant own i (iI n) ∈ xtbl) (hd : decode cc pc = .ok (.ldc_w i, 3)) (kk : X ω κ (pc + 3) lv (.int (iI n) :: st) M) : X ω κ pc lv st M :=
  fun hR H locs ls hP hS hl => lv_ldcw (v := iI n) h.1 h.2.1 h.2.2.2.1 (h.2.2.2.2.1 _ hw) hd (kk hR H locs ls hP hS hl)
theorem x_iload_n {k : Fin 4} {x : Int32} (h : xOk ω κ l cc nL own R) (hd : decode cc pc = .ok (.iload_n k, 1)) (hg : xget lv k = some (.int x)) (kk : X ω κ (pc + 1) lv (.int x :: st) M) : X ω κ pc lv st M :=
  fun hR H locs ls hP hS hl => lv_iload_n h.1 h.2.1 hd rfl (xl_at hl hg) (kk hR H locs ls hP hS hl)
theorem x_iload {k : Nat} {x : Int32} (h : xOk ω κ l cc nL own R) (hd : decode cc pc = .ok (.iload k, 2)) (hg : xget lv k = some (.int x)) (kk : X ω κ (pc + 2) lv (.int x :: st) M) : X ω κ pc lv st M :=
  fun hR H locs ls hP hS hl => lv_iload h.1 h.2.1 hd (xl_at hl hg) (kk hR H locs ls hP hS hl)
theorem x_istore_n {k : Fin 4} {x : Int32} (h : xOk ω κ l cc nL own R) (hd : decode cc pc = .ok (.istore_n k, 1)) (hc : xc1 lv = true) (hn : Nat.blt k nL = true) (kk : X ω κ (pc + 1) (xset lv k (.int x)) st M) : X ω κ pc lv (.int x :: st) M :=
  fun hR H locs ls hP hS hl => lv_istore_n h.1 h.2.1 hd rfl hl (by rw [h.2.2.1]; exact Nat.le_of_ble_eq_true hn) rfl fun _ hl' => kk hR H locs _ hP hS (xl_set hc hl')
theorem x_istore {k : Nat} {x : Int32} (h : xOk ω κ l cc nL own R) (hd : decode cc pc = .ok (.istore k, 2)) (hc : xc1 lv = true) (hn : Nat.blt k nL = true) (kk : X ω κ (pc + 2) (xset lv k (.int x)) st M) : X ω κ pc lv (.int x :: st) M :=
  fun hR H locs ls hP hS hl => lv_istore h.1 h.2.1 hd hl (by rw [h.2.2.1]; exact Nat.le_of_ble_eq_true hn) rfl fun _ hl' => kk hR H locs _ hP hS (xl_set hc hl')
theorem x_aload_n {k : Fin 4} {x : Nat} (h : xOk ω κ l cc nL own R) (hd : decode cc pc = .ok (.aload_n k, 1)) (hg : xget lv k = some (.ref x)) (kk : X ω κ (pc + 1) lv (.ref x :: st) M) : X ω κ pc lv st M :=
  fun hR H locs ls hP hS hl => lv_aload_n h.1 h.2.1 hd rfl (xl_at hl hg) (kk hR H locs ls hP hS hl)
theorem x_aload {k : Nat} {x : Nat} (h : xOk ω κ l cc nL own R) (hd : decode cc pc = .ok (.aload k, 2)) (hg : xget lv k = some (.ref x)) (kk : X ω κ (pc + 2) lv (.ref x :: st) M) : X ω κ pc lv st M :=
  fun hR H locs ls hP hS hl => lv_aload h.1 h.2.1 hd (xl_at hl hg) (kk hR H locs ls hP hS hl)
theorem x_astore_n {k : Fin 4} {x : Nat} (h : xOk ω κ l cc nL own R) (hd : decode cc pc = .ok (.astore_n k, 1)) (hc : xc1 lv = true) (hn : Nat.blt k nL = true) (kk : X ω κ (pc + 1) (xset lv k (.ref x)) st M) : X ω κ pc lv (.ref x :: st) M :=
  fun hR H locs ls hP hS hl => lv_astore_n h.1 h.2.1 hd rfl hl (by rw [h.2.2.1]; exact Nat.le_of_ble_eq_true hn) rfl fun _ hl' => kk hR H locs _ hP hS (xl_set hc hl')
theorem x_astore {k : Nat} {x : Nat} (h : xOk ω κ l cc nL own R) (hd : decode cc pc = .ok (.astore k, 2)) (hc : xc1 lv = true) (hn : Nat.blt k nL = true) (kk : X ω κ (pc + 2) (xset lv k (.ref x)) st M) : X ω κ pc lv (.ref x :: st) M :=
  fun hR H locs ls hP hS hl => lv_astore h.1 h.2.1 hd hl (by rw [h.2.2.1]; exact Nat.le_of_ble_eq_true hn) rfl fun _ hl' => kk hR H locs _ hP hS (xl_set hc hl')
theorem x_iinc {k : Nat} {n z : Int} (h : xOk ω κ l cc nL own R) (hd : decode cc pc = .ok (.iinc k n, 3)) (hg : xget lv k = some (.int (iI z))) (hc : xc1 lv = true) (hn : Nat.blt k nL = true) (kk : X ω κ (pc + 3) (xset lv k (.int (iI (z + n)))) st M) : X ω κ pc lv st M := by
  intro hR H locs ls hP hS hl
  have hm : (k, Value.int (iI z)) ∈ xas 0 lv := (xas_mem lv 0 k _).mpr ⟨Nat.zero_le _, hg⟩
  obtain ⟨q, hq⟩ := List.getElem?_of_mem hm
  exact lv_iinc (v := iI (z + n)) h.1 h.2.1 hd hl hq (iI_add z n) (by rw [h.2.2.1]; exact Nat.le_of_ble_eq_true hn) rfl fun _ hl' => kk hR H locs _ hP hS (xl_set hc hl')
theorem x_iadd {a b : Int} (h : xOk ω κ l cc nL own R) (hd : decode cc pc = .ok (.iadd, 1)) (kk : X ω κ (pc + 1) lv (.int (iI (a + b)) :: st) M) : X ω κ pc lv (.int (iI b) :: .int (iI a) :: st) M :=
  fun hR H locs ls hP hS hl => lv_iadd h.1 h.2.1 hd (by rw [iI_add]; exact kk hR H locs ls hP hS hl)
theorem x_isub {a b : Int} (h : xOk ω κ l cc nL own R) (hd : decode cc pc = .ok (.isub, 1)) (kk : X ω κ (pc + 1) lv (.int (iI (a - b)) :: st) M) : X ω κ pc lv (.int (iI b) :: .int (iI a) :: st) M :=
  fun hR H locs ls hP hS hl => lv_isub h.1 h.2.1 hd (by rw [iI_sub]; exact kk hR H locs ls hP hS hl)
theorem x_imul {a b : Int} (h : xOk ω κ l cc nL own R) (hd : decode cc pc = .ok (.imul, 1)) (kk : X ω κ (pc + 1) lv (.int (iI (a * b)) :: st) M) : X ω κ pc lv (.int (iI b) :: .int (iI a) :: st) M :=
  fun hR H locs ls hP hS hl => lv_imul h.1 h.2.1 hd (by rw [iI_mul]; exact kk hR H locs ls hP hS hl)
theorem x_iand {a b : Int} (h : xOk ω κ l cc nL own R) (hd : decode cc pc = .ok (.iand, 1)) (kk : inR (band a b) → X ω κ (pc + 1) lv (.int (iI (band a b)) :: st) M) : X ω κ pc lv (.int (iI b) :: .int (iI a) :: st) M := by
  intro hR H locs ls hP hS hl
  have k := kk (band_R a b) hR H locs ls hP hS hl
  unfold band at k
  rw [iI_of] at k
  exact lv_iand h.1 h.2.1 hd k
theorem x_ior {a b : Int} (h : xOk ω κ l cc nL own R) (hd : decode cc pc = .ok (.ior, 1)) (kk : inR (bor a b) → X ω κ (pc + 1) lv (.int (iI (bor a b)) :: st) M) : X ω κ pc lv (.int (iI b) :: .int (iI a) :: st) M := by
  intro hR H locs ls hP hS hl
  have k := kk (bor_R a b) hR H locs ls hP hS hl
  unfold bor at k
  rw [iI_of] at k
  exact lv_ior h.1 h.2.1 hd k
theorem x_ixor {a b : Int} (h : xOk ω κ l cc nL own R) (hd : decode cc pc = .ok (.ixor, 1)) (kk : inR (bxor a b) → X ω κ (pc + 1) lv (.int (iI (bxor a b)) :: st) M) : X ω κ pc lv (.int (iI b) :: .int (iI a) :: st) M := by
  intro hR H locs ls hP hS hl
  have k := kk (bxor_R a b) hR H locs ls hP hS hl
  unfold bxor at k
  rw [iI_of] at k
  exact lv_ixor h.1 h.2.1 hd k
theorem x_ishl {a b : Int} (h : xOk ω κ l cc nL own R) (hd : decode cc pc = .ok (.ishl, 1)) (kk : inR (bshl a b) → X ω κ (pc + 1) lv (.int (iI (bshl a b)) :: st) M) : X ω κ pc lv (.int (iI b) :: .int (iI a) :: st) M := by
  intro hR H locs ls hP hS hl
  have k := kk (bshl_R a b) hR H locs ls hP hS hl
  unfold bshl at k
  rw [iI_of] at k
  exact lv_ishl h.1 h.2.1 hd k
theorem x_ishr {a b : Int} (h : xOk ω κ l cc nL own R) (hd : decode cc pc = .ok (.ishr, 1)) (kk : inR (bshr a b) → X ω κ (pc + 1) lv (.int (iI (bshr a b)) :: st) M) : X ω κ pc lv (.int (iI b) :: .int (iI a) :: st) M := by
  intro hR H locs ls hP hS hl
  have k := kk (bshr_R a b) hR H locs ls hP hS hl
  unfold bshr at k
  rw [iI_of] at k
  exact lv_ishr h.1 h.2.1 hd k
theorem x_iushr {a b : Int} (h : xOk ω κ l cc nL own R) (hd : decode cc pc = .ok (.iushr, 1)) (kk : inR (bushr a b) → X ω κ (pc + 1) lv (.int (iI (bushr a b)) :: st) M) : X ω κ pc lv (.int (iI b) :: .int (iI a) :: st) M := by
  intro hR H locs ls hP hS hl
  have k := kk (bushr_R a b) hR H locs ls hP hS hl
  unfold bushr at k
  rw [iI_of] at k
  exact lv_iushr h.1 h.2.1 hd rfl k
theorem x_idiv {a b : Int} (h : xOk ω κ l cc nL own R) (hd : decode cc pc = .ok (.idiv, 1)) (hb : inR b ∧ b ≠ 0) (kk : inR (bdiv a b) → X ω κ (pc + 1) lv (.int (iI (bdiv a b)) :: st) M) : X ω κ pc lv (.int (iI b) :: .int (iI a) :: st) M := by
  intro hR H locs ls hP hS hl
  have k := kk (bdiv_R a b) hR H locs ls hP hS hl
  unfold bdiv at k
  rw [iI_of] at k
  exact lv_idiv h.1 h.2.1 hd (fun z => hb.2 ((iI_inj hb.1 (by decide)).mp z)) k
theorem x_irem {a b : Int} (h : xOk ω κ l cc nL own R) (hd : decode cc pc = .ok (.irem, 1)) (hb : inR b ∧ b ≠ 0) (kk : inR (brem a b) → X ω κ (pc + 1) lv (.int (iI (brem a b)) :: st) M) : X ω κ pc lv (.int (iI b) :: .int (iI a) :: st) M := by
  intro hR H locs ls hP hS hl
  have k := kk (brem_R a b) hR H locs ls hP hS hl
  unfold brem at k
  rw [iI_of] at k
  exact lv_irem h.1 h.2.1 hd (fun z => hb.2 ((iI_inj hb.1 (by decide)).mp z)) k
theorem x_ineg {a : Int} (h : xOk ω κ l cc nL own R) (hd : decode cc pc = .ok (.ineg, 1)) (kk : X ω κ (pc + 1) lv (.int (iI (- a)) :: st) M) : X ω κ pc lv (.int (iI a) :: st) M :=
  fun hR H locs ls hP hS hl => lv_ineg h.1 h.2.1 hd (by rw [iI_neg]; exact kk hR H locs ls hP hS hl)
theorem x_i2b {a : Int} (h : xOk ω κ l cc nL own R) (hd : decode cc pc = .ok (.i2b, 1)) (kk : inR (bi2b a) → X ω κ (pc + 1) lv (.int (iI (bi2b a)) :: st) M) : X ω κ pc lv (.int (iI a) :: st) M := by
  intro hR H locs ls hP hS hl
  have k := kk (inR_of _) hR H locs ls hP hS hl
  unfold bi2b at k
  rw [iI_of] at k
  exact lv_i2b h.1 h.2.1 hd rfl k
theorem x_i2s {a : Int} (h : xOk ω κ l cc nL own R) (hd : decode cc pc = .ok (.i2s, 1)) (kk : inR (bi2s a) → X ω κ (pc + 1) lv (.int (iI (bi2s a)) :: st) M) : X ω κ pc lv (.int (iI a) :: st) M := by
  intro hR H locs ls hP hS hl
  have k := kk (inR_of _) hR H locs ls hP hS hl
  unfold bi2s at k
  rw [iI_of] at k
  exact lv_i2s h.1 h.2.1 hd rfl k
/-- another name for the number on the stack -/
theorem x_top {a b : Int} (e : iI a = iI b) (kk : X ω κ pc lv (.int (iI b) :: st) M) : X ω κ pc lv (.int (iI a) :: st) M := by rw [e]; exact kk
theorem x_wr {a : Int} (kk : inR (wr a) → X ω κ pc lv (.int (iI (wr a)) :: st) M) : X ω κ pc lv (.int (iI a) :: st) M := by have := kk (wr_R a); rw [wr_iI] at this; exact this
theorem x_mem {M' : xMem} (e : M = M') (kk : X ω κ pc lv st M') : X ω κ pc lv st M := by rw [e]; exact kk
theorem x_rng (kk : xR M → X ω κ pc lv st M) : X ω κ pc lv st M := fun hR => kk hR hR
theorem x_dup {v : Value} (h : xOk ω κ l cc nL own R) (hd : decode cc pc = .ok (.dup, 1)) (hv : v.category = 1) (kk : X ω κ (pc + 1) lv (v :: v :: st) M) : X ω κ pc lv (v :: st) M :=
  fun hR H locs ls hP hS hl => lv_dup h.1 h.2.1 hd hv (kk hR H locs ls hP hS hl)
theorem x_dup2 {v w : Value} (h : xOk ω κ l cc nL own R) (hd : decode cc pc = .ok (.dup2, 1)) (hv : v.category = 1) (hw : w.category = 1) (kk : X ω κ (pc + 1) lv (v :: w :: v :: w :: st) M) : X ω κ pc lv (v :: w :: st) M :=
  fun hR H locs ls hP hS hl => lv_dup2_11 h.1 h.2.1 hd hv hw (kk hR H locs ls hP hS hl)
theorem x_pop {v : Value} (h : xOk ω κ l cc nL own R) (hd : decode cc pc = .ok (.pop, 1)) (hv : v.category = 1) (kk : X ω κ (pc + 1) lv st M) : X ω κ pc lv (v :: st) M :=
  fun hR H locs ls hP hS hl => lv_pop h.1 h.2.1 hd hv (kk hR H locs ls hP hS hl)
theorem x_goto {off : Int} {tgt : Nat} (h : xOk ω κ l cc nL own R) (hd : decode cc pc = .ok (.goto off, 3)) (ht : (pc : Int) + off = (tgt : Int)) (kk : X ω κ tgt lv st M) : X ω κ pc lv st M :=
  fun hR H locs ls hP hS hl => lv_goto h.1 h.2.1 hd ht (kk hR H locs ls hP hS hl)
theorem x_if_eq {a off : Int} {tgt : Nat} (h : xOk ω κ l cc nL own R) (hd : decode cc pc = .ok (.ifCond .eq off, 3)) (ht : (pc : Int) + off = (tgt : Int)) (ha : inR a) (kt : a = 0 → X ω κ tgt lv st M) (kf : ¬ a = 0 → X ω κ (pc + 3) lv st M) : X ω κ pc lv (.int (iI a) :: st) M := by
  intro hR H locs ls hP hS hl
  refine lv_if_eq h.1 h.2.1 hd ht (fun z => ?_) (fun z => ?_)
  · exact (fun z => kt ((iI_inj ha (by decide)).mp z)) z hR H locs ls hP hS hl
  · exact (fun z => kf (fun y => z ((iI_inj ha (by decide)).mpr y))) z hR H locs ls hP hS hl
theorem x_icmp_eq {a b off : Int} {tgt : Nat} (h : xOk ω κ l cc nL own R) (hd : decode cc pc = .ok (.if_icmp .eq off, 3)) (ht : (pc : Int) + off = (tgt : Int)) (ha : inR a) (hb : inR b) (kt : a = b → X ω κ tgt lv st M) (kf : ¬ a = b → X ω κ (pc + 3) lv st M) : X ω κ pc lv (.int (iI b) :: .int (iI a) :: st) M := by
  intro hR H locs ls hP hS hl
  refine lv_icmp_eq h.1 h.2.1 hd ht (fun z => ?_) (fun z => ?_)
  · exact (fun z => kt ((iI_inj ha hb).mp z)) z hR H locs ls hP hS hl
  · exact (fun z => kf (fun y => z ((iI_inj ha hb).mpr y))) z hR H locs ls hP hS hl
theorem x_if_ne {a off : Int} {tgt : Nat} (h : xOk ω κ l cc nL own R) (hd : decode cc pc = .ok (.ifCond .ne off, 3)) (ht : (pc : Int) + off = (tgt : Int)) (ha : inR a) (kt : ¬ a = 0 → X ω κ tgt lv st M) (kf : a = 0 → X ω κ (pc + 3) lv st M) : X ω κ pc lv (.int (iI a) :: st) M := by
  intro hR H locs ls hP hS hl
  refine lv_if_ne h.1 h.2.1 hd ht (fun z => ?_) (fun z => ?_)
  · exact (fun z => kt (fun y => z ((iI_inj ha (by decide)).mpr y))) z hR H locs ls hP hS hl
  · exact (fun z => kf ((iI_inj ha (by decide)).mp z)) z hR H locs ls hP hS hl
theorem x_icmp_ne {a b off : Int} {tgt : Nat} (h : xOk ω κ l cc nL own R) (hd : decode cc pc = .ok (.if_icmp .ne off, 3)) (ht : (pc : Int) + off = (tgt : Int)) (ha : inR a) (hb : inR b) (kt : ¬ a = b → X ω κ tgt lv st M) (kf : a = b → X ω κ (pc + 3) lv st M) : X ω κ pc lv (.int (iI b) :: .int (iI a) :: st) M := by
  intro hR H locs ls hP hS hl
  refine lv_icmp_ne h.1 h.2.1 hd ht (fun z => ?_) (fun z => ?_)
  · exact (fun z => kt (fun y => z ((iI_inj ha hb).mpr y))) z hR H locs ls hP hS hl
  · exact (fun z => kf ((iI_inj ha hb).mp z)) z hR H locs ls hP hS hl
theorem x_if_lt {a off : Int} {tgt : Nat} (h : xOk ω κ l cc nL own R) (hd : decode cc pc = .ok (.ifCond .lt off, 3)) (ht : (pc : Int) + off = (tgt : Int)) (ha : inR a) (kt : a < 0 → X ω κ tgt lv st M) (kf : ¬ a < 0 → X ω κ (pc + 3) lv st M) : X ω κ pc lv (.int (iI a) :: st) M := by
  intro hR H locs ls hP hS hl
  refine lv_if_lt h.1 h.2.1 hd ht (fun z => ?_) (fun z => ?_)
  · exact (fun z => kt ((iI_lt ha (by decide)).mp z)) z hR H locs ls hP hS hl
  · exact (fun z => kf (fun y => z ((iI_lt ha (by decide)).mpr y))) z hR H locs ls hP hS hl
theorem x_icmp_lt {a b off : Int} {tgt : Nat} (h : xOk ω κ l cc nL own R) (hd : decode cc pc = .ok (.if_icmp .lt off, 3)) (ht : (pc : Int) + off = (tgt : Int)) (ha : inR a) (hb : inR b) (kt : a < b → X ω κ tgt lv st M) (kf : ¬ a < b → X ω κ (pc + 3) lv st M) : X ω κ pc lv (.int (iI b) :: .int (iI a) :: st) M := by
  intro hR H locs ls hP hS hl
  refine lv_icmp_lt h.1 h.2.1 hd ht (fun z => ?_) (fun z => ?_)
  · exact (fun z => kt ((iI_lt ha hb).mp z)) z hR H locs ls hP hS hl
  · exact (fun z => kf (fun y => z ((iI_lt ha hb).mpr y))) z hR H locs ls hP hS hl
theorem x_if_ge {a off : Int} {tgt : Nat} (h : xOk ω κ l cc nL own R) (hd : decode cc pc = .ok (.ifCond .ge off, 3)) (ht : (pc : Int) + off = (tgt : Int)) (ha : inR a) (kt : 0 ≤ a → X ω κ tgt lv st M) (kf : ¬ 0 ≤ a → X ω κ (pc + 3) lv st M) : X ω κ pc lv (.int (iI a) :: st) M := by
  intro hR H locs ls hP hS hl
  refine lv_if_ge h.1 h.2.1 hd ht (fun z => ?_) (fun z => ?_)
  · exact (fun z => kt ((iI_le (by decide) ha).mp z)) z hR H locs ls hP hS hl
  · exact (fun z => kf (fun y => z ((iI_le (by decide) ha).mpr y))) z hR H locs ls hP hS hl
theorem x_icmp_ge {a b off : Int} {tgt : Nat} (h : xOk ω κ l cc nL own R) (hd : decode cc pc = .ok (.if_icmp .ge off, 3)) (ht : (pc : Int) + off = (tgt : Int)) (ha : inR a) (hb : inR b) (kt : b ≤ a → X ω κ tgt lv st M) (kf : ¬ b ≤ a → X ω κ (pc + 3) lv st M) : X ω κ pc lv (.int (iI b) :: .int (iI a) :: st) M := by
  intro hR H locs ls hP hS hl
  refine lv_icmp_ge h.1 h.2.1 hd ht (fun z => ?_) (fun z => ?_)
  · exact (fun z => kt ((iI_le hb ha).mp z)) z hR H locs ls hP hS hl
  · exact (fun z => kf (fun y => z ((iI_le hb ha).mpr y))) z hR H locs ls hP hS hl
theorem x_if_gt {a off : Int} {tgt : Nat} (h : xOk ω κ l cc nL own R) (hd : decode cc pc = .ok (.ifCond .gt off, 3)) (ht : (pc : Int) + off = (tgt : Int)) (ha : inR a) (kt : 0 < a → X ω κ tgt lv st M) (kf : ¬ 0 < a → X ω κ (pc + 3) lv st M) : X ω κ pc lv (.int (iI a) :: st) M := by
  intro hR H locs ls hP hS hl
  refine lv_if_gt h.1 h.2.1 hd ht (fun z => ?_) (fun z => ?_)
  · exact (fun z => kt ((iI_lt (by decide) ha).mp z)) z hR H locs ls hP hS hl
  · exact (fun z => kf (fun y => z ((iI_lt (by decide) ha).mpr y))) z hR H locs ls hP hS hl
theorem x_icmp_gt {a b off : Int} {tgt : Nat} (h : xOk ω κ l cc nL own R) (hd : decode cc pc = .ok (.if_icmp .gt off, 3)) (ht : (pc : Int) + off = (tgt : Int)) (ha : inR a) (hb : inR b) (kt : b < a → X ω κ tgt lv st M) (kf : ¬ b < a → X ω κ (pc + 3) lv st M) : X ω κ pc lv (.int (iI b) :: .int (iI a) :: st) M := by
  intro hR H locs ls hP hS hl
  refine lv_icmp_gt h.1 h.2.1 hd ht (fun z => ?_) (fun z => ?_)
  · exact (fun z => kt ((iI_lt hb ha).mp z)) z hR H locs ls hP hS hl
  · exact (fun z => kf (fun y => z ((iI_lt hb ha).mpr y))) z hR H locs ls hP hS hl
theorem x_if_le {a off : Int} {tgt : Nat} (h : xOk ω κ l cc nL own R) (hd : decode cc pc = .ok (.ifCond .le off, 3)) (ht : (pc : Int) + off = (tgt : Int)) (ha : inR a) (kt : a ≤ 0 → X ω κ tgt lv st M) (kf : ¬ a ≤ 0 → X ω κ (pc + 3) lv st M) : X ω κ pc lv (.int (iI a) :: st) M := by
  intro hR H locs ls hP hS hl
  refine lv_if_le h.1 h.2.1 hd ht (fun z => ?_) (fun z => ?_)
  · exact (fun z => kt ((iI_le ha (by decide)).mp z)) z hR H locs ls hP hS hl
  · exact (fun z => kf (fun y => z ((iI_le ha (by decide)).mpr y))) z hR H locs ls hP hS hl
theorem x_icmp_le {a b off : Int} {tgt : Nat} (h : xOk ω κ l cc nL own R) (hd : decode cc pc = .ok (.if_icmp .le off, 3)) (ht : (pc : Int) + off = (tgt : Int)) (ha : inR a) (hb : inR b) (kt : a ≤ b → X ω κ tgt lv st M) (kf : ¬ a ≤ b → X ω κ (pc + 3) lv st M) : X ω κ pc lv (.int (iI b) :: .int (iI a) :: st) M := by
  intro hR H locs ls hP hS hl
  refine lv_icmp_le h.1 h.2.1 hd ht (fun z => ?_) (fun z => ?_)
  · exact (fun z => kt ((iI_le ha hb).mp z)) z hR H locs ls hP hS hl
  · exact (fun z => kf (fun y => z ((iI_le ha hb).mpr y))) z hR H locs ls hP hS hl
theorem x_ifeqB {c : Prop} {off : Int} {tgt : Nat} (h : xOk ω κ l cc nL own R) (hd : decode cc pc = .ok (.ifCond .eq off, 3)) (ht : (pc : Int) + off = (tgt : Int)) (kt : ¬ c → X ω κ tgt lv st M) (kf : c → X ω κ (pc + 3) lv st M) : X ω κ pc lv (.int (iI (bI c)) :: st) M :=
  x_if_eq h hd ht (bI_R c) (fun z => kt (bI_0.mp z)) (fun z => kf (Classical.byContradiction fun y => z (bI_f y)))
theorem x_ifneB {c : Prop} {off : Int} {tgt : Nat} (h : xOk ω κ l cc nL own R) (hd : decode cc pc = .ok (.ifCond .ne off, 3)) (ht : (pc : Int) + off = (tgt : Int)) (kt : c → X ω κ tgt lv st M) (kf : ¬ c → X ω κ (pc + 3) lv st M) : X ω κ pc lv (.int (iI (bI c)) :: st) M :=
  x_if_ne h hd ht (bI_R c) (fun z => kt (Classical.byContradiction fun y => z (bI_f y))) (fun z => kf (bI_0.mp z))
theorem x_tsOut {a dflt lo hi : Int} {offs : Array Int} {len tgt : Nat} (h : xOk ω κ l cc nL own R) (hd : decode cc pc = .ok (.tableswitch dflt lo hi offs, len)) (ha : inR a) (hx : a < lo ∨ hi < a) (ht : (pc : Int) + dflt = (tgt : Int)) (kk : X ω κ tgt lv st M) : X ω κ pc lv (.int (iI a) :: st) M :=
  fun hR H locs ls hP hS hl => lv_tableOut h.1 h.2.1 hd (by rw [iI_toInt ha]; exact hx) ht (kk hR H locs ls hP hS hl)
theorem x_tsIn {a dflt lo hi off : Int} {offs : Array Int} {len tgt : Nat} (n : Int) (h : xOk ω κ l cc nL own R) (hd : decode cc pc = .ok (.tableswitch dflt lo hi offs, len)) (hn : a = n) (hr : inR n ∧ ¬ n < lo ∧ ¬ hi < n) (ho : offs[(n - lo).toNat]? = some off) (ht : (pc : Int) + off = (tgt : Int)) (kk : X ω κ tgt lv st M) : X ω κ pc lv (.int (iI a) :: st) M := by
  subst hn
  exact fun hR H locs ls hP hS hl => lv_tableIn h.1 h.2.1 hd (by rw [iI_toInt hr.1]; exact hr.2.1) (by rw [iI_toInt hr.1]; exact hr.2.2) (by rw [iI_toInt hr.1]; exact ho) ht (kk hR H locs ls hP hS hl)
theorem x_iaload {z : Int} {k n : Nat} (h : xOk ω κ l cc nL own R) (hd : decode cc pc = .ok (.iaload, 1)) (hs : (xsh ω)[k]? = some (.inl n)) (hz : 0 ≤ z ∧ z < (n : Int) ∧ n ≤ 2147483648) (kk : inR (M k z) → X ω κ (pc + 1) lv (.int (iI (M k z)) :: st) M) : X ω κ pc lv (.int (iI z) :: .ref (xad ω k) :: st) M := by
  intro hR H locs ls hP hS hl
  obtain ⟨j, rfl⟩ : ∃ j : Nat, z = (j : Int) := ⟨z.toNat, by omega⟩
  have hj : j < n := by omega
  refine va_iald h.1 h.2.1 h.2.2.2.2.2.1 hP k 0 (xw_at hs) rfl (iI_in rfl hj hz.2.2) hd ?_
  rw [iI_nat (by omega)]
  exact kk (hR k j) hR H locs ls hP hS hl
theorem x_iastore {v z : Int} {k n : Nat} (h : xOk ω κ l cc nL own R) (hd : decode cc pc = .ok (.iastore, 1)) (hs : (xsh ω)[k]? = some (.inl n)) (hz : 0 ≤ z ∧ z < (n : Int) ∧ n ≤ 2147483648) (hv : inR v) (kk : X ω κ (pc + 1) lv st (up M k z v)) : X ω κ pc lv (.int (iI v) :: .int (iI z) :: .ref (xad ω k) :: st) M := by
  intro hR H locs ls hP hS hl
  obtain ⟨j, rfl⟩ : ∃ j : Nat, z = (j : Int) := ⟨z.toNat, by omega⟩
  have hj : j < n := by omega
  refine va_iast h.1 h.2.1 h.2.2.2.2.2.1 hP (xw_D h.2.2.2.2.2.2.1 M) hS k 0 (xw_at hs) rfl (iI_in rfl hj hz.2.2) hd (fun H1 locs1 hP1 _ hS1 => ?_)
  refine kk (up_R hR hv) H1 locs1 ls ?_ hS1 hl
  rw [iI_nat (by omega)] at hP1
  have e : (upd (fun i : Nat => iI (M k (i : Int))) j (iI v)) = (fun i : Nat => iI (ur (M k) (j : Int) v (i : Int))) := by
    funext i
    by_cases hi : i = j
    · subst hi; simp [upd, ur]
    · have : ¬ (i : Int) = (j : Int) := by omega
      simp [upd, ur, hi, this]
  rw [e] at hP1
  have := xw_set (M := M) (r := ur (M k) (j : Int) v) hs
  unfold up
  rw [← this]
  exact hP1
theorem x_geti {k j ci idx N : Nat} {fs : List (Option Nat)} {C : String} {T : u_T} (zj : Int) (h : xOk ω κ l cc nL own R) (hd : decode cc pc = .ok (.getfield idx, 3)) (hs : (xsh ω)[k]? = some (.inr (.inl (ci, fs)))) (hf : fs[j]? = some none) (hin : ∀ w ∈ u_ws C T N, w ∈ xtbl) (hc : xcl[ci]? = some (C, T, N)) (hj : j < N) (hw : Cond.fieldLink own idx (T j).1 (T j).2.1 (T j).2.2.1 ∈ xtbl) (hzj : (j : Int) = zj) (kk : inR (M k zj) → X ω κ (pc + 3) lv (.int (iI (M k zj)) :: st) M) : X ω κ pc lv (.ref (xad ω k) :: st) M := by
  intro hR H locs ls hP hS hl
  subst hzj
  refine va_get h.1 h.2.1 h.2.2.2.2.1 hin h.2.2.2.1 h.2.2.2.2.2.1 hP k (xw_at hs) hc j hj (h.2.2.2.2.1 _ hw) (fun _ z => z) (v := .int (iI (M k (j : Int)))) ?_ hd (kk (hR k _) hR H locs ls hP hS hl)
  rw [xfl_at, hf, Nat.zero_add]
  rfl
theorem x_getr {k j ci idx N q : Nat} {fs : List (Option Nat)} {C : String} {T : u_T} (h : xOk ω κ l cc nL own R) (hd : decode cc pc = .ok (.getfield idx, 3)) (hs : (xsh ω)[k]? = some (.inr (.inl (ci, fs)))) (hf : fs[j]? = some (some q)) (hin : ∀ w ∈ u_ws C T N, w ∈ xtbl) (hc : xcl[ci]? = some (C, T, N)) (hj : j < N) (hw : Cond.fieldLink own idx (T j).1 (T j).2.1 (T j).2.2.1 ∈ xtbl) (kk : X ω κ (pc + 3) lv (.ref (xad ω q) :: st) M) : X ω κ pc lv (.ref (xad ω k) :: st) M := by
  intro hR H locs ls hP hS hl
  refine va_get h.1 h.2.1 h.2.2.2.2.1 hin h.2.2.2.1 h.2.2.2.2.2.1 hP k (xw_at hs) hc j hj (h.2.2.2.2.1 _ hw) (fun _ z => z) (v := .ref (xad ω q)) ?_ hd (kk hR H locs ls hP hS hl)
  rw [xfl_at, hf]
  rfl
theorem x_puti {k j ci idx N : Nat} {v : Int} {ty : FieldType} {ty0 : Nat → FieldType} {fs : List (Option Nat)} {C : String} {T : u_T} (zj : Int) (h : xOk ω κ l cc nL own R) (hd : decode cc pc = .ok (.putfield idx, 3)) (hs : (xsh ω)[k]? = some (.inr (.inl (ci, fs)))) (hf : fs[j]? = some none) (hin : ∀ w ∈ u_ws C T N, w ∈ xtbl) (hc : xcl[ci]? = some (C, T, N)) (hj : j < N) (hw : Cond.fieldLink own idx (T j).1 (T j).2.1 (T j).2.2.1 ∈ xtbl)
    (hty : ∀ k, k < N → parseFieldDescriptor (T k).2.2.1 = some (ty0 k)) (hnm : ∀ a, a < N → ∀ b, b < N → a ≠ b → (T a).2.1 ≠ (T b).2.1) (hfin : (T j).2.2.2 = false) (hpd : parseFieldDescriptor (T j).2.2.1 = some ty) (hnar : narrow ty (.int (iI v)) = .int (iI v)) (hfit : fits ty (.int (iI v)) = true) (hv : inR v) (hzj : (j : Int) = zj) (kk : X ω κ (pc + 3) lv st (up M k zj v)) : X ω κ pc lv (.int (iI v) :: .ref (xad ω k) :: st) M := by
  intro hR H locs ls hP hS hl
  subst hzj
  have hlen : j < (xfl ω (M k) 0 fs).length := by
    rw [xfl_len]
    exact (List.getElem?_eq_some_iff.mp hf).1
  refine va_put h.1 h.2.1 h.2.2.2.2.1 hin ty0 hty hnm h.2.2.2.1 h.2.2.2.2.2.1 hP (xw_D h.2.2.2.2.2.2.1 M) hS k (xw_at hs) hc j hj (h.2.2.2.2.1 _ hw) (fun _ z => z) hfin hpd hnar hfit hlen hd (fun H1 locs1 hP1 _ hS1 => ?_)
  refine kk (up_R hR hv) H1 locs1 ls ?_ hS1 hl
  rw [xfl_set hf] at hP1
  unfold up
  rw [← xw_set (M := M) (r := ur (M k) (j : Int) v) hs]
  exact hP1
theorem x_iret {v w : Int} {ret : Option FieldType} {ρ : Option Value} {Mf : xMem} (h : xOk ω κ l cc nL own R) (he : xEnd ω κ (some .int) ρ Mf) (hd : decode cc pc = .ok (.ireturn, 1)) (hρ : ρ = some (.int (iI w))) (hv : v = w) (hM : M = Mf) : X ω κ pc lv [.int (iI v)] M := by
  subst hρ hv hM
  intro hR H locs ls hP hS hl
  rw [he.2]
  exact W.iret h.1 h.2.1 he.1 (fun t ht _ => ⟨rfl, by rw [ht]; exact hP, hS.F ht⟩) hS.2.2 hd h.2.2.2.2.2.2.2.2.1
theorem x_zret {v w : Int} {ρ : Option Value} {Mf : xMem} (h : xOk ω κ l cc nL own R) (he : xEnd ω κ (some .boolean) ρ Mf) (hd : decode cc pc = .ok (.ireturn, 1)) (h01 : v = 0 ∨ v = 1) (hρ : ρ = some (.int (iI w))) (hv : v = w) (hM : M = Mf) : X ω κ pc lv [.int (iI v)] M := by
  subst hρ hv hM
  intro hR H locs ls hP hS hl
  rw [he.2]
  exact W.zret h.1 h.2.1 he.1 (by rcases h01 with z | z <;> rw [z] <;> rfl) (fun t ht _ => ⟨rfl, by rw [ht]; exact hP, hS.F ht⟩) hS.2.2 hd h.2.2.2.2.2.2.2.2.1
theorem x_vret {Mf : xMem} (h : xOk ω κ l cc nL own R) (he : xEnd ω κ none none Mf) (hd : decode cc pc = .ok (.return_, 1)) (hM : M = Mf) : X ω κ pc lv [] M := by
  subst hM
  intro hR H locs ls hP hS hl
  rw [he.2]
  exact W.vret h.1 h.2.1 he.1 (fun t ht _ => ⟨rfl, by rw [ht]; exact hP, hS.F ht⟩) hS.2.2 hd h.2.2.2.2.2.2.2.2.1
end XR
