/-! CONTRACTS whose end is told by a relation: Cq says: called with these values over M, the method answers z over a memory Mf with post z Mf. -/
def xQq (ω : xO) (post : Option Value → xMem → Prop) : Array Value → State → Outcome → State → Prop := fun _ st oc t => (∃ (v : Option Value) (Mf : xMem), oc = .returned v ∧ post v Mf ∧ xR Mf ∧ va_P ω.1 xcl (xw ω Mf) t.heap) ∧ va_F (xA ω) st t
def Cq (l : Launch) (ω : xO) (y : MethodName) (rm : Room) (mL n : Nat) (As : List Value) (M : xMem) (post : Option Value → xMem → Prop) : Prop :=
  xR M → ∃ (bytes : ByteArray) (ret : Option FieldType), Cond.code y bytes mL ret ∈ xtbl ∧ Cond.initialized y.cls ∈ xtbl ∧ (y.cls ≠ "java/lang/invoke/MethodHandle" ∧ y.cls ≠ "java/lang/invoke/VarHandle" ∧ (parseMethodDescriptor y.desc).map (fun d => d.parameters.length) = some n) ∧ rm.cells = 0 ∧ rm.slots = 0 ∧
    Met l y (Cond.code y bytes mL ret :: xtbl) rm (va_Pc As (xPc ω M)) (xQq ω post) 0 0 (xA ω)
def pI1 (post : Int → xMem → Prop) : Option Value → xMem → Prop := fun v M => ∃ z : Int, v = some (.int (iI z)) ∧ post z M
def pV1 (post : xMem → Prop) : Option Value → xMem → Prop := fun v M => v = none ∧ post M
def xEnq (ω : xO) (κ : xK) (ret : Option FieldType) (post : Option Value → xMem → Prop) : Prop := (kmeth κ).sig.returnType = ret ∧ kQ κ = MQ (kb κ) (xQq ω post) (ka κ) (ks κ) 0 0 (xA ω)
section XQ
variable {ω : xO} {κ : xK} {l : Launch} {cc : ByteArray} {nL : Nat} {own : String} {R : Room} {pc : Nat} {lv : List (Option Value)} {st : List Value} {M : xMem}
theorem Cq.of {y : MethodName} {rm : Room} {mL n : Nat} {As : List Value} {post : Option Value → xMem → Prop} {bytes : ByteArray} {ret : Option FieldType} {lv0 : List (Option Value)}
    (hcode : Cond.code y bytes mL ret ∈ xtbl) (hini : Cond.initialized y.cls ∈ xtbl) (hpl : plainName y.cls = true) (hd : y.cls ≠ "java/lang/invoke/MethodHandle" ∧ y.cls ≠ "java/lang/invoke/VarHandle" ∧ (parseMethodDescriptor y.desc).map (fun d => d.parameters.length) = some n) (hc : rm.cells = 0) (hs : rm.slots = 0)
    (hle : Nat.ble (lg_sl As).length mL = true) (hlv : lv_args 0 As = xas 0 lv0)
    (hX : ∀ κ : xK, xOk ω κ l bytes mL y.cls rm → xEnq ω κ ret post → xR M → X ω κ 0 lv0 [] M) : Cq l ω y rm mL n As M post := by
  intro hR
  refine ⟨bytes, ret, hcode, hini, hd, hc, hs, ?_⟩
  refine Met.ofW (cc := bytes) (maxL := mL) (ret := ret) hpl rfl ?_
  intro p e s m args below meth c s₁ B hml hv
  obtain ⟨rfl, hP, hK, hF, hΦ, hN⟩ := hv
  have hts := atoms_spec (ws := Cond.code y bytes mL ret :: xtbl) B.pre
  have hown : s.vm.findClass y.cls = some m.cls := findClass_of_methodNamed B.named
  have hl := lv_entry As (n := mL) (Nat.le_of_ble_eq_true hle)
  rw [lg_entry_eq]
  generalize (lg_sl As ++ List.replicate (mL - (lg_sl As).length) Slot.unset).toArray = ls at hl ⊢
  rw [hlv] at hl
  exact hX (p, l, e, rm, s, m, As.toArray, below, meth, c, MQ below (xQq ω post) As.toArray s 0 0 (xA ω)) ⟨B.exec, B.bytes, hml, hown, fun w hw => hts w (List.mem_cons_of_mem _ hw), hK, hF, rfl, B.notSynchronized, rfl, hΦ, hN⟩ ⟨B.returns, rfl⟩ hR hR s.heap [] ls hP va_S.rf (by rw [show (kc (p, l, e, rm, s, m, As.toArray, below, meth, c, MQ below (xQq ω post) As.toArray s 0 0 (xA ω))).maxLocals = mL from hml]; exact hl)
theorem x_backq {H : Heap} {locs : List Loc} {ls : Array Slot} {st0 rest : List Value} {a : Array Value} {post : Option Value → xMem → Prop} (hS : va_S (xA ω) (ks κ).heap H locs) (hl : lv_has ls (kc κ).maxLocals (xas 0 lv))
    (hr : va_Run (kp κ) (kl κ) (ke κ) (kR κ) (ks κ) (km κ) (ka κ) (kb κ) (kmeth κ) (kc κ) H locs 0 0 0 0 (F0 (km κ) pc ls st0) rest (xQq ω post a) (xA ω))
    (kk : ∀ (v : Option Value) (Mf : xMem), post v Mf → X ω κ (pc + 3) lv (v.toList ++ rest) Mf) : W (kp κ) (kl κ) (ke κ) (kR κ) (ks κ) (km κ) (ka κ) (kb κ) (kmeth κ) (kc κ) H locs 0 0 (kQ κ) (F0 (km κ) pc ls st0) := by
  intro T hT X0
  obtain ⟨v, st₀, t, T', L, h0, X', hL, e1, e2, ⟨⟨v', Mf, hv, hpo, hRf, hP⟩, hz, hk⟩, stp⟩ := hr T hT X0
  cases hv
  rw [h0] at hz hk
  obtain ⟨t2, a1, b1⟩ := kk v Mf hpo hRf T'.heap (locs ++ L) ls (by rw [e1]; exact hP) ⟨Nat.le_trans hS.1 (by rw [e1]; exact hz), fun q h1 h2 => by rw [e1, hk q (Nat.lt_of_lt_of_le h1 hS.1) h2]; exact hS.2.1 q h1 h2, fun q hq => by
      rcases List.mem_append.mp hq with h | h
      · exact hS.2.2 q h
      · exact hL q h⟩ hl T' rfl X'
  exact ⟨t2, stp t2 a1, b1⟩
theorem x_callVq {y : MethodName} {rm : Room} {mL n idx k ci : Nat} {fs : List (Option Nat)} {As rest stk : List Value} {post : Option Value → xMem → Prop} (h : xOk ω κ l cc nL own R) (hd : decode cc pc = .ok (.invokevirtual idx, 3)) (hlk : Cond.methodLink own idx y ∈ xtbl) (hin : Cond.instanceMethod y ∈ xtbl) (hse : Cond.selects y.cls y y ∈ xtbl)
    (hs : (xsh ω)[k]? = some (.inr (.inl (ci, fs)))) (hcl : (xcl[ci]?).map (fun q => q.1) = some y.cls) (hrm : rm.frames + 1 ≤ R.frames ∧ 8 + (mL + 11) + rm.locals ≤ R.locals) (hn : As.length = n) (hst : stk = As.reverse ++ .ref (xad ω k) :: rest) (hcat : Nat.ble (rest.map fun v => v.category).sum 8 = true)
    (hct : Cq l ω y rm mL n (.ref (xad ω k) :: As) M post) (kk : ∀ (v : Option Value) (Mf : xMem), post v Mf → X ω κ (pc + 3) lv (v.toList ++ rest) Mf) : X ω κ pc lv stk M := by
  intro hR H locs ls hP hS hl
  obtain ⟨bytes, ret, hcode, hini, hdd, hc, hss, hM⟩ := hct hR
  have hM' : Met (kl κ) y (Cond.code y bytes mL ret :: xtbl) rm (va_Pc (.ref (xad ω k) :: As) (xPc ω M)) (xQq ω post) 0 0 (xA ω) := by
    rw [show kl κ = l from h.2.2.2.2.2.2.2.2.2.1]; exact hM
  subst hst
  obtain ⟨q, hq, hq1⟩ : ∃ q, xcl[ci]? = some q ∧ q.1 = y.cls := by
    cases hz : xcl[ci]? with
    | none => rw [hz] at hcl; cases hcl
    | some q => rw [hz] at hcl; exact ⟨q, rfl, Option.some.inj hcl⟩
  have hrecv := va_recv h.2.2.2.2.2.1 hP hq (xw_at (M := M) hs)
  rw [hq1] at hrecv
  refine x_backq hS hl (va_runV ⟨h.1, h.2.1, h.2.2.1, h.2.2.2.1, h.2.2.2.2.1⟩ hM' ⟨x_cb (H := H) h hcode hini hdd hc hss hlk hrm, h.2.2.2.2.1 _ hin, h.2.2.2.2.1 _ hse⟩ ⟨xPc_blind _ ω M (fun U g mk a => xph_call h.2.2.2.2.2.2.1 U g mk a), hrecv, x_pre h hP hS⟩ rfl hn (by rw [← h.2.2.1]; exact hl.1) rfl ?_ hd ⟨Nat.zero_le _, Nat.zero_le _⟩) kk
  have := Nat.le_of_ble_eq_true hcat
  show 2 * 0 + _ ≤ 8
  omega
theorem x_iretq {v : Int} {post : Int → xMem → Prop} (h : xOk ω κ l cc nL own R) (he : xEnq ω κ (some .int) (pI1 post)) (hd : decode cc pc = .ok (.ireturn, 1)) (hp : post v M) : X ω κ pc lv [.int (iI v)] M := by
  intro hR H locs ls hP hS hl
  rw [he.2]
  exact W.iret h.1 h.2.1 he.1 (fun t ht _ => ⟨⟨_, M, rfl, ⟨v, rfl, hp⟩, hR, by rw [ht]; exact hP⟩, hS.F ht⟩) hS.2.2 hd h.2.2.2.2.2.2.2.2.1
theorem x_zretq {v : Int} {post : Int → xMem → Prop} (h : xOk ω κ l cc nL own R) (he : xEnq ω κ (some .boolean) (pI1 post)) (hd : decode cc pc = .ok (.ireturn, 1)) (h01 : v = 0 ∨ v = 1) (hp : post v M) : X ω κ pc lv [.int (iI v)] M := by
  intro hR H locs ls hP hS hl
  rw [he.2]
  exact W.zret h.1 h.2.1 he.1 (by rcases h01 with z | z <;> rw [z] <;> rfl) (fun t ht _ => ⟨⟨_, M, rfl, ⟨v, rfl, hp⟩, hR, by rw [ht]; exact hP⟩, hS.F ht⟩) hS.2.2 hd h.2.2.2.2.2.2.2.2.1
theorem x_vretq {post : xMem → Prop} (h : xOk ω κ l cc nL own R) (he : xEnq ω κ none (pV1 post)) (hd : decode cc pc = .ok (.return_, 1)) (hp : post M) : X ω κ pc lv [] M := by
  intro hR H locs ls hP hS hl
  rw [he.2]
  exact W.vret h.1 h.2.1 he.1 (fun t ht _ => ⟨⟨_, M, rfl, ⟨rfl, hp⟩, hR, by rw [ht]; exact hP⟩, hS.F ht⟩) hS.2.2 hd h.2.2.2.2.2.2.2.2.1
/-- a contract with a known end is one by a relation -/
theorem Ct.q {y : MethodName} {rm : Room} {mL n : Nat} {As : List Value} {ρ : Option Value} {Mf : xMem} {post : Option Value → xMem → Prop} (h : Ct l ω y rm mL n As M ρ Mf) (hp : post ρ Mf) : Cq l ω y rm mL n As M post := by
  intro hR
  obtain ⟨hRf, bytes, ret, a1, a2, a3, a4, a5, hM⟩ := h hR
  refine ⟨bytes, ret, a1, a2, a3, a4, a5, ?_⟩
  intro p e ha hc hk s m args below hf happ hpre hframe
  obtain ⟨t, o, b1, b2, b3, b4⟩ := hM p e ha hc hk s m args below hf happ hpre hframe
  exact ⟨t, o, b1, b2, b3, ⟨⟨ρ, Mf, b4.1.1, hp, hRf, b4.1.2.1⟩, b4.1.2.2⟩, b4.2⟩
theorem x_Q0i {y : MethodName} {rm : Room} {mL idx k ci : Nat} {fs : List (Option Nat)} {rest : List Value} {post : Int → xMem → Prop} (h : xOk ω κ l cc nL own R) (hd : decode cc pc = .ok (.invokevirtual idx, 3)) (hlk : Cond.methodLink own idx y ∈ xtbl) (hin : Cond.instanceMethod y ∈ xtbl) (hse : Cond.selects y.cls y y ∈ xtbl) (hs : (xsh ω)[k]? = some (.inr (.inl (ci, fs)))) (hcl : (xcl[ci]?).map (fun q => q.1) = some y.cls) (hrm : rm.frames + 1 ≤ R.frames ∧ 8 + (mL + 11) + rm.locals ≤ R.locals) (hcat : Nat.ble (rest.map fun v => v.category).sum 8 = true)
    (hct : Cq l ω y rm mL 0 (.ref (xad ω k) :: []) M (pI1 post)) (kk : ∀ (r : Int) (Mf : xMem), post r Mf → X ω κ (pc + 3) lv (.int (iI r) :: rest) Mf) : X ω κ pc lv (.ref (xad ω k) :: rest) M :=
  x_callVq (As := []) h hd hlk hin hse hs hcl hrm rfl rfl hcat hct (fun v Mf hv => by obtain ⟨z, rfl, hz⟩ := hv; exact kk z Mf hz)
theorem x_Q0v {y : MethodName} {rm : Room} {mL idx k ci : Nat} {fs : List (Option Nat)} {rest : List Value} {post : xMem → Prop} (h : xOk ω κ l cc nL own R) (hd : decode cc pc = .ok (.invokevirtual idx, 3)) (hlk : Cond.methodLink own idx y ∈ xtbl) (hin : Cond.instanceMethod y ∈ xtbl) (hse : Cond.selects y.cls y y ∈ xtbl) (hs : (xsh ω)[k]? = some (.inr (.inl (ci, fs)))) (hcl : (xcl[ci]?).map (fun q => q.1) = some y.cls) (hrm : rm.frames + 1 ≤ R.frames ∧ 8 + (mL + 11) + rm.locals ≤ R.locals) (hcat : Nat.ble (rest.map fun v => v.category).sum 8 = true)
    (hct : Cq l ω y rm mL 0 (.ref (xad ω k) :: []) M (pV1 post)) (kk : ∀ (Mf : xMem), post Mf → X ω κ (pc + 3) lv rest Mf) : X ω κ pc lv (.ref (xad ω k) :: rest) M :=
  x_callVq (As := []) h hd hlk hin hse hs hcl hrm rfl rfl hcat hct (fun v Mf hv => by obtain ⟨rfl, hz⟩ := hv; exact kk Mf hz)
theorem x_Q1i {y : MethodName} {rm : Room} {mL idx k ci : Nat} {fs : List (Option Nat)} {rest : List Value} {va : Value} {post : Int → xMem → Prop} (h : xOk ω κ l cc nL own R) (hd : decode cc pc = .ok (.invokevirtual idx, 3)) (hlk : Cond.methodLink own idx y ∈ xtbl) (hin : Cond.instanceMethod y ∈ xtbl) (hse : Cond.selects y.cls y y ∈ xtbl) (hs : (xsh ω)[k]? = some (.inr (.inl (ci, fs)))) (hcl : (xcl[ci]?).map (fun q => q.1) = some y.cls) (hrm : rm.frames + 1 ≤ R.frames ∧ 8 + (mL + 11) + rm.locals ≤ R.locals) (hcat : Nat.ble (rest.map fun v => v.category).sum 8 = true)
    (hct : Cq l ω y rm mL 1 (.ref (xad ω k) :: [va]) M (pI1 post)) (kk : ∀ (r : Int) (Mf : xMem), post r Mf → X ω κ (pc + 3) lv (.int (iI r) :: rest) Mf) : X ω κ pc lv (va :: .ref (xad ω k) :: rest) M :=
  x_callVq (As := [va]) h hd hlk hin hse hs hcl hrm rfl rfl hcat hct (fun v Mf hv => by obtain ⟨z, rfl, hz⟩ := hv; exact kk z Mf hz)
theorem x_Q1v {y : MethodName} {rm : Room} {mL idx k ci : Nat} {fs : List (Option Nat)} {rest : List Value} {va : Value} {post : xMem → Prop} (h : xOk ω κ l cc nL own R) (hd : decode cc pc = .ok (.invokevirtual idx, 3)) (hlk : Cond.methodLink own idx y ∈ xtbl) (hin : Cond.instanceMethod y ∈ xtbl) (hse : Cond.selects y.cls y y ∈ xtbl) (hs : (xsh ω)[k]? = some (.inr (.inl (ci, fs)))) (hcl : (xcl[ci]?).map (fun q => q.1) = some y.cls) (hrm : rm.frames + 1 ≤ R.frames ∧ 8 + (mL + 11) + rm.locals ≤ R.locals) (hcat : Nat.ble (rest.map fun v => v.category).sum 8 = true)
    (hct : Cq l ω y rm mL 1 (.ref (xad ω k) :: [va]) M (pV1 post)) (kk : ∀ (Mf : xMem), post Mf → X ω κ (pc + 3) lv rest Mf) : X ω κ pc lv (va :: .ref (xad ω k) :: rest) M :=
  x_callVq (As := [va]) h hd hlk hin hse hs hcl hrm rfl rfl hcat hct (fun v Mf hv => by obtain ⟨rfl, hz⟩ := hv; exact kk Mf hz)
theorem x_Q2i {y : MethodName} {rm : Room} {mL idx k ci : Nat} {fs : List (Option Nat)} {rest : List Value} {va vb : Value} {post : Int → xMem → Prop} (h : xOk ω κ l cc nL own R) (hd : decode cc pc = .ok (.invokevirtual idx, 3)) (hlk : Cond.methodLink own idx y ∈ xtbl) (hin : Cond.instanceMethod y ∈ xtbl) (hse : Cond.selects y.cls y y ∈ xtbl) (hs : (xsh ω)[k]? = some (.inr (.inl (ci, fs)))) (hcl : (xcl[ci]?).map (fun q => q.1) = some y.cls) (hrm : rm.frames + 1 ≤ R.frames ∧ 8 + (mL + 11) + rm.locals ≤ R.locals) (hcat : Nat.ble (rest.map fun v => v.category).sum 8 = true)
    (hct : Cq l ω y rm mL 2 (.ref (xad ω k) :: [va, vb]) M (pI1 post)) (kk : ∀ (r : Int) (Mf : xMem), post r Mf → X ω κ (pc + 3) lv (.int (iI r) :: rest) Mf) : X ω κ pc lv (vb :: va :: .ref (xad ω k) :: rest) M :=
  x_callVq (As := [va, vb]) h hd hlk hin hse hs hcl hrm rfl rfl hcat hct (fun v Mf hv => by obtain ⟨z, rfl, hz⟩ := hv; exact kk z Mf hz)
theorem x_Q2v {y : MethodName} {rm : Room} {mL idx k ci : Nat} {fs : List (Option Nat)} {rest : List Value} {va vb : Value} {post : xMem → Prop} (h : xOk ω κ l cc nL own R) (hd : decode cc pc = .ok (.invokevirtual idx, 3)) (hlk : Cond.methodLink own idx y ∈ xtbl) (hin : Cond.instanceMethod y ∈ xtbl) (hse : Cond.selects y.cls y y ∈ xtbl) (hs : (xsh ω)[k]? = some (.inr (.inl (ci, fs)))) (hcl : (xcl[ci]?).map (fun q => q.1) = some y.cls) (hrm : rm.frames + 1 ≤ R.frames ∧ 8 + (mL + 11) + rm.locals ≤ R.locals) (hcat : Nat.ble (rest.map fun v => v.category).sum 8 = true)
    (hct : Cq l ω y rm mL 2 (.ref (xad ω k) :: [va, vb]) M (pV1 post)) (kk : ∀ (Mf : xMem), post Mf → X ω κ (pc + 3) lv rest Mf) : X ω κ pc lv (vb :: va :: .ref (xad ω k) :: rest) M :=
  x_callVq (As := [va, vb]) h hd hlk hin hse hs hcl hrm rfl rfl hcat hct (fun v Mf hv => by obtain ⟨rfl, hz⟩ := hv; exact kk Mf hz)
theorem x_Q3i {y : MethodName} {rm : Room} {mL idx k ci : Nat} {fs : List (Option Nat)} {rest : List Value} {va vb vc : Value} {post : Int → xMem → Prop} (h : xOk ω κ l cc nL own R) (hd : decode cc pc = .ok (.invokevirtual idx, 3)) (hlk : Cond.methodLink own idx y ∈ xtbl) (hin : Cond.instanceMethod y ∈ xtbl) (hse : Cond.selects y.cls y y ∈ xtbl) (hs : (xsh ω)[k]? = some (.inr (.inl (ci, fs)))) (hcl : (xcl[ci]?).map (fun q => q.1) = some y.cls) (hrm : rm.frames + 1 ≤ R.frames ∧ 8 + (mL + 11) + rm.locals ≤ R.locals) (hcat : Nat.ble (rest.map fun v => v.category).sum 8 = true)
    (hct : Cq l ω y rm mL 3 (.ref (xad ω k) :: [va, vb, vc]) M (pI1 post)) (kk : ∀ (r : Int) (Mf : xMem), post r Mf → X ω κ (pc + 3) lv (.int (iI r) :: rest) Mf) : X ω κ pc lv (vc :: vb :: va :: .ref (xad ω k) :: rest) M :=
  x_callVq (As := [va, vb, vc]) h hd hlk hin hse hs hcl hrm rfl rfl hcat hct (fun v Mf hv => by obtain ⟨z, rfl, hz⟩ := hv; exact kk z Mf hz)
theorem x_Q3v {y : MethodName} {rm : Room} {mL idx k ci : Nat} {fs : List (Option Nat)} {rest : List Value} {va vb vc : Value} {post : xMem → Prop} (h : xOk ω κ l cc nL own R) (hd : decode cc pc = .ok (.invokevirtual idx, 3)) (hlk : Cond.methodLink own idx y ∈ xtbl) (hin : Cond.instanceMethod y ∈ xtbl) (hse : Cond.selects y.cls y y ∈ xtbl) (hs : (xsh ω)[k]? = some (.inr (.inl (ci, fs)))) (hcl : (xcl[ci]?).map (fun q => q.1) = some y.cls) (hrm : rm.frames + 1 ≤ R.frames ∧ 8 + (mL + 11) + rm.locals ≤ R.locals) (hcat : Nat.ble (rest.map fun v => v.category).sum 8 = true)
    (hct : Cq l ω y rm mL 3 (.ref (xad ω k) :: [va, vb, vc]) M (pV1 post)) (kk : ∀ (Mf : xMem), post Mf → X ω κ (pc + 3) lv rest Mf) : X ω κ pc lv (vc :: vb :: va :: .ref (xad ω k) :: rest) M :=
  x_callVq (As := [va, vb, vc]) h hd hlk hin hse hs hcl hrm rfl rfl hcat hct (fun v Mf hv => by obtain ⟨rfl, hz⟩ := hv; exact kk Mf hz)
theorem x_Q4i {y : MethodName} {rm : Room} {mL idx k ci : Nat} {fs : List (Option Nat)} {rest : List Value} {va vb vc vd : Value} {post : Int → xMem → Prop} (h : xOk ω κ l cc nL own R) (hd : decode cc pc = .ok (.invokevirtual idx, 3)) (hlk : Cond.methodLink own idx y ∈ xtbl) (hin : Cond.instanceMethod y ∈ xtbl) (hse : Cond.selects y.cls y y ∈ xtbl) (hs : (xsh ω)[k]? = some (.inr (.inl (ci, fs)))) (hcl : (xcl[ci]?).map (fun q => q.1) = some y.cls) (hrm : rm.frames + 1 ≤ R.frames ∧ 8 + (mL + 11) + rm.locals ≤ R.locals) (hcat : Nat.ble (rest.map fun v => v.category).sum 8 = true)
    (hct : Cq l ω y rm mL 4 (.ref (xad ω k) :: [va, vb, vc, vd]) M (pI1 post)) (kk : ∀ (r : Int) (Mf : xMem), post r Mf → X ω κ (pc + 3) lv (.int (iI r) :: rest) Mf) : X ω κ pc lv (vd :: vc :: vb :: va :: .ref (xad ω k) :: rest) M :=
  x_callVq (As := [va, vb, vc, vd]) h hd hlk hin hse hs hcl hrm rfl rfl hcat hct (fun v Mf hv => by obtain ⟨z, rfl, hz⟩ := hv; exact kk z Mf hz)
theorem x_Q4v {y : MethodName} {rm : Room} {mL idx k ci : Nat} {fs : List (Option Nat)} {rest : List Value} {va vb vc vd : Value} {post : xMem → Prop} (h : xOk ω κ l cc nL own R) (hd : decode cc pc = .ok (.invokevirtual idx, 3)) (hlk : Cond.methodLink own idx y ∈ xtbl) (hin : Cond.instanceMethod y ∈ xtbl) (hse : Cond.selects y.cls y y ∈ xtbl) (hs : (xsh ω)[k]? = some (.inr (.inl (ci, fs)))) (hcl : (xcl[ci]?).map (fun q => q.1) = some y.cls) (hrm : rm.frames + 1 ≤ R.frames ∧ 8 + (mL + 11) + rm.locals ≤ R.locals) (hcat : Nat.ble (rest.map fun v => v.category).sum 8 = true)
    (hct : Cq l ω y rm mL 4 (.ref (xad ω k) :: [va, vb, vc, vd]) M (pV1 post)) (kk : ∀ (Mf : xMem), post Mf → X ω κ (pc + 3) lv rest Mf) : X ω κ pc lv (vd :: vc :: vb :: va :: .ref (xad ω k) :: rest) M :=
  x_callVq (As := [va, vb, vc, vd]) h hd hlk hin hse hs hcl hrm rfl rfl hcat hct (fun v Mf hv => by obtain ⟨rfl, hz⟩ := hv; exact kk Mf hz)
theorem x_Q5i {y : MethodName} {rm : Room} {mL idx k ci : Nat} {fs : List (Option Nat)} {rest : List Value} {va vb vc vd ve : Value} {post : Int → xMem → Prop} (h : xOk ω κ l cc nL own R) (hd : decode cc pc = .ok (.invokevirtual idx, 3)) (hlk : Cond.methodLink own idx y ∈ xtbl) (hin : Cond.instanceMethod y ∈ xtbl) (hse : Cond.selects y.cls y y ∈ xtbl) (hs : (xsh ω)[k]? = some (.inr (.inl (ci, fs)))) (hcl : (xcl[ci]?).map (fun q => q.1) = some y.cls) (hrm : rm.frames + 1 ≤ R.frames ∧ 8 + (mL + 11) + rm.locals ≤ R.locals) (hcat : Nat.ble (rest.map fun v => v.category).sum 8 = true)
    (hct : Cq l ω y rm mL 5 (.ref (xad ω k) :: [va, vb, vc, vd, ve]) M (pI1 post)) (kk : ∀ (r : Int) (Mf : xMem), post r Mf → X ω κ (pc + 3) lv (.int (iI r) :: rest) Mf) : X ω κ pc lv (ve :: vd :: vc :: vb :: va :: .ref (xad ω k) :: rest) M :=
  x_callVq (As := [va, vb, vc, vd, ve]) h hd hlk hin hse hs hcl hrm rfl rfl hcat hct (fun v Mf hv => by obtain ⟨z, rfl, hz⟩ := hv; exact kk z Mf hz)
theorem x_Q5v {y : MethodName} {rm : Room} {mL idx k ci : Nat} {fs : List (Option Nat)} {rest : List Value} {va vb vc vd ve : Value} {post : xMem → Prop} (h : xOk ω κ l cc nL own R) (hd : decode cc pc = .ok (.invokevirtual idx, 3)) (hlk : Cond.methodLink own idx y ∈ xtbl) (hin : Cond.instanceMethod y ∈ xtbl) (hse : Cond.selects y.cls y y ∈ xtbl) (hs : (xsh ω)[k]? = some (.inr (.inl (ci, fs)))) (hcl : (xcl[ci]?).map (fun q => q.1) = some y.cls) (hrm : rm.frames + 1 ≤ R.frames ∧ 8 + (mL + 11) + rm.locals ≤ R.locals) (hcat : Nat.ble (rest.map fun v => v.category).sum 8 = true)
    (hct : Cq l ω y rm mL 5 (.ref (xad ω k) :: [va, vb, vc, vd, ve]) M (pV1 post)) (kk : ∀ (Mf : xMem), post Mf → X ω κ (pc + 3) lv rest Mf) : X ω κ pc lv (ve :: vd :: vc :: vb :: va :: .ref (xad ω k) :: rest) M :=
  x_callVq (As := [va, vb, vc, vd, ve]) h hd hlk hin hse hs hcl hrm rfl rfl hcat hct (fun v Mf hv => by obtain ⟨rfl, hz⟩ := hv; exact kk Mf hz)
end XQ
