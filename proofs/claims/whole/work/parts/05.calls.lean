/-! CONTRACTS over the world as numbers: Ct says: called with these values over the memory M, the method answers ρ, the memory is Mf. -/
def xPc (ω : xO) (M : xMem) : State → Prop := fun U => va_P ω.1 xcl (xw ω M) U.heap ∧ va_K ω.1 xcl (xty ω) U ∧ xFine ω ∧ xph ω U ∧ xNest U
def Ct (l : Launch) (ω : xO) (y : MethodName) (rm : Room) (mL n : Nat) (As : List Value) (M : xMem) (ρ : Option Value) (Mf : xMem) : Prop :=
  xR M → xR Mf ∧ ∃ (bytes : ByteArray) (ret : Option FieldType), Cond.code y bytes mL ret ∈ xtbl ∧ Cond.initialized y.cls ∈ xtbl ∧ (y.cls ≠ "java/lang/invoke/MethodHandle" ∧ y.cls ≠ "java/lang/invoke/VarHandle" ∧ (parseMethodDescriptor y.desc).map (fun d => d.parameters.length) = some n) ∧ rm.cells = 0 ∧ rm.slots = 0 ∧
    Met l y (Cond.code y bytes mL ret :: xtbl) rm (va_Pc As (xPc ω M)) (xQp ω ρ Mf) 0 0 (xA ω)
theorem xgood : ∀ w ∈ xtbl, goodWord w = true := fun w h => (List.mem_filter.mp h).2
theorem xgoodIn {y : MethodName} {bytes : ByteArray} {mL : Nat} {ret : Option FieldType} (h : Cond.code y bytes mL ret ∈ xtbl) : GoodIn xtbl (Cond.code y bytes mL ret :: xtbl) := by
  intro w hw
  have hm : w ∈ xtbl := by
    rcases List.mem_cons.mp hw with rfl | z
    · exact h
    · exact z
  exact ⟨hm, good_of_word (xgood w hm)⟩
theorem xPc_blind (As : List Value) (ω : xO) (M : xMem) (hΦ : ∀ (U : State) (g : JFrame) (mk : MethodId) (a : Array Value), xph ω U → xph ω (U.calling g mk a)) : FrameBlind (va_Pc As (xPc ω M)) := by
  intro a U g mk hp
  obtain ⟨q0, qP, qK, qF, qΦ, qN⟩ := hp
  exact ⟨q0, qP, va_K.moved (u := U) (U := U.calling g mk a) (Vm.Alike.refl U.vm) qK, qF, hΦ U g mk a qΦ, qN.same rfl⟩
theorem xph_call {ω : xO} (h : xFine ω) (U : State) (g : JFrame) (mk : MethodId) (a : Array Value) (hU : xph ω U) : xph ω (U.calling g mk a) :=
  h.2 U (U.calling g mk a) (State.WarmedH.refl U) (fun _ _ _ => rfl) hU
section XC
variable {ω : xO} {κ : xK} {l : Launch} {cc : ByteArray} {nL : Nat} {own : String} {R : Room} {pc : Nat} {lv : List (Option Value)} {st : List Value} {M : xMem}
/-- the start of a method's proof -/
theorem Ct.of {y : MethodName} {rm : Room} {mL n : Nat} {As : List Value} {ρ : Option Value} {Mf : xMem} {bytes : ByteArray} {ret : Option FieldType} {lv0 : List (Option Value)}
    (hcode : Cond.code y bytes mL ret ∈ xtbl) (hini : Cond.initialized y.cls ∈ xtbl) (hpl : plainName y.cls = true) (hd : y.cls ≠ "java/lang/invoke/MethodHandle" ∧ y.cls ≠ "java/lang/invoke/VarHandle" ∧ (parseMethodDescriptor y.desc).map (fun d => d.parameters.length) = some n) (hc : rm.cells = 0) (hs : rm.slots = 0)
    (hle : Nat.ble (lg_sl As).length mL = true) (hlv : lv_args 0 As = xas 0 lv0) (hRf : xR M → xR Mf)
    (hX : ∀ κ : xK, xOk ω κ l bytes mL y.cls rm → xEnd ω κ ret ρ Mf → xR M → X ω κ 0 lv0 [] M) : Ct l ω y rm mL n As M ρ Mf := by
  intro hR
  refine ⟨hRf hR, bytes, ret, hcode, hini, hd, hc, hs, ?_⟩
  refine Met.ofW (cc := bytes) (maxL := mL) (ret := ret) hpl rfl ?_
  intro p e s m args below meth c s₁ B hml hv
  obtain ⟨rfl, hP, hK, hF, hΦ, hN⟩ := hv
  have hts := atoms_spec (ws := Cond.code y bytes mL ret :: xtbl) B.pre
  have hown : s.vm.findClass y.cls = some m.cls := findClass_of_methodNamed B.named
  have hl := lv_entry As (n := mL) (Nat.le_of_ble_eq_true hle)
  rw [lg_entry_eq]
  generalize (lg_sl As ++ List.replicate (mL - (lg_sl As).length) Slot.unset).toArray = ls at hl ⊢
  rw [hlv] at hl
  exact hX (p, l, e, rm, s, m, As.toArray, below, meth, c, MQ below (xQp ω ρ Mf) As.toArray s 0 0 (xA ω)) ⟨B.exec, B.bytes, hml, hown, fun w hw => hts w (List.mem_cons_of_mem _ hw), hK, hF, rfl, B.notSynchronized, rfl, hΦ, hN⟩ ⟨B.returns, rfl⟩ hR hR s.heap [] ls hP va_S.rf (by rw [show (kc (p, l, e, rm, s, m, As.toArray, below, meth, c, MQ below (xQp ω ρ Mf) As.toArray s 0 0 (xA ω))).maxLocals = mL from hml]; exact hl)
/-- what a call comes to -/
theorem x_back {H : Heap} {locs : List Loc} {ls : Array Slot} {st0 rest : List Value} {a : Array Value} {ρ : Option Value} {Mf : xMem} (hS : va_S (xA ω) (ks κ).heap H locs) (hl : lv_has ls (kc κ).maxLocals (xas 0 lv)) (hRf : xR Mf)
    (hr : va_Run (kp κ) (kl κ) (ke κ) (kR κ) (ks κ) (km κ) (ka κ) (kb κ) (kmeth κ) (kc κ) H locs 0 0 0 0 (F0 (km κ) pc ls st0) rest (xQp ω ρ Mf a) (xA ω))
    (kk : X ω κ (pc + 3) lv (ρ.toList ++ rest) Mf) : W (kp κ) (kl κ) (ke κ) (kR κ) (ks κ) (km κ) (ka κ) (kb κ) (kmeth κ) (kc κ) H locs 0 0 (kQ κ) (F0 (km κ) pc ls st0) := by
  intro T hT X0
  obtain ⟨v, st₀, t, T', L, h0, X', hL, e1, e2, ⟨hv, hP, hz, hk⟩, stp⟩ := hr T hT X0
  cases hv
  rw [h0] at hz hk
  obtain ⟨t2, a1, b1⟩ := kk hRf T'.heap (locs ++ L) ls (by rw [e1]; exact hP) ⟨Nat.le_trans hS.1 (by rw [e1]; exact hz), fun q h1 h2 => by rw [e1, hk q (Nat.lt_of_lt_of_le h1 hS.1) h2]; exact hS.2.1 q h1 h2, fun q hq => by
      rcases List.mem_append.mp hq with h | h
      · exact hS.2.2 q h
      · exact hL q h⟩ hl T' rfl X'
  exact ⟨t2, stp t2 a1, b1⟩
theorem x_pre {H : Heap} {locs : List Loc} {As : List Value} (h : xOk ω κ l cc nL own R) (hP : va_P ω.1 xcl (xw ω M) H) (hS : va_S (xA ω) (ks κ).heap H locs) : ∀ U : State, U.heap = H → (ks κ).WarmedH U.vm → va_Pc As (xPc ω M) As.toArray U :=
  fun U hU hW => ⟨rfl, by rw [hU]; exact hP, va_K.moved hW.alike h.2.2.2.2.2.1, h.2.2.2.2.2.2.1, h.2.2.2.2.2.2.1.2 (ks κ) U hW (fun q h1 h2 => by rw [hU]; exact hS.2.1 q h1 h2) h.2.2.2.2.2.2.2.2.2.2.1, h.2.2.2.2.2.2.2.2.2.2.2.warm hW⟩
theorem x_cb {H : Heap} {y : MethodName} {rm : Room} {mL n idx : Nat} {bytes : ByteArray} {ret : Option FieldType} (h : xOk ω κ l cc nL own R) (hcode : Cond.code y bytes mL ret ∈ xtbl) (hini : Cond.initialized y.cls ∈ xtbl) (hd : y.cls ≠ "java/lang/invoke/MethodHandle" ∧ y.cls ≠ "java/lang/invoke/VarHandle" ∧ (parseMethodDescriptor y.desc).map (fun d => d.parameters.length) = some n) (hc : rm.cells = 0) (hs : rm.slots = 0)
    (hlk : Cond.methodLink own idx y ∈ xtbl) (hrm : rm.frames + 1 ≤ R.frames ∧ 8 + (mL + 11) + rm.locals ≤ R.locals) : CallB (kR κ) (ks κ) (ka κ) own idx y bytes mL ret (Cond.code y bytes mL ret :: xtbl) rm 0 0 n :=
  callB_of n h.2.2.2.2.1 (xgoodIn hcode) rfl hc hs (h.2.2.2.2.1 _ hini) (h.2.2.2.2.1 _ hlk) hd (by rw [h.2.2.2.2.2.2.2.1]; exact hrm)
theorem x_callV {y : MethodName} {rm : Room} {mL n idx k ci : Nat} {fs : List (Option Nat)} {As rest stk : List Value} {ρ : Option Value} {Mf : xMem} (h : xOk ω κ l cc nL own R) (hd : decode cc pc = .ok (.invokevirtual idx, 3)) (hlk : Cond.methodLink own idx y ∈ xtbl) (hin : Cond.instanceMethod y ∈ xtbl) (hse : Cond.selects y.cls y y ∈ xtbl)
    (hs : (xsh ω)[k]? = some (.inr (.inl (ci, fs)))) (hcl : (xcl[ci]?).map (fun q => q.1) = some y.cls) (hrm : rm.frames + 1 ≤ R.frames ∧ 8 + (mL + 11) + rm.locals ≤ R.locals) (hn : As.length = n) (hst : stk = As.reverse ++ .ref (xad ω k) :: rest) (hcat : Nat.ble (rest.map fun v => v.category).sum 8 = true)
    (hct : Ct l ω y rm mL n (.ref (xad ω k) :: As) M ρ Mf) (kk : X ω κ (pc + 3) lv (ρ.toList ++ rest) Mf) : X ω κ pc lv stk M := by
  intro hR H locs ls hP hS hl
  obtain ⟨hRf, bytes, ret, hcode, hini, hdd, hc, hss, hM⟩ := hct hR
  have hM' : Met (kl κ) y (Cond.code y bytes mL ret :: xtbl) rm (va_Pc (.ref (xad ω k) :: As) (xPc ω M)) (xQp ω ρ Mf) 0 0 (xA ω) := by
    rw [show kl κ = l from h.2.2.2.2.2.2.2.2.2.1]; exact hM
  subst hst
  obtain ⟨q, hq, hq1⟩ : ∃ q, xcl[ci]? = some q ∧ q.1 = y.cls := by
    cases hz : xcl[ci]? with
    | none => rw [hz] at hcl; cases hcl
    | some q => rw [hz] at hcl; exact ⟨q, rfl, Option.some.inj hcl⟩
  have hrecv := va_recv h.2.2.2.2.2.1 hP hq (xw_at (M := M) hs)
  rw [hq1] at hrecv
  refine x_back hS hl hRf (va_runV ⟨h.1, h.2.1, h.2.2.1, h.2.2.2.1, h.2.2.2.2.1⟩ hM' ⟨x_cb (H := H) h hcode hini hdd hc hss hlk hrm, h.2.2.2.2.1 _ hin, h.2.2.2.2.1 _ hse⟩ ⟨xPc_blind _ ω M (fun U g mk a => xph_call h.2.2.2.2.2.2.1 U g mk a), hrecv, x_pre h hP hS⟩ rfl hn (by rw [← h.2.2.1]; exact hl.1) rfl ?_ hd ⟨Nat.zero_le _, Nat.zero_le _⟩) kk
  have := Nat.le_of_ble_eq_true hcat
  show 2 * 0 + _ ≤ 8
  omega
theorem x_callS {y : MethodName} {rm : Room} {mL n idx : Nat} {As rest stk : List Value} {ρ : Option Value} {Mf : xMem} (h : xOk ω κ l cc nL own R) (hd : decode cc pc = .ok (.invokestatic idx, 3)) (hlk : Cond.methodLink own idx y ∈ xtbl) (hstt : Cond.static y ∈ xtbl)
    (hrm : rm.frames + 1 ≤ R.frames ∧ 8 + (mL + 11) + rm.locals ≤ R.locals) (hn : As.length = n) (hst : stk = As.reverse ++ rest) (hcat : Nat.ble (rest.map fun v => v.category).sum 8 = true)
    (hct : Ct l ω y rm mL n As M ρ Mf) (kk : X ω κ (pc + 3) lv (ρ.toList ++ rest) Mf) : X ω κ pc lv stk M := by
  intro hR H locs ls hP hS hl
  obtain ⟨hRf, bytes, ret, hcode, hini, hdd, hc, hss, hM⟩ := hct hR
  have hM' : Met (kl κ) y (Cond.code y bytes mL ret :: xtbl) rm (va_Pc As (xPc ω M)) (xQp ω ρ Mf) 0 0 (xA ω) := by
    rw [show kl κ = l from h.2.2.2.2.2.2.2.2.2.1]; exact hM
  subst hst
  refine x_back hS hl hRf (va_runS ⟨h.1, h.2.1, h.2.2.1, h.2.2.2.1, h.2.2.2.2.1⟩ hM' ⟨x_cb (H := H) h hcode hini hdd hc hss hlk hrm, h.2.2.2.2.1 _ hstt⟩ ⟨xPc_blind _ ω M (fun U g mk a => xph_call h.2.2.2.2.2.2.1 U g mk a), x_pre h hP hS⟩ rfl hn (by rw [← h.2.2.1]; exact hl.1) rfl ?_ hd ⟨Nat.zero_le _, Nat.zero_le _⟩) kk
  have := Nat.le_of_ble_eq_true hcat
  show 2 * 0 + _ ≤ 8
  omega
theorem x_callSN {y : MethodName} {host : String} {rm : Room} {mL n idx : Nat} {As rest stk : List Value} {ρ : Option Value} {Mf : xMem} (h : xOk ω κ l cc nL own R) (hd : decode cc pc = .ok (.invokestatic idx, 3)) (hlk : Cond.methodLinkNest own idx y host ∈ lw_tbl) (hstt : Cond.static y ∈ xtbl)
    (hrm : rm.frames + 1 ≤ R.frames ∧ 8 + (mL + 11) + rm.locals ≤ R.locals) (hn : As.length = n) (hst : stk = As.reverse ++ rest) (hcat : Nat.ble (rest.map fun v => v.category).sum 8 = true)
    (hct : Ct l ω y rm mL n As M ρ Mf) (kk : X ω κ (pc + 3) lv (ρ.toList ++ rest) Mf) : X ω κ pc lv stk M := by
  intro hR H locs ls hP hS hl
  obtain ⟨hRf, bytes, ret, hcode, hini, hdd, hc, hss, hM⟩ := hct hR
  have hM' : Met (kl κ) y (Cond.code y bytes mL ret :: xtbl) rm (va_Pc As (xPc ω M)) (xQp ω ρ Mf) 0 0 (xA ω) := by
    rw [show kl κ = l from h.2.2.2.2.2.2.2.2.2.1]; exact hM
  subst hst
  refine x_back hS hl hRf (va_runSN ⟨h.1, h.2.1, h.2.2.1, h.2.2.2.1, h.2.2.2.2.1⟩ hM' ⟨va_cnB n h.2.2.2.2.1 (xgoodIn hcode) rfl hc hss (h.2.2.2.2.2.2.2.2.2.2.2 _ _ _ _ hlk) (h.2.2.2.2.1 _ hini) hdd (by rw [show kR κ = R from h.2.2.2.2.2.2.2.1]; exact hrm), h.2.2.2.2.1 _ hstt, trivial⟩ ⟨xPc_blind _ ω M (fun U g mk a => xph_call h.2.2.2.2.2.2.1 U g mk a), x_pre h hP hS⟩ rfl hn (by rw [← h.2.2.1]; exact hl.1) rfl ?_ hd ⟨Nat.zero_le _, Nat.zero_le _⟩) kk
  have := Nat.le_of_ble_eq_true hcat
  show 2 * 0 + _ ≤ 8
  omega
end XC
