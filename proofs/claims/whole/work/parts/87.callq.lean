/-! a call of the reference, by what it comes to -/
section YC
variable {p : Program} {l : Launch} {e : Env} {R : Room} {s : State} {m : MethodId} {args : Array Value} {below : List Frame} {meth : Method} {c : Code} {H : Heap} {locs : List Loc} {cells slots : Nat} {Q : State → Prop}
variable {cc : ByteArray} {pc nL : Nat} {own : String} {ls : Array Slot} {ω : xO} {M : xMem} {A0 : Nat → Prop}
/-- a system's method called from a frame that holds more than the system -/
theorem y_callQ {y : MethodName} {rm : Room} {mL n idx k ci : Nat} {fs : List (Option Nat)} {As rest stk : List Value} {post : Option Value → xMem → Prop} (hx : p.tables.exec = Jvm.exec) (hb : c.code = cc) (hml : c.maxLocals = nL) (hown : s.vm.findClass own = some m.cls) (xts : ∀ w ∈ xtbl, w.before args s = true) (hd : decode cc pc = .ok (.invokevirtual idx, 3)) (hlk : Cond.methodLink own idx y ∈ xtbl) (hin : Cond.instanceMethod y ∈ xtbl) (hse : Cond.selects y.cls y y ∈ xtbl)
    (hs : (xsh ω)[k]? = some (.inr (.inl (ci, fs)))) (hcl : (xcl[ci]?).map (fun q => q.1) = some y.cls) (hrm : rm.frames + 1 ≤ R.frames ∧ 8 + (mL + 11) + rm.locals ≤ R.locals) (hn : As.length = n) (hst : stk = As.reverse ++ .ref (xad ω k) :: rest) (hcat : Nat.ble (rest.map fun v => v.category).sum 8 = true) (hls : ls.size = nL)
    (hct : Cq l ω y rm mL n (.ref (xad ω k) :: As) M post) (hR : xR M) (hP : va_P ω.1 xcl (xw ω M) H) (hK : va_K ω.1 xcl (xty ω) s) (hF : xFine ω) (hφ : xph ω s) (hA2 : ∀ q, q < s.heap.size → ¬ xA ω q → ¬ A0 q) (hN : xNest s) (hS : va_S A0 s.heap H locs) (hA : ∀ q, xA ω q → A0 q) (hcs : cells ≤ R.cells ∧ slots ≤ R.slots)
    (kk : ∀ (ρ : Option Value) (Mf : xMem) (H1 : Heap) (locs1 : List Loc), post ρ Mf → xR Mf → va_P ω.1 xcl (xw ω Mf) H1 → H.size ≤ H1.size → (∀ q, q < H.size → ¬ xA ω q → H1[q]? = H[q]?) → va_S A0 s.heap H1 locs1 → W p l e R s m args below meth c H1 locs1 cells slots Q (F0 m (pc + 3) ls (ρ.toList ++ rest))) : W p l e R s m args below meth c H locs cells slots Q (F0 m pc ls stk) := by
  obtain ⟨bytes, ret, hcode, hini, hdd, hc, hss, hM⟩ := hct hR
  subst hst
  obtain ⟨q, hq, hq1⟩ : ∃ q, xcl[ci]? = some q ∧ q.1 = y.cls := by
    cases hz : xcl[ci]? with
    | none => rw [hz] at hcl; cases hcl
    | some q => rw [hz] at hcl; exact ⟨q, rfl, Option.some.inj hcl⟩
  have hrecv := va_recv hK hP hq (xw_at (M := M) hs)
  rw [hq1] at hrecv
  have hcb : CallB R s args own idx y bytes mL ret (Cond.code y bytes mL ret :: xtbl) rm 0 0 n := callB_of n xts (xgoodIn hcode) rfl hc hss (xts _ hini) (xts _ hlk) hdd hrm
  have run := va_runV (p := p) (l := l) (e := e) (m := m) (below := below) (meth := meth) (c := c) (H := H) (locs := locs) (cells := cells) (slots := slots) (As := As) (rest := rest) (g := F0 m pc ls (As.reverse ++ .ref (xad ω k) :: rest)) ⟨hx, hb, hml, hown, xts⟩ hM ⟨hcb, xts _ hin, xts _ hse⟩ ⟨xPc_blind _ ω M (fun U g mk a => xph_call hF U g mk a), hrecv, fun U hU hW => ⟨rfl, by rw [hU]; exact hP, va_K.moved hW.alike hK, hF, hF.2 s U hW (fun q g1 g2 => by rw [hU]; exact hS.2.1 q g1 (hA2 q g1 g2)) hφ, hN.warm hW⟩⟩ rfl hn hls rfl (by
    have := Nat.le_of_ble_eq_true hcat
    show 2 * 0 + _ ≤ 8
    omega) hd ⟨hcs.1, hcs.2⟩
  intro T hT X0
  obtain ⟨v, st₀, t, T', L, h0, X', hL, e1, e2, ⟨⟨ρ, Mf, hv, hpo, hRf, hP2⟩, hz, hk⟩, stp⟩ := run T hT X0
  cases hv
  rw [h0] at hz hk
  obtain ⟨t2, a1, b1⟩ := kk _ Mf T'.heap (locs ++ L) hpo hRf (by rw [e1]; exact hP2) (by rw [e1]; exact hz) (fun q h1 h2 => by rw [e1]; exact hk q h1 h2) ⟨Nat.le_trans hS.1 (by rw [e1]; exact hz), fun q h1 h2 => by rw [e1, hk q (Nat.lt_of_lt_of_le h1 hS.1) (fun z => h2 (hA q z))]; exact hS.2.1 q h1 h2, fun q hq => by
      rcases List.mem_append.mp hq with h | h
      · exact hS.2.2 q h
      · exact hA _ (hL q h)⟩ T' rfl X'
  exact ⟨t2, stp t2 a1, b1⟩
end YC
