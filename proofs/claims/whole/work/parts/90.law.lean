/-! THE CLAIM OUT OF ONE WALK OF THE LAW'S BODY. Your part is whole_start (and what it stands on); all else here is the same for every law, but numbers. -/
def R_law : String := "StrangerRopesLaw"
def lw_P (b : Addr) (xs : List Int32) (args : Array Value) (s : State) : Prop := args = #[.ref b] ∧ s.IntsAt b xs ∧ xs.length ≤ 3072 ∧ (Jvm.Cond.and given_1 narrow_1).before args s = true
def lw_Q (_ : Array Value) (s : State) (o : Outcome) (t : State) : Prop := o = .returned (some (.int 1)) ∧ Framed s o t [] 72 4642
def lw_Z (below : List Frame) (a : Array Value) (s : State) : State → Prop := fun t => ∃ o, t.status = .running ∧ Ended t below o ∧ lw_Q a s o t
/-- the law's own end, with 1 on the stack, nothing written that was there before, its room as the claim has it -/
theorem lw_ret {p : Program} {l : Launch} {e : Env} {s : State} {m : MethodId} {below : List Frame} {meth : Method} {c : Code} {b : Nat} (hx : p.tables.exec = Jvm.exec) (hb : c.code = code) (hr : meth.sig.returnType = ret) (hlocks : meth.locks = false) {pc : Nat} {H : Heap} {ls : Array Slot} (hdg : decode code pc = .ok (.ireturn, 1)) : W p l e room_1 s m #[Value.ref b] below meth c H [] 72 4642 (lw_Z below #[Value.ref b] s) (F0 m pc ls [.int 1]) := by
  intro T hT X
  obtain ⟨fs, hret, hrun, hended, hW, hframe⟩ := X.leave (v := some (.int 1)) (hlocks := hlocks) (fun h => by rw [hr] at h; cases h)
  have hmeth' : T.vm.method? m = some meth := X.method'
  refine ⟨T.setFrames fs, ?_, .returned (some (.int 1)), hrun, hended, rfl, ⟨_, rfl⟩, hW, hframe⟩
  jvm_step X.here [X.here.top, hx, hb, hdg, hmeth', hr, ret, narrow_b1]
  (try refine ⟨rfl, ?_⟩); (try refine ⟨rfl, ?_⟩)
  first | (intro acts; rw [hret _ acts rfl rfl rfl]) | rw [hret _ _ rfl rfl rfl]
  exact Steps.refl _
/-- what holds at the law's entry: the machine, the code, the tables' words (any of lw_tbl by 'hts w (by decide +kernel)'), the script of L ints xs at the cell b, what the Statement gives of the start (any of its parts by flat_of_before) -/
def lw_At (p : Program) (s : State) (m : MethodId) (meth : Method) (c : Code) (b L : Nat) (xs : Nat → Int32) : Prop :=
  p.tables.exec = Jvm.exec ∧ c.code = code ∧ meth.sig.returnType = ret ∧ c.maxLocals = 4 ∧ s.vm.findClass R_law = some m.cls ∧ (∀ w ∈ lw_tbl, w.before #[Value.ref b] s = true) ∧ va_X b L xs s s.heap ∧ b < s.heap.size ∧ meth.locks = false ∧ (Jvm.Cond.and given_1 narrow_1).before #[Value.ref b] s = true
/-! the frame of the law: both objects and the script -/
section WX
variable {K : Int} {C N : xMem}
theorem Wo.cl (h : Wo K C N) : N 1 0 ≤ 1000000 := by
  have a := h.1.2.1.2.1
  have b := h.1.1.1.2.1
  omega
theorem Wo.sz (h : Wo K C N) : ∀ t, 0 ≤ t → t < 4 → 0 ≤ N 13 t ∧ N 13 t ≤ 40 := by
  intro t t0 t1
  have a := h.2.2.2.2.2.1 t t0 t1
  rw [a.2.1]
  exact a.2.2.1
theorem Wo.ta (h : Wo K C N) : 0 ≤ N 0 16 ∧ N 0 16 ≤ 120 := by
  rw [h.2.2.2.2.1.1]
  exact h.2.2.2.2.1.2.1
theorem Wo.sp (h : Wo K C N) : ∀ i, 0 ≤ i → i < 10 → -1 ≤ C 41 i ∧ C 41 i < C 11 1 := fun i i0 i1 => (h.1.2.2.2.2.2.2.1 i i0 i1).2
theorem Wo.sp' (h : Wo K C N) : ∀ t, 0 ≤ t → t < 10 → N 1 (3 + t) < N 1 1 := fun i i0 i1 => by
  have a := h.1.2.2.2.2.2.2.1 i i0 i1
  have b := h.1.2.1.1
  omega
theorem Wo.sy (h : Wo K C N) : ∀ p, clHas C 11 p → p ≠ C (11 + 4) p := fun p q e => by
  have a := h.1.2.2.2.1 p q.1 q.2.1 (by have := q.1; omega)
  exact a.2.1 e.symm
theorem Wo.s5 (h : Wo K C N) {p : Int} : 0 ≤ p → p < N 1 1 → 0 ≤ N 1 (113 + 8 * p + 3) → N 1 (113 + 8 * N 1 (113 + 8 * p + 3) + 5) = N 1 (113 + 8 * p + 5) := by
  intro p0 p1 p2
  have b := h.1.2.1.1
  have a := h.1.2.1.2.2 p p0 (by omega)
  have i := h.1.1.1.2.2 p p0 (by omega)
  have e3 := a.2.2.2.1
  rw [e3] at p2 ⊢
  have m := h.1.2.2.2.1 p p0 (by omega) p2
  have a2 := h.1.2.1.2.2 (C (11 + 4) p) p2 i.2.2.2.1.2
  rw [a.2.2.2.2.2.1 p2, a2.2.2.2.2.2.1 (by rw [m.1]; exact p0), m.2.2]
theorem Wo.hb (h : Wo K C N) : BtO (btN N) (N 0 16) := by
  rw [h.bt, h.2.2.2.2.1.1]
  exact h.bo
end WX
/-- what stands all along the law -/
def LOk (ω ω' : xO) (κ : xK) (l : Launch) (b L : Nat) (xs : Nat → Int32) (ki vi : Nat → Nat) (kss : Nat → Option Nat) : Prop :=
  (((kp κ).tables.exec = Jvm.exec ∧ (kc κ).code = code ∧ (kc κ).maxLocals = 4 ∧ (ks κ).vm.findClass R_law = some (km κ).cls ∧ (∀ w ∈ xtbl, w.before (ka κ) (ks κ) = true)) ∧ (kR κ = room_1 ∧ kl κ = l ∧ xNest (ks κ))) ∧
  (va_K ω.1 xcl (xty ω) (ks κ) ∧ xFine ω ∧ xph ω (ks κ) ∧ (∀ q, xA ω q → (ks κ).heap.size ≤ q) ∧ xsh ω = clS ∧ xph ω = xStr ki vi (xA ω)) ∧
  (va_K ω'.1 xcl (xty ω') (ks κ) ∧ xFine ω' ∧ xph ω' (ks κ) ∧ (∀ q, xA ω' q → (ks κ).heap.size ≤ q) ∧ xsh ω' = mdS kss ∧ xph ω' = xStr ki vi (xA ω')) ∧
  ((∀ q, xA ω' q → ¬ xA ω q) ∧ va_X b L xs (ks κ) (ks κ).heap ∧ b < (ks κ).heap.size ∧ L ≤ 3072 ∧ ∀ k, k < 7 → kss k = some (ki (12 + k)))
def LW (ω ω' : xO) (κ : xK) (b : Nat) (i : Int) (pc : Nat) (st : List Value) (C N : xMem) : Prop :=
  xR C → xR N → ∀ (H : Heap) (locs : List Loc) (ls : Array Slot), va_P ω.1 xcl (xw ω C) H → va_P ω'.1 xcl (xw ω' N) H → va_S (fun q : Nat => (ks κ).heap.size ≤ q) (ks κ).heap H locs → lv_has ls 4 [(3, .int (iI i)), (2, .ref (xad ω' 0)), (1, .ref (xad ω 0)), (0, .ref b)] →
    W (kp κ) (kl κ) (ke κ) (kR κ) (ks κ) (km κ) (ka κ) (kb κ) (kmeth κ) (kc κ) H locs 72 4642 (kQ κ) (F0 (km κ) pc ls st)
/-- an int of the script -/
def az (xs : Nat → Int32) (i : Int) (k : Nat) : Int := (xs (i + (k : Int)).toNat).toInt
theorem az_R (xs : Nat → Int32) (i : Int) (k : Nat) : inR (az xs i k) := inR_of _
theorem va_P_kept {D : va_G} {cl : List vw_C} {ω : xO} {M : xMem} {H H1 : Heap} (h : va_P D cl (xw ω M) H) (hq : ∀ q, q < H.size → xA ω q → H1[q]? = H[q]?) : va_P D cl (xw ω M) H1 := by
  intro k x hx
  have h9 := h k x hx
  have hlt := h9.lt
  have hxa : xA ω x.1 := by
    have hl := (List.getElem?_eq_some_iff.mp hx).1
    rw [xw_len] at hl
    obtain ⟨c, hc⟩ : ∃ c, (xsh ω)[k]? = some c := ⟨_, List.getElem?_eq_getElem hl⟩
    rw [xw_at hc] at hx
    cases hx
    exact ⟨k, hl, rfl⟩
  exact h9.kept (hq _ hlt hxa)
section LR
variable {ω ω' : xO} {κ : xK} {l : Launch} {b L : Nat} {xs : Nat → Int32} {ki vi : Nat → Nat} {kss : Nat → Option Nat} {i : Int} {pc : Nat} {st : List Value} {C N : xMem}
theorem l_xr (kk : xR C → xR N → LW ω ω' κ b i pc st C N) : LW ω ω' κ b i pc st C N := fun h1 h2 => kk h1 h2 h1 h2
theorem l_a1 (h : LOk ω ω' κ l b L xs ki vi kss) (hd : decode code pc = .ok (.aload_n 1, 1)) (kk : LW ω ω' κ b i (pc + 1) (.ref (xad ω 0) :: st) C N) : LW ω ω' κ b i pc st C N :=
  fun h1 h2 H locs ls hP hP' hS hl => lv_aload_n h.1.1.1 h.1.1.2.1 hd rfl (lv_at hl 2 rfl) (kk h1 h2 H locs ls hP hP' hS hl)
theorem l_a2 (h : LOk ω ω' κ l b L xs ki vi kss) (hd : decode code pc = .ok (.aload_n 2, 1)) (kk : LW ω ω' κ b i (pc + 1) (.ref (xad ω' 0) :: st) C N) : LW ω ω' κ b i pc st C N :=
  fun h1 h2 H locs ls hP hP' hS hl => lv_aload_n h.1.1.1 h.1.1.2.1 hd rfl (lv_at hl 1 rfl) (kk h1 h2 H locs ls hP hP' hS hl)
theorem l_sld (h : LOk ω ω' κ l b L xs ki vi kss) {j : Nat} (hj : j < L) (hd : decode code pc = .ok (.iaload, 1)) (kk : LW ω ω' κ b i (pc + 1) (.int (xs j) :: st) C N) : LW ω ω' κ b i pc (.int (iI (j : Int)) :: .ref b :: st) C N := by
  intro h1 h2 H locs ls hP hP' hS hl
  have hb := h.2.2.2.2.2.1
  have hL := h.2.2.2.2.2.2.1
  refine va_sld h.1.1.1 h.1.1.2.1 h.2.2.2.2.1 hb (by omega) hS (iI_in (j := j) rfl hj (by omega)) hd ?_
  rw [iI_nat (by omega)]
  exact kk h1 h2 H locs ls hP hP' hS hl
theorem l_arg (h : LOk ω ω' κ l b L xs ki vi kss) (hi : 0 ≤ i ∧ i + 6 ≤ (L : Int)) (k : Nat) (hk : k < 6) (d0 : decode code pc = .ok (.aload_n 0, 1)) (d1 : decode code (pc + 1) = .ok (.iload_n 3, 1)) (d2 : decode code (pc + 2) = .ok (.iconst (k : Int), 1)) (d3 : decode code (pc + 3) = .ok (.iadd, 1)) (d4 : decode code (pc + 4) = .ok (.iaload, 1)) (kk : LW ω ω' κ b i (pc + 5) (.int (iI (az xs i k)) :: st) C N) : LW ω ω' κ b i pc st C N := by
  intro h1 h2 H locs ls hP hP' hS hl
  refine lv_aload_n h.1.1.1 h.1.1.2.1 d0 rfl (lv_at hl 3 rfl) ?_
  refine lv_iload_n h.1.1.1 h.1.1.2.1 d1 rfl (lv_at hl 0 rfl) ?_
  refine lv_iconst (v := iI ((k : Nat) : Int)) h.1.1.1 h.1.1.2.1 d2 rfl ?_
  refine lv_iadd h.1.1.1 h.1.1.2.1 d3 ?_
  have e : iI i + iI ((k : Nat) : Int) = iI (((i + (k : Int)).toNat : Nat) : Int) := by
    rw [iI_add]
    exact congrArg iI (by omega)
  rw [e]
  refine l_sld h (by omega) d4 ?_ h1 h2 H locs ls hP hP' hS hl
  rw [show Value.int (xs (i + (k : Int)).toNat) = .int (iI (az xs i k)) by unfold az; rw [iI_of]]
  exact kk
theorem l_C {y : MethodName} {rm : Room} {mL n idx : Nat} {As rest stk : List Value} {ρ : Option Value} {C' : xMem} (h : LOk ω ω' κ l b L xs ki vi kss) (hd : decode code pc = .ok (.invokevirtual idx, 3)) (hlk : Cond.methodLink R_law idx y ∈ xtbl) (hin : Cond.instanceMethod y ∈ xtbl) (hse : Cond.selects y.cls y y ∈ xtbl) (hcl : some RX6 = some y.cls)
    (hrm : rm.frames + 1 ≤ 13 ∧ 8 + (mL + 11) + rm.locals ≤ 508) (hn : As.length = n) (hst : stk = As.reverse ++ .ref (xad ω 0) :: rest) (hcat : Nat.ble (rest.map fun v => v.category).sum 8 = true)
    (hct : Ct l ω y rm mL n (.ref (xad ω 0) :: As) C ρ C') (kk : LW ω ω' κ b i (pc + 3) (ρ.toList ++ rest) C' N) : LW ω ω' κ b i pc stk C N := by
  intro h1 h2 H locs ls hP hP' hS hl
  have hR := h.1.2.1
  have hlk2 := h.1.2.2.1
  refine y_callV (ω := ω) (M := C) (k := 0) (ci := 6) (fs := foO) (A0 := fun q : Nat => (ks κ).heap.size ≤ q) h.1.1.1 h.1.1.2.1 h.1.1.2.2.1 h.1.1.2.2.2.1 h.1.1.2.2.2.2 hd hlk hin hse (by rw [h.2.1.2.2.2.2.1]; rfl) hcl (by rw [hR]; exact hrm) hn hst hcat hl.1 (by rw [hlk2]; exact hct) h1 hP h.2.1.1 h.2.1.2.1 h.2.1.2.2.1 (fun q h8 _ => by omega) h.1.2.2.2 hS h.2.1.2.2.2.1 (by rw [hR]; exact ⟨by decide, by decide⟩) (fun H1 locs1 hRf hP1 hz hk hS1 => ?_)
  exact kk hRf h2 H1 locs1 ls hP1 (va_P_kept hP' (fun q hq hA => hk q hq (h.2.2.2.1 q hA))) hS1 hl
theorem l_N {y : MethodName} {rm : Room} {mL n idx : Nat} {As rest stk : List Value} {ρ : Option Value} {N' : xMem} (h : LOk ω ω' κ l b L xs ki vi kss) (hd : decode code pc = .ok (.invokevirtual idx, 3)) (hlk : Cond.methodLink R_law idx y ∈ xtbl) (hin : Cond.instanceMethod y ∈ xtbl) (hse : Cond.selects y.cls y y ∈ xtbl) (hcl : some RX7 = some y.cls)
    (hrm : rm.frames + 1 ≤ 13 ∧ 8 + (mL + 11) + rm.locals ≤ 508) (hn : As.length = n) (hst : stk = As.reverse ++ .ref (xad ω' 0) :: rest) (hcat : Nat.ble (rest.map fun v => v.category).sum 8 = true)
    (hct : Ct l ω' y rm mL n (.ref (xad ω' 0) :: As) N ρ N') (kk : LW ω ω' κ b i (pc + 3) (ρ.toList ++ rest) C N') : LW ω ω' κ b i pc stk C N := by
  intro h1 h2 H locs ls hP hP' hS hl
  have hR := h.1.2.1
  have hlk2 := h.1.2.2.1
  refine y_callV (ω := ω') (M := N) (k := 0) (ci := 7) (fs := foM) (A0 := fun q : Nat => (ks κ).heap.size ≤ q) h.1.1.1 h.1.1.2.1 h.1.1.2.2.1 h.1.1.2.2.2.1 h.1.1.2.2.2.2 hd hlk hin hse (by rw [h.2.2.1.2.2.2.2.1]; rfl) hcl (by rw [hR]; exact hrm) hn hst hcat hl.1 (by rw [hlk2]; exact hct) h2 hP' h.2.2.1.1 h.2.2.1.2.1 h.2.2.1.2.2.1 (fun q h8 _ => by omega) h.1.2.2.2 hS h.2.2.1.2.2.2.1 (by rw [hR]; exact ⟨by decide, by decide⟩) (fun H1 locs1 hRf hP1 hz hk hS1 => ?_)
  exact kk h1 hRf H1 locs1 ls (va_P_kept hP (fun q hq hA => hk q hq (fun z => h.2.2.2.1 q z hA))) hP1 hS1 hl
theorem l_Nq {y : MethodName} {rm : Room} {mL n idx : Nat} {As rest stk : List Value} {post : Option Value → xMem → Prop} (h : LOk ω ω' κ l b L xs ki vi kss) (hd : decode code pc = .ok (.invokevirtual idx, 3)) (hlk : Cond.methodLink R_law idx y ∈ xtbl) (hin : Cond.instanceMethod y ∈ xtbl) (hse : Cond.selects y.cls y y ∈ xtbl) (hcl : some RX7 = some y.cls)
    (hrm : rm.frames + 1 ≤ 13 ∧ 8 + (mL + 11) + rm.locals ≤ 508) (hn : As.length = n) (hst : stk = As.reverse ++ .ref (xad ω' 0) :: rest) (hcat : Nat.ble (rest.map fun v => v.category).sum 8 = true)
    (hct : Cq l ω' y rm mL n (.ref (xad ω' 0) :: As) N post) (kk : ∀ (ρ : Option Value) (N' : xMem), post ρ N' → LW ω ω' κ b i (pc + 3) (ρ.toList ++ rest) C N') : LW ω ω' κ b i pc stk C N := by
  intro h1 h2 H locs ls hP hP' hS hl
  have hR := h.1.2.1
  have hlk2 := h.1.2.2.1
  refine y_callQ (ω := ω') (M := N) (k := 0) (ci := 7) (fs := foM) (A0 := fun q : Nat => (ks κ).heap.size ≤ q) h.1.1.1 h.1.1.2.1 h.1.1.2.2.1 h.1.1.2.2.2.1 h.1.1.2.2.2.2 hd hlk hin hse (by rw [h.2.2.1.2.2.2.2.1]; rfl) hcl (by rw [hR]; exact hrm) hn hst hcat hl.1 (by rw [hlk2]; exact hct) h2 hP' h.2.2.1.1 h.2.2.1.2.1 h.2.2.1.2.2.1 (fun q h8 _ => by omega) h.1.2.2.2 hS h.2.2.1.2.2.2.1 (by rw [hR]; exact ⟨by decide, by decide⟩) (fun ρ N' H1 locs1 hpo hRf hP1 hz hk hS1 => ?_)
  exact kk ρ N' hpo h1 hRf H1 locs1 ls (va_P_kept hP (fun q hq hA => hk q hq (fun z => h.2.2.2.1 q z hA))) hP1 hS1 hl
theorem l_eq {r r' : Int} {off : Int} (h : LOk ω ω' κ l b L xs ki vi kss) (hd : decode code pc = .ok (.if_icmp .eq off, 3)) (ht : (pc : Int) + off = 1451) (e : r = r') (kk : LW ω ω' κ b i 1451 [] C N) : LW ω ω' κ b i pc [.int (iI r'), .int (iI r)] C N := by
  subst e
  exact fun h1 h2 H locs ls hP hP' hS hl => lv_icmp_eq h.1.1.1 h.1.1.2.1 hd (tgt := 1451) ht (fun _ => kk h1 h2 H locs ls hP hP' hS hl) (fun q => absurd rfl q)
theorem l_leq {off : Int} (h : LOk ω ω' κ l b L xs ki vi kss) (hd : decode code pc = .ok (.lcmp, 1)) (hd2 : decode code (pc + 1) = .ok (.ifCond .eq off, 3)) (ht : ((pc + 1 : Nat) : Int) + off = 1451) (kk : LW ω ω' κ b i 1451 [] C N) {v : Int64} : LW ω ω' κ b i pc [.long v, .long v] C N := by
  intro h1 h2 H locs ls hP hP' hS hl
  refine W.lcmp h.1.1.1 h.1.1.2.1 hd ?_
  rw [show lg_cmp v v = 0 by simp [lg_cmp]]
  exact lv_if_eq h.1.1.1 h.1.1.2.1 hd2 (tgt := 1451) ht (fun _ => kk h1 h2 H locs ls hP hP' hS hl) (fun q => absurd rfl q)
end LR
