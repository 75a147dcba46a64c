/-! the constructor of Roads -/
def lwG (n : Nat) : Nat → Int32 := fun t => iI (if t < n then lwL (t : Int) else 0)
theorem lwG_0 : lwG 0 = fun _ => 0 := by funext t; unfold lwG; rw [if_neg (by omega)]; rfl
theorem lwG_1 {n : Nat} (h : lwL (n : Int) = 0) : lwG (n + 1) = lwG n := by
  funext t
  unfold lwG
  by_cases e : t = n
  · subst e; rw [if_pos (by omega), if_neg (by omega), h]
  · by_cases g : t < n
    · rw [if_pos (by omega), if_pos g]
    · rw [if_neg (by omega), if_neg g]
theorem lwG_2 {n : Nat} (h : lwL (n : Int) = 1) : lwG (n + 1) = upd (lwG n) n 1 := by
  funext t
  unfold lwG upd
  by_cases e : t = n
  · subst e; rw [if_pos (by omega), h]; simp; rfl
  · by_cases g : t < n
    · rw [if_pos (by omega), if_neg e]; dsimp only; rw [if_pos g]
    · rw [if_neg (by omega), if_neg e]; dsimp only; rw [if_neg g]
theorem lwG_100 : lwG 100 = fun (t : Nat) => iI (lwL (t : Int)) := by
  funext t
  unfold lwG
  by_cases g : t < 100
  · rw [if_pos g]
  · rw [if_neg g]
    unfold lwL
    rw [if_neg (by omega)]
/-- Roads while they are made -/
abbrev rdO (D : va_G) (cI cS : ClassId) (h0 q1 q2 q3 q4 : Nat) : xO := (D, cI, cS, (fun k => match k with | 0 => h0 | 1 => q1 | 2 => q2 | 3 => q3 | _ => q4), rdS, fun _ => True)
theorem dX3_init_0 : decode cX3_init 0 = .ok (.aload_n 0, 1) := by decide +kernel
theorem dX3_init_1 : decode cX3_init 1 = .ok (.invokespecial 3, 3) := by decide +kernel
theorem dX3_init_4 : decode cX3_init 4 = .ok (.aload_n 0, 1) := by decide +kernel
theorem dX3_init_5 : decode cX3_init 5 = .ok (.bipush 100, 2) := by decide +kernel
theorem dX3_init_7 : decode cX3_init 7 = .ok (.newarray .int, 2) := by decide +kernel
theorem dX3_init_9 : decode cX3_init 9 = .ok (.putfield 9, 3) := by decide +kernel
theorem dX3_init_12 : decode cX3_init 12 = .ok (.aload_n 0, 1) := by decide +kernel
theorem dX3_init_13 : decode cX3_init 13 = .ok (.bipush 100, 2) := by decide +kernel
theorem dX3_init_15 : decode cX3_init 15 = .ok (.newarray .int, 2) := by decide +kernel
theorem dX3_init_17 : decode cX3_init 17 = .ok (.putfield 15, 3) := by decide +kernel
theorem dX3_init_20 : decode cX3_init 20 = .ok (.aload_n 0, 1) := by decide +kernel
theorem dX3_init_21 : decode cX3_init 21 = .ok (.bipush 100, 2) := by decide +kernel
theorem dX3_init_23 : decode cX3_init 23 = .ok (.newarray .int, 2) := by decide +kernel
theorem dX3_init_25 : decode cX3_init 25 = .ok (.putfield 18, 3) := by decide +kernel
theorem dX3_init_28 : decode cX3_init 28 = .ok (.aload_n 0, 1) := by decide +kernel
theorem dX3_init_29 : decode cX3_init 29 = .ok (.bipush 100, 2) := by decide +kernel
theorem dX3_init_31 : decode cX3_init 31 = .ok (.newarray .int, 2) := by decide +kernel
theorem dX3_init_33 : decode cX3_init 33 = .ok (.putfield 21, 3) := by decide +kernel
theorem dX3_init_36 : decode cX3_init 36 = .ok (.iconst 0, 1) := by decide +kernel
theorem dX3_init_37 : decode cX3_init 37 = .ok (.istore_n 1, 1) := by decide +kernel
theorem dX3_init_38 : decode cX3_init 38 = .ok (.iload_n 1, 1) := by decide +kernel
theorem dX3_init_39 : decode cX3_init 39 = .ok (.bipush 10, 2) := by decide +kernel
theorem dX3_init_41 : decode cX3_init 41 = .ok (.if_icmp .ge 45, 3) := by decide +kernel
theorem dX3_init_44 : decode cX3_init 44 = .ok (.iconst 0, 1) := by decide +kernel
theorem dX3_init_45 : decode cX3_init 45 = .ok (.istore_n 2, 1) := by decide +kernel
theorem dX3_init_46 : decode cX3_init 46 = .ok (.iload_n 2, 1) := by decide +kernel
theorem dX3_init_47 : decode cX3_init 47 = .ok (.bipush 10, 2) := by decide +kernel
theorem dX3_init_49 : decode cX3_init 49 = .ok (.if_icmp .ge 31, 3) := by decide +kernel
theorem dX3_init_52 : decode cX3_init 52 = .ok (.iload_n 1, 1) := by decide +kernel
theorem dX3_init_53 : decode cX3_init 53 = .ok (.iload_n 2, 1) := by decide +kernel
theorem dX3_init_54 : decode cX3_init 54 = .ok (.isub, 1) := by decide +kernel
theorem dX3_init_55 : decode cX3_init 55 = .ok (.invokestatic 24, 3) := by decide +kernel
theorem dX3_init_58 : decode cX3_init 58 = .ok (.iconst 1, 1) := by decide +kernel
theorem dX3_init_59 : decode cX3_init 59 = .ok (.if_icmp .ne 15, 3) := by decide +kernel
theorem dX3_init_62 : decode cX3_init 62 = .ok (.aload_n 0, 1) := by decide +kernel
theorem dX3_init_63 : decode cX3_init 63 = .ok (.getfield 9, 3) := by decide +kernel
theorem dX3_init_66 : decode cX3_init 66 = .ok (.iload_n 1, 1) := by decide +kernel
theorem dX3_init_67 : decode cX3_init 67 = .ok (.bipush 10, 2) := by decide +kernel
theorem dX3_init_69 : decode cX3_init 69 = .ok (.imul, 1) := by decide +kernel
theorem dX3_init_70 : decode cX3_init 70 = .ok (.iload_n 2, 1) := by decide +kernel
theorem dX3_init_71 : decode cX3_init 71 = .ok (.iadd, 1) := by decide +kernel
theorem dX3_init_72 : decode cX3_init 72 = .ok (.iconst 1, 1) := by decide +kernel
theorem dX3_init_73 : decode cX3_init 73 = .ok (.iastore, 1) := by decide +kernel
theorem dX3_init_74 : decode cX3_init 74 = .ok (.iinc 2 1, 3) := by decide +kernel
theorem dX3_init_77 : decode cX3_init 77 = .ok (.goto (-31), 3) := by decide +kernel
theorem dX3_init_80 : decode cX3_init 80 = .ok (.iinc 1 1, 3) := by decide +kernel
theorem dX3_init_83 : decode cX3_init 83 = .ok (.goto (-45), 3) := by decide +kernel
theorem dX3_init_86 : decode cX3_init 86 = .ok (.aload_n 0, 1) := by decide +kernel
theorem dX3_init_87 : decode cX3_init 87 = .ok (.invokevirtual 30, 3) := by decide +kernel
theorem dX3_init_90 : decode cX3_init 90 = .ok (.return_, 1) := by decide +kernel
section RL
variable {p : Program} {l : Launch} {e : Env} {R : Room} {s : State} {m : MethodId} {args : Array Value} {below : List Frame} {meth : Method} {c : Code} {cells slots : Nat} {Q : State → Prop}
variable {D : va_G} {cI cS : ClassId} {A : Nat → Prop} {h0 q7 q15 q23 q31 : Nat}
theorem rd_loop (hx : p.tables.exec = Jvm.exec) (hb : c.code = cX3_init) (hml : c.maxLocals = 3) (hown : s.vm.findClass RX3 = some m.cls) (xts : ∀ w ∈ xtbl, w.before args s = true) (hK : va_K D xcl [(cI, .int), (cS, .object "java/lang/String")] s) (hR1 : 1 ≤ R.frames) (hR2 : 13 ≤ R.locals) (hc : cells ≤ R.cells) (hs : slots ≤ R.slots)
    (kk : ∀ (H : Heap) (locs : List Loc) (ls : Array Slot), va_P D xcl [(h0, .inr (3, [.ref q7, .ref q15, .ref q23, .ref q31])), (q7, .inl (cI, 100, .inl (lwG 100))), (q15, .inl (cI, 100, .inl (fun _ => 0))), (q23, .inl (cI, 100, .inl (fun _ => 0))), (q31, .inl (cI, 100, .inl (fun _ => 0)))] H → va_D A [(h0, .inr (3, [.ref q7, .ref q15, .ref q23, .ref q31])), (q7, .inl (cI, 100, .inl (lwG 100))), (q15, .inl (cI, 100, .inl (fun _ => 0))), (q23, .inl (cI, 100, .inl (fun _ => 0))), (q31, .inl (cI, 100, .inl (fun _ => 0)))] → va_S A s.heap H locs → lv_has ls 3 [(1, .int (iI 10)), (0, .ref h0)] → W p l e R s m args below meth c H locs cells slots Q (F0 m 86 ls [])) :
    ∀ (d i : Nat), i + d = 10 → ∀ (H : Heap) (locs : List Loc) (ls : Array Slot), va_P D xcl ([(h0, .inr (3, [.ref q7, .ref q15, .ref q23, .ref q31])), (q7, .inl (cI, 100, .inl (lwG (10 * i)))), (q15, .inl (cI, 100, .inl (fun _ => 0))), (q23, .inl (cI, 100, .inl (fun _ => 0))), (q31, .inl (cI, 100, .inl (fun _ => 0)))]) H → va_D A ([(h0, .inr (3, [.ref q7, .ref q15, .ref q23, .ref q31])), (q7, .inl (cI, 100, .inl (lwG (10 * i)))), (q15, .inl (cI, 100, .inl (fun _ => 0))), (q23, .inl (cI, 100, .inl (fun _ => 0))), (q31, .inl (cI, 100, .inl (fun _ => 0)))]) → va_S A s.heap H locs → lv_has ls 3 [(1, .int (iI (i : Int))), (0, .ref h0)] → W p l e R s m args below meth c H locs cells slots Q (F0 m 38 ls []) := by
  intro d
  induction d with
  | zero =>
    intro i hi H locs ls hP hD hS hl
    have e : i = 10 := by omega
    subst e
    refine lv_iload_n hx hb dX3_init_38 rfl (lv_at hl 0 rfl) ?_
    refine lv_bipush (v := iI 10) hx hb dX3_init_39 (by decide) ?_
    refine lv_icmp_ge hx hb dX3_init_41 (tgt := 86) (by decide) (fun _ => kk H locs ls hP hD hS hl) (fun q => absurd (show iI 10 ≤ iI ((10 : Nat) : Int) by decide) q)
  | succ d ih =>
    intro i hi H locs ls hP hD hS hl
    refine lv_iload_n hx hb dX3_init_38 rfl (lv_at hl 0 rfl) ?_
    refine lv_bipush (v := iI 10) hx hb dX3_init_39 (by decide) ?_
    refine lv_icmp_ge hx hb dX3_init_41 (tgt := 86) (by decide) (fun q => ?_) (fun _ => ?_)
    · exfalso
      rw [iI_le (by omega) (by omega)] at q
      omega
    refine lv_iconst (v := iI 0) hx hb dX3_init_44 (by decide) ?_
    refine lv_istore_n (lv' := [(2, .int (iI 0)), (1, .int (iI (i : Int))), (0, .ref h0)]) hx hb dX3_init_45 rfl hl (by decide) rfl (fun ls hl => ?_)
    have inner : ∀ (t j : Nat), j + t = 10 → ∀ (H : Heap) (locs : List Loc) (ls : Array Slot), va_P D xcl ([(h0, .inr (3, [.ref q7, .ref q15, .ref q23, .ref q31])), (q7, .inl (cI, 100, .inl (lwG (10 * i + j)))), (q15, .inl (cI, 100, .inl (fun _ => 0))), (q23, .inl (cI, 100, .inl (fun _ => 0))), (q31, .inl (cI, 100, .inl (fun _ => 0)))]) H → va_D A ([(h0, .inr (3, [.ref q7, .ref q15, .ref q23, .ref q31])), (q7, .inl (cI, 100, .inl (lwG (10 * i + j)))), (q15, .inl (cI, 100, .inl (fun _ => 0))), (q23, .inl (cI, 100, .inl (fun _ => 0))), (q31, .inl (cI, 100, .inl (fun _ => 0)))]) → va_S A s.heap H locs → lv_has ls 3 [(2, .int (iI (j : Int))), (1, .int (iI (i : Int))), (0, .ref h0)] → W p l e R s m args below meth c H locs cells slots Q (F0 m 46 ls []) := by
      intro t
      induction t with
      | zero =>
        intro j hj H locs ls hP hD hS hl
        have e : j = 10 := by omega
        subst e
        refine lv_iload_n hx hb dX3_init_46 rfl (lv_at hl 0 rfl) ?_
        refine lv_bipush (v := iI 10) hx hb dX3_init_47 (by decide) ?_
        refine lv_icmp_ge hx hb dX3_init_49 (tgt := 80) (by decide) (fun _ => ?_) (fun q => absurd (show iI 10 ≤ iI ((10 : Nat) : Int) by decide) q)
        refine lv_iinc (k := 1) (v := iI ((i + 1 : Nat) : Int)) (lv' := [(1, .int (iI ((i + 1 : Nat) : Int))), (2, .int (iI ((10 : Nat) : Int))), (0, .ref h0)]) hx hb dX3_init_80 hl rfl (by show iI _ + iI 1 = _; rw [iI_add]; congr 1) (by decide) rfl (fun ls hl => ?_)
        refine lv_goto hx hb dX3_init_83 (tgt := 38) (by decide) ?_
        have hl2 : lv_has ls 3 [(1, .int (iI ((i + 1 : Nat) : Int))), (0, .ref h0)] := lv_sub hl [0, 2] rfl
        rw [show 10 * i + 10 = 10 * (i + 1) by omega] at hP hD
        exact ih (i + 1) (by omega) H locs ls hP hD hS hl2
      | succ t iht =>
        intro j hj H locs ls hP hD hS hl
        refine lv_iload_n hx hb dX3_init_46 rfl (lv_at hl 0 rfl) ?_
        refine lv_bipush (v := iI 10) hx hb dX3_init_47 (by decide) ?_
        refine lv_icmp_ge hx hb dX3_init_49 (tgt := 80) (by decide) (fun q => ?_) (fun _ => ?_)
        · exfalso
          rw [iI_le (by omega) (by omega)] at q
          omega
        have nxt : ∀ (H : Heap) (locs : List Loc), va_P D xcl ([(h0, .inr (3, [.ref q7, .ref q15, .ref q23, .ref q31])), (q7, .inl (cI, 100, .inl (lwG (10 * i + (j + 1))))), (q15, .inl (cI, 100, .inl (fun _ => 0))), (q23, .inl (cI, 100, .inl (fun _ => 0))), (q31, .inl (cI, 100, .inl (fun _ => 0)))]) H → va_D A ([(h0, .inr (3, [.ref q7, .ref q15, .ref q23, .ref q31])), (q7, .inl (cI, 100, .inl (lwG (10 * i + (j + 1))))), (q15, .inl (cI, 100, .inl (fun _ => 0))), (q23, .inl (cI, 100, .inl (fun _ => 0))), (q31, .inl (cI, 100, .inl (fun _ => 0)))]) → va_S A s.heap H locs → W p l e R s m args below meth c H locs cells slots Q (F0 m 74 ls []) := by
          intro H locs hP hD hS
          refine lv_iinc (k := 0) (v := iI ((j + 1 : Nat) : Int)) (lv' := [(2, .int (iI ((j + 1 : Nat) : Int))), (1, .int (iI (i : Int))), (0, .ref h0)]) hx hb dX3_init_74 hl rfl (by show iI _ + iI 1 = _; rw [iI_add]; congr 1) (by decide) rfl (fun ls hl => ?_)
          refine lv_goto hx hb dX3_init_77 (tgt := 46) (by decide) ?_
          exact iht (j + 1) (by omega) H locs ls hP hD hS hl
        refine lv_iload_n hx hb dX3_init_52 rfl (lv_at hl 1 rfl) ?_
        refine lv_iload_n hx hb dX3_init_53 rfl (lv_at hl 0 rfl) ?_
        refine lv_isub hx hb dX3_init_54 ?_
        refine va_mabs hx hb (by rw [hml]; exact hl.1.symm) hown (xts _ m_ml_X3_24) (xts _ m_st_J9_abs_0f7a4) (xts _ m_in_J9) (xts _ m_cd_J9_abs_0f7a4) hR1 (by show 0 + 13 ≤ R.locals; omega) hc hs dX3_init_55 ?_
        refine lv_iconst (v := iI 1) hx hb dX3_init_58 (by decide) ?_
        have eabs : (if (0 : Int32) ≤ iI (i : Int) - iI (j : Int) then iI (i : Int) - iI (j : Int) else 0 - (iI (i : Int) - iI (j : Int))) = iI (if (0 : Int) ≤ (i : Int) - j then (i : Int) - j else 0 - ((i : Int) - j)) := by
          rw [iI_sub]
          by_cases g : (0 : Int) ≤ (i : Int) - j
          · rw [if_pos g, if_pos (show (0 : Int32) ≤ iI ((i : Int) - j) from (iI_le (by decide) (by omega)).2 g)]
          · rw [if_neg g, if_neg (fun z : (0 : Int32) ≤ iI ((i : Int) - j) => g ((iI_le (a := 0) (by decide) (by omega)).1 z))]
            exact iI_sub 0 _
        rw [eabs]
        have lw : lwL ((10 * i + j : Nat) : Int) = if (i : Int) - j = 1 ∨ (j : Int) - i = 1 then 1 else 0 := by
          unfold lwL
          have a1 : ((10 * i + j : Nat) : Int) / 10 = i := by omega
          have a2 : ((10 * i + j : Nat) : Int) % 10 = j := by omega
          rw [a1, a2]
          by_cases g : (i : Int) - j = 1 ∨ (j : Int) - i = 1
          · rw [if_pos g, if_pos ⟨by omega, g⟩]
          · rw [if_neg g, if_neg (fun z => g z.2)]
        refine lv_icmp_ne hx hb dX3_init_59 (tgt := 74) (by decide) (fun q => ?_) (fun q => ?_)
        · have g : ¬ ((i : Int) - j = 1 ∨ (j : Int) - i = 1) := by
            intro z
            apply q
            congr 1
            split <;> omega
          rw [if_neg g] at lw
          refine nxt H locs ?_ ?_ hS
          · rw [show 10 * i + (j + 1) = 10 * i + j + 1 by omega, lwG_1 lw]; exact hP
          · rw [show 10 * i + (j + 1) = 10 * i + j + 1 by omega, lwG_1 lw]; exact hD
        · have g : (i : Int) - j = 1 ∨ (j : Int) - i = 1 := by
            have := (iI_inj (by split <;> omega) (by decide)).1 q
            split at this <;> omega
          rw [if_pos g] at lw
          refine lv_aload_n hx hb dX3_init_62 rfl (lv_at hl 2 rfl) ?_
          refine va_get (D := D) (ci := 3) (v := .ref q7) (C := RX3) (T := TX3) (N := 4) hx hb xts in_X3 hown hK hP 0 rfl rfl 0 (by decide) (xts _ m_fl_X3_9) (fun _ h9 => h9) rfl dX3_init_63 ?_
          refine lv_iload_n hx hb dX3_init_66 rfl (lv_at hl 1 rfl) ?_
          refine lv_bipush (v := iI 10) hx hb dX3_init_67 (by decide) ?_
          refine lv_imul hx hb dX3_init_69 ?_
          refine lv_iload_n hx hb dX3_init_70 rfl (lv_at hl 0 rfl) ?_
          refine lv_iadd hx hb dX3_init_71 ?_
          refine lv_iconst (v := 1) hx hb dX3_init_72 (by decide) ?_
          have ei : iI (i : Int) * iI 10 + iI (j : Int) = iI ((10 * i + j : Nat) : Int) := by
            rw [iI_mul, iI_add]
            congr 1
            omega
          rw [ei]
          refine va_iast hx hb hK hP hD hS 1 0 rfl rfl (iI_in (j := 10 * i + j) rfl (by omega) (by omega)) dX3_init_73 (fun H locs hP hD hS => ?_)
          rw [iI_nat (by omega), ← lwG_2 lw] at hP hD
          exact nxt H locs hP hD hS
    exact inner 10 0 rfl H locs ls hP hD hS hl
end RL
set_option maxHeartbeats 4000000 in
set_option maxRecDepth 100000 in
theorem k_X3_init (l : Launch) (D : va_G) (cI cS : ClassId) (h0 sz : Nat) : Met l yX3_init (.code yX3_init cX3_init 3 none :: xtbl) ({ frames := 4, cells := 4, slots := 400, locals := 89 }) (va_Pc [.ref h0] (fun U => U.heap.size = sz ∧ va_P D xcl [(h0, .inr (3, [.null, .null, .null, .null]))] U.heap ∧ va_K D xcl [(cI, .int), (cS, .object "java/lang/String")] U ∧ va_D (fun _ => True) [(h0, .inr (3, [.null, .null, .null, .null]))] ∧ xNest U)) (va_Qv (fun _ : Unit => True) (fun _ t => ∃ q1 q2 q3 q4 : Nat, va_P D xcl (xw (rdO D cI cS h0 q1 q2 q3 q4) (suC (upr zM 1 lwL) 0)) t.heap ∧ va_K D xcl [(cI, .int), (cS, .object "java/lang/String")] t ∧ va_D (va_A [(h0, .inr (3, [.null, .null, .null, .null]))] sz) (xw (rdO D cI cS h0 q1 q2 q3 q4) (suC (upr zM 1 lwL) 0))) (va_A [(h0, .inr (3, [.null, .null, .null, .null]))] sz)) 4 400 (va_A [(h0, .inr (3, [.null, .null, .null, .null]))] sz) := by
  refine Met.ofW (cc := cX3_init) (maxL := 3) (ret := none) (by decide) rfl ?_
  intro p e s m args below meth c s₁ B hml hv
  obtain ⟨rfl, hsz, hP, hK, hD0, hNe⟩ := hv
  have hx := B.exec
  have hb := B.bytes
  have hr := B.returns
  have hts := atoms_spec (ws := .code yX3_init cX3_init 3 none :: xtbl) B.pre
  have xts : ∀ w ∈ xtbl, w.before [.ref h0].toArray s = true := fun w hw => hts w (List.mem_cons_of_mem _ hw)
  have hown : s.vm.findClass RX3 = some m.cls := findClass_of_methodNamed B.named
  have hin : meth.name = "<init>" := (name_of_methodNamed B.named B.method).1
  subst hsz
  have hD := hD0.self (sz := s.heap.size)
  generalize hAe : va_A [(h0, .inr (3, [.null, .null, .null, .null]))] s.heap.size = A at hD ⊢
  have hA : ∀ q : Nat, s.heap.size ≤ q → A q := fun q h => by rw [← hAe]; exact Or.inr h
  have hS : va_S A s.heap s.heap [] := va_S.rf
  have hP : va_P D xcl [(h0, .inr (3, [.null, .null, .null, .null]))] s.heap := hP
  have hl := lv_entry ([.ref h0]) (n := 3) (Nat.le_of_ble_eq_true rfl)
  rw [lg_entry_eq]
  generalize (lg_sl ([.ref h0]) ++ List.replicate (3 - (lg_sl ([.ref h0])).length) Slot.unset).toArray = ls at hl ⊢
  have hl : lv_has ls 3 [(0, .ref h0)] := hl
  refine lv_aload_n hx hb dX3_init_0 rfl (lv_at hl 0 rfl) ?_
  refine W.objInit hx hb hown (xts _ m_ml_X3_3) (xts _ m_obi) (xts _ m_ob) rfl (by rw [hml]; exact hl.1) rfl dX3_init_1 (Nat.le_of_ble_eq_true rfl) (Nat.le_of_ble_eq_true rfl) ?_
  refine W.eq (g2 := F0 m 4 ls []) rfl ?_
  refine lv_aload_n hx hb dX3_init_4 rfl (lv_at hl 0 rfl) ?_
  refine lv_bipush (v := 100) hx hb dX3_init_5 (by decide) ?_
  refine va_newa (atype := .int) (ty := .int) hx hb (xts _ m_aci) rfl hK hP hD hS hA (N' := 100) (a0 := (100, .inl (fun _ => 0))) (fun _ => rfl) (by decide) (by decide) (by decide) (show 0 + 1 ≤ 4 by decide) (show 0 + 100 ≤ 400 by decide) dX3_init_7 (fun q7 cA H hK2 hP hD hS => ?_)
  obtain rfl : cI = cA := ac_1 (i := 0) (j := 2) hK2 rfl rfl
  clear hK2
  have hP : va_P D xcl [(h0, .inr (3, [.null, .null, .null, .null])), (q7, .inl (cI, 100, .inl (fun _ => 0)))] H := hP
  have hD : va_D A [(h0, .inr (3, [.null, .null, .null, .null])), (q7, .inl (cI, 100, .inl (fun _ => 0)))] := hD
  refine W.widen (k := 1) (n := 100) (by decide) (by decide) ?_
  refine va_putF (D := D) (ci := 3) (v := .ref q7) (ty := .array .int) (C := RX3) (T := TX3) (N := 4) hx hb xts in_X3 tyX3 tyX3_ok nmX3 hown hK hP hD hS 0 rfl rfl 0 (by decide) (xts _ m_fl_X3_9) (fun _ h9 => h9) rfl hin rfl (by decide +kernel) rfl rfl (Nat.le_of_ble_eq_true rfl) dX3_init_9 (fun H locs hP hD hS => ?_)
  have hP : va_P D xcl [(h0, .inr (3, [.ref q7, .null, .null, .null])), (q7, .inl (cI, 100, .inl (fun _ => 0)))] H := hP
  have hD : va_D A [(h0, .inr (3, [.ref q7, .null, .null, .null])), (q7, .inl (cI, 100, .inl (fun _ => 0)))] := hD
  refine lv_aload_n hx hb dX3_init_12 rfl (lv_at hl 0 rfl) ?_
  refine lv_bipush (v := 100) hx hb dX3_init_13 (by decide) ?_
  refine va_newa (atype := .int) (ty := .int) hx hb (xts _ m_aci) rfl hK hP hD hS hA (N' := 100) (a0 := (100, .inl (fun _ => 0))) (fun _ => rfl) (by decide) (by decide) (by decide) (show 1 + 1 ≤ 4 by decide) (show 100 + 100 ≤ 400 by decide) dX3_init_15 (fun q15 cA H hK2 hP hD hS => ?_)
  obtain rfl : cI = cA := ac_1 (i := 0) (j := 2) hK2 rfl rfl
  clear hK2
  have hP : va_P D xcl [(h0, .inr (3, [.ref q7, .null, .null, .null])), (q7, .inl (cI, 100, .inl (fun _ => 0))), (q15, .inl (cI, 100, .inl (fun _ => 0)))] H := hP
  have hD : va_D A [(h0, .inr (3, [.ref q7, .null, .null, .null])), (q7, .inl (cI, 100, .inl (fun _ => 0))), (q15, .inl (cI, 100, .inl (fun _ => 0)))] := hD
  refine W.widen (k := 2) (n := 200) (by decide) (by decide) ?_
  refine va_putF (D := D) (ci := 3) (v := .ref q15) (ty := .array .int) (C := RX3) (T := TX3) (N := 4) hx hb xts in_X3 tyX3 tyX3_ok nmX3 hown hK hP hD hS 0 rfl rfl 1 (by decide) (xts _ m_fl_X3_15) (fun _ h9 => h9) rfl hin rfl (by decide +kernel) rfl rfl (Nat.le_of_ble_eq_true rfl) dX3_init_17 (fun H locs hP hD hS => ?_)
  have hP : va_P D xcl [(h0, .inr (3, [.ref q7, .ref q15, .null, .null])), (q7, .inl (cI, 100, .inl (fun _ => 0))), (q15, .inl (cI, 100, .inl (fun _ => 0)))] H := hP
  have hD : va_D A [(h0, .inr (3, [.ref q7, .ref q15, .null, .null])), (q7, .inl (cI, 100, .inl (fun _ => 0))), (q15, .inl (cI, 100, .inl (fun _ => 0)))] := hD
  refine lv_aload_n hx hb dX3_init_20 rfl (lv_at hl 0 rfl) ?_
  refine lv_bipush (v := 100) hx hb dX3_init_21 (by decide) ?_
  refine va_newa (atype := .int) (ty := .int) hx hb (xts _ m_aci) rfl hK hP hD hS hA (N' := 100) (a0 := (100, .inl (fun _ => 0))) (fun _ => rfl) (by decide) (by decide) (by decide) (show 2 + 1 ≤ 4 by decide) (show 200 + 100 ≤ 400 by decide) dX3_init_23 (fun q23 cA H hK2 hP hD hS => ?_)
  obtain rfl : cI = cA := ac_1 (i := 0) (j := 2) hK2 rfl rfl
  clear hK2
  have hP : va_P D xcl [(h0, .inr (3, [.ref q7, .ref q15, .null, .null])), (q7, .inl (cI, 100, .inl (fun _ => 0))), (q15, .inl (cI, 100, .inl (fun _ => 0))), (q23, .inl (cI, 100, .inl (fun _ => 0)))] H := hP
  have hD : va_D A [(h0, .inr (3, [.ref q7, .ref q15, .null, .null])), (q7, .inl (cI, 100, .inl (fun _ => 0))), (q15, .inl (cI, 100, .inl (fun _ => 0))), (q23, .inl (cI, 100, .inl (fun _ => 0)))] := hD
  refine W.widen (k := 3) (n := 300) (by decide) (by decide) ?_
  refine va_putF (D := D) (ci := 3) (v := .ref q23) (ty := .array .int) (C := RX3) (T := TX3) (N := 4) hx hb xts in_X3 tyX3 tyX3_ok nmX3 hown hK hP hD hS 0 rfl rfl 2 (by decide) (xts _ m_fl_X3_18) (fun _ h9 => h9) rfl hin rfl (by decide +kernel) rfl rfl (Nat.le_of_ble_eq_true rfl) dX3_init_25 (fun H locs hP hD hS => ?_)
  have hP : va_P D xcl [(h0, .inr (3, [.ref q7, .ref q15, .ref q23, .null])), (q7, .inl (cI, 100, .inl (fun _ => 0))), (q15, .inl (cI, 100, .inl (fun _ => 0))), (q23, .inl (cI, 100, .inl (fun _ => 0)))] H := hP
  have hD : va_D A [(h0, .inr (3, [.ref q7, .ref q15, .ref q23, .null])), (q7, .inl (cI, 100, .inl (fun _ => 0))), (q15, .inl (cI, 100, .inl (fun _ => 0))), (q23, .inl (cI, 100, .inl (fun _ => 0)))] := hD
  refine lv_aload_n hx hb dX3_init_28 rfl (lv_at hl 0 rfl) ?_
  refine lv_bipush (v := 100) hx hb dX3_init_29 (by decide) ?_
  refine va_newa (atype := .int) (ty := .int) hx hb (xts _ m_aci) rfl hK hP hD hS hA (N' := 100) (a0 := (100, .inl (fun _ => 0))) (fun _ => rfl) (by decide) (by decide) (by decide) (show 3 + 1 ≤ 4 by decide) (show 300 + 100 ≤ 400 by decide) dX3_init_31 (fun q31 cA H hK2 hP hD hS => ?_)
  obtain rfl : cI = cA := ac_1 (i := 0) (j := 2) hK2 rfl rfl
  clear hK2
  have hP : va_P D xcl [(h0, .inr (3, [.ref q7, .ref q15, .ref q23, .null])), (q7, .inl (cI, 100, .inl (fun _ => 0))), (q15, .inl (cI, 100, .inl (fun _ => 0))), (q23, .inl (cI, 100, .inl (fun _ => 0))), (q31, .inl (cI, 100, .inl (fun _ => 0)))] H := hP
  have hD : va_D A [(h0, .inr (3, [.ref q7, .ref q15, .ref q23, .null])), (q7, .inl (cI, 100, .inl (fun _ => 0))), (q15, .inl (cI, 100, .inl (fun _ => 0))), (q23, .inl (cI, 100, .inl (fun _ => 0))), (q31, .inl (cI, 100, .inl (fun _ => 0)))] := hD
  refine W.widen (k := 4) (n := 400) (by decide) (by decide) ?_
  refine va_putF (D := D) (ci := 3) (v := .ref q31) (ty := .array .int) (C := RX3) (T := TX3) (N := 4) hx hb xts in_X3 tyX3 tyX3_ok nmX3 hown hK hP hD hS 0 rfl rfl 3 (by decide) (xts _ m_fl_X3_21) (fun _ h9 => h9) rfl hin rfl (by decide +kernel) rfl rfl (Nat.le_of_ble_eq_true rfl) dX3_init_33 (fun H locs hP hD hS => ?_)
  have hP : va_P D xcl [(h0, .inr (3, [.ref q7, .ref q15, .ref q23, .ref q31])), (q7, .inl (cI, 100, .inl (fun _ => 0))), (q15, .inl (cI, 100, .inl (fun _ => 0))), (q23, .inl (cI, 100, .inl (fun _ => 0))), (q31, .inl (cI, 100, .inl (fun _ => 0)))] H := hP
  have hD : va_D A [(h0, .inr (3, [.ref q7, .ref q15, .ref q23, .ref q31])), (q7, .inl (cI, 100, .inl (fun _ => 0))), (q15, .inl (cI, 100, .inl (fun _ => 0))), (q23, .inl (cI, 100, .inl (fun _ => 0))), (q31, .inl (cI, 100, .inl (fun _ => 0)))] := hD
  have hP : va_P D xcl [(h0, .inr (3, [.ref q7, .ref q15, .ref q23, .ref q31])), (q7, .inl (cI, 100, .inl (lwG 0))), (q15, .inl (cI, 100, .inl (fun _ => 0))), (q23, .inl (cI, 100, .inl (fun _ => 0))), (q31, .inl (cI, 100, .inl (fun _ => 0)))] H := by rw [lwG_0]; exact hP
  have hD : va_D A [(h0, .inr (3, [.ref q7, .ref q15, .ref q23, .ref q31])), (q7, .inl (cI, 100, .inl (lwG 0))), (q15, .inl (cI, 100, .inl (fun _ => 0))), (q23, .inl (cI, 100, .inl (fun _ => 0))), (q31, .inl (cI, 100, .inl (fun _ => 0)))] := by rw [lwG_0]; exact hD
  refine lv_iconst (v := iI 0) hx hb dX3_init_36 (by decide) ?_
  refine lv_istore_n (lv' := [(1, .int (iI 0)), (0, .ref h0)]) hx hb dX3_init_37 rfl hl (by decide) rfl (fun ls hl => ?_)
  refine rd_loop hx hb hml hown xts hK (by decide) (by decide) (by decide) (by decide) (fun H locs ls hP hD hS hl => ?_) 10 0 rfl H locs ls hP hD hS hl
  generalize hω : rdO D cI cS h0 q7 q15 q23 q31 = ω
  have eW : [(h0, .inr (3, [.ref q7, .ref q15, .ref q23, .ref q31])), (q7, .inl (cI, 100, .inl (lwG 100))), (q15, .inl (cI, 100, .inl (fun _ => 0))), (q23, .inl (cI, 100, .inl (fun _ => 0))), (q31, .inl (cI, 100, .inl (fun _ => 0)))] = xw ω (upr zM 1 lwL) := by rw [lwG_100, ← hω]; rfl
  rw [eW] at hP hD
  have hsh : xsh ω = rdS := by rw [← hω]; rfl
  have hL5 : (xsh ω).length = 5 := by rw [hsh]; rfl
  have hF : xFine ω := by
    refine ⟨fun i j hi hj hij => ?_, fun _ _ _ _ _ => by rw [← hω]; trivial⟩
    obtain ⟨ci, hci⟩ : ∃ x, (xsh ω)[i]? = some x := ⟨_, List.getElem?_eq_getElem hi⟩
    obtain ⟨cj, hcj⟩ : ∃ x, (xsh ω)[j]? = some x := ⟨_, List.getElem?_eq_getElem hj⟩
    exact hD.1 i j _ _ (xw_at hci) (xw_at hcj) hij
  have hAx : ∀ q, xA ω q → A q := by
    rintro q ⟨k, hk, rfl⟩
    obtain ⟨ck, hck⟩ : ∃ x, (xsh ω)[k]? = some x := ⟨_, List.getElem?_eq_getElem hk⟩
    exact hD.2 k _ (xw_at (M := upr zM 1 lwL) hck)
  have hA2 : ∀ q, q < s.heap.size → ¬ xA ω q → ¬ A q := by
    intro q hq hn hAq
    rw [← hAe] at hAq
    rcases hAq with ⟨k, e9, h9⟩ | h9
    · cases k with
      | zero =>
        have : q = h0 := by
          have := Option.some.inj h9
          exact (congrArg Prod.fst this).symm
        exact hn ⟨0, by omega, by rw [this, ← hω]; rfl⟩
      | succ k => cases h9
    · omega
  have hM : xR (upr zM 1 lwL) := fun k j => by
    unfold upr
    split
    · have := lwL_R j; omega
    · show inR 0
      decide
  have h00 : xad ω 0 = h0 := by rw [← hω]; rfl
  have hKω : va_K ω.1 xcl (xty ω) s := by rw [← hω]; exact hK
  have hPω : va_P ω.1 xcl (xw ω (upr zM 1 lwL)) H := by rw [← hω] at hP ⊢; exact hP
  refine lv_aload_n hx hb dX3_init_86 rfl (lv_at hl 1 rfl) ?_
  refine y_callV (ω := ω) (M := upr zM 1 lwL) (k := 0) (As := []) (rest := []) (A0 := A) hx hb hml hown xts dX3_init_87 m_ml_X3_30 m_im_X3_survey m_se_X3_survey (tRd hsh rfl) rfl ⟨by decide, by decide⟩ rfl (by rw [h00]; rfl) (by decide) hl.1 (k_X3_survey hsh rfl (fun i _ _ => by rw [show (0 + 1 : Nat) = 1 from rfl, upr_s]; have := lwL_R i; omega)) hM hPω hKω hF (by rw [← hω]; trivial) hA2 hNe hS hAx ⟨by decide, by decide⟩ (fun H locs hRf hP hz hk hS => ?_)
  have hD9 := xw_D hF (suC (upr zM 1 lwL) 0)
  have hDA : va_D A (xw ω (suC (upr zM 1 lwL) 0)) := ⟨hD9.1, fun k q hk => hAx _ (hD9.2 k q hk)⟩
  subst hω
  exact W.vret hx hb hr (fun t ht hW => ⟨⟨(), rfl, trivial, q7, q15, q23, q31, by rw [ht]; exact hP, va_K.moved hW.alike hK, hDA⟩, hS.F ht⟩) hS.2.2 dX3_init_90
