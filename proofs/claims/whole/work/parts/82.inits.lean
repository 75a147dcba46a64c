/-! the constructors of the class's parts -/
theorem dX5_init_0 : decode cX5_init 0 = .ok (.aload_n 0, 1) := by decide +kernel
theorem dX5_init_1 : decode cX5_init 1 = .ok (.invokespecial 3, 3) := by decide +kernel
theorem dX5_init_4 : decode cX5_init 4 = .ok (.aload_n 0, 1) := by decide +kernel
theorem dX5_init_5 : decode cX5_init 5 = .ok (.bipush 120, 2) := by decide +kernel
theorem dX5_init_7 : decode cX5_init 7 = .ok (.newarray .int, 2) := by decide +kernel
theorem dX5_init_9 : decode cX5_init 9 = .ok (.putfield 9, 3) := by decide +kernel
theorem dX5_init_12 : decode cX5_init 12 = .ok (.aload_n 0, 1) := by decide +kernel
theorem dX5_init_13 : decode cX5_init 13 = .ok (.iconst 0, 1) := by decide +kernel
theorem dX5_init_14 : decode cX5_init 14 = .ok (.putfield 15, 3) := by decide +kernel
theorem dX5_init_17 : decode cX5_init 17 = .ok (.return_, 1) := by decide +kernel
set_option maxHeartbeats 4000000 in
set_option maxRecDepth 100000 in
theorem k_X5_init (l : Launch) (D : va_G) (cI cS : ClassId) (h0 sz : Nat) : Met l yX5_init (.code yX5_init cX5_init 1 none :: xtbl) ({ frames := 1, cells := 1, slots := 120, locals := 12 }) (va_Pc [.ref h0] (fun U => U.heap.size = sz ∧ va_P D xcl [(h0, .inr (5, [.null, .int 0]))] U.heap ∧ va_K D xcl [(cI, .int), (cS, .object "java/lang/String")] U ∧ va_D (fun _ => True) [(h0, .inr (5, [.null, .int 0]))])) (va_Qv (fun _ : Unit => True) (fun _ t => ∃ q7 : Nat, va_P D xcl [(h0, .inr (5, [.ref q7, .int 0])), (q7, .inl (cI, 120, .inl (fun _ => 0)))] t.heap ∧ va_K D xcl [(cI, .int), (cS, .object "java/lang/String")] t ∧ va_D (va_A [(h0, .inr (5, [.null, .int 0]))] sz) [(h0, .inr (5, [.ref q7, .int 0])), (q7, .inl (cI, 120, .inl (fun _ => 0)))]) (va_A [(h0, .inr (5, [.null, .int 0]))] sz)) 1 120 (va_A [(h0, .inr (5, [.null, .int 0]))] sz) := by
  refine Met.ofW (cc := cX5_init) (maxL := 1) (ret := none) (by decide) rfl ?_
  intro p e s m args below meth c s₁ B hml hv
  obtain ⟨rfl, hsz, hP, hK, hD0⟩ := hv
  have hx := B.exec
  have hb := B.bytes
  have hr := B.returns
  have hts := atoms_spec (ws := .code yX5_init cX5_init 1 none :: xtbl) B.pre
  have xts : ∀ w ∈ xtbl, w.before [.ref h0].toArray s = true := fun w hw => hts w (List.mem_cons_of_mem _ hw)
  have hown : s.vm.findClass RX5 = some m.cls := findClass_of_methodNamed B.named
  have hin : meth.name = "<init>" := (name_of_methodNamed B.named B.method).1
  subst hsz
  have hD := hD0.self (sz := s.heap.size)
  generalize hAe : va_A [(h0, .inr (5, [.null, .int 0]))] s.heap.size = A at hD ⊢
  have hA : ∀ q : Nat, s.heap.size ≤ q → A q := fun q h => by rw [← hAe]; exact Or.inr h
  have hS : va_S A s.heap s.heap [] := va_S.rf
  have hP : va_P D xcl [(h0, .inr (5, [.null, .int 0]))] s.heap := hP
  have hl := lv_entry ([.ref h0]) (n := 1) (Nat.le_of_ble_eq_true rfl)
  rw [lg_entry_eq]
  generalize (lg_sl ([.ref h0]) ++ List.replicate (1 - (lg_sl ([.ref h0])).length) Slot.unset).toArray = ls at hl ⊢
  have hl : lv_has ls 1 [(0, .ref h0)] := hl
  refine lv_aload_n hx hb dX5_init_0 rfl (lv_at hl 0 rfl) ?_
  refine W.objInit hx hb hown (xts _ m_ml_X5_3) (xts _ m_obi) (xts _ m_ob) rfl (by rw [hml]; exact hl.1) rfl dX5_init_1 (Nat.le_of_ble_eq_true rfl) (Nat.le_of_ble_eq_true rfl) ?_
  refine W.eq (g2 := F0 m 4 ls []) rfl ?_
  refine lv_aload_n hx hb dX5_init_4 rfl (lv_at hl 0 rfl) ?_
  refine lv_bipush (v := 120) hx hb dX5_init_5 (by decide) ?_
  refine va_newa (atype := .int) (ty := .int) hx hb (xts _ m_aci) rfl hK hP hD hS hA (N' := 120) (a0 := (120, .inl (fun _ => 0))) (fun _ => rfl) (by decide) (by decide) (by decide) (show 0 + 1 ≤ 1 by decide) (show 0 + 120 ≤ 120 by decide) dX5_init_7 (fun q7 cA H hK2 hP hD hS => ?_)
  obtain rfl : cI = cA := ac_1 (i := 0) (j := 2) hK2 rfl rfl
  clear hK2
  have hP : va_P D xcl [(h0, .inr (5, [.null, .int 0])), (q7, .inl (cI, 120, .inl (fun _ => 0)))] H := hP
  have hD : va_D A [(h0, .inr (5, [.null, .int 0])), (q7, .inl (cI, 120, .inl (fun _ => 0)))] := hD
  refine W.widen (k := 1) (n := 120) (by decide) (by decide) ?_
  refine va_putF (D := D) (ci := 5) (v := .ref q7) (ty := .array .int) (C := RX5) (T := TX5) (N := 2) hx hb xts in_X5 tyX5 tyX5_ok nmX5 hown hK hP hD hS 0 rfl rfl 0 (by decide) (xts _ m_fl_X5_9) (fun _ h9 => h9) rfl hin rfl (by decide +kernel) rfl rfl (Nat.le_of_ble_eq_true rfl) dX5_init_9 (fun H locs hP hD hS => ?_)
  have hP : va_P D xcl [(h0, .inr (5, [.ref q7, .int 0])), (q7, .inl (cI, 120, .inl (fun _ => 0)))] H := hP
  have hD : va_D A [(h0, .inr (5, [.ref q7, .int 0])), (q7, .inl (cI, 120, .inl (fun _ => 0)))] := hD
  refine lv_aload_n hx hb dX5_init_12 rfl (lv_at hl 0 rfl) ?_
  refine lv_iconst (v := 0) hx hb dX5_init_13 (by decide) ?_
  refine va_put (D := D) (ci := 5) (v := .int 0) (ty := .int) (C := RX5) (T := TX5) (N := 2) hx hb xts in_X5 tyX5 tyX5_ok nmX5 hown hK hP hD hS 0 rfl rfl 1 (by decide) (xts _ m_fl_X5_15) (fun _ h9 => h9) rfl (by decide +kernel) rfl rfl (Nat.le_of_ble_eq_true rfl) dX5_init_14 (fun H locs hP hD hS => ?_)
  have hP : va_P D xcl [(h0, .inr (5, [.ref q7, .int 0])), (q7, .inl (cI, 120, .inl (fun _ => 0)))] H := hP
  have hD : va_D A [(h0, .inr (5, [.ref q7, .int 0])), (q7, .inl (cI, 120, .inl (fun _ => 0)))] := hD
  exact W.vret hx hb hr (fun t ht hW => ⟨⟨(), rfl, trivial, q7, by rw [ht]; exact hP, va_K.moved hW.alike hK, hD⟩, hS.F ht⟩) hS.2.2 dX5_init_17
theorem dX4_init_0 : decode cX4_init 0 = .ok (.aload_n 0, 1) := by decide +kernel
theorem dX4_init_1 : decode cX4_init 1 = .ok (.invokespecial 3, 3) := by decide +kernel
theorem dX4_init_4 : decode cX4_init 4 = .ok (.aload_n 0, 1) := by decide +kernel
theorem dX4_init_5 : decode cX4_init 5 = .ok (.iconst 4, 1) := by decide +kernel
theorem dX4_init_6 : decode cX4_init 6 = .ok (.newarray .int, 2) := by decide +kernel
theorem dX4_init_8 : decode cX4_init 8 = .ok (.putfield 9, 3) := by decide +kernel
theorem dX4_init_11 : decode cX4_init 11 = .ok (.aload_n 0, 1) := by decide +kernel
theorem dX4_init_12 : decode cX4_init 12 = .ok (.iconst 4, 1) := by decide +kernel
theorem dX4_init_13 : decode cX4_init 13 = .ok (.newarray .int, 2) := by decide +kernel
theorem dX4_init_15 : decode cX4_init 15 = .ok (.putfield 15, 3) := by decide +kernel
theorem dX4_init_18 : decode cX4_init 18 = .ok (.aload_n 0, 1) := by decide +kernel
theorem dX4_init_19 : decode cX4_init 19 = .ok (.sipush 160, 3) := by decide +kernel
theorem dX4_init_22 : decode cX4_init 22 = .ok (.newarray .int, 2) := by decide +kernel
theorem dX4_init_24 : decode cX4_init 24 = .ok (.putfield 18, 3) := by decide +kernel
theorem dX4_init_27 : decode cX4_init 27 = .ok (.return_, 1) := by decide +kernel
set_option maxHeartbeats 4000000 in
set_option maxRecDepth 100000 in
theorem k_X4_init (l : Launch) (D : va_G) (cI cS : ClassId) (h0 sz : Nat) : Met l yX4_init (.code yX4_init cX4_init 1 none :: xtbl) ({ frames := 1, cells := 3, slots := 168, locals := 12 }) (va_Pc [.ref h0] (fun U => U.heap.size = sz ∧ va_P D xcl [(h0, .inr (4, [.null, .null, .null]))] U.heap ∧ va_K D xcl [(cI, .int), (cS, .object "java/lang/String")] U ∧ va_D (fun _ => True) [(h0, .inr (4, [.null, .null, .null]))])) (va_Qv (fun _ : Unit => True) (fun _ t => ∃ q6 q13 q22 : Nat, va_P D xcl [(h0, .inr (4, [.ref q6, .ref q13, .ref q22])), (q6, .inl (cI, 4, .inl (fun _ => 0))), (q13, .inl (cI, 4, .inl (fun _ => 0))), (q22, .inl (cI, 160, .inl (fun _ => 0)))] t.heap ∧ va_K D xcl [(cI, .int), (cS, .object "java/lang/String")] t ∧ va_D (va_A [(h0, .inr (4, [.null, .null, .null]))] sz) [(h0, .inr (4, [.ref q6, .ref q13, .ref q22])), (q6, .inl (cI, 4, .inl (fun _ => 0))), (q13, .inl (cI, 4, .inl (fun _ => 0))), (q22, .inl (cI, 160, .inl (fun _ => 0)))]) (va_A [(h0, .inr (4, [.null, .null, .null]))] sz)) 3 168 (va_A [(h0, .inr (4, [.null, .null, .null]))] sz) := by
  refine Met.ofW (cc := cX4_init) (maxL := 1) (ret := none) (by decide) rfl ?_
  intro p e s m args below meth c s₁ B hml hv
  obtain ⟨rfl, hsz, hP, hK, hD0⟩ := hv
  have hx := B.exec
  have hb := B.bytes
  have hr := B.returns
  have hts := atoms_spec (ws := .code yX4_init cX4_init 1 none :: xtbl) B.pre
  have xts : ∀ w ∈ xtbl, w.before [.ref h0].toArray s = true := fun w hw => hts w (List.mem_cons_of_mem _ hw)
  have hown : s.vm.findClass RX4 = some m.cls := findClass_of_methodNamed B.named
  have hin : meth.name = "<init>" := (name_of_methodNamed B.named B.method).1
  subst hsz
  have hD := hD0.self (sz := s.heap.size)
  generalize hAe : va_A [(h0, .inr (4, [.null, .null, .null]))] s.heap.size = A at hD ⊢
  have hA : ∀ q : Nat, s.heap.size ≤ q → A q := fun q h => by rw [← hAe]; exact Or.inr h
  have hS : va_S A s.heap s.heap [] := va_S.rf
  have hP : va_P D xcl [(h0, .inr (4, [.null, .null, .null]))] s.heap := hP
  have hl := lv_entry ([.ref h0]) (n := 1) (Nat.le_of_ble_eq_true rfl)
  rw [lg_entry_eq]
  generalize (lg_sl ([.ref h0]) ++ List.replicate (1 - (lg_sl ([.ref h0])).length) Slot.unset).toArray = ls at hl ⊢
  have hl : lv_has ls 1 [(0, .ref h0)] := hl
  refine lv_aload_n hx hb dX4_init_0 rfl (lv_at hl 0 rfl) ?_
  refine W.objInit hx hb hown (xts _ m_ml_X4_3) (xts _ m_obi) (xts _ m_ob) rfl (by rw [hml]; exact hl.1) rfl dX4_init_1 (Nat.le_of_ble_eq_true rfl) (Nat.le_of_ble_eq_true rfl) ?_
  refine W.eq (g2 := F0 m 4 ls []) rfl ?_
  refine lv_aload_n hx hb dX4_init_4 rfl (lv_at hl 0 rfl) ?_
  refine lv_iconst (v := 4) hx hb dX4_init_5 (by decide) ?_
  refine va_newa (atype := .int) (ty := .int) hx hb (xts _ m_aci) rfl hK hP hD hS hA (N' := 4) (a0 := (4, .inl (fun _ => 0))) (fun _ => rfl) (by decide) (by decide) (by decide) (show 0 + 1 ≤ 3 by decide) (show 0 + 4 ≤ 168 by decide) dX4_init_6 (fun q6 cA H hK2 hP hD hS => ?_)
  obtain rfl : cI = cA := ac_1 (i := 0) (j := 2) hK2 rfl rfl
  clear hK2
  have hP : va_P D xcl [(h0, .inr (4, [.null, .null, .null])), (q6, .inl (cI, 4, .inl (fun _ => 0)))] H := hP
  have hD : va_D A [(h0, .inr (4, [.null, .null, .null])), (q6, .inl (cI, 4, .inl (fun _ => 0)))] := hD
  refine W.widen (k := 1) (n := 4) (by decide) (by decide) ?_
  refine va_putF (D := D) (ci := 4) (v := .ref q6) (ty := .array .int) (C := RX4) (T := TX4) (N := 3) hx hb xts in_X4 tyX4 tyX4_ok nmX4 hown hK hP hD hS 0 rfl rfl 0 (by decide) (xts _ m_fl_X4_9) (fun _ h9 => h9) rfl hin rfl (by decide +kernel) rfl rfl (Nat.le_of_ble_eq_true rfl) dX4_init_8 (fun H locs hP hD hS => ?_)
  have hP : va_P D xcl [(h0, .inr (4, [.ref q6, .null, .null])), (q6, .inl (cI, 4, .inl (fun _ => 0)))] H := hP
  have hD : va_D A [(h0, .inr (4, [.ref q6, .null, .null])), (q6, .inl (cI, 4, .inl (fun _ => 0)))] := hD
  refine lv_aload_n hx hb dX4_init_11 rfl (lv_at hl 0 rfl) ?_
  refine lv_iconst (v := 4) hx hb dX4_init_12 (by decide) ?_
  refine va_newa (atype := .int) (ty := .int) hx hb (xts _ m_aci) rfl hK hP hD hS hA (N' := 4) (a0 := (4, .inl (fun _ => 0))) (fun _ => rfl) (by decide) (by decide) (by decide) (show 1 + 1 ≤ 3 by decide) (show 4 + 4 ≤ 168 by decide) dX4_init_13 (fun q13 cA H hK2 hP hD hS => ?_)
  obtain rfl : cI = cA := ac_1 (i := 0) (j := 2) hK2 rfl rfl
  clear hK2
  have hP : va_P D xcl [(h0, .inr (4, [.ref q6, .null, .null])), (q6, .inl (cI, 4, .inl (fun _ => 0))), (q13, .inl (cI, 4, .inl (fun _ => 0)))] H := hP
  have hD : va_D A [(h0, .inr (4, [.ref q6, .null, .null])), (q6, .inl (cI, 4, .inl (fun _ => 0))), (q13, .inl (cI, 4, .inl (fun _ => 0)))] := hD
  refine W.widen (k := 2) (n := 8) (by decide) (by decide) ?_
  refine va_putF (D := D) (ci := 4) (v := .ref q13) (ty := .array .int) (C := RX4) (T := TX4) (N := 3) hx hb xts in_X4 tyX4 tyX4_ok nmX4 hown hK hP hD hS 0 rfl rfl 1 (by decide) (xts _ m_fl_X4_15) (fun _ h9 => h9) rfl hin rfl (by decide +kernel) rfl rfl (Nat.le_of_ble_eq_true rfl) dX4_init_15 (fun H locs hP hD hS => ?_)
  have hP : va_P D xcl [(h0, .inr (4, [.ref q6, .ref q13, .null])), (q6, .inl (cI, 4, .inl (fun _ => 0))), (q13, .inl (cI, 4, .inl (fun _ => 0)))] H := hP
  have hD : va_D A [(h0, .inr (4, [.ref q6, .ref q13, .null])), (q6, .inl (cI, 4, .inl (fun _ => 0))), (q13, .inl (cI, 4, .inl (fun _ => 0)))] := hD
  refine lv_aload_n hx hb dX4_init_18 rfl (lv_at hl 0 rfl) ?_
  refine lv_sipush (v := 160) hx hb dX4_init_19 (by decide) ?_
  refine va_newa (atype := .int) (ty := .int) hx hb (xts _ m_aci) rfl hK hP hD hS hA (N' := 160) (a0 := (160, .inl (fun _ => 0))) (fun _ => rfl) (by decide) (by decide) (by decide) (show 2 + 1 ≤ 3 by decide) (show 8 + 160 ≤ 168 by decide) dX4_init_22 (fun q22 cA H hK2 hP hD hS => ?_)
  obtain rfl : cI = cA := ac_1 (i := 0) (j := 2) hK2 rfl rfl
  clear hK2
  have hP : va_P D xcl [(h0, .inr (4, [.ref q6, .ref q13, .null])), (q6, .inl (cI, 4, .inl (fun _ => 0))), (q13, .inl (cI, 4, .inl (fun _ => 0))), (q22, .inl (cI, 160, .inl (fun _ => 0)))] H := hP
  have hD : va_D A [(h0, .inr (4, [.ref q6, .ref q13, .null])), (q6, .inl (cI, 4, .inl (fun _ => 0))), (q13, .inl (cI, 4, .inl (fun _ => 0))), (q22, .inl (cI, 160, .inl (fun _ => 0)))] := hD
  refine W.widen (k := 3) (n := 168) (by decide) (by decide) ?_
  refine va_putF (D := D) (ci := 4) (v := .ref q22) (ty := .array .int) (C := RX4) (T := TX4) (N := 3) hx hb xts in_X4 tyX4 tyX4_ok nmX4 hown hK hP hD hS 0 rfl rfl 2 (by decide) (xts _ m_fl_X4_18) (fun _ h9 => h9) rfl hin rfl (by decide +kernel) rfl rfl (Nat.le_of_ble_eq_true rfl) dX4_init_24 (fun H locs hP hD hS => ?_)
  have hP : va_P D xcl [(h0, .inr (4, [.ref q6, .ref q13, .ref q22])), (q6, .inl (cI, 4, .inl (fun _ => 0))), (q13, .inl (cI, 4, .inl (fun _ => 0))), (q22, .inl (cI, 160, .inl (fun _ => 0)))] H := hP
  have hD : va_D A [(h0, .inr (4, [.ref q6, .ref q13, .ref q22])), (q6, .inl (cI, 4, .inl (fun _ => 0))), (q13, .inl (cI, 4, .inl (fun _ => 0))), (q22, .inl (cI, 160, .inl (fun _ => 0)))] := hD
  exact W.vret hx hb hr (fun t ht hW => ⟨⟨(), rfl, trivial, q6, q13, q22, by rw [ht]; exact hP, va_K.moved hW.alike hK, hD⟩, hS.F ht⟩) hS.2.2 dX4_init_27
theorem dX0_init_0 : decode cX0_init 0 = .ok (.aload_n 0, 1) := by decide +kernel
theorem dX0_init_1 : decode cX0_init 1 = .ok (.invokespecial 3, 3) := by decide +kernel
theorem dX0_init_4 : decode cX0_init 4 = .ok (.aload_n 0, 1) := by decide +kernel
theorem dX0_init_5 : decode cX0_init 5 = .ok (.sipush 256, 3) := by decide +kernel
theorem dX0_init_8 : decode cX0_init 8 = .ok (.newarray .int, 2) := by decide +kernel
theorem dX0_init_10 : decode cX0_init 10 = .ok (.putfield 9, 3) := by decide +kernel
theorem dX0_init_13 : decode cX0_init 13 = .ok (.aload_n 0, 1) := by decide +kernel
theorem dX0_init_14 : decode cX0_init 14 = .ok (.sipush 256, 3) := by decide +kernel
theorem dX0_init_17 : decode cX0_init 17 = .ok (.newarray .int, 2) := by decide +kernel
theorem dX0_init_19 : decode cX0_init 19 = .ok (.putfield 15, 3) := by decide +kernel
theorem dX0_init_22 : decode cX0_init 22 = .ok (.aload_n 0, 1) := by decide +kernel
theorem dX0_init_23 : decode cX0_init 23 = .ok (.bipush 64, 2) := by decide +kernel
theorem dX0_init_25 : decode cX0_init 25 = .ok (.newarray .int, 2) := by decide +kernel
theorem dX0_init_27 : decode cX0_init 27 = .ok (.putfield 18, 3) := by decide +kernel
theorem dX0_init_30 : decode cX0_init 30 = .ok (.aload_n 0, 1) := by decide +kernel
theorem dX0_init_31 : decode cX0_init 31 = .ok (.iconst 0, 1) := by decide +kernel
theorem dX0_init_32 : decode cX0_init 32 = .ok (.putfield 21, 3) := by decide +kernel
theorem dX0_init_35 : decode cX0_init 35 = .ok (.return_, 1) := by decide +kernel
set_option maxHeartbeats 4000000 in
set_option maxRecDepth 100000 in
theorem k_X0_init (l : Launch) (D : va_G) (cI cS : ClassId) (h0 sz : Nat) : Met l yX0_init (.code yX0_init cX0_init 1 none :: xtbl) ({ frames := 1, cells := 3, slots := 576, locals := 12 }) (va_Pc [.ref h0] (fun U => U.heap.size = sz ∧ va_P D xcl [(h0, .inr (0, [.null, .null, .null, .int 0]))] U.heap ∧ va_K D xcl [(cI, .int), (cS, .object "java/lang/String")] U ∧ va_D (fun _ => True) [(h0, .inr (0, [.null, .null, .null, .int 0]))])) (va_Qv (fun _ : Unit => True) (fun _ t => ∃ q8 q17 q25 : Nat, va_P D xcl [(h0, .inr (0, [.ref q8, .ref q17, .ref q25, .int 0])), (q8, .inl (cI, 256, .inl (fun _ => 0))), (q17, .inl (cI, 256, .inl (fun _ => 0))), (q25, .inl (cI, 64, .inl (fun _ => 0)))] t.heap ∧ va_K D xcl [(cI, .int), (cS, .object "java/lang/String")] t ∧ va_D (va_A [(h0, .inr (0, [.null, .null, .null, .int 0]))] sz) [(h0, .inr (0, [.ref q8, .ref q17, .ref q25, .int 0])), (q8, .inl (cI, 256, .inl (fun _ => 0))), (q17, .inl (cI, 256, .inl (fun _ => 0))), (q25, .inl (cI, 64, .inl (fun _ => 0)))]) (va_A [(h0, .inr (0, [.null, .null, .null, .int 0]))] sz)) 3 576 (va_A [(h0, .inr (0, [.null, .null, .null, .int 0]))] sz) := by
  refine Met.ofW (cc := cX0_init) (maxL := 1) (ret := none) (by decide) rfl ?_
  intro p e s m args below meth c s₁ B hml hv
  obtain ⟨rfl, hsz, hP, hK, hD0⟩ := hv
  have hx := B.exec
  have hb := B.bytes
  have hr := B.returns
  have hts := atoms_spec (ws := .code yX0_init cX0_init 1 none :: xtbl) B.pre
  have xts : ∀ w ∈ xtbl, w.before [.ref h0].toArray s = true := fun w hw => hts w (List.mem_cons_of_mem _ hw)
  have hown : s.vm.findClass RX0 = some m.cls := findClass_of_methodNamed B.named
  have hin : meth.name = "<init>" := (name_of_methodNamed B.named B.method).1
  subst hsz
  have hD := hD0.self (sz := s.heap.size)
  generalize hAe : va_A [(h0, .inr (0, [.null, .null, .null, .int 0]))] s.heap.size = A at hD ⊢
  have hA : ∀ q : Nat, s.heap.size ≤ q → A q := fun q h => by rw [← hAe]; exact Or.inr h
  have hS : va_S A s.heap s.heap [] := va_S.rf
  have hP : va_P D xcl [(h0, .inr (0, [.null, .null, .null, .int 0]))] s.heap := hP
  have hl := lv_entry ([.ref h0]) (n := 1) (Nat.le_of_ble_eq_true rfl)
  rw [lg_entry_eq]
  generalize (lg_sl ([.ref h0]) ++ List.replicate (1 - (lg_sl ([.ref h0])).length) Slot.unset).toArray = ls at hl ⊢
  have hl : lv_has ls 1 [(0, .ref h0)] := hl
  refine lv_aload_n hx hb dX0_init_0 rfl (lv_at hl 0 rfl) ?_
  refine W.objInit hx hb hown (xts _ m_ml_X0_3) (xts _ m_obi) (xts _ m_ob) rfl (by rw [hml]; exact hl.1) rfl dX0_init_1 (Nat.le_of_ble_eq_true rfl) (Nat.le_of_ble_eq_true rfl) ?_
  refine W.eq (g2 := F0 m 4 ls []) rfl ?_
  refine lv_aload_n hx hb dX0_init_4 rfl (lv_at hl 0 rfl) ?_
  refine lv_sipush (v := 256) hx hb dX0_init_5 (by decide) ?_
  refine va_newa (atype := .int) (ty := .int) hx hb (xts _ m_aci) rfl hK hP hD hS hA (N' := 256) (a0 := (256, .inl (fun _ => 0))) (fun _ => rfl) (by decide) (by decide) (by decide) (show 0 + 1 ≤ 3 by decide) (show 0 + 256 ≤ 576 by decide) dX0_init_8 (fun q8 cA H hK2 hP hD hS => ?_)
  obtain rfl : cI = cA := ac_1 (i := 0) (j := 2) hK2 rfl rfl
  clear hK2
  have hP : va_P D xcl [(h0, .inr (0, [.null, .null, .null, .int 0])), (q8, .inl (cI, 256, .inl (fun _ => 0)))] H := hP
  have hD : va_D A [(h0, .inr (0, [.null, .null, .null, .int 0])), (q8, .inl (cI, 256, .inl (fun _ => 0)))] := hD
  refine W.widen (k := 1) (n := 256) (by decide) (by decide) ?_
  refine va_putF (D := D) (ci := 0) (v := .ref q8) (ty := .array .int) (C := RX0) (T := TX0) (N := 4) hx hb xts in_X0 tyX0 tyX0_ok nmX0 hown hK hP hD hS 0 rfl rfl 0 (by decide) (xts _ m_fl_X0_9) (fun _ h9 => h9) rfl hin rfl (by decide +kernel) rfl rfl (Nat.le_of_ble_eq_true rfl) dX0_init_10 (fun H locs hP hD hS => ?_)
  have hP : va_P D xcl [(h0, .inr (0, [.ref q8, .null, .null, .int 0])), (q8, .inl (cI, 256, .inl (fun _ => 0)))] H := hP
  have hD : va_D A [(h0, .inr (0, [.ref q8, .null, .null, .int 0])), (q8, .inl (cI, 256, .inl (fun _ => 0)))] := hD
  refine lv_aload_n hx hb dX0_init_13 rfl (lv_at hl 0 rfl) ?_
  refine lv_sipush (v := 256) hx hb dX0_init_14 (by decide) ?_
  refine va_newa (atype := .int) (ty := .int) hx hb (xts _ m_aci) rfl hK hP hD hS hA (N' := 256) (a0 := (256, .inl (fun _ => 0))) (fun _ => rfl) (by decide) (by decide) (by decide) (show 1 + 1 ≤ 3 by decide) (show 256 + 256 ≤ 576 by decide) dX0_init_17 (fun q17 cA H hK2 hP hD hS => ?_)
  obtain rfl : cI = cA := ac_1 (i := 0) (j := 2) hK2 rfl rfl
  clear hK2
  have hP : va_P D xcl [(h0, .inr (0, [.ref q8, .null, .null, .int 0])), (q8, .inl (cI, 256, .inl (fun _ => 0))), (q17, .inl (cI, 256, .inl (fun _ => 0)))] H := hP
  have hD : va_D A [(h0, .inr (0, [.ref q8, .null, .null, .int 0])), (q8, .inl (cI, 256, .inl (fun _ => 0))), (q17, .inl (cI, 256, .inl (fun _ => 0)))] := hD
  refine W.widen (k := 2) (n := 512) (by decide) (by decide) ?_
  refine va_putF (D := D) (ci := 0) (v := .ref q17) (ty := .array .int) (C := RX0) (T := TX0) (N := 4) hx hb xts in_X0 tyX0 tyX0_ok nmX0 hown hK hP hD hS 0 rfl rfl 1 (by decide) (xts _ m_fl_X0_15) (fun _ h9 => h9) rfl hin rfl (by decide +kernel) rfl rfl (Nat.le_of_ble_eq_true rfl) dX0_init_19 (fun H locs hP hD hS => ?_)
  have hP : va_P D xcl [(h0, .inr (0, [.ref q8, .ref q17, .null, .int 0])), (q8, .inl (cI, 256, .inl (fun _ => 0))), (q17, .inl (cI, 256, .inl (fun _ => 0)))] H := hP
  have hD : va_D A [(h0, .inr (0, [.ref q8, .ref q17, .null, .int 0])), (q8, .inl (cI, 256, .inl (fun _ => 0))), (q17, .inl (cI, 256, .inl (fun _ => 0)))] := hD
  refine lv_aload_n hx hb dX0_init_22 rfl (lv_at hl 0 rfl) ?_
  refine lv_bipush (v := 64) hx hb dX0_init_23 (by decide) ?_
  refine va_newa (atype := .int) (ty := .int) hx hb (xts _ m_aci) rfl hK hP hD hS hA (N' := 64) (a0 := (64, .inl (fun _ => 0))) (fun _ => rfl) (by decide) (by decide) (by decide) (show 2 + 1 ≤ 3 by decide) (show 512 + 64 ≤ 576 by decide) dX0_init_25 (fun q25 cA H hK2 hP hD hS => ?_)
  obtain rfl : cI = cA := ac_1 (i := 0) (j := 2) hK2 rfl rfl
  clear hK2
  have hP : va_P D xcl [(h0, .inr (0, [.ref q8, .ref q17, .null, .int 0])), (q8, .inl (cI, 256, .inl (fun _ => 0))), (q17, .inl (cI, 256, .inl (fun _ => 0))), (q25, .inl (cI, 64, .inl (fun _ => 0)))] H := hP
  have hD : va_D A [(h0, .inr (0, [.ref q8, .ref q17, .null, .int 0])), (q8, .inl (cI, 256, .inl (fun _ => 0))), (q17, .inl (cI, 256, .inl (fun _ => 0))), (q25, .inl (cI, 64, .inl (fun _ => 0)))] := hD
  refine W.widen (k := 3) (n := 576) (by decide) (by decide) ?_
  refine va_putF (D := D) (ci := 0) (v := .ref q25) (ty := .array .int) (C := RX0) (T := TX0) (N := 4) hx hb xts in_X0 tyX0 tyX0_ok nmX0 hown hK hP hD hS 0 rfl rfl 2 (by decide) (xts _ m_fl_X0_18) (fun _ h9 => h9) rfl hin rfl (by decide +kernel) rfl rfl (Nat.le_of_ble_eq_true rfl) dX0_init_27 (fun H locs hP hD hS => ?_)
  have hP : va_P D xcl [(h0, .inr (0, [.ref q8, .ref q17, .ref q25, .int 0])), (q8, .inl (cI, 256, .inl (fun _ => 0))), (q17, .inl (cI, 256, .inl (fun _ => 0))), (q25, .inl (cI, 64, .inl (fun _ => 0)))] H := hP
  have hD : va_D A [(h0, .inr (0, [.ref q8, .ref q17, .ref q25, .int 0])), (q8, .inl (cI, 256, .inl (fun _ => 0))), (q17, .inl (cI, 256, .inl (fun _ => 0))), (q25, .inl (cI, 64, .inl (fun _ => 0)))] := hD
  refine lv_aload_n hx hb dX0_init_30 rfl (lv_at hl 0 rfl) ?_
  refine lv_iconst (v := 0) hx hb dX0_init_31 (by decide) ?_
  refine va_put (D := D) (ci := 0) (v := .int 0) (ty := .int) (C := RX0) (T := TX0) (N := 4) hx hb xts in_X0 tyX0 tyX0_ok nmX0 hown hK hP hD hS 0 rfl rfl 3 (by decide) (xts _ m_fl_X0_21) (fun _ h9 => h9) rfl (by decide +kernel) rfl rfl (Nat.le_of_ble_eq_true rfl) dX0_init_32 (fun H locs hP hD hS => ?_)
  have hP : va_P D xcl [(h0, .inr (0, [.ref q8, .ref q17, .ref q25, .int 0])), (q8, .inl (cI, 256, .inl (fun _ => 0))), (q17, .inl (cI, 256, .inl (fun _ => 0))), (q25, .inl (cI, 64, .inl (fun _ => 0)))] H := hP
  have hD : va_D A [(h0, .inr (0, [.ref q8, .ref q17, .ref q25, .int 0])), (q8, .inl (cI, 256, .inl (fun _ => 0))), (q17, .inl (cI, 256, .inl (fun _ => 0))), (q25, .inl (cI, 64, .inl (fun _ => 0)))] := hD
  exact W.vret hx hb hr (fun t ht hW => ⟨⟨(), rfl, trivial, q8, q17, q25, by rw [ht]; exact hP, va_K.moved hW.alike hK, hD⟩, hS.F ht⟩) hS.2.2 dX0_init_35
theorem dX2_init_0 : decode cX2_init 0 = .ok (.aload_n 0, 1) := by decide +kernel
theorem dX2_init_1 : decode cX2_init 1 = .ok (.invokespecial 3, 3) := by decide +kernel
theorem dX2_init_4 : decode cX2_init 4 = .ok (.aload_n 0, 1) := by decide +kernel
theorem dX2_init_5 : decode cX2_init 5 = .ok (.iconst 0, 1) := by decide +kernel
theorem dX2_init_6 : decode cX2_init 6 = .ok (.putfield 11, 3) := by decide +kernel
theorem dX2_init_9 : decode cX2_init 9 = .ok (.aload_n 0, 1) := by decide +kernel
theorem dX2_init_10 : decode cX2_init 10 = .ok (.iconst 0, 1) := by decide +kernel
theorem dX2_init_11 : decode cX2_init 11 = .ok (.putfield 15, 3) := by decide +kernel
theorem dX2_init_14 : decode cX2_init 14 = .ok (.aload_n 0, 1) := by decide +kernel
theorem dX2_init_15 : decode cX2_init 15 = .ok (.iconst 0, 1) := by decide +kernel
theorem dX2_init_16 : decode cX2_init 16 = .ok (.putfield 18, 3) := by decide +kernel
theorem dX2_init_19 : decode cX2_init 19 = .ok (.aload_n 0, 1) := by decide +kernel
theorem dX2_init_20 : decode cX2_init 20 = .ok (.iconst 0, 1) := by decide +kernel
theorem dX2_init_21 : decode cX2_init 21 = .ok (.putfield 21, 3) := by decide +kernel
theorem dX2_init_24 : decode cX2_init 24 = .ok (.aload_n 0, 1) := by decide +kernel
theorem dX2_init_25 : decode cX2_init 25 = .ok (.sipush 480, 3) := by decide +kernel
theorem dX2_init_28 : decode cX2_init 28 = .ok (.newarray .int, 2) := by decide +kernel
theorem dX2_init_30 : decode cX2_init 30 = .ok (.putfield 24, 3) := by decide +kernel
theorem dX2_init_33 : decode cX2_init 33 = .ok (.aload_n 0, 1) := by decide +kernel
theorem dX2_init_34 : decode cX2_init 34 = .ok (.iconst 0, 1) := by decide +kernel
theorem dX2_init_35 : decode cX2_init 35 = .ok (.putfield 28, 3) := by decide +kernel
theorem dX2_init_38 : decode cX2_init 38 = .ok (.aload_n 0, 1) := by decide +kernel
theorem dX2_init_39 : decode cX2_init 39 = .ok (.iconst 0, 1) := by decide +kernel
theorem dX2_init_40 : decode cX2_init 40 = .ok (.putfield 31, 3) := by decide +kernel
theorem dX2_init_43 : decode cX2_init 43 = .ok (.aload_n 0, 1) := by decide +kernel
theorem dX2_init_44 : decode cX2_init 44 = .ok (.aload_n 1, 1) := by decide +kernel
theorem dX2_init_45 : decode cX2_init 45 = .ok (.putfield 34, 3) := by decide +kernel
theorem dX2_init_48 : decode cX2_init 48 = .ok (.return_, 1) := by decide +kernel
set_option maxHeartbeats 4000000 in
set_option maxRecDepth 100000 in
theorem k_X2_init (l : Launch) (D : va_G) (cI cS : ClassId) (h0 sz : Nat) (r1 : Nat) : Met l yX2_init (.code yX2_init cX2_init 2 none :: xtbl) ({ frames := 1, cells := 1, slots := 480, locals := 12 }) (va_Pc [.ref h0, .ref r1] (fun U => U.heap.size = sz ∧ va_P D xcl [(h0, .inr (2, [.null, .int 0, .int 0, .int 0, .int 0, .null, .int 0, .int 0]))] U.heap ∧ va_K D xcl [(cI, .int), (cS, .object "java/lang/String")] U ∧ va_D (fun _ => True) [(h0, .inr (2, [.null, .int 0, .int 0, .int 0, .int 0, .null, .int 0, .int 0]))])) (va_Qv (fun _ : Unit => True) (fun _ t => ∃ q28 : Nat, va_P D xcl [(h0, .inr (2, [.ref r1, .int 0, .int 0, .int 0, .int 0, .ref q28, .int 0, .int 0])), (q28, .inl (cI, 480, .inl (fun _ => 0)))] t.heap ∧ va_K D xcl [(cI, .int), (cS, .object "java/lang/String")] t ∧ va_D (va_A [(h0, .inr (2, [.null, .int 0, .int 0, .int 0, .int 0, .null, .int 0, .int 0]))] sz) [(h0, .inr (2, [.ref r1, .int 0, .int 0, .int 0, .int 0, .ref q28, .int 0, .int 0])), (q28, .inl (cI, 480, .inl (fun _ => 0)))]) (va_A [(h0, .inr (2, [.null, .int 0, .int 0, .int 0, .int 0, .null, .int 0, .int 0]))] sz)) 1 480 (va_A [(h0, .inr (2, [.null, .int 0, .int 0, .int 0, .int 0, .null, .int 0, .int 0]))] sz) := by
  refine Met.ofW (cc := cX2_init) (maxL := 2) (ret := none) (by decide) rfl ?_
  intro p e s m args below meth c s₁ B hml hv
  obtain ⟨rfl, hsz, hP, hK, hD0⟩ := hv
  have hx := B.exec
  have hb := B.bytes
  have hr := B.returns
  have hts := atoms_spec (ws := .code yX2_init cX2_init 2 none :: xtbl) B.pre
  have xts : ∀ w ∈ xtbl, w.before [.ref h0, .ref r1].toArray s = true := fun w hw => hts w (List.mem_cons_of_mem _ hw)
  have hown : s.vm.findClass RX2 = some m.cls := findClass_of_methodNamed B.named
  have hin : meth.name = "<init>" := (name_of_methodNamed B.named B.method).1
  subst hsz
  have hD := hD0.self (sz := s.heap.size)
  generalize hAe : va_A [(h0, .inr (2, [.null, .int 0, .int 0, .int 0, .int 0, .null, .int 0, .int 0]))] s.heap.size = A at hD ⊢
  have hA : ∀ q : Nat, s.heap.size ≤ q → A q := fun q h => by rw [← hAe]; exact Or.inr h
  have hS : va_S A s.heap s.heap [] := va_S.rf
  have hP : va_P D xcl [(h0, .inr (2, [.null, .int 0, .int 0, .int 0, .int 0, .null, .int 0, .int 0]))] s.heap := hP
  have hl := lv_entry ([.ref h0, .ref r1]) (n := 2) (Nat.le_of_ble_eq_true rfl)
  rw [lg_entry_eq]
  generalize (lg_sl ([.ref h0, .ref r1]) ++ List.replicate (2 - (lg_sl ([.ref h0, .ref r1])).length) Slot.unset).toArray = ls at hl ⊢
  have hl : lv_has ls 2 [(0, .ref h0), (1, .ref r1)] := hl
  refine lv_aload_n hx hb dX2_init_0 rfl (lv_at hl 0 rfl) ?_
  refine W.objInit hx hb hown (xts _ m_ml_X2_3) (xts _ m_obi) (xts _ m_ob) rfl (by rw [hml]; exact hl.1) rfl dX2_init_1 (Nat.le_of_ble_eq_true rfl) (Nat.le_of_ble_eq_true rfl) ?_
  refine W.eq (g2 := F0 m 4 ls []) rfl ?_
  refine lv_aload_n hx hb dX2_init_4 rfl (lv_at hl 0 rfl) ?_
  refine lv_iconst (v := 0) hx hb dX2_init_5 (by decide) ?_
  refine va_put (D := D) (ci := 2) (v := .int 0) (ty := .int) (C := RX2) (T := TX2) (N := 8) hx hb xts in_X2 tyX2 tyX2_ok nmX2 hown hK hP hD hS 0 rfl rfl 1 (by decide) (xts _ m_fl_X2_11) (fun _ h9 => h9) rfl (by decide +kernel) rfl rfl (Nat.le_of_ble_eq_true rfl) dX2_init_6 (fun H locs hP hD hS => ?_)
  have hP : va_P D xcl [(h0, .inr (2, [.null, .int 0, .int 0, .int 0, .int 0, .null, .int 0, .int 0]))] H := hP
  have hD : va_D A [(h0, .inr (2, [.null, .int 0, .int 0, .int 0, .int 0, .null, .int 0, .int 0]))] := hD
  refine lv_aload_n hx hb dX2_init_9 rfl (lv_at hl 0 rfl) ?_
  refine lv_iconst (v := 0) hx hb dX2_init_10 (by decide) ?_
  refine va_put (D := D) (ci := 2) (v := .int 0) (ty := .int) (C := RX2) (T := TX2) (N := 8) hx hb xts in_X2 tyX2 tyX2_ok nmX2 hown hK hP hD hS 0 rfl rfl 2 (by decide) (xts _ m_fl_X2_15) (fun _ h9 => h9) rfl (by decide +kernel) rfl rfl (Nat.le_of_ble_eq_true rfl) dX2_init_11 (fun H locs hP hD hS => ?_)
  have hP : va_P D xcl [(h0, .inr (2, [.null, .int 0, .int 0, .int 0, .int 0, .null, .int 0, .int 0]))] H := hP
  have hD : va_D A [(h0, .inr (2, [.null, .int 0, .int 0, .int 0, .int 0, .null, .int 0, .int 0]))] := hD
  refine lv_aload_n hx hb dX2_init_14 rfl (lv_at hl 0 rfl) ?_
  refine lv_iconst (v := 0) hx hb dX2_init_15 (by decide) ?_
  refine va_put (D := D) (ci := 2) (v := .int 0) (ty := .int) (C := RX2) (T := TX2) (N := 8) hx hb xts in_X2 tyX2 tyX2_ok nmX2 hown hK hP hD hS 0 rfl rfl 3 (by decide) (xts _ m_fl_X2_18) (fun _ h9 => h9) rfl (by decide +kernel) rfl rfl (Nat.le_of_ble_eq_true rfl) dX2_init_16 (fun H locs hP hD hS => ?_)
  have hP : va_P D xcl [(h0, .inr (2, [.null, .int 0, .int 0, .int 0, .int 0, .null, .int 0, .int 0]))] H := hP
  have hD : va_D A [(h0, .inr (2, [.null, .int 0, .int 0, .int 0, .int 0, .null, .int 0, .int 0]))] := hD
  refine lv_aload_n hx hb dX2_init_19 rfl (lv_at hl 0 rfl) ?_
  refine lv_iconst (v := 0) hx hb dX2_init_20 (by decide) ?_
  refine va_put (D := D) (ci := 2) (v := .int 0) (ty := .int) (C := RX2) (T := TX2) (N := 8) hx hb xts in_X2 tyX2 tyX2_ok nmX2 hown hK hP hD hS 0 rfl rfl 4 (by decide) (xts _ m_fl_X2_21) (fun _ h9 => h9) rfl (by decide +kernel) rfl rfl (Nat.le_of_ble_eq_true rfl) dX2_init_21 (fun H locs hP hD hS => ?_)
  have hP : va_P D xcl [(h0, .inr (2, [.null, .int 0, .int 0, .int 0, .int 0, .null, .int 0, .int 0]))] H := hP
  have hD : va_D A [(h0, .inr (2, [.null, .int 0, .int 0, .int 0, .int 0, .null, .int 0, .int 0]))] := hD
  refine lv_aload_n hx hb dX2_init_24 rfl (lv_at hl 0 rfl) ?_
  refine lv_sipush (v := 480) hx hb dX2_init_25 (by decide) ?_
  refine va_newa (atype := .int) (ty := .int) hx hb (xts _ m_aci) rfl hK hP hD hS hA (N' := 480) (a0 := (480, .inl (fun _ => 0))) (fun _ => rfl) (by decide) (by decide) (by decide) (show 0 + 1 ≤ 1 by decide) (show 0 + 480 ≤ 480 by decide) dX2_init_28 (fun q28 cA H hK2 hP hD hS => ?_)
  obtain rfl : cI = cA := ac_1 (i := 0) (j := 2) hK2 rfl rfl
  clear hK2
  have hP : va_P D xcl [(h0, .inr (2, [.null, .int 0, .int 0, .int 0, .int 0, .null, .int 0, .int 0])), (q28, .inl (cI, 480, .inl (fun _ => 0)))] H := hP
  have hD : va_D A [(h0, .inr (2, [.null, .int 0, .int 0, .int 0, .int 0, .null, .int 0, .int 0])), (q28, .inl (cI, 480, .inl (fun _ => 0)))] := hD
  refine W.widen (k := 1) (n := 480) (by decide) (by decide) ?_
  refine va_putF (D := D) (ci := 2) (v := .ref q28) (ty := .array .int) (C := RX2) (T := TX2) (N := 8) hx hb xts in_X2 tyX2 tyX2_ok nmX2 hown hK hP hD hS 0 rfl rfl 5 (by decide) (xts _ m_fl_X2_24) (fun _ h9 => h9) rfl hin rfl (by decide +kernel) rfl rfl (Nat.le_of_ble_eq_true rfl) dX2_init_30 (fun H locs hP hD hS => ?_)
  have hP : va_P D xcl [(h0, .inr (2, [.null, .int 0, .int 0, .int 0, .int 0, .ref q28, .int 0, .int 0])), (q28, .inl (cI, 480, .inl (fun _ => 0)))] H := hP
  have hD : va_D A [(h0, .inr (2, [.null, .int 0, .int 0, .int 0, .int 0, .ref q28, .int 0, .int 0])), (q28, .inl (cI, 480, .inl (fun _ => 0)))] := hD
  refine lv_aload_n hx hb dX2_init_33 rfl (lv_at hl 0 rfl) ?_
  refine lv_iconst (v := 0) hx hb dX2_init_34 (by decide) ?_
  refine va_put (D := D) (ci := 2) (v := .int 0) (ty := .int) (C := RX2) (T := TX2) (N := 8) hx hb xts in_X2 tyX2 tyX2_ok nmX2 hown hK hP hD hS 0 rfl rfl 6 (by decide) (xts _ m_fl_X2_28) (fun _ h9 => h9) rfl (by decide +kernel) rfl rfl (Nat.le_of_ble_eq_true rfl) dX2_init_35 (fun H locs hP hD hS => ?_)
  have hP : va_P D xcl [(h0, .inr (2, [.null, .int 0, .int 0, .int 0, .int 0, .ref q28, .int 0, .int 0])), (q28, .inl (cI, 480, .inl (fun _ => 0)))] H := hP
  have hD : va_D A [(h0, .inr (2, [.null, .int 0, .int 0, .int 0, .int 0, .ref q28, .int 0, .int 0])), (q28, .inl (cI, 480, .inl (fun _ => 0)))] := hD
  refine lv_aload_n hx hb dX2_init_38 rfl (lv_at hl 0 rfl) ?_
  refine lv_iconst (v := 0) hx hb dX2_init_39 (by decide) ?_
  refine va_put (D := D) (ci := 2) (v := .int 0) (ty := .int) (C := RX2) (T := TX2) (N := 8) hx hb xts in_X2 tyX2 tyX2_ok nmX2 hown hK hP hD hS 0 rfl rfl 7 (by decide) (xts _ m_fl_X2_31) (fun _ h9 => h9) rfl (by decide +kernel) rfl rfl (Nat.le_of_ble_eq_true rfl) dX2_init_40 (fun H locs hP hD hS => ?_)
  have hP : va_P D xcl [(h0, .inr (2, [.null, .int 0, .int 0, .int 0, .int 0, .ref q28, .int 0, .int 0])), (q28, .inl (cI, 480, .inl (fun _ => 0)))] H := hP
  have hD : va_D A [(h0, .inr (2, [.null, .int 0, .int 0, .int 0, .int 0, .ref q28, .int 0, .int 0])), (q28, .inl (cI, 480, .inl (fun _ => 0)))] := hD
  refine lv_aload_n hx hb dX2_init_43 rfl (lv_at hl 0 rfl) ?_
  refine lv_aload_n hx hb dX2_init_44 rfl (lv_at hl 1 rfl) ?_
  refine va_putF (D := D) (ci := 2) (v := .ref r1) (ty := .object "StrangerRopes$Tape") (C := RX2) (T := TX2) (N := 8) hx hb xts in_X2 tyX2 tyX2_ok nmX2 hown hK hP hD hS 0 rfl rfl 0 (by decide) (xts _ m_fl_X2_34) (fun _ h9 => h9) rfl hin rfl (by decide +kernel) rfl rfl (Nat.le_of_ble_eq_true rfl) dX2_init_45 (fun H locs hP hD hS => ?_)
  have hP : va_P D xcl [(h0, .inr (2, [.ref r1, .int 0, .int 0, .int 0, .int 0, .ref q28, .int 0, .int 0])), (q28, .inl (cI, 480, .inl (fun _ => 0)))] H := hP
  have hD : va_D A [(h0, .inr (2, [.ref r1, .int 0, .int 0, .int 0, .int 0, .ref q28, .int 0, .int 0])), (q28, .inl (cI, 480, .inl (fun _ => 0)))] := hD
  exact W.vret hx hb hr (fun t ht hW => ⟨⟨(), rfl, trivial, q28, by rw [ht]; exact hP, va_K.moved hW.alike hK, hD⟩, hS.F ht⟩) hS.2.2 dX2_init_48
theorem dX1_init_0 : decode cX1_init 0 = .ok (.aload_n 0, 1) := by decide +kernel
theorem dX1_init_1 : decode cX1_init 1 = .ok (.invokespecial 3, 3) := by decide +kernel
theorem dX1_init_4 : decode cX1_init 4 = .ok (.aload_n 0, 1) := by decide +kernel
theorem dX1_init_5 : decode cX1_init 5 = .ok (.iconst 0, 1) := by decide +kernel
theorem dX1_init_6 : decode cX1_init 6 = .ok (.putfield 9, 3) := by decide +kernel
theorem dX1_init_9 : decode cX1_init 9 = .ok (.aload_n 0, 1) := by decide +kernel
theorem dX1_init_10 : decode cX1_init 10 = .ok (.iconst 0, 1) := by decide +kernel
theorem dX1_init_11 : decode cX1_init 11 = .ok (.putfield 15, 3) := by decide +kernel
theorem dX1_init_14 : decode cX1_init 14 = .ok (.aload_n 0, 1) := by decide +kernel
theorem dX1_init_15 : decode cX1_init 15 = .ok (.bipush 8, 2) := by decide +kernel
theorem dX1_init_17 : decode cX1_init 17 = .ok (.newarray .int, 2) := by decide +kernel
theorem dX1_init_19 : decode cX1_init 19 = .ok (.putfield 18, 3) := by decide +kernel
theorem dX1_init_22 : decode cX1_init 22 = .ok (.aload_n 0, 1) := by decide +kernel
theorem dX1_init_23 : decode cX1_init 23 = .ok (.bipush 8, 2) := by decide +kernel
theorem dX1_init_25 : decode cX1_init 25 = .ok (.newarray .int, 2) := by decide +kernel
theorem dX1_init_27 : decode cX1_init 27 = .ok (.putfield 22, 3) := by decide +kernel
theorem dX1_init_30 : decode cX1_init 30 = .ok (.aload_n 0, 1) := by decide +kernel
theorem dX1_init_31 : decode cX1_init 31 = .ok (.bipush 8, 2) := by decide +kernel
theorem dX1_init_33 : decode cX1_init 33 = .ok (.newarray .int, 2) := by decide +kernel
theorem dX1_init_35 : decode cX1_init 35 = .ok (.putfield 25, 3) := by decide +kernel
theorem dX1_init_38 : decode cX1_init 38 = .ok (.aload_n 0, 1) := by decide +kernel
theorem dX1_init_39 : decode cX1_init 39 = .ok (.bipush 8, 2) := by decide +kernel
theorem dX1_init_41 : decode cX1_init 41 = .ok (.newarray .int, 2) := by decide +kernel
theorem dX1_init_43 : decode cX1_init 43 = .ok (.putfield 28, 3) := by decide +kernel
theorem dX1_init_46 : decode cX1_init 46 = .ok (.aload_n 0, 1) := by decide +kernel
theorem dX1_init_47 : decode cX1_init 47 = .ok (.bipush 8, 2) := by decide +kernel
theorem dX1_init_49 : decode cX1_init 49 = .ok (.newarray .int, 2) := by decide +kernel
theorem dX1_init_51 : decode cX1_init 51 = .ok (.putfield 31, 3) := by decide +kernel
theorem dX1_init_54 : decode cX1_init 54 = .ok (.aload_n 0, 1) := by decide +kernel
theorem dX1_init_55 : decode cX1_init 55 = .ok (.bipush 8, 2) := by decide +kernel
theorem dX1_init_57 : decode cX1_init 57 = .ok (.newarray .int, 2) := by decide +kernel
theorem dX1_init_59 : decode cX1_init 59 = .ok (.putfield 34, 3) := by decide +kernel
theorem dX1_init_62 : decode cX1_init 62 = .ok (.aload_n 0, 1) := by decide +kernel
theorem dX1_init_63 : decode cX1_init 63 = .ok (.bipush 8, 2) := by decide +kernel
theorem dX1_init_65 : decode cX1_init 65 = .ok (.newarray .int, 2) := by decide +kernel
theorem dX1_init_67 : decode cX1_init 67 = .ok (.putfield 37, 3) := by decide +kernel
theorem dX1_init_70 : decode cX1_init 70 = .ok (.aload_n 0, 1) := by decide +kernel
theorem dX1_init_71 : decode cX1_init 71 = .ok (.bipush 8, 2) := by decide +kernel
theorem dX1_init_73 : decode cX1_init 73 = .ok (.newarray .int, 2) := by decide +kernel
theorem dX1_init_75 : decode cX1_init 75 = .ok (.putfield 40, 3) := by decide +kernel
theorem dX1_init_78 : decode cX1_init 78 = .ok (.aload_n 0, 1) := by decide +kernel
theorem dX1_init_79 : decode cX1_init 79 = .ok (.bipush 8, 2) := by decide +kernel
theorem dX1_init_81 : decode cX1_init 81 = .ok (.newarray .int, 2) := by decide +kernel
theorem dX1_init_83 : decode cX1_init 83 = .ok (.putfield 43, 3) := by decide +kernel
theorem dX1_init_86 : decode cX1_init 86 = .ok (.aload_n 0, 1) := by decide +kernel
theorem dX1_init_87 : decode cX1_init 87 = .ok (.iconst 0, 1) := by decide +kernel
theorem dX1_init_88 : decode cX1_init 88 = .ok (.putfield 46, 3) := by decide +kernel
theorem dX1_init_91 : decode cX1_init 91 = .ok (.aload_n 0, 1) := by decide +kernel
theorem dX1_init_92 : decode cX1_init 92 = .ok (.iconst (-1), 1) := by decide +kernel
theorem dX1_init_93 : decode cX1_init 93 = .ok (.putfield 49, 3) := by decide +kernel
theorem dX1_init_96 : decode cX1_init 96 = .ok (.aload_n 0, 1) := by decide +kernel
theorem dX1_init_97 : decode cX1_init 97 = .ok (.aload_n 1, 1) := by decide +kernel
theorem dX1_init_98 : decode cX1_init 98 = .ok (.putfield 52, 3) := by decide +kernel
theorem dX1_init_101 : decode cX1_init 101 = .ok (.return_, 1) := by decide +kernel
set_option maxHeartbeats 4000000 in
set_option maxRecDepth 100000 in
theorem k_X1_init (l : Launch) (D : va_G) (cI cS : ClassId) (h0 sz : Nat) (r1 : Nat) : Met l yX1_init (.code yX1_init cX1_init 2 none :: xtbl) ({ frames := 1, cells := 9, slots := 72, locals := 12 }) (va_Pc [.ref h0, .ref r1] (fun U => U.heap.size = sz ∧ va_P D xcl [(h0, .inr (1, [.null, .int 0, .int 0, .null, .null, .null, .null, .null, .null, .null, .null, .null, .int 0, .int 0]))] U.heap ∧ va_K D xcl [(cI, .int), (cS, .object "java/lang/String")] U ∧ va_D (fun _ => True) [(h0, .inr (1, [.null, .int 0, .int 0, .null, .null, .null, .null, .null, .null, .null, .null, .null, .int 0, .int 0]))])) (va_Qv (fun _ : Unit => True) (fun _ t => ∃ q17 q25 q33 q41 q49 q57 q65 q73 q81 : Nat, va_P D xcl [(h0, .inr (1, [.ref r1, .int 0, .int 0, .ref q17, .ref q25, .ref q33, .ref q41, .ref q49, .ref q57, .ref q65, .ref q73, .ref q81, .int 0, .int (-1)])), (q17, .inl (cI, 8, .inl (fun _ => 0))), (q25, .inl (cI, 8, .inl (fun _ => 0))), (q33, .inl (cI, 8, .inl (fun _ => 0))), (q41, .inl (cI, 8, .inl (fun _ => 0))), (q49, .inl (cI, 8, .inl (fun _ => 0))), (q57, .inl (cI, 8, .inl (fun _ => 0))), (q65, .inl (cI, 8, .inl (fun _ => 0))), (q73, .inl (cI, 8, .inl (fun _ => 0))), (q81, .inl (cI, 8, .inl (fun _ => 0)))] t.heap ∧ va_K D xcl [(cI, .int), (cS, .object "java/lang/String")] t ∧ va_D (va_A [(h0, .inr (1, [.null, .int 0, .int 0, .null, .null, .null, .null, .null, .null, .null, .null, .null, .int 0, .int 0]))] sz) [(h0, .inr (1, [.ref r1, .int 0, .int 0, .ref q17, .ref q25, .ref q33, .ref q41, .ref q49, .ref q57, .ref q65, .ref q73, .ref q81, .int 0, .int (-1)])), (q17, .inl (cI, 8, .inl (fun _ => 0))), (q25, .inl (cI, 8, .inl (fun _ => 0))), (q33, .inl (cI, 8, .inl (fun _ => 0))), (q41, .inl (cI, 8, .inl (fun _ => 0))), (q49, .inl (cI, 8, .inl (fun _ => 0))), (q57, .inl (cI, 8, .inl (fun _ => 0))), (q65, .inl (cI, 8, .inl (fun _ => 0))), (q73, .inl (cI, 8, .inl (fun _ => 0))), (q81, .inl (cI, 8, .inl (fun _ => 0)))]) (va_A [(h0, .inr (1, [.null, .int 0, .int 0, .null, .null, .null, .null, .null, .null, .null, .null, .null, .int 0, .int 0]))] sz)) 9 72 (va_A [(h0, .inr (1, [.null, .int 0, .int 0, .null, .null, .null, .null, .null, .null, .null, .null, .null, .int 0, .int 0]))] sz) := by
  refine Met.ofW (cc := cX1_init) (maxL := 2) (ret := none) (by decide) rfl ?_
  intro p e s m args below meth c s₁ B hml hv
  obtain ⟨rfl, hsz, hP, hK, hD0⟩ := hv
  have hx := B.exec
  have hb := B.bytes
  have hr := B.returns
  have hts := atoms_spec (ws := .code yX1_init cX1_init 2 none :: xtbl) B.pre
  have xts : ∀ w ∈ xtbl, w.before [.ref h0, .ref r1].toArray s = true := fun w hw => hts w (List.mem_cons_of_mem _ hw)
  have hown : s.vm.findClass RX1 = some m.cls := findClass_of_methodNamed B.named
  have hin : meth.name = "<init>" := (name_of_methodNamed B.named B.method).1
  subst hsz
  have hD := hD0.self (sz := s.heap.size)
  generalize hAe : va_A [(h0, .inr (1, [.null, .int 0, .int 0, .null, .null, .null, .null, .null, .null, .null, .null, .null, .int 0, .int 0]))] s.heap.size = A at hD ⊢
  have hA : ∀ q : Nat, s.heap.size ≤ q → A q := fun q h => by rw [← hAe]; exact Or.inr h
  have hS : va_S A s.heap s.heap [] := va_S.rf
  have hP : va_P D xcl [(h0, .inr (1, [.null, .int 0, .int 0, .null, .null, .null, .null, .null, .null, .null, .null, .null, .int 0, .int 0]))] s.heap := hP
  have hl := lv_entry ([.ref h0, .ref r1]) (n := 2) (Nat.le_of_ble_eq_true rfl)
  rw [lg_entry_eq]
  generalize (lg_sl ([.ref h0, .ref r1]) ++ List.replicate (2 - (lg_sl ([.ref h0, .ref r1])).length) Slot.unset).toArray = ls at hl ⊢
  have hl : lv_has ls 2 [(0, .ref h0), (1, .ref r1)] := hl
  refine lv_aload_n hx hb dX1_init_0 rfl (lv_at hl 0 rfl) ?_
  refine W.objInit hx hb hown (xts _ m_ml_X1_3) (xts _ m_obi) (xts _ m_ob) rfl (by rw [hml]; exact hl.1) rfl dX1_init_1 (Nat.le_of_ble_eq_true rfl) (Nat.le_of_ble_eq_true rfl) ?_
  refine W.eq (g2 := F0 m 4 ls []) rfl ?_
  refine lv_aload_n hx hb dX1_init_4 rfl (lv_at hl 0 rfl) ?_
  refine lv_iconst (v := 0) hx hb dX1_init_5 (by decide) ?_
  refine va_put (D := D) (ci := 1) (v := .int 0) (ty := .int) (C := RX1) (T := TX1) (N := 14) hx hb xts in_X1 tyX1 tyX1_ok nmX1 hown hK hP hD hS 0 rfl rfl 1 (by decide) (xts _ m_fl_X1_9) (fun _ h9 => h9) rfl (by decide +kernel) rfl rfl (Nat.le_of_ble_eq_true rfl) dX1_init_6 (fun H locs hP hD hS => ?_)
  have hP : va_P D xcl [(h0, .inr (1, [.null, .int 0, .int 0, .null, .null, .null, .null, .null, .null, .null, .null, .null, .int 0, .int 0]))] H := hP
  have hD : va_D A [(h0, .inr (1, [.null, .int 0, .int 0, .null, .null, .null, .null, .null, .null, .null, .null, .null, .int 0, .int 0]))] := hD
  refine lv_aload_n hx hb dX1_init_9 rfl (lv_at hl 0 rfl) ?_
  refine lv_iconst (v := 0) hx hb dX1_init_10 (by decide) ?_
  refine va_put (D := D) (ci := 1) (v := .int 0) (ty := .int) (C := RX1) (T := TX1) (N := 14) hx hb xts in_X1 tyX1 tyX1_ok nmX1 hown hK hP hD hS 0 rfl rfl 2 (by decide) (xts _ m_fl_X1_15) (fun _ h9 => h9) rfl (by decide +kernel) rfl rfl (Nat.le_of_ble_eq_true rfl) dX1_init_11 (fun H locs hP hD hS => ?_)
  have hP : va_P D xcl [(h0, .inr (1, [.null, .int 0, .int 0, .null, .null, .null, .null, .null, .null, .null, .null, .null, .int 0, .int 0]))] H := hP
  have hD : va_D A [(h0, .inr (1, [.null, .int 0, .int 0, .null, .null, .null, .null, .null, .null, .null, .null, .null, .int 0, .int 0]))] := hD
  refine lv_aload_n hx hb dX1_init_14 rfl (lv_at hl 0 rfl) ?_
  refine lv_bipush (v := 8) hx hb dX1_init_15 (by decide) ?_
  refine va_newa (atype := .int) (ty := .int) hx hb (xts _ m_aci) rfl hK hP hD hS hA (N' := 8) (a0 := (8, .inl (fun _ => 0))) (fun _ => rfl) (by decide) (by decide) (by decide) (show 0 + 1 ≤ 9 by decide) (show 0 + 8 ≤ 72 by decide) dX1_init_17 (fun q17 cA H hK2 hP hD hS => ?_)
  obtain rfl : cI = cA := ac_1 (i := 0) (j := 2) hK2 rfl rfl
  clear hK2
  have hP : va_P D xcl [(h0, .inr (1, [.null, .int 0, .int 0, .null, .null, .null, .null, .null, .null, .null, .null, .null, .int 0, .int 0])), (q17, .inl (cI, 8, .inl (fun _ => 0)))] H := hP
  have hD : va_D A [(h0, .inr (1, [.null, .int 0, .int 0, .null, .null, .null, .null, .null, .null, .null, .null, .null, .int 0, .int 0])), (q17, .inl (cI, 8, .inl (fun _ => 0)))] := hD
  refine W.widen (k := 1) (n := 8) (by decide) (by decide) ?_
  refine va_putF (D := D) (ci := 1) (v := .ref q17) (ty := .array .int) (C := RX1) (T := TX1) (N := 14) hx hb xts in_X1 tyX1 tyX1_ok nmX1 hown hK hP hD hS 0 rfl rfl 3 (by decide) (xts _ m_fl_X1_18) (fun _ h9 => h9) rfl hin rfl (by decide +kernel) rfl rfl (Nat.le_of_ble_eq_true rfl) dX1_init_19 (fun H locs hP hD hS => ?_)
  have hP : va_P D xcl [(h0, .inr (1, [.null, .int 0, .int 0, .ref q17, .null, .null, .null, .null, .null, .null, .null, .null, .int 0, .int 0])), (q17, .inl (cI, 8, .inl (fun _ => 0)))] H := hP
  have hD : va_D A [(h0, .inr (1, [.null, .int 0, .int 0, .ref q17, .null, .null, .null, .null, .null, .null, .null, .null, .int 0, .int 0])), (q17, .inl (cI, 8, .inl (fun _ => 0)))] := hD
  refine lv_aload_n hx hb dX1_init_22 rfl (lv_at hl 0 rfl) ?_
  refine lv_bipush (v := 8) hx hb dX1_init_23 (by decide) ?_
  refine va_newa (atype := .int) (ty := .int) hx hb (xts _ m_aci) rfl hK hP hD hS hA (N' := 8) (a0 := (8, .inl (fun _ => 0))) (fun _ => rfl) (by decide) (by decide) (by decide) (show 1 + 1 ≤ 9 by decide) (show 8 + 8 ≤ 72 by decide) dX1_init_25 (fun q25 cA H hK2 hP hD hS => ?_)
  obtain rfl : cI = cA := ac_1 (i := 0) (j := 2) hK2 rfl rfl
  clear hK2
  have hP : va_P D xcl [(h0, .inr (1, [.null, .int 0, .int 0, .ref q17, .null, .null, .null, .null, .null, .null, .null, .null, .int 0, .int 0])), (q17, .inl (cI, 8, .inl (fun _ => 0))), (q25, .inl (cI, 8, .inl (fun _ => 0)))] H := hP
  have hD : va_D A [(h0, .inr (1, [.null, .int 0, .int 0, .ref q17, .null, .null, .null, .null, .null, .null, .null, .null, .int 0, .int 0])), (q17, .inl (cI, 8, .inl (fun _ => 0))), (q25, .inl (cI, 8, .inl (fun _ => 0)))] := hD
  refine W.widen (k := 2) (n := 16) (by decide) (by decide) ?_
  refine va_putF (D := D) (ci := 1) (v := .ref q25) (ty := .array .int) (C := RX1) (T := TX1) (N := 14) hx hb xts in_X1 tyX1 tyX1_ok nmX1 hown hK hP hD hS 0 rfl rfl 4 (by decide) (xts _ m_fl_X1_22) (fun _ h9 => h9) rfl hin rfl (by decide +kernel) rfl rfl (Nat.le_of_ble_eq_true rfl) dX1_init_27 (fun H locs hP hD hS => ?_)
  have hP : va_P D xcl [(h0, .inr (1, [.null, .int 0, .int 0, .ref q17, .ref q25, .null, .null, .null, .null, .null, .null, .null, .int 0, .int 0])), (q17, .inl (cI, 8, .inl (fun _ => 0))), (q25, .inl (cI, 8, .inl (fun _ => 0)))] H := hP
  have hD : va_D A [(h0, .inr (1, [.null, .int 0, .int 0, .ref q17, .ref q25, .null, .null, .null, .null, .null, .null, .null, .int 0, .int 0])), (q17, .inl (cI, 8, .inl (fun _ => 0))), (q25, .inl (cI, 8, .inl (fun _ => 0)))] := hD
  refine lv_aload_n hx hb dX1_init_30 rfl (lv_at hl 0 rfl) ?_
  refine lv_bipush (v := 8) hx hb dX1_init_31 (by decide) ?_
  refine va_newa (atype := .int) (ty := .int) hx hb (xts _ m_aci) rfl hK hP hD hS hA (N' := 8) (a0 := (8, .inl (fun _ => 0))) (fun _ => rfl) (by decide) (by decide) (by decide) (show 2 + 1 ≤ 9 by decide) (show 16 + 8 ≤ 72 by decide) dX1_init_33 (fun q33 cA H hK2 hP hD hS => ?_)
  obtain rfl : cI = cA := ac_1 (i := 0) (j := 2) hK2 rfl rfl
  clear hK2
  have hP : va_P D xcl [(h0, .inr (1, [.null, .int 0, .int 0, .ref q17, .ref q25, .null, .null, .null, .null, .null, .null, .null, .int 0, .int 0])), (q17, .inl (cI, 8, .inl (fun _ => 0))), (q25, .inl (cI, 8, .inl (fun _ => 0))), (q33, .inl (cI, 8, .inl (fun _ => 0)))] H := hP
  have hD : va_D A [(h0, .inr (1, [.null, .int 0, .int 0, .ref q17, .ref q25, .null, .null, .null, .null, .null, .null, .null, .int 0, .int 0])), (q17, .inl (cI, 8, .inl (fun _ => 0))), (q25, .inl (cI, 8, .inl (fun _ => 0))), (q33, .inl (cI, 8, .inl (fun _ => 0)))] := hD
  refine W.widen (k := 3) (n := 24) (by decide) (by decide) ?_
  refine va_putF (D := D) (ci := 1) (v := .ref q33) (ty := .array .int) (C := RX1) (T := TX1) (N := 14) hx hb xts in_X1 tyX1 tyX1_ok nmX1 hown hK hP hD hS 0 rfl rfl 5 (by decide) (xts _ m_fl_X1_25) (fun _ h9 => h9) rfl hin rfl (by decide +kernel) rfl rfl (Nat.le_of_ble_eq_true rfl) dX1_init_35 (fun H locs hP hD hS => ?_)
  have hP : va_P D xcl [(h0, .inr (1, [.null, .int 0, .int 0, .ref q17, .ref q25, .ref q33, .null, .null, .null, .null, .null, .null, .int 0, .int 0])), (q17, .inl (cI, 8, .inl (fun _ => 0))), (q25, .inl (cI, 8, .inl (fun _ => 0))), (q33, .inl (cI, 8, .inl (fun _ => 0)))] H := hP
  have hD : va_D A [(h0, .inr (1, [.null, .int 0, .int 0, .ref q17, .ref q25, .ref q33, .null, .null, .null, .null, .null, .null, .int 0, .int 0])), (q17, .inl (cI, 8, .inl (fun _ => 0))), (q25, .inl (cI, 8, .inl (fun _ => 0))), (q33, .inl (cI, 8, .inl (fun _ => 0)))] := hD
  refine lv_aload_n hx hb dX1_init_38 rfl (lv_at hl 0 rfl) ?_
  refine lv_bipush (v := 8) hx hb dX1_init_39 (by decide) ?_
  refine va_newa (atype := .int) (ty := .int) hx hb (xts _ m_aci) rfl hK hP hD hS hA (N' := 8) (a0 := (8, .inl (fun _ => 0))) (fun _ => rfl) (by decide) (by decide) (by decide) (show 3 + 1 ≤ 9 by decide) (show 24 + 8 ≤ 72 by decide) dX1_init_41 (fun q41 cA H hK2 hP hD hS => ?_)
  obtain rfl : cI = cA := ac_1 (i := 0) (j := 2) hK2 rfl rfl
  clear hK2
  have hP : va_P D xcl [(h0, .inr (1, [.null, .int 0, .int 0, .ref q17, .ref q25, .ref q33, .null, .null, .null, .null, .null, .null, .int 0, .int 0])), (q17, .inl (cI, 8, .inl (fun _ => 0))), (q25, .inl (cI, 8, .inl (fun _ => 0))), (q33, .inl (cI, 8, .inl (fun _ => 0))), (q41, .inl (cI, 8, .inl (fun _ => 0)))] H := hP
  have hD : va_D A [(h0, .inr (1, [.null, .int 0, .int 0, .ref q17, .ref q25, .ref q33, .null, .null, .null, .null, .null, .null, .int 0, .int 0])), (q17, .inl (cI, 8, .inl (fun _ => 0))), (q25, .inl (cI, 8, .inl (fun _ => 0))), (q33, .inl (cI, 8, .inl (fun _ => 0))), (q41, .inl (cI, 8, .inl (fun _ => 0)))] := hD
  refine W.widen (k := 4) (n := 32) (by decide) (by decide) ?_
  refine va_putF (D := D) (ci := 1) (v := .ref q41) (ty := .array .int) (C := RX1) (T := TX1) (N := 14) hx hb xts in_X1 tyX1 tyX1_ok nmX1 hown hK hP hD hS 0 rfl rfl 6 (by decide) (xts _ m_fl_X1_28) (fun _ h9 => h9) rfl hin rfl (by decide +kernel) rfl rfl (Nat.le_of_ble_eq_true rfl) dX1_init_43 (fun H locs hP hD hS => ?_)
  have hP : va_P D xcl [(h0, .inr (1, [.null, .int 0, .int 0, .ref q17, .ref q25, .ref q33, .ref q41, .null, .null, .null, .null, .null, .int 0, .int 0])), (q17, .inl (cI, 8, .inl (fun _ => 0))), (q25, .inl (cI, 8, .inl (fun _ => 0))), (q33, .inl (cI, 8, .inl (fun _ => 0))), (q41, .inl (cI, 8, .inl (fun _ => 0)))] H := hP
  have hD : va_D A [(h0, .inr (1, [.null, .int 0, .int 0, .ref q17, .ref q25, .ref q33, .ref q41, .null, .null, .null, .null, .null, .int 0, .int 0])), (q17, .inl (cI, 8, .inl (fun _ => 0))), (q25, .inl (cI, 8, .inl (fun _ => 0))), (q33, .inl (cI, 8, .inl (fun _ => 0))), (q41, .inl (cI, 8, .inl (fun _ => 0)))] := hD
  refine lv_aload_n hx hb dX1_init_46 rfl (lv_at hl 0 rfl) ?_
  refine lv_bipush (v := 8) hx hb dX1_init_47 (by decide) ?_
  refine va_newa (atype := .int) (ty := .int) hx hb (xts _ m_aci) rfl hK hP hD hS hA (N' := 8) (a0 := (8, .inl (fun _ => 0))) (fun _ => rfl) (by decide) (by decide) (by decide) (show 4 + 1 ≤ 9 by decide) (show 32 + 8 ≤ 72 by decide) dX1_init_49 (fun q49 cA H hK2 hP hD hS => ?_)
  obtain rfl : cI = cA := ac_1 (i := 0) (j := 2) hK2 rfl rfl
  clear hK2
  have hP : va_P D xcl [(h0, .inr (1, [.null, .int 0, .int 0, .ref q17, .ref q25, .ref q33, .ref q41, .null, .null, .null, .null, .null, .int 0, .int 0])), (q17, .inl (cI, 8, .inl (fun _ => 0))), (q25, .inl (cI, 8, .inl (fun _ => 0))), (q33, .inl (cI, 8, .inl (fun _ => 0))), (q41, .inl (cI, 8, .inl (fun _ => 0))), (q49, .inl (cI, 8, .inl (fun _ => 0)))] H := hP
  have hD : va_D A [(h0, .inr (1, [.null, .int 0, .int 0, .ref q17, .ref q25, .ref q33, .ref q41, .null, .null, .null, .null, .null, .int 0, .int 0])), (q17, .inl (cI, 8, .inl (fun _ => 0))), (q25, .inl (cI, 8, .inl (fun _ => 0))), (q33, .inl (cI, 8, .inl (fun _ => 0))), (q41, .inl (cI, 8, .inl (fun _ => 0))), (q49, .inl (cI, 8, .inl (fun _ => 0)))] := hD
  refine W.widen (k := 5) (n := 40) (by decide) (by decide) ?_
  refine va_putF (D := D) (ci := 1) (v := .ref q49) (ty := .array .int) (C := RX1) (T := TX1) (N := 14) hx hb xts in_X1 tyX1 tyX1_ok nmX1 hown hK hP hD hS 0 rfl rfl 7 (by decide) (xts _ m_fl_X1_31) (fun _ h9 => h9) rfl hin rfl (by decide +kernel) rfl rfl (Nat.le_of_ble_eq_true rfl) dX1_init_51 (fun H locs hP hD hS => ?_)
  have hP : va_P D xcl [(h0, .inr (1, [.null, .int 0, .int 0, .ref q17, .ref q25, .ref q33, .ref q41, .ref q49, .null, .null, .null, .null, .int 0, .int 0])), (q17, .inl (cI, 8, .inl (fun _ => 0))), (q25, .inl (cI, 8, .inl (fun _ => 0))), (q33, .inl (cI, 8, .inl (fun _ => 0))), (q41, .inl (cI, 8, .inl (fun _ => 0))), (q49, .inl (cI, 8, .inl (fun _ => 0)))] H := hP
  have hD : va_D A [(h0, .inr (1, [.null, .int 0, .int 0, .ref q17, .ref q25, .ref q33, .ref q41, .ref q49, .null, .null, .null, .null, .int 0, .int 0])), (q17, .inl (cI, 8, .inl (fun _ => 0))), (q25, .inl (cI, 8, .inl (fun _ => 0))), (q33, .inl (cI, 8, .inl (fun _ => 0))), (q41, .inl (cI, 8, .inl (fun _ => 0))), (q49, .inl (cI, 8, .inl (fun _ => 0)))] := hD
  refine lv_aload_n hx hb dX1_init_54 rfl (lv_at hl 0 rfl) ?_
  refine lv_bipush (v := 8) hx hb dX1_init_55 (by decide) ?_
  refine va_newa (atype := .int) (ty := .int) hx hb (xts _ m_aci) rfl hK hP hD hS hA (N' := 8) (a0 := (8, .inl (fun _ => 0))) (fun _ => rfl) (by decide) (by decide) (by decide) (show 5 + 1 ≤ 9 by decide) (show 40 + 8 ≤ 72 by decide) dX1_init_57 (fun q57 cA H hK2 hP hD hS => ?_)
  obtain rfl : cI = cA := ac_1 (i := 0) (j := 2) hK2 rfl rfl
  clear hK2
  have hP : va_P D xcl [(h0, .inr (1, [.null, .int 0, .int 0, .ref q17, .ref q25, .ref q33, .ref q41, .ref q49, .null, .null, .null, .null, .int 0, .int 0])), (q17, .inl (cI, 8, .inl (fun _ => 0))), (q25, .inl (cI, 8, .inl (fun _ => 0))), (q33, .inl (cI, 8, .inl (fun _ => 0))), (q41, .inl (cI, 8, .inl (fun _ => 0))), (q49, .inl (cI, 8, .inl (fun _ => 0))), (q57, .inl (cI, 8, .inl (fun _ => 0)))] H := hP
  have hD : va_D A [(h0, .inr (1, [.null, .int 0, .int 0, .ref q17, .ref q25, .ref q33, .ref q41, .ref q49, .null, .null, .null, .null, .int 0, .int 0])), (q17, .inl (cI, 8, .inl (fun _ => 0))), (q25, .inl (cI, 8, .inl (fun _ => 0))), (q33, .inl (cI, 8, .inl (fun _ => 0))), (q41, .inl (cI, 8, .inl (fun _ => 0))), (q49, .inl (cI, 8, .inl (fun _ => 0))), (q57, .inl (cI, 8, .inl (fun _ => 0)))] := hD
  refine W.widen (k := 6) (n := 48) (by decide) (by decide) ?_
  refine va_putF (D := D) (ci := 1) (v := .ref q57) (ty := .array .int) (C := RX1) (T := TX1) (N := 14) hx hb xts in_X1 tyX1 tyX1_ok nmX1 hown hK hP hD hS 0 rfl rfl 8 (by decide) (xts _ m_fl_X1_34) (fun _ h9 => h9) rfl hin rfl (by decide +kernel) rfl rfl (Nat.le_of_ble_eq_true rfl) dX1_init_59 (fun H locs hP hD hS => ?_)
  have hP : va_P D xcl [(h0, .inr (1, [.null, .int 0, .int 0, .ref q17, .ref q25, .ref q33, .ref q41, .ref q49, .ref q57, .null, .null, .null, .int 0, .int 0])), (q17, .inl (cI, 8, .inl (fun _ => 0))), (q25, .inl (cI, 8, .inl (fun _ => 0))), (q33, .inl (cI, 8, .inl (fun _ => 0))), (q41, .inl (cI, 8, .inl (fun _ => 0))), (q49, .inl (cI, 8, .inl (fun _ => 0))), (q57, .inl (cI, 8, .inl (fun _ => 0)))] H := hP
  have hD : va_D A [(h0, .inr (1, [.null, .int 0, .int 0, .ref q17, .ref q25, .ref q33, .ref q41, .ref q49, .ref q57, .null, .null, .null, .int 0, .int 0])), (q17, .inl (cI, 8, .inl (fun _ => 0))), (q25, .inl (cI, 8, .inl (fun _ => 0))), (q33, .inl (cI, 8, .inl (fun _ => 0))), (q41, .inl (cI, 8, .inl (fun _ => 0))), (q49, .inl (cI, 8, .inl (fun _ => 0))), (q57, .inl (cI, 8, .inl (fun _ => 0)))] := hD
  refine lv_aload_n hx hb dX1_init_62 rfl (lv_at hl 0 rfl) ?_
  refine lv_bipush (v := 8) hx hb dX1_init_63 (by decide) ?_
  refine va_newa (atype := .int) (ty := .int) hx hb (xts _ m_aci) rfl hK hP hD hS hA (N' := 8) (a0 := (8, .inl (fun _ => 0))) (fun _ => rfl) (by decide) (by decide) (by decide) (show 6 + 1 ≤ 9 by decide) (show 48 + 8 ≤ 72 by decide) dX1_init_65 (fun q65 cA H hK2 hP hD hS => ?_)
  obtain rfl : cI = cA := ac_1 (i := 0) (j := 2) hK2 rfl rfl
  clear hK2
  have hP : va_P D xcl [(h0, .inr (1, [.null, .int 0, .int 0, .ref q17, .ref q25, .ref q33, .ref q41, .ref q49, .ref q57, .null, .null, .null, .int 0, .int 0])), (q17, .inl (cI, 8, .inl (fun _ => 0))), (q25, .inl (cI, 8, .inl (fun _ => 0))), (q33, .inl (cI, 8, .inl (fun _ => 0))), (q41, .inl (cI, 8, .inl (fun _ => 0))), (q49, .inl (cI, 8, .inl (fun _ => 0))), (q57, .inl (cI, 8, .inl (fun _ => 0))), (q65, .inl (cI, 8, .inl (fun _ => 0)))] H := hP
  have hD : va_D A [(h0, .inr (1, [.null, .int 0, .int 0, .ref q17, .ref q25, .ref q33, .ref q41, .ref q49, .ref q57, .null, .null, .null, .int 0, .int 0])), (q17, .inl (cI, 8, .inl (fun _ => 0))), (q25, .inl (cI, 8, .inl (fun _ => 0))), (q33, .inl (cI, 8, .inl (fun _ => 0))), (q41, .inl (cI, 8, .inl (fun _ => 0))), (q49, .inl (cI, 8, .inl (fun _ => 0))), (q57, .inl (cI, 8, .inl (fun _ => 0))), (q65, .inl (cI, 8, .inl (fun _ => 0)))] := hD
  refine W.widen (k := 7) (n := 56) (by decide) (by decide) ?_
  refine va_putF (D := D) (ci := 1) (v := .ref q65) (ty := .array .int) (C := RX1) (T := TX1) (N := 14) hx hb xts in_X1 tyX1 tyX1_ok nmX1 hown hK hP hD hS 0 rfl rfl 9 (by decide) (xts _ m_fl_X1_37) (fun _ h9 => h9) rfl hin rfl (by decide +kernel) rfl rfl (Nat.le_of_ble_eq_true rfl) dX1_init_67 (fun H locs hP hD hS => ?_)
  have hP : va_P D xcl [(h0, .inr (1, [.null, .int 0, .int 0, .ref q17, .ref q25, .ref q33, .ref q41, .ref q49, .ref q57, .ref q65, .null, .null, .int 0, .int 0])), (q17, .inl (cI, 8, .inl (fun _ => 0))), (q25, .inl (cI, 8, .inl (fun _ => 0))), (q33, .inl (cI, 8, .inl (fun _ => 0))), (q41, .inl (cI, 8, .inl (fun _ => 0))), (q49, .inl (cI, 8, .inl (fun _ => 0))), (q57, .inl (cI, 8, .inl (fun _ => 0))), (q65, .inl (cI, 8, .inl (fun _ => 0)))] H := hP
  have hD : va_D A [(h0, .inr (1, [.null, .int 0, .int 0, .ref q17, .ref q25, .ref q33, .ref q41, .ref q49, .ref q57, .ref q65, .null, .null, .int 0, .int 0])), (q17, .inl (cI, 8, .inl (fun _ => 0))), (q25, .inl (cI, 8, .inl (fun _ => 0))), (q33, .inl (cI, 8, .inl (fun _ => 0))), (q41, .inl (cI, 8, .inl (fun _ => 0))), (q49, .inl (cI, 8, .inl (fun _ => 0))), (q57, .inl (cI, 8, .inl (fun _ => 0))), (q65, .inl (cI, 8, .inl (fun _ => 0)))] := hD
  refine lv_aload_n hx hb dX1_init_70 rfl (lv_at hl 0 rfl) ?_
  refine lv_bipush (v := 8) hx hb dX1_init_71 (by decide) ?_
  refine va_newa (atype := .int) (ty := .int) hx hb (xts _ m_aci) rfl hK hP hD hS hA (N' := 8) (a0 := (8, .inl (fun _ => 0))) (fun _ => rfl) (by decide) (by decide) (by decide) (show 7 + 1 ≤ 9 by decide) (show 56 + 8 ≤ 72 by decide) dX1_init_73 (fun q73 cA H hK2 hP hD hS => ?_)
  obtain rfl : cI = cA := ac_1 (i := 0) (j := 2) hK2 rfl rfl
  clear hK2
  have hP : va_P D xcl [(h0, .inr (1, [.null, .int 0, .int 0, .ref q17, .ref q25, .ref q33, .ref q41, .ref q49, .ref q57, .ref q65, .null, .null, .int 0, .int 0])), (q17, .inl (cI, 8, .inl (fun _ => 0))), (q25, .inl (cI, 8, .inl (fun _ => 0))), (q33, .inl (cI, 8, .inl (fun _ => 0))), (q41, .inl (cI, 8, .inl (fun _ => 0))), (q49, .inl (cI, 8, .inl (fun _ => 0))), (q57, .inl (cI, 8, .inl (fun _ => 0))), (q65, .inl (cI, 8, .inl (fun _ => 0))), (q73, .inl (cI, 8, .inl (fun _ => 0)))] H := hP
  have hD : va_D A [(h0, .inr (1, [.null, .int 0, .int 0, .ref q17, .ref q25, .ref q33, .ref q41, .ref q49, .ref q57, .ref q65, .null, .null, .int 0, .int 0])), (q17, .inl (cI, 8, .inl (fun _ => 0))), (q25, .inl (cI, 8, .inl (fun _ => 0))), (q33, .inl (cI, 8, .inl (fun _ => 0))), (q41, .inl (cI, 8, .inl (fun _ => 0))), (q49, .inl (cI, 8, .inl (fun _ => 0))), (q57, .inl (cI, 8, .inl (fun _ => 0))), (q65, .inl (cI, 8, .inl (fun _ => 0))), (q73, .inl (cI, 8, .inl (fun _ => 0)))] := hD
  refine W.widen (k := 8) (n := 64) (by decide) (by decide) ?_
  refine va_putF (D := D) (ci := 1) (v := .ref q73) (ty := .array .int) (C := RX1) (T := TX1) (N := 14) hx hb xts in_X1 tyX1 tyX1_ok nmX1 hown hK hP hD hS 0 rfl rfl 10 (by decide) (xts _ m_fl_X1_40) (fun _ h9 => h9) rfl hin rfl (by decide +kernel) rfl rfl (Nat.le_of_ble_eq_true rfl) dX1_init_75 (fun H locs hP hD hS => ?_)
  have hP : va_P D xcl [(h0, .inr (1, [.null, .int 0, .int 0, .ref q17, .ref q25, .ref q33, .ref q41, .ref q49, .ref q57, .ref q65, .ref q73, .null, .int 0, .int 0])), (q17, .inl (cI, 8, .inl (fun _ => 0))), (q25, .inl (cI, 8, .inl (fun _ => 0))), (q33, .inl (cI, 8, .inl (fun _ => 0))), (q41, .inl (cI, 8, .inl (fun _ => 0))), (q49, .inl (cI, 8, .inl (fun _ => 0))), (q57, .inl (cI, 8, .inl (fun _ => 0))), (q65, .inl (cI, 8, .inl (fun _ => 0))), (q73, .inl (cI, 8, .inl (fun _ => 0)))] H := hP
  have hD : va_D A [(h0, .inr (1, [.null, .int 0, .int 0, .ref q17, .ref q25, .ref q33, .ref q41, .ref q49, .ref q57, .ref q65, .ref q73, .null, .int 0, .int 0])), (q17, .inl (cI, 8, .inl (fun _ => 0))), (q25, .inl (cI, 8, .inl (fun _ => 0))), (q33, .inl (cI, 8, .inl (fun _ => 0))), (q41, .inl (cI, 8, .inl (fun _ => 0))), (q49, .inl (cI, 8, .inl (fun _ => 0))), (q57, .inl (cI, 8, .inl (fun _ => 0))), (q65, .inl (cI, 8, .inl (fun _ => 0))), (q73, .inl (cI, 8, .inl (fun _ => 0)))] := hD
  refine lv_aload_n hx hb dX1_init_78 rfl (lv_at hl 0 rfl) ?_
  refine lv_bipush (v := 8) hx hb dX1_init_79 (by decide) ?_
  refine va_newa (atype := .int) (ty := .int) hx hb (xts _ m_aci) rfl hK hP hD hS hA (N' := 8) (a0 := (8, .inl (fun _ => 0))) (fun _ => rfl) (by decide) (by decide) (by decide) (show 8 + 1 ≤ 9 by decide) (show 64 + 8 ≤ 72 by decide) dX1_init_81 (fun q81 cA H hK2 hP hD hS => ?_)
  obtain rfl : cI = cA := ac_1 (i := 0) (j := 2) hK2 rfl rfl
  clear hK2
  have hP : va_P D xcl [(h0, .inr (1, [.null, .int 0, .int 0, .ref q17, .ref q25, .ref q33, .ref q41, .ref q49, .ref q57, .ref q65, .ref q73, .null, .int 0, .int 0])), (q17, .inl (cI, 8, .inl (fun _ => 0))), (q25, .inl (cI, 8, .inl (fun _ => 0))), (q33, .inl (cI, 8, .inl (fun _ => 0))), (q41, .inl (cI, 8, .inl (fun _ => 0))), (q49, .inl (cI, 8, .inl (fun _ => 0))), (q57, .inl (cI, 8, .inl (fun _ => 0))), (q65, .inl (cI, 8, .inl (fun _ => 0))), (q73, .inl (cI, 8, .inl (fun _ => 0))), (q81, .inl (cI, 8, .inl (fun _ => 0)))] H := hP
  have hD : va_D A [(h0, .inr (1, [.null, .int 0, .int 0, .ref q17, .ref q25, .ref q33, .ref q41, .ref q49, .ref q57, .ref q65, .ref q73, .null, .int 0, .int 0])), (q17, .inl (cI, 8, .inl (fun _ => 0))), (q25, .inl (cI, 8, .inl (fun _ => 0))), (q33, .inl (cI, 8, .inl (fun _ => 0))), (q41, .inl (cI, 8, .inl (fun _ => 0))), (q49, .inl (cI, 8, .inl (fun _ => 0))), (q57, .inl (cI, 8, .inl (fun _ => 0))), (q65, .inl (cI, 8, .inl (fun _ => 0))), (q73, .inl (cI, 8, .inl (fun _ => 0))), (q81, .inl (cI, 8, .inl (fun _ => 0)))] := hD
  refine W.widen (k := 9) (n := 72) (by decide) (by decide) ?_
  refine va_putF (D := D) (ci := 1) (v := .ref q81) (ty := .array .int) (C := RX1) (T := TX1) (N := 14) hx hb xts in_X1 tyX1 tyX1_ok nmX1 hown hK hP hD hS 0 rfl rfl 11 (by decide) (xts _ m_fl_X1_43) (fun _ h9 => h9) rfl hin rfl (by decide +kernel) rfl rfl (Nat.le_of_ble_eq_true rfl) dX1_init_83 (fun H locs hP hD hS => ?_)
  have hP : va_P D xcl [(h0, .inr (1, [.null, .int 0, .int 0, .ref q17, .ref q25, .ref q33, .ref q41, .ref q49, .ref q57, .ref q65, .ref q73, .ref q81, .int 0, .int 0])), (q17, .inl (cI, 8, .inl (fun _ => 0))), (q25, .inl (cI, 8, .inl (fun _ => 0))), (q33, .inl (cI, 8, .inl (fun _ => 0))), (q41, .inl (cI, 8, .inl (fun _ => 0))), (q49, .inl (cI, 8, .inl (fun _ => 0))), (q57, .inl (cI, 8, .inl (fun _ => 0))), (q65, .inl (cI, 8, .inl (fun _ => 0))), (q73, .inl (cI, 8, .inl (fun _ => 0))), (q81, .inl (cI, 8, .inl (fun _ => 0)))] H := hP
  have hD : va_D A [(h0, .inr (1, [.null, .int 0, .int 0, .ref q17, .ref q25, .ref q33, .ref q41, .ref q49, .ref q57, .ref q65, .ref q73, .ref q81, .int 0, .int 0])), (q17, .inl (cI, 8, .inl (fun _ => 0))), (q25, .inl (cI, 8, .inl (fun _ => 0))), (q33, .inl (cI, 8, .inl (fun _ => 0))), (q41, .inl (cI, 8, .inl (fun _ => 0))), (q49, .inl (cI, 8, .inl (fun _ => 0))), (q57, .inl (cI, 8, .inl (fun _ => 0))), (q65, .inl (cI, 8, .inl (fun _ => 0))), (q73, .inl (cI, 8, .inl (fun _ => 0))), (q81, .inl (cI, 8, .inl (fun _ => 0)))] := hD
  refine lv_aload_n hx hb dX1_init_86 rfl (lv_at hl 0 rfl) ?_
  refine lv_iconst (v := 0) hx hb dX1_init_87 (by decide) ?_
  refine va_put (D := D) (ci := 1) (v := .int 0) (ty := .int) (C := RX1) (T := TX1) (N := 14) hx hb xts in_X1 tyX1 tyX1_ok nmX1 hown hK hP hD hS 0 rfl rfl 12 (by decide) (xts _ m_fl_X1_46) (fun _ h9 => h9) rfl (by decide +kernel) rfl rfl (Nat.le_of_ble_eq_true rfl) dX1_init_88 (fun H locs hP hD hS => ?_)
  have hP : va_P D xcl [(h0, .inr (1, [.null, .int 0, .int 0, .ref q17, .ref q25, .ref q33, .ref q41, .ref q49, .ref q57, .ref q65, .ref q73, .ref q81, .int 0, .int 0])), (q17, .inl (cI, 8, .inl (fun _ => 0))), (q25, .inl (cI, 8, .inl (fun _ => 0))), (q33, .inl (cI, 8, .inl (fun _ => 0))), (q41, .inl (cI, 8, .inl (fun _ => 0))), (q49, .inl (cI, 8, .inl (fun _ => 0))), (q57, .inl (cI, 8, .inl (fun _ => 0))), (q65, .inl (cI, 8, .inl (fun _ => 0))), (q73, .inl (cI, 8, .inl (fun _ => 0))), (q81, .inl (cI, 8, .inl (fun _ => 0)))] H := hP
  have hD : va_D A [(h0, .inr (1, [.null, .int 0, .int 0, .ref q17, .ref q25, .ref q33, .ref q41, .ref q49, .ref q57, .ref q65, .ref q73, .ref q81, .int 0, .int 0])), (q17, .inl (cI, 8, .inl (fun _ => 0))), (q25, .inl (cI, 8, .inl (fun _ => 0))), (q33, .inl (cI, 8, .inl (fun _ => 0))), (q41, .inl (cI, 8, .inl (fun _ => 0))), (q49, .inl (cI, 8, .inl (fun _ => 0))), (q57, .inl (cI, 8, .inl (fun _ => 0))), (q65, .inl (cI, 8, .inl (fun _ => 0))), (q73, .inl (cI, 8, .inl (fun _ => 0))), (q81, .inl (cI, 8, .inl (fun _ => 0)))] := hD
  refine lv_aload_n hx hb dX1_init_91 rfl (lv_at hl 0 rfl) ?_
  refine lv_iconst (v := (-1)) hx hb dX1_init_92 (by decide) ?_
  refine va_put (D := D) (ci := 1) (v := .int (-1)) (ty := .int) (C := RX1) (T := TX1) (N := 14) hx hb xts in_X1 tyX1 tyX1_ok nmX1 hown hK hP hD hS 0 rfl rfl 13 (by decide) (xts _ m_fl_X1_49) (fun _ h9 => h9) rfl (by decide +kernel) rfl rfl (Nat.le_of_ble_eq_true rfl) dX1_init_93 (fun H locs hP hD hS => ?_)
  have hP : va_P D xcl [(h0, .inr (1, [.null, .int 0, .int 0, .ref q17, .ref q25, .ref q33, .ref q41, .ref q49, .ref q57, .ref q65, .ref q73, .ref q81, .int 0, .int (-1)])), (q17, .inl (cI, 8, .inl (fun _ => 0))), (q25, .inl (cI, 8, .inl (fun _ => 0))), (q33, .inl (cI, 8, .inl (fun _ => 0))), (q41, .inl (cI, 8, .inl (fun _ => 0))), (q49, .inl (cI, 8, .inl (fun _ => 0))), (q57, .inl (cI, 8, .inl (fun _ => 0))), (q65, .inl (cI, 8, .inl (fun _ => 0))), (q73, .inl (cI, 8, .inl (fun _ => 0))), (q81, .inl (cI, 8, .inl (fun _ => 0)))] H := hP
  have hD : va_D A [(h0, .inr (1, [.null, .int 0, .int 0, .ref q17, .ref q25, .ref q33, .ref q41, .ref q49, .ref q57, .ref q65, .ref q73, .ref q81, .int 0, .int (-1)])), (q17, .inl (cI, 8, .inl (fun _ => 0))), (q25, .inl (cI, 8, .inl (fun _ => 0))), (q33, .inl (cI, 8, .inl (fun _ => 0))), (q41, .inl (cI, 8, .inl (fun _ => 0))), (q49, .inl (cI, 8, .inl (fun _ => 0))), (q57, .inl (cI, 8, .inl (fun _ => 0))), (q65, .inl (cI, 8, .inl (fun _ => 0))), (q73, .inl (cI, 8, .inl (fun _ => 0))), (q81, .inl (cI, 8, .inl (fun _ => 0)))] := hD
  refine lv_aload_n hx hb dX1_init_96 rfl (lv_at hl 0 rfl) ?_
  refine lv_aload_n hx hb dX1_init_97 rfl (lv_at hl 1 rfl) ?_
  refine va_putF (D := D) (ci := 1) (v := .ref r1) (ty := .object "StrangerRopes$Roads") (C := RX1) (T := TX1) (N := 14) hx hb xts in_X1 tyX1 tyX1_ok nmX1 hown hK hP hD hS 0 rfl rfl 0 (by decide) (xts _ m_fl_X1_52) (fun _ h9 => h9) rfl hin rfl (by decide +kernel) rfl rfl (Nat.le_of_ble_eq_true rfl) dX1_init_98 (fun H locs hP hD hS => ?_)
  have hP : va_P D xcl [(h0, .inr (1, [.ref r1, .int 0, .int 0, .ref q17, .ref q25, .ref q33, .ref q41, .ref q49, .ref q57, .ref q65, .ref q73, .ref q81, .int 0, .int (-1)])), (q17, .inl (cI, 8, .inl (fun _ => 0))), (q25, .inl (cI, 8, .inl (fun _ => 0))), (q33, .inl (cI, 8, .inl (fun _ => 0))), (q41, .inl (cI, 8, .inl (fun _ => 0))), (q49, .inl (cI, 8, .inl (fun _ => 0))), (q57, .inl (cI, 8, .inl (fun _ => 0))), (q65, .inl (cI, 8, .inl (fun _ => 0))), (q73, .inl (cI, 8, .inl (fun _ => 0))), (q81, .inl (cI, 8, .inl (fun _ => 0)))] H := hP
  have hD : va_D A [(h0, .inr (1, [.ref r1, .int 0, .int 0, .ref q17, .ref q25, .ref q33, .ref q41, .ref q49, .ref q57, .ref q65, .ref q73, .ref q81, .int 0, .int (-1)])), (q17, .inl (cI, 8, .inl (fun _ => 0))), (q25, .inl (cI, 8, .inl (fun _ => 0))), (q33, .inl (cI, 8, .inl (fun _ => 0))), (q41, .inl (cI, 8, .inl (fun _ => 0))), (q49, .inl (cI, 8, .inl (fun _ => 0))), (q57, .inl (cI, 8, .inl (fun _ => 0))), (q65, .inl (cI, 8, .inl (fun _ => 0))), (q73, .inl (cI, 8, .inl (fun _ => 0))), (q81, .inl (cI, 8, .inl (fun _ => 0)))] := hD
  exact W.vret hx hb hr (fun t ht hW => ⟨⟨(), rfl, trivial, q17, q25, q33, q41, q49, q57, q65, q73, q81, by rw [ht]; exact hP, va_K.moved hW.alike hK, hD⟩, hS.F ht⟩) hS.2.2 dX1_init_101
