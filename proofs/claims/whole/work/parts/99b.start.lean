/-! the law, from its entry -/
theorem dL_0 : decode code 0 = .ok (.new 7, 3) := by decide +kernel
theorem dL_3 : decode code 3 = .ok (.dup, 1) := by decide +kernel
theorem dL_4 : decode code 4 = .ok (.invokespecial 9, 3) := by decide +kernel
theorem dL_7 : decode code 7 = .ok (.astore_n 1, 1) := by decide +kernel
theorem dL_8 : decode code 8 = .ok (.new 10, 3) := by decide +kernel
theorem dL_11 : decode code 11 = .ok (.dup, 1) := by decide +kernel
theorem dL_12 : decode code 12 = .ok (.invokespecial 12, 3) := by decide +kernel
theorem dL_15 : decode code 15 = .ok (.astore_n 2, 1) := by decide +kernel
theorem dL_16 : decode code 16 = .ok (.iconst 0, 1) := by decide +kernel
theorem dL_17 : decode code 17 = .ok (.istore_n 3, 1) := by decide +kernel
theorem m_ins_X6 : Cond.instantiable RX6 15 ∈ xtbl := xtb (List.mem_of_getElem? (i := 110) (by decide +kernel)) (by decide +kernel)
theorem m_kl_L_7 : Cond.classLink R_law 7 RX6 ∈ xtbl := xtb (List.mem_of_getElem? (i := 109) (by decide +kernel)) (by decide +kernel)
theorem m_kl_L_10 : Cond.classLink R_law 10 RX7 ∈ xtbl := xtb (List.mem_of_getElem? (i := 1047) (by decide +kernel)) (by decide +kernel)
theorem va_P_l {D : va_G} {cl : List vw_C} {a c : va_W} {H : Heap} (h : va_P D cl (a ++ c) H) : va_P D cl a H := fun k q hk => h k q (by
  rw [List.getElem?_append_left (List.getElem?_eq_some_iff.mp hk).1]
  exact hk)
theorem va_P_r {D : va_G} {cl : List vw_C} {a c : va_W} {H : Heap} (h : va_P D cl (a ++ c) H) : va_P D cl c H := fun k q hk => h (a.length + k) q (by
  rw [List.getElem?_append_right (by omega), Nat.add_sub_cancel_left]
  exact hk)
theorem va_D_l {A : Nat → Prop} {a c : va_W} (h : va_D A (a ++ c)) : va_D A a := by
  have e : ∀ (k : Nat) (q : Nat × va_E), a[k]? = some q → (a ++ c)[k]? = some q := fun k q hk => by
    rw [List.getElem?_append_left (List.getElem?_eq_some_iff.mp hk).1]
    exact hk
  exact ⟨fun i j p q hi hj => h.1 i j p q (e i p hi) (e j q hj), fun k q hk => h.2 k q (e k q hk)⟩
theorem va_D_r {A : Nat → Prop} {a c : va_W} (h : va_D A (a ++ c)) : va_D A c := by
  have e : ∀ (k : Nat) (q : Nat × va_E), c[k]? = some q → (a ++ c)[a.length + k]? = some q := fun k q hk => by
    rw [List.getElem?_append_right (by omega), Nat.add_sub_cancel_left]
    exact hk
  exact ⟨fun i j p q hi hj z => by have := h.1 _ _ p q (e i p hi) (e j q hj) z; omega, fun k q hk => h.2 _ q (e k q hk)⟩
theorem va_D_x {A : Nat → Prop} {a : va_W} {q0 : Nat × va_E} (h : va_D A (a ++ [q0])) {k : Nat} {q : Nat × va_E} (hk : a[k]? = some q) : q.1 ≠ q0.1 := by
  intro e
  have hl := (List.getElem?_eq_some_iff.mp hk).1
  have h1 : (a ++ [q0])[k]? = some q := by
    rw [List.getElem?_append_left hl]
    exact hk
  have h2 : (a ++ [q0])[a.length]? = some q0 := by
    rw [List.getElem?_append_right (Nat.le_refl _), Nat.sub_self]
    rfl
  have := h.1 _ _ _ _ h1 h2 e
  omega
theorem xA_at {ω : xO} {M : xMem} {q : Nat} (h : xA ω q) : ∃ (k : Nat) (x : Nat × va_E), (xw ω M)[k]? = some x ∧ x.1 = q := by
  obtain ⟨k, hk, rfl⟩ := h
  exact ⟨k, _, xw_at (List.getElem?_eq_getElem hk), rfl⟩
theorem fi_D {D : va_G} {cI cS : ClassId} {f : Nat → Nat} {sh : List xS} {A : Nat → Prop} {M : xMem} {ki vi : Nat → Nat} {B : Nat → Prop} {φ ψ : State → Prop} (hB : ∀ q, B q ↔ xA (D, cI, cS, f, sh, ψ) q) (hD : va_D A (xw (D, cI, cS, f, sh, ψ) M)) (hφ : φ = xStr ki vi B) : xFine (D, cI, cS, f, sh, φ) := by
  refine ⟨fun i j hi hj hij => ?_, fun s U hW hk h => ?_⟩
  · obtain ⟨ci, hci⟩ : ∃ x, sh[i]? = some x := ⟨_, List.getElem?_eq_getElem hi⟩
    obtain ⟨cj, hcj⟩ : ∃ x, sh[j]? = some x := ⟨_, List.getElem?_eq_getElem hj⟩
    exact hD.1 i j _ _ (xw_at (ω := (D, cI, cS, f, sh, ψ)) hci) (xw_at (ω := (D, cI, cS, f, sh, ψ)) hcj) hij
  · have h : φ s := h
    show φ U
    rw [hφ] at h ⊢
    exact h.go hW (fun q g1 g2 => hk q g1 (fun z => g2 ((hB q).2 z)))
set_option maxHeartbeats 4000000 in
set_option maxRecDepth 100000 in
theorem whole_start {p : Program} {e : Env} {s : State} {m : MethodId} {below : List Frame} {meth : Method} {c : Code} (l : Launch) (hflags : l.flags = flags0) {b L : Nat} {xs : Nat → Int32} (hL : L ≤ 3072) (HC : lw_At p s m meth c b L xs) : W p l e room_1 s m #[Value.ref b] below meth c s.heap [] 0 0 (lw_Z below #[Value.ref b] s) (entryFrame m ([Value.ref b] : List Value).toArray 4) := by
  obtain ⟨hx, hb, hr, hml, hown, hts, hX, hbl, hlocks, hgv⟩ := id HC
  have xts : ∀ w ∈ xtbl, w.before #[Value.ref b] s = true := fun w hw => hts w (xtb_in hw)
  have hA : ∀ q : Nat, s.heap.size ≤ q → (fun q : Nat => s.heap.size ≤ q) q := fun _ h => h
  obtain ⟨c0, iS0, hKn0⟩ := u_known (C := RX0) (T := TX0) (N := 4) (n := 4) xts in_X0 (xts _ m_ins_X0)
  obtain ⟨c1, iS1, hKn1⟩ := u_known (C := RX1) (T := TX1) (N := 14) (n := 14) xts in_X1 (xts _ m_ins_X1)
  obtain ⟨c2, iS2, hKn2⟩ := u_known (C := RX2) (T := TX2) (N := 8) (n := 8) xts in_X2 (xts _ m_ins_X2)
  obtain ⟨c3, iS3, hKn3⟩ := u_known (C := RX3) (T := TX3) (N := 4) (n := 4) xts in_X3 (xts _ m_ins_X3)
  obtain ⟨c4, iS4, hKn4⟩ := u_known (C := RX4) (T := TX4) (N := 3) (n := 3) xts in_X4 (xts _ m_ins_X4)
  obtain ⟨c5, iS5, hKn5⟩ := u_known (C := RX5) (T := TX5) (N := 2) (n := 2) xts in_X5 (xts _ m_ins_X5)
  obtain ⟨c6, iS6, hKn6⟩ := u_known (C := RX6) (T := TX6) (N := 15) (n := 15) xts in_X6 (xts _ m_ins_X6)
  obtain ⟨c7, iS7, hKn7⟩ := u_known (C := RX7) (T := TX7) (N := 30) (n := 30) xts in_X7 (xts _ m_ins_X7)
  obtain ⟨dC, dI, hKc⟩ : ∃ (dC : Nat → ClassId) (dI : Nat → Nat → Nat), ∀ (k : Nat) (q : vw_C), xcl[k]? = some q → u_Kn s q.1 q.2.1 q.2.2 (dC k) (dI k) := by
    refine ⟨fun k => match k with | 0 => c0 | 1 => c1 | 2 => c2 | 3 => c3 | 4 => c4 | 5 => c5 | 6 => c6 | _ => c7, fun k => match k with | 0 => iS0 | 1 => iS1 | 2 => iS2 | 3 => iS3 | 4 => iS4 | 5 => iS5 | 6 => iS6 | _ => iS7, ?_⟩
    intro k q hq
    match k, hq with
    | 0, hq => cases hq; exact hKn0
    | 1, hq => cases hq; exact hKn1
    | 2, hq => cases hq; exact hKn2
    | 3, hq => cases hq; exact hKn3
    | 4, hq => cases hq; exact hKn4
    | 5, hq => cases hq; exact hKn5
    | 6, hq => cases hq; exact hKn6
    | 7, hq => cases hq; exact hKn7
    | k + 8, hq => simp [xcl] at hq
  obtain ⟨cI, hI1, hI2⟩ := ty_I (xts _ m_aci)
  obtain ⟨cS, hS1, hS2⟩ := ty_S (hts _ m_aos)
  have hK : va_K (dC, dI) xcl [(cI, .int), (cS, .object "java/lang/String")] s := by
    refine ⟨hKc, fun k q hk => ?_⟩
    match k, hk with
    | 0, hk => cases hk; exact ⟨hI1, hI2⟩
    | 1, hk => cases hk; exact ⟨hS1, hS2⟩
    | k + 2, hk => simp at hk
  have hNe : xNest s := fun own i y host hm => va_Nw.of rfl (hts _ hm)
  obtain ⟨ki, vi, hT⟩ := st_all hts hgv
  have hAO : va_AO "java/lang/String" s := va_AO.of (hts _ m_aos)
  generalize hD0 : ((dC, dI) : va_G) = D at hK
  have hS : va_S (fun q : Nat => s.heap.size ≤ q) s.heap s.heap [] := va_S.rf
  have hP : va_P D xcl [] s.heap := fun k q h => by simp at h
  have hD : va_D (fun q : Nat => s.heap.size ≤ q) [] := ⟨fun i j p q h => by simp at h, fun k q h => by simp at h⟩
  have hl := lv_entry ([.ref b]) (n := 4) (Nat.le_of_ble_eq_true rfl)
  rw [lg_entry_eq]
  generalize (lg_sl ([.ref b]) ++ List.replicate (4 - (lg_sl ([.ref b])).length) Slot.unset).toArray = ls at hl ⊢
  have hl : lv_has ls 4 [(0, .ref b)] := hl
  refine va_new (ci := 6) (fs := [.null, .null, .null, .int 0, .null, .null, .null, .int 0, .int 0, .null, .null, .null, .null, .null, .null]) (C := RX6) (T := TX6) (N := 15) hx hb xts in_X6 tyX6 tyX6_ok hown (xts _ m_kl_L_7) (xts _ m_ins_X6) (xts _ m_in_X6) hK hP hD hS hA rfl (by decide) (Nat.le_of_ble_eq_true rfl) (Nat.le_of_ble_eq_true rfl) dL_0 (fun h6 H hP hD hS => ?_)
  have hP : va_P D xcl [(h6, .inr (6, [.null, .null, .null, .int 0, .null, .null, .null, .int 0, .int 0, .null, .null, .null, .null, .null, .null]))] H := hP
  have hD : va_D (fun q : Nat => s.heap.size ≤ q) [(h6, .inr (6, [.null, .null, .null, .int 0, .null, .null, .null, .int 0, .int 0, .null, .null, .null, .null, .null, .null]))] := hD
  refine W.widen (k := 1) (n := 15) (by decide) (by decide) ?_
  refine lv_dup hx hb dL_3 rfl ?_
  have hFc := va_free (wc := [(h6, .inr (6, [.null, .null, .null, .int 0, .null, .null, .null, .int 0, .int 0, .null, .null, .null, .null, .null, .null]))]) hD hS hA [0] rfl
  refine va_callv (va_runI (As := []) (rest := [.ref h6]) ⟨hx, hb, hml, hown, xts⟩ (k_X6_init l D cI cS h6 H.size) ⟨callB_of 0 xts (xgoodIn m_cd_X6_init) rfl rfl rfl (xts _ m_in_X6) (xts _ m_ml_L_9) ⟨by decide, by decide, by decide +kernel⟩ ⟨by decide, by decide⟩, rfl, xts _ m_im_X6_init⟩ ⟨fun a U g mk q => by obtain ⟨q0, q1, qP, qK, qD, qN⟩ := q; exact ⟨q0, q1, qP, va_K.moved (u := U) (U := U.calling g mk a) (Vm.Alike.refl U.vm) qK, qD, qN.same rfl⟩, fun U hU hW => ⟨rfl, by rw [hU], by rw [hU]; exact hP, va_K.moved hW.alike hK, hD.weaken (fun _ _ _ _ => trivial), hNe.warm hW⟩⟩ rfl rfl hl.1 rfl (lv_room (Nat.le_of_ble_eq_true rfl)) dL_4 ⟨Nat.le_of_ble_eq_true rfl, Nat.le_of_ble_eq_true rfl⟩) hS (fun q _ h => hFc q h) hFc (fun u t H1 locs ht hvm h5 hB hz1 hk1 hS => ?_)
  obtain ⟨q5, q5_0, q5_1, q5_2, q5_3, q16, q16_0, q16_1, q16_2, q16_3, q16_4, q16_5, q16_6, q16_7, q16_8, q44, q44_0, q44_1, q44_2, q44_3, q55, q55_0, q55_1, q55_2, q55_3, q55_4, q55_5, q55_6, q55_7, q55_8, q72, q88, q88_0, q88_1, q88_2, q88_3, q88_4, q88_5, q88_6, q88_7, q88_8, q103, q103_0, q103_1, q103_2, q114, q114_0, q125, q125_0, q140, q140_0, q140_1, q140_2, q153, q33, hP1, -, hD1⟩ := hB
  rw [ht] at hP1
  obtain ⟨f, rfl, hP, hD⟩ := cl_world (cS := cS) hP1 hD1
  clear hP1 hD1
  have hD : va_D (fun q : Nat => s.heap.size ≤ q) (xw (D, cI, cS, f, clS, fun _ => True) C0) := hD.weaken (fun k q _ h => hFc _ h)
  clear hFc
  generalize H1 = H at hP hS ⊢
  refine W.widen (k := 56) (n := 2469) (by decide) (by decide) ?_
  refine lv_astore_n (lv' := [(1, .ref (f 0)), (0, .ref b)]) hx hb dL_7 rfl hl (by decide) rfl (fun ls hl => ?_)
  refine va_new (ci := 7) (fs := [.null, .null, .null, .int 0, .null, .null, .int 0, .int 0, .int 0, .int 0, .int 0, .int 0, .null, .null, .null, .null, .int 0, .int 0, .int 0, .int 0, .int 0, .int 0, .null, .null, .int 0, .int 0, .null, .null, .null, .null]) (C := RX7) (T := TX7) (N := 30) hx hb xts in_X7 tyX7 tyX7_ok hown (xts _ m_kl_L_10) (xts _ m_ins_X7) (xts _ m_in_X7) hK hP hD hS hA rfl (by decide) (Nat.le_of_ble_eq_true rfl) (Nat.le_of_ble_eq_true rfl) dL_8 (fun h7 H hP hD hS => ?_)
  refine W.widen (k := 57) (n := 2499) (by decide) (by decide) ?_
  refine lv_dup hx hb dL_11 rfl ?_
  have hP7 : va_P D xcl [(h7, .inr (7, [.null, .null, .null, .int 0, .null, .null, .int 0, .int 0, .int 0, .int 0, .int 0, .int 0, .null, .null, .null, .null, .int 0, .int 0, .int 0, .int 0, .int 0, .int 0, .null, .null, .int 0, .int 0, .null, .null, .null, .null]))] H := va_P_r hP
  have hD7 : va_D (fun q : Nat => s.heap.size ≤ q) [(h7, .inr (7, [.null, .null, .null, .int 0, .null, .null, .int 0, .int 0, .int 0, .int 0, .int 0, .int 0, .null, .null, .null, .null, .int 0, .int 0, .int 0, .int 0, .int 0, .int 0, .null, .null, .int 0, .int 0, .null, .null, .null, .null]))] := va_D_r hD
  have hFc : ∀ q, va_A [(h7, .inr (7, [.null, .null, .null, .int 0, .null, .null, .int 0, .int 0, .int 0, .int 0, .int 0, .int 0, .null, .null, .null, .null, .int 0, .int 0, .int 0, .int 0, .int 0, .int 0, .null, .null, .int 0, .int 0, .null, .null, .null, .null]))] H.size q → s.heap.size ≤ q := va_free (wc := [(h7, .inr (7, [.null, .null, .null, .int 0, .null, .null, .int 0, .int 0, .int 0, .int 0, .int 0, .int 0, .null, .null, .null, .null, .int 0, .int 0, .int 0, .int 0, .int 0, .int 0, .null, .null, .int 0, .int 0, .null, .null, .null, .null]))]) hD7 hS hA [0] rfl
  refine va_callv (va_runI (As := []) (rest := [.ref h7]) ⟨hx, hb, hml, hown, xts⟩ (k_X7_init l D cI cS ki vi h7 H.size) ⟨callB_of 0 xts (xgoodIn m_cd_X7_init) rfl rfl rfl (xts _ m_in_X7) (xts _ m_ml_L_12) ⟨by decide, by decide, by decide +kernel⟩ ⟨by decide, by decide⟩, rfl, xts _ m_im_X7_init⟩ ⟨fun a U g mk q => by obtain ⟨q0, q1, qP, qK, qD, qN, qT, qA⟩ := q; exact ⟨q0, q1, qP, va_K.moved (u := U) (U := U.calling g mk a) (Vm.Alike.refl U.vm) qK, qD, qN.same rfl, qT.go (U := U.calling g mk a) (State.WarmedH.refl U) (fun _ _ _ => rfl), va_AO.moved (u := U) (U := U.calling g mk a) (Vm.Alike.refl U.vm) qA⟩, fun U hU hW => ⟨rfl, by rw [hU], by rw [hU]; exact hP7, va_K.moved hW.alike hK, hD7.weaken (fun _ _ _ _ => trivial), hNe.warm hW, (hT.go hW (fun q g1 g2 => by rw [hU]; exact hS.2.1 q g1 g2)).wk hFc, va_AO.moved hW.alike hAO⟩⟩ rfl rfl hl.1 rfl (lv_room (Nat.le_of_ble_eq_true rfl)) dL_12 ⟨Nat.le_of_ble_eq_true rfl, Nat.le_of_ble_eq_true rfl⟩) hS (fun q _ h => hFc q h) hFc (fun u t H1 locs ht hvm h5 hB hz1 hk1 hS1 => ?_)
  obtain ⟨g, kss, g0, hks, hPm, -, hDm⟩ := hB
  rw [ht] at hPm
  subst g0
  have hPc : va_P D xcl (xw (D, cI, cS, f, clS, fun _ => True) C0) H := va_P_l hP
  have hDc := va_D_l hD
  have hcx : ∀ q, xA (D, cI, cS, f, clS, fun _ => True) q → q < H.size ∧ q ≠ g 0 := by
    intro q hq
    obtain ⟨k, x, hk, rfl⟩ := xA_at (M := C0) hq
    exact ⟨(hPc k x hk).lt, va_D_x hD hk⟩
  have hnA : ∀ q, xA (D, cI, cS, f, clS, fun _ => True) q → ¬ va_A [(g 0, .inr (7, [.null, .null, .null, .int 0, .null, .null, .int 0, .int 0, .int 0, .int 0, .int 0, .int 0, .null, .null, .null, .null, .int 0, .int 0, .int 0, .int 0, .int 0, .int 0, .null, .null, .int 0, .int 0, .null, .null, .null, .null]))] H.size q := by
    intro q hq hz
    have h9 := hcx q hq
    rcases hz with ⟨k, e9, hz⟩ | hz
    · cases k with
      | zero => exact h9.2 (congrArg Prod.fst (Option.some.inj hz)).symm
      | succ k => cases hz
    · omega
  have hPc1 : va_P D xcl (xw (D, cI, cS, f, clS, fun _ => True) C0) H1 := va_P_kept hPc (fun q hq hx9 => hk1 q hq (hnA q hx9))
  have hDmA : va_D (fun q : Nat => s.heap.size ≤ q) (xw (mdO D cI cS g kss) N0) := hDm.weaken (fun k q _ h => hFc _ h)
  have hap : ∀ q, xA (mdO D cI cS g kss) q → ¬ xA (D, cI, cS, f, clS, fun _ => True) q := by
    intro q hq hq2
    obtain ⟨k, x, hk, rfl⟩ := xA_at (M := N0) hq
    exact hnA _ hq2 (hDm.2 k x hk)
  have hAc : ∀ q, xA (D, cI, cS, f, clS, fun _ => True) q → s.heap.size ≤ q := by
    intro q hq
    obtain ⟨k, x, hk, rfl⟩ := xA_at (M := C0) hq
    exact hDc.2 k x hk
  have hAm : ∀ q, xA (mdO D cI cS g kss) q → s.heap.size ≤ q := by
    intro q hq
    obtain ⟨k, x, hk, rfl⟩ := xA_at (M := N0) hq
    exact hDmA.2 k x hk
  refine W.widen (k := 72) (n := 4642) (by decide) (by decide) ?_
  refine lv_astore_n (lv' := [(2, .ref (g 0)), (1, .ref (f 0)), (0, .ref b)]) hx hb dL_15 rfl hl (by decide) rfl (fun ls hl => ?_)
  refine lv_iconst (v := iI ((6 * 0 : Nat) : Int)) hx hb dL_16 (by decide) ?_
  refine lv_istore_n (lv' := [(3, .int (iI ((6 * 0 : Nat) : Int))), (2, .ref (g 0)), (1, .ref (f 0)), (0, .ref b)]) hx hb dL_17 rfl hl (by decide) rfl (fun ls hl => ?_)
  have hok : LOk (D, cI, cS, f, clS, xStr ki vi (xA (D, cI, cS, f, clS, fun _ => True))) (D, cI, cS, g, mdS kss, xStr ki vi (xA (mdO D cI cS g kss))) (p, l, e, room_1, s, m, #[Value.ref b], below, meth, c, lw_Z below #[Value.ref b] s) l b L xs ki vi kss :=
    ⟨⟨⟨hx, hb, hml, hown, xts⟩, rfl, rfl, hNe⟩,
      ⟨hK, fi_D (fun q => Iff.rfl) hDc rfl, hT.wk hAc, hAc, rfl, rfl⟩,
      ⟨hK, fi_D (fun q => Iff.rfl) hDmA rfl, hT.wk hAm, hAm, rfl, rfl⟩,
      hap, hX, hbl, hL, hks⟩
  exact law_loop hok hr hlocks rfl rfl (L + 1) 0 C0 N0 (by omega) (by omega) Wo_0 N0_F C0_R N0_R H1 locs ls hPc1 hPm hS1 hl
