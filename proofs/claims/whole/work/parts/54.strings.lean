/-! String constants: what they hold, and the JDK's methods that read them -/
theorem m_fl_J0_9 : Cond.fieldLink RJ0 9 "java/lang/String" "value" "[B" ∈ xtbl := xtb (List.mem_of_getElem? (i := 1629) (by decide +kernel)) (by decide +kernel)
theorem m_fl_J0_15 : Cond.fieldLink RJ0 15 "java/lang/String" "coder" "B" ∈ xtbl := xtb (List.mem_of_getElem? (i := 1630) (by decide +kernel)) (by decide +kernel)
theorem m_fl_J0_38 : Cond.fieldLink RJ0 38 "java/lang/String" "COMPACT_STRINGS" "Z" ∈ xtbl := xtb (List.mem_of_getElem? (i := 866) (by decide +kernel)) (by decide +kernel)
theorem m_fl_J0_1053 : Cond.fieldLink RJ0 1053 "jdk/internal/util/Preconditions" "SIOOBE_FORMATTER" "Ljava/util/function/BiFunction;" ∈ xtbl := xtb (List.mem_of_getElem? (i := 882) (by decide +kernel)) (by decide +kernel)
def stL : List (String × Nat × String × List Int) := [(RX2, 63, "person", [112, 101, 114, 115, 111, 110]), (RX2, 69, "stout", [115, 116, 111, 117, 116]), (RX2, 71, "runner", [114, 117, 110, 110, 101, 114]), (RX2, 73, "sailor", [115, 97, 105, 108, 111, 114]), (RX2, 75, "dancer", [100, 97, 110, 99, 101, 114]), (RX2, 77, "thief", [116, 104, 105, 101, 102]), (RX2, 79, "anchor", [97, 110, 99, 104, 111, 114]), (RX2, 81, "way", [119, 97, 121]), (RX2, 83, "tie", [116, 105, 101]), (RX2, 85, "at", [97, 116]), (RX2, 91, "to", [116, 111]), (RX2, 97, "strength", [115, 116, 114, 101, 110, 103, 116, 104]), (RX7, 39, "person", [112, 101, 114, 115, 111, 110]), (RX7, 41, "stout", [115, 116, 111, 117, 116]), (RX7, 43, "runner", [114, 117, 110, 110, 101, 114]), (RX7, 45, "dancer", [100, 97, 110, 99, 101, 114]), (RX7, 47, "thief", [116, 104, 105, 101, 102]), (RX7, 49, "sailor", [115, 97, 105, 108, 111, 114]), (RX7, 51, "anchor", [97, 110, 99, 104, 111, 114]), (RX7, 346, "at", [97, 116]), (RX7, 350, "to", [116, 111]), (RX7, 352, "strength", [115, 116, 114, 101, 110, 103, 116, 104]), (RX7, 358, "way", [119, 97, 121]), (RX7, 363, "tie", [116, 105, 101])]
abbrev stE (i : Nat) : String × Nat × String × List Int := stL.getD i ("", 0, "", [])
abbrev stO (i : Nat) : String := (stE i).1
abbrev stI (i : Nat) : Nat := (stE i).2.1
abbrev stX (i : Nat) : String := (stE i).2.2.1
abbrev stK (i : Nat) : List Int := (stE i).2.2.2
abbrev stQ (i : Nat) : Nat := (stK i).length
abbrev stB (i j : Nat) : Int := (stK i).getD j 0

theorem stQ_i : ∀ i, i < 24 → Int32.ofNat (stQ i) = iI (stQ i : Int) ∧ stQ i < 20 := by decide +kernel
theorem stB_i : ∀ i, i < 24 → ∀ j, j < stQ i → 0 ≤ stB i j ∧ stB i j < 128 := by decide +kernel
def xSt1 (ki vi : Nat → Nat) (A : Nat → Prop) (i : Nat) (U : State) : Prop := vk_R (stO i) (stI i) (stX i) (ki i) U ∧ va_O "java/lang/String" (ki i) A U U.heap ∧ va_OF "java/lang/String" "coder" "B" (.int 0) (ki i) A U U.heap ∧ va_OF "java/lang/String" "value" "[B" (.ref (vi i)) (ki i) A U U.heap ∧ va_T .byte (vi i) (stQ i) (fun j => .int (iI (stB i j))) A U U.heap
def xStr (ki vi : Nat → Nat) (A : Nat → Prop) (U : State) : Prop := (∀ i, i < 24 → xSt1 ki vi A i U) ∧ va_Z "java/lang/String" "COMPACT_STRINGS" "Z" (.int 1) A U U.heap ∧ va_Zq "jdk/internal/util/Preconditions" "SIOOBE_FORMATTER" "Ljava/util/function/BiFunction;" A U U.heap
theorem xStr.go {ki vi : Nat → Nat} {A : Nat → Prop} {s U : State} (hW : s.WarmedH U.vm) (hk : ∀ q, q < s.heap.size → ¬ A q → U.heap[q]? = s.heap[q]?) (h : xStr ki vi A s) : xStr ki vi A U := by
  refine ⟨fun i hi => ?_, (va_Z.moved hW.alike h.2.1).kept hk, (va_Zq.moved hW.alike h.2.2).kept hk⟩
  obtain ⟨h1, h2, h3, h4, h5⟩ := h.1 i hi
  exact ⟨h1.warm hW, (va_O.moved hW.alike h2).kept hk, (va_OF.moved hW.alike h3).kept hk, (va_OF.moved hW.alike h4).kept hk, (va_T.moved hW.alike h5).kept hk⟩
section XS
variable {ω : xO} {κ : xK} {l : Launch} {cc : ByteArray} {nL : Nat} {own : String} {R : Room} {pc : Nat} {lv : List (Option Value)} {st : List Value} {M : xMem} {ki vi : Nat → Nat} {i : Nat}
theorem xs_at (h : xOk ω κ l cc nL own R) (hφ : xph ω = xStr ki vi (xA ω)) : xStr ki vi (xA ω) (ks κ) := by
  have := h.2.2.2.2.2.2.2.2.2.2.1
  rw [hφ] at this
  exact this
theorem x_ldcS (h : xOk ω κ l cc nL own R) (hφ : xph ω = xStr ki vi (xA ω)) (i : Nat) (hi : i < 24) (ho : stO i = own) (hd : decode cc pc = .ok (.ldc (stI i), 2)) (kk : X ω κ (pc + 2) lv (.ref (ki i) :: st) M) : X ω κ pc lv st M := by
  intro hR H locs ls hP hS hl
  subst ho
  exact va_ldcS h.1 h.2.1 h.2.2.2.1 ((xs_at h hφ).1 i hi).1 hd (kk hR H locs ls hP hS hl)
theorem x_ldcwS (h : xOk ω κ l cc nL own R) (hφ : xph ω = xStr ki vi (xA ω)) (i : Nat) (hi : i < 24) (ho : stO i = own) (hd : decode cc pc = .ok (.ldc_w (stI i), 3)) (kk : X ω κ (pc + 3) lv (.ref (ki i) :: st) M) : X ω κ pc lv st M := by
  intro hR H locs ls hP hS hl
  subst ho
  have hZ := ((xs_at h hφ).1 i hi).1
  intro T hT X0
  obtain ⟨t, a1, b1⟩ := kk hR H locs ls hP hS hl T hT X0
  refine ⟨t, ?_, b1⟩
  obtain ⟨k, cf, i', a', hk, hcf, hcp, -, hr, hev'⟩ := Cond.stringRef_spec h.2.2.2.1 hZ.1
  cases hZ.2.symm.trans hev'
  obtain ⟨k', hk', he⟩ := X0.warmed.alike.2.2 _ _ hk
  have hr' : k'.resolved[stI i]? = some (some (.string (ki i))) := by
    rcases X0.warmed.entry hk hk' (stI i) with h | ⟨h, -⟩
    · rw [h]; exact hr
    · rw [hr] at h; cases h
  jvm_step X0.here [h.1, h.2.1, hd, ldc_w.wp_string (e := ke κ) (s := T) (f := F0 (km κ) pc ls st) X0.here.top hk' (by rw [he]; exact hcf) hcp hr']
  exact a1
theorem x_sval {idx : Nat} (h : xOk ω κ l cc nL own R) (hφ : xph ω = xStr ki vi (xA ω)) (hi : i < 24) (hd : decode cc pc = .ok (.getfield idx, 3)) (hlk : Cond.fieldLink own idx "java/lang/String" "value" "[B" ∈ xtbl) (kk : X ω κ (pc + 3) lv (.ref (vi i) :: st) M) : X ω κ pc lv (.ref (ki i) :: st) M :=
  fun hR H locs ls hP hS hl => vk_getf h.1 h.2.1 ((xs_at h hφ).1 i hi).2.2.2.1 hS h.2.2.2.1 (h.2.2.2.2.1 _ hlk) (fun _ z => z) hd (kk hR H locs ls hP hS hl)
theorem x_scod {idx : Nat} (h : xOk ω κ l cc nL own R) (hφ : xph ω = xStr ki vi (xA ω)) (hi : i < 24) (hd : decode cc pc = .ok (.getfield idx, 3)) (hlk : Cond.fieldLink own idx "java/lang/String" "coder" "B" ∈ xtbl) (kk : X ω κ (pc + 3) lv (.int (iI 0) :: st) M) : X ω κ pc lv (.ref (ki i) :: st) M :=
  fun hR H locs ls hP hS hl => vk_getf h.1 h.2.1 ((xs_at h hφ).1 i hi).2.2.1 hS h.2.2.2.1 (h.2.2.2.2.1 _ hlk) (fun _ z => z) hd (kk hR H locs ls hP hS hl)
theorem x_slen (h : xOk ω κ l cc nL own R) (hφ : xph ω = xStr ki vi (xA ω)) (hi : i < 24) (hd : decode cc pc = .ok (.arraylength, 1)) (kk : X ω κ (pc + 1) lv (.int (iI (stQ i : Int)) :: st) M) : X ω κ pc lv (.ref (vi i) :: st) M :=
  fun hR H locs ls hP hS hl => va_tlen h.1 h.2.1 ((xs_at h hφ).1 i hi).2.2.2.2 hS (stQ_i i hi).1 hd (kk hR H locs ls hP hS hl)
theorem x_sbyt {j : Nat} (h : xOk ω κ l cc nL own R) (hφ : xph ω = xStr ki vi (xA ω)) (hi : i < 24) (hj : j < stQ i) (hd : decode cc pc = .ok (.baload, 1)) (kk : X ω κ (pc + 1) lv (.int (iI (stB i j)) :: st) M) : X ω κ pc lv (.int (iI (j : Int)) :: .ref (vi i) :: st) M := by
  intro hR H locs ls hP hS hl
  have h20 := (stQ_i i hi).2
  exact va_tb h.1 h.2.1 ((xs_at h hφ).1 i hi).2.2.2.2 hS (iI_in rfl hj (by omega)) (by rw [iI_nat (by omega)]) hd (kk hR H locs ls hP hS hl)
theorem x_scmp {idx : Nat} (h : xOk ω κ l cc nL own R) (hφ : xph ω = xStr ki vi (xA ω)) (hd : decode cc pc = .ok (.getstatic idx, 3)) (hlk : Cond.fieldLink own idx "java/lang/String" "COMPACT_STRINGS" "Z" ∈ xtbl) (kk : X ω κ (pc + 3) lv (.int (iI 1) :: st) M) : X ω κ pc lv st M :=
  fun hR H locs ls hP hS hl => va_gets h.1 h.2.1 (xs_at h hφ).2.1 hS h.2.2.2.1 (h.2.2.2.2.1 _ hlk) (fun _ z => z) hd (kk hR H locs ls hP hS hl)
theorem x_sfmt {idx : Nat} (h : xOk ω κ l cc nL own R) (hφ : xph ω = xStr ki vi (xA ω)) (hd : decode cc pc = .ok (.getstatic idx, 3)) (hlk : Cond.fieldLink own idx "jdk/internal/util/Preconditions" "SIOOBE_FORMATTER" "Ljava/util/function/BiFunction;" ∈ xtbl) (kk : ∀ v : Value, (v = .null ∨ ∃ t, v = .ref t) → X ω κ (pc + 3) lv (v :: st) M) : X ω κ pc lv st M := by
  intro hR H locs ls hP hS hl
  rcases (xs_at h hφ).2.2 with g | ⟨t, g⟩
  · exact va_gets h.1 h.2.1 g hS h.2.2.2.1 (h.2.2.2.2.1 _ hlk) (fun _ z => z) hd (kk _ (Or.inl rfl) hR H locs ls hP hS hl)
  · exact va_gets h.1 h.2.1 g hS h.2.2.2.1 (h.2.2.2.2.1 _ hlk) (fun _ z => z) hd (kk _ (Or.inr ⟨t, rfl⟩) hR H locs ls hP hS hl)
theorem x_i2c {a : Int} (ha : 0 ≤ a ∧ a < 65536) (h : xOk ω κ l cc nL own R) (hd : decode cc pc = .ok (.i2c, 1)) (kk : X ω κ (pc + 1) lv (.int (iI a) :: st) M) : X ω κ pc lv (.int (iI a) :: st) M :=
  fun hR H locs ls hP hS hl => lv_i2c h.1 h.2.1 hd (lg_i2c_word (by rw [iI_toInt ⟨by omega, by omega⟩]; omega) (by rw [iI_toInt ⟨by omega, by omega⟩]; omega)) (kk hR H locs ls hP hS hl)
theorem x_nret {ty : FieldType} {v w : Int} {ρ : Option Value} {Mf : xMem} (h : xOk ω κ l cc nL own R) (he : xEnd ω κ (some ty) ρ Mf) (hd : decode cc pc = .ok (.ireturn, 1)) (hn : narrow ty (.int (iI v)) = .int (iI v)) (hρ : ρ = some (.int (iI w))) (hv : v = w) (hM : M = Mf) : X ω κ pc lv [.int (iI v)] M := by
  subst hρ hv hM
  intro hR H locs ls hP hS hl
  rw [he.2]
  exact W.zret h.1 h.2.1 he.1 hn (fun t ht _ => ⟨rfl, by rw [ht]; exact hP, hS.F ht⟩) hS.2.2 hd h.2.2.2.2.2.2.2.2.1
theorem x_callVS {y : MethodName} {rm : Room} {mL n idx : Nat} {As rest stk : List Value} {ρ : Option Value} {Mf : xMem} (h : xOk ω κ l cc nL own R) (hφ : xph ω = xStr ki vi (xA ω)) (hi : i < 24) (hd : decode cc pc = .ok (.invokevirtual idx, 3)) (hlk : Cond.methodLink own idx y ∈ xtbl) (hin : Cond.instanceMethod y ∈ xtbl) (hse : Cond.selects y.cls y y ∈ xtbl) (hcl : "java/lang/String" = y.cls)
    (hrm : rm.frames + 1 ≤ R.frames ∧ 8 + (mL + 11) + rm.locals ≤ R.locals) (hn : As.length = n) (hst : stk = As.reverse ++ .ref (ki i) :: rest) (hcat : Nat.ble (rest.map fun v => v.category).sum 8 = true)
    (hct : Ct l ω y rm mL n (.ref (ki i) :: As) M ρ Mf) (kk : X ω κ (pc + 3) lv (ρ.toList ++ rest) Mf) : X ω κ pc lv stk M := by
  intro hR H locs ls hP hS hl
  obtain ⟨hRf, bytes, ret, hcode, hini, hdd, hc, hss, hM⟩ := hct hR
  have hM' : Met (kl κ) y (Cond.code y bytes mL ret :: xtbl) rm (va_Pc (.ref (ki i) :: As) (xPc ω M)) (xQp ω ρ Mf) 0 0 (xA ω) := by
    rw [show kl κ = l from h.2.2.2.2.2.2.2.2.2.1]; exact hM
  subst hst
  have hrecv : ∃ cell : Cell, H[ki i]? = some cell ∧ cell.vm.isStatics = false ∧ (ks κ).vm.findClass y.cls = some cell.cls := by
    obtain ⟨cell, h1, h2, h3, -⟩ := ((xs_at h hφ).1 i hi).2.1.kept hS.2.1
    rw [← hcl]
    exact ⟨cell, h1, h2, h3⟩
  refine x_back hS hl hRf (va_runV ⟨h.1, h.2.1, h.2.2.1, h.2.2.2.1, h.2.2.2.2.1⟩ hM' ⟨x_cb (H := H) h hcode hini hdd hc hss hlk hrm, h.2.2.2.2.1 _ hin, h.2.2.2.2.1 _ hse⟩ ⟨xPc_blind _ ω M (fun U g mk a => xph_call h.2.2.2.2.2.2.1 U g mk a), hrecv, x_pre h hP hS⟩ rfl hn (by rw [← h.2.2.1]; exact hl.1) rfl ?_ hd ⟨Nat.zero_le _, Nat.zero_le _⟩) kk
  have := Nat.le_of_ble_eq_true hcat
  show 2 * 0 + _ ≤ 8
  omega
end XS
theorem dJ0_coder_7d493_0 : decode cJ0_coder_7d493 0 = .ok (.getstatic 38, 3) := by decide +kernel
theorem dJ0_coder_7d493_3 : decode cJ0_coder_7d493 3 = .ok (.ifCond .eq 10, 3) := by decide +kernel
theorem dJ0_coder_7d493_6 : decode cJ0_coder_7d493 6 = .ok (.aload_n 0, 1) := by decide +kernel
theorem dJ0_coder_7d493_7 : decode cJ0_coder_7d493 7 = .ok (.getfield 15, 3) := by decide +kernel
theorem dJ0_coder_7d493_10 : decode cJ0_coder_7d493 10 = .ok (.goto 4, 3) := by decide +kernel
theorem dJ0_coder_7d493_13 : decode cJ0_coder_7d493 13 = .ok (.iconst 1, 1) := by decide +kernel
theorem dJ0_coder_7d493_14 : decode cJ0_coder_7d493 14 = .ok (.ireturn, 1) := by decide +kernel
set_option maxHeartbeats 800000 in
set_option maxRecDepth 100000 in
theorem c_J0_coder_7d493 {l : Launch} {ω : xO} {ki vi : Nat → Nat} (hφ : xph ω = xStr ki vi (xA ω)) {i : Nat} {M : xMem} (hi : i < 24) : Ct l ω yJ0_coder_7d493 ({ frames := 0, cells := 0, slots := 0, locals := 0 } : Room) 1 0 [.ref (ki i)] M (some (.int (iI 0))) M := by
  refine Ct.of (bytes := cJ0_coder_7d493) (ret := (some .byte)) (lv0 := [some (.ref (ki i))]) m_cd_J0_coder_7d493 m_in_J0 (by decide +kernel) (by decide +kernel) rfl rfl rfl rfl (fun hR => hR) ?_
  intro κ h he hR
  refine x_scmp h hφ dJ0_coder_7d493_0 m_fl_J0_38 ?_
  refine x_if_eq h dJ0_coder_7d493_3 (tgt := 13) (by decide) (by decide) (fun q => absurd q (by decide)) (fun q => ?_)
  refine x_aload_n h dJ0_coder_7d493_6 rfl ?_
  refine x_scod h hφ hi dJ0_coder_7d493_7 m_fl_J0_15 ?_
  refine x_goto h dJ0_coder_7d493_10 (tgt := 14) (by decide) ?_
  exact x_nret h he dJ0_coder_7d493_14 rfl rfl rfl rfl
theorem dJ0_length_8abf5_0 : decode cJ0_length_8abf5 0 = .ok (.aload_n 0, 1) := by decide +kernel
theorem dJ0_length_8abf5_1 : decode cJ0_length_8abf5 1 = .ok (.getfield 9, 3) := by decide +kernel
theorem dJ0_length_8abf5_4 : decode cJ0_length_8abf5 4 = .ok (.arraylength, 1) := by decide +kernel
theorem dJ0_length_8abf5_5 : decode cJ0_length_8abf5 5 = .ok (.aload_n 0, 1) := by decide +kernel
theorem dJ0_length_8abf5_6 : decode cJ0_length_8abf5 6 = .ok (.invokevirtual 335, 3) := by decide +kernel
theorem dJ0_length_8abf5_9 : decode cJ0_length_8abf5 9 = .ok (.ishr, 1) := by decide +kernel
theorem dJ0_length_8abf5_10 : decode cJ0_length_8abf5 10 = .ok (.ireturn, 1) := by decide +kernel
set_option maxHeartbeats 800000 in
set_option maxRecDepth 100000 in
theorem c_J0_length_8abf5 {l : Launch} {ω : xO} {ki vi : Nat → Nat} (hφ : xph ω = xStr ki vi (xA ω)) {i : Nat} {M : xMem} (hi : i < 24) : Ct l ω yJ0_length_8abf5 ({ frames := 1, cells := 0, slots := 0, locals := 20 } : Room) 1 0 [.ref (ki i)] M (some (.int (iI (stQ i : Int)))) M := by
  refine Ct.of (bytes := cJ0_length_8abf5) (ret := (some .int)) (lv0 := [some (.ref (ki i))]) m_cd_J0_length_8abf5 m_in_J0 (by decide +kernel) (by decide +kernel) rfl rfl rfl rfl (fun hR => hR) ?_
  intro κ h he hR
  refine x_aload_n h dJ0_length_8abf5_0 rfl ?_
  refine x_sval h hφ hi dJ0_length_8abf5_1 m_fl_J0_9 ?_
  refine x_slen h hφ hi dJ0_length_8abf5_4 ?_
  refine x_aload_n h dJ0_length_8abf5_5 rfl ?_
  refine x_callVS (As := []) h hφ hi dJ0_length_8abf5_6 m_ml_J0_335 m_im_J0_coder_7d493 m_se_J0_coder_7d493 rfl (by decide) rfl rfl rfl (c_J0_coder_7d493 hφ hi) ?_
  refine x_ishr h dJ0_length_8abf5_9 (fun r9 => ?_)
  have e0 : bshr (stQ i : Int) 0 = (stQ i : Int) := by have := bshr_n (a := stQ i) (by have := (stQ_i i hi).2; omega) (p := 0) (by decide); rw [show ((0 : Nat) : Int) = 0 from rfl] at this; rw [this]; simp
  rw [e0]
  exact x_iret (ret := none) h he dJ0_length_8abf5_10 rfl rfl rfl
theorem dJ0_isLatin1_aae02_0 : decode cJ0_isLatin1_aae02 0 = .ok (.getstatic 38, 3) := by decide +kernel
theorem dJ0_isLatin1_aae02_3 : decode cJ0_isLatin1_aae02 3 = .ok (.ifCond .eq 14, 3) := by decide +kernel
theorem dJ0_isLatin1_aae02_6 : decode cJ0_isLatin1_aae02 6 = .ok (.aload_n 0, 1) := by decide +kernel
theorem dJ0_isLatin1_aae02_7 : decode cJ0_isLatin1_aae02 7 = .ok (.getfield 15, 3) := by decide +kernel
theorem dJ0_isLatin1_aae02_10 : decode cJ0_isLatin1_aae02 10 = .ok (.ifCond .ne 7, 3) := by decide +kernel
theorem dJ0_isLatin1_aae02_13 : decode cJ0_isLatin1_aae02 13 = .ok (.iconst 1, 1) := by decide +kernel
theorem dJ0_isLatin1_aae02_14 : decode cJ0_isLatin1_aae02 14 = .ok (.goto 4, 3) := by decide +kernel
theorem dJ0_isLatin1_aae02_17 : decode cJ0_isLatin1_aae02 17 = .ok (.iconst 0, 1) := by decide +kernel
theorem dJ0_isLatin1_aae02_18 : decode cJ0_isLatin1_aae02 18 = .ok (.ireturn, 1) := by decide +kernel
set_option maxHeartbeats 800000 in
set_option maxRecDepth 100000 in
theorem c_J0_isLatin1_aae02 {l : Launch} {ω : xO} {ki vi : Nat → Nat} (hφ : xph ω = xStr ki vi (xA ω)) {i : Nat} {M : xMem} (hi : i < 24) : Ct l ω yJ0_isLatin1_aae02 ({ frames := 0, cells := 0, slots := 0, locals := 0 } : Room) 1 0 [.ref (ki i)] M (some (.int (iI 1))) M := by
  refine Ct.of (bytes := cJ0_isLatin1_aae02) (ret := (some .boolean)) (lv0 := [some (.ref (ki i))]) m_cd_J0_isLatin1_aae02 m_in_J0 (by decide +kernel) (by decide +kernel) rfl rfl rfl rfl (fun hR => hR) ?_
  intro κ h he hR
  refine x_scmp h hφ dJ0_isLatin1_aae02_0 m_fl_J0_38 ?_
  refine x_if_eq h dJ0_isLatin1_aae02_3 (tgt := 17) (by decide) (by decide) (fun q => absurd q (by decide)) (fun q => ?_)
  refine x_aload_n h dJ0_isLatin1_aae02_6 rfl ?_
  refine x_scod h hφ hi dJ0_isLatin1_aae02_7 m_fl_J0_15 ?_
  refine x_if_ne h dJ0_isLatin1_aae02_10 (tgt := 17) (by decide) (by decide) (fun q => absurd rfl q) (fun q => ?_)
  refine x_iconst h dJ0_isLatin1_aae02_13 ?_
  refine x_goto h dJ0_isLatin1_aae02_14 (tgt := 18) (by decide) ?_
  exact x_nret h he dJ0_isLatin1_aae02_18 rfl rfl rfl rfl

theorem dJ3_checkIndex_8e157_0 : decode cJ3_checkIndex_8e157 0 = .ok (.iload_n 0, 1) := by decide +kernel
theorem dJ3_checkIndex_8e157_1 : decode cJ3_checkIndex_8e157 1 = .ok (.ifCond .lt 8, 3) := by decide +kernel
theorem dJ3_checkIndex_8e157_4 : decode cJ3_checkIndex_8e157 4 = .ok (.iload_n 0, 1) := by decide +kernel
theorem dJ3_checkIndex_8e157_5 : decode cJ3_checkIndex_8e157 5 = .ok (.iload_n 1, 1) := by decide +kernel
theorem dJ3_checkIndex_8e157_6 : decode cJ3_checkIndex_8e157 6 = .ok (.if_icmp .lt 10, 3) := by decide +kernel
theorem dJ3_checkIndex_8e157_16 : decode cJ3_checkIndex_8e157 16 = .ok (.iload_n 0, 1) := by decide +kernel
theorem dJ3_checkIndex_8e157_17 : decode cJ3_checkIndex_8e157 17 = .ok (.ireturn, 1) := by decide +kernel
theorem c_J3_checkIndex_8e157n {l : Launch} {ω : xO}  {j n : Int} {M : xMem} (hj : 0 ≤ j ∧ j < n) (hn : inR n) : Ct l ω yJ3_checkIndex_8e157 ({ frames := 0, cells := 0, slots := 0, locals := 0 } : Room) 3 3 [.int (iI j), .int (iI n), .null] M (some (.int (iI j))) M := by
  refine Ct.of (bytes := cJ3_checkIndex_8e157) (ret := (some .int)) (lv0 := [some (.int (iI j)), some (.int (iI n)), some (.null)]) m_cd_J3_checkIndex_8e157 m_in_J3 (by decide +kernel) (by decide +kernel) rfl rfl rfl rfl (fun hR => hR) ?_
  intro κ h he hR
  refine x_iload_n h dJ3_checkIndex_8e157_0 rfl ?_
  refine x_if_lt h dJ3_checkIndex_8e157_1 (tgt := 9) (by decide) (by omega) (fun q => absurd q (by omega)) (fun q => ?_)
  refine x_iload_n h dJ3_checkIndex_8e157_4 rfl ?_
  refine x_iload_n h dJ3_checkIndex_8e157_5 rfl ?_
  refine x_icmp_lt h dJ3_checkIndex_8e157_6 (tgt := 16) (by decide) (by omega) (by omega) (fun q => ?_) (fun q => absurd hj.2 q)
  refine x_iload_n h dJ3_checkIndex_8e157_16 rfl ?_
  exact x_iret (ret := none) h he dJ3_checkIndex_8e157_17 rfl rfl rfl
theorem c_J3_checkIndex_8e157r {l : Launch} {ω : xO} {t : Nat} {j n : Int} {M : xMem} (hj : 0 ≤ j ∧ j < n) (hn : inR n) : Ct l ω yJ3_checkIndex_8e157 ({ frames := 0, cells := 0, slots := 0, locals := 0 } : Room) 3 3 [.int (iI j), .int (iI n), .ref t] M (some (.int (iI j))) M := by
  refine Ct.of (bytes := cJ3_checkIndex_8e157) (ret := (some .int)) (lv0 := [some (.int (iI j)), some (.int (iI n)), some (.ref t)]) m_cd_J3_checkIndex_8e157 m_in_J3 (by decide +kernel) (by decide +kernel) rfl rfl rfl rfl (fun hR => hR) ?_
  intro κ h he hR
  refine x_iload_n h dJ3_checkIndex_8e157_0 rfl ?_
  refine x_if_lt h dJ3_checkIndex_8e157_1 (tgt := 9) (by decide) (by omega) (fun q => absurd q (by omega)) (fun q => ?_)
  refine x_iload_n h dJ3_checkIndex_8e157_4 rfl ?_
  refine x_iload_n h dJ3_checkIndex_8e157_5 rfl ?_
  refine x_icmp_lt h dJ3_checkIndex_8e157_6 (tgt := 16) (by decide) (by omega) (by omega) (fun q => ?_) (fun q => absurd hj.2 q)
  refine x_iload_n h dJ3_checkIndex_8e157_16 rfl ?_
  exact x_iret (ret := none) h he dJ3_checkIndex_8e157_17 rfl rfl rfl
theorem dJ0_checkIndex_df160_0 : decode cJ0_checkIndex_df160 0 = .ok (.iload_n 0, 1) := by decide +kernel
theorem dJ0_checkIndex_df160_1 : decode cJ0_checkIndex_df160 1 = .ok (.iload_n 1, 1) := by decide +kernel
theorem dJ0_checkIndex_df160_2 : decode cJ0_checkIndex_df160 2 = .ok (.getstatic 1053, 3) := by decide +kernel
theorem dJ0_checkIndex_df160_5 : decode cJ0_checkIndex_df160 5 = .ok (.invokestatic 1059, 3) := by decide +kernel
theorem dJ0_checkIndex_df160_8 : decode cJ0_checkIndex_df160 8 = .ok (.pop, 1) := by decide +kernel
theorem dJ0_checkIndex_df160_9 : decode cJ0_checkIndex_df160 9 = .ok (.return_, 1) := by decide +kernel
set_option maxHeartbeats 800000 in
set_option maxRecDepth 100000 in
theorem c_J0_checkIndex_df160 {l : Launch} {ω : xO} {ki vi : Nat → Nat} (hφ : xph ω = xStr ki vi (xA ω)) {j n : Int} {M : xMem} (hj : 0 ≤ j ∧ j < n) (hn : inR n) : Ct l ω yJ0_checkIndex_df160 ({ frames := 1, cells := 0, slots := 0, locals := 22 } : Room) 2 2 [.int (iI j), .int (iI n)] M none M := by
  refine Ct.of (bytes := cJ0_checkIndex_df160) (ret := none) (lv0 := [some (.int (iI j)), some (.int (iI n))]) m_cd_J0_checkIndex_df160 m_in_J0 (by decide +kernel) (by decide +kernel) rfl rfl rfl rfl (fun hR => hR) ?_
  intro κ h he hR
  refine x_iload_n h dJ0_checkIndex_df160_0 rfl ?_
  refine x_iload_n h dJ0_checkIndex_df160_1 rfl ?_
  refine x_sfmt h hφ dJ0_checkIndex_df160_2 m_fl_J0_1053 (fun v hv => ?_)
  rcases hv with rfl | ⟨t, rfl⟩
  · refine x_S3i h dJ0_checkIndex_df160_5 m_ml_J0_1059 m_st_J3_checkIndex_8e157 (by decide) rfl (c_J3_checkIndex_8e157n hj hn) ?_
    refine x_pop h dJ0_checkIndex_df160_8 rfl ?_
    exact x_vret h he dJ0_checkIndex_df160_9 rfl
  · refine x_S3i h dJ0_checkIndex_df160_5 m_ml_J0_1059 m_st_J3_checkIndex_8e157 (by decide) rfl (c_J3_checkIndex_8e157r hj hn) ?_
    refine x_pop h dJ0_checkIndex_df160_8 rfl ?_
    exact x_vret h he dJ0_checkIndex_df160_9 rfl
theorem narrow_ch {a : Int} (ha : 0 ≤ a ∧ a < 65536) : narrow .char (.int (iI a)) = .int (iI a) := by
  show Value.int (((iI a).toUInt32.toUInt16.toUInt32).toInt32) = .int (iI a)
  rw [lg_i2c_small (by rw [iI_toInt ⟨by omega, by omega⟩]; omega) (by rw [iI_toInt ⟨by omega, by omega⟩]; omega)]
theorem dJ1_charAt_3b067_0 : decode cJ1_charAt_3b067 0 = .ok (.iload_n 1, 1) := by decide +kernel
theorem dJ1_charAt_3b067_1 : decode cJ1_charAt_3b067 1 = .ok (.aload_n 0, 1) := by decide +kernel
theorem dJ1_charAt_3b067_2 : decode cJ1_charAt_3b067 2 = .ok (.arraylength, 1) := by decide +kernel
theorem dJ1_charAt_3b067_3 : decode cJ1_charAt_3b067 3 = .ok (.invokestatic 9, 3) := by decide +kernel
theorem dJ1_charAt_3b067_6 : decode cJ1_charAt_3b067 6 = .ok (.aload_n 0, 1) := by decide +kernel
theorem dJ1_charAt_3b067_7 : decode cJ1_charAt_3b067 7 = .ok (.iload_n 1, 1) := by decide +kernel
theorem dJ1_charAt_3b067_8 : decode cJ1_charAt_3b067 8 = .ok (.baload, 1) := by decide +kernel
theorem dJ1_charAt_3b067_9 : decode cJ1_charAt_3b067 9 = .ok (.sipush 255, 3) := by decide +kernel
theorem dJ1_charAt_3b067_12 : decode cJ1_charAt_3b067 12 = .ok (.iand, 1) := by decide +kernel
theorem dJ1_charAt_3b067_13 : decode cJ1_charAt_3b067 13 = .ok (.i2c, 1) := by decide +kernel
theorem dJ1_charAt_3b067_14 : decode cJ1_charAt_3b067 14 = .ok (.ireturn, 1) := by decide +kernel
set_option maxHeartbeats 800000 in
set_option maxRecDepth 100000 in
theorem c_J1_charAt_3b067 {l : Launch} {ω : xO} {ki vi : Nat → Nat} (hφ : xph ω = xStr ki vi (xA ω)) {i j : Nat} {M : xMem} (hi : i < 24) (hj : j < stQ i) : Ct l ω yJ1_charAt_3b067 ({ frames := 2, cells := 0, slots := 0, locals := 43 } : Room) 2 2 [.ref (vi i), .int (iI (j : Int))] M (some (.int (iI (stB i j)))) M := by
  refine Ct.of (bytes := cJ1_charAt_3b067) (ret := (some .char)) (lv0 := [some (.ref (vi i)), some (.int (iI (j : Int)))]) m_cd_J1_charAt_3b067 m_in_J1 (by decide +kernel) (by decide +kernel) rfl rfl rfl rfl (fun hR => hR) ?_
  intro κ h he hR
  have h20 := (stQ_i i hi).2
  have hb := stB_i i hi j hj
  refine x_iload_n h dJ1_charAt_3b067_0 rfl ?_
  refine x_aload_n h dJ1_charAt_3b067_1 rfl ?_
  refine x_slen h hφ hi dJ1_charAt_3b067_2 ?_
  refine x_S2v h dJ1_charAt_3b067_3 m_ml_J1_9 m_st_J0_checkIndex_df160 (by decide) rfl (c_J0_checkIndex_df160 hφ (by omega) (by omega)) ?_
  refine x_aload_n h dJ1_charAt_3b067_6 rfl ?_
  refine x_iload_n h dJ1_charAt_3b067_7 rfl ?_
  refine x_sbyt h hφ hi hj dJ1_charAt_3b067_8 ?_
  refine x_sipush h dJ1_charAt_3b067_9 (by decide) ?_
  refine x_iand h dJ1_charAt_3b067_12 (fun r12 => ?_)
  have e1 : band (stB i j) 255 = stB i j := by
    generalize stB i j = z at hb
    obtain ⟨a, rfl⟩ : ∃ a : Nat, z = (a : Int) := ⟨z.toNat, by omega⟩
    rw [show (255 : Int) = ((255 : Nat) : Int) from rfl, band_nat a 255 (by omega) (by omega), Nat.and_two_pow_sub_one_eq_mod a 8, Nat.mod_eq_of_lt (by omega)]
  rw [e1]
  refine x_i2c (by omega) h dJ1_charAt_3b067_13 ?_
  exact x_nret h he dJ1_charAt_3b067_14 (by rw [narrow_ch (by omega)]) rfl rfl rfl
theorem dJ0_charAt_5068e_0 : decode cJ0_charAt_5068e 0 = .ok (.aload_n 0, 1) := by decide +kernel
theorem dJ0_charAt_5068e_1 : decode cJ0_charAt_5068e 1 = .ok (.invokevirtual 492, 3) := by decide +kernel
theorem dJ0_charAt_5068e_4 : decode cJ0_charAt_5068e 4 = .ok (.ifCond .eq 12, 3) := by decide +kernel
theorem dJ0_charAt_5068e_7 : decode cJ0_charAt_5068e 7 = .ok (.aload_n 0, 1) := by decide +kernel
theorem dJ0_charAt_5068e_8 : decode cJ0_charAt_5068e 8 = .ok (.getfield 9, 3) := by decide +kernel
theorem dJ0_charAt_5068e_11 : decode cJ0_charAt_5068e 11 = .ok (.iload_n 1, 1) := by decide +kernel
theorem dJ0_charAt_5068e_12 : decode cJ0_charAt_5068e 12 = .ok (.invokestatic 495, 3) := by decide +kernel
theorem dJ0_charAt_5068e_15 : decode cJ0_charAt_5068e 15 = .ok (.ireturn, 1) := by decide +kernel
theorem dJ0_charAt_5068e_16 : decode cJ0_charAt_5068e 16 = .ok (.aload_n 0, 1) := by decide +kernel
theorem dJ0_charAt_5068e_17 : decode cJ0_charAt_5068e 17 = .ok (.getfield 9, 3) := by decide +kernel
theorem dJ0_charAt_5068e_20 : decode cJ0_charAt_5068e 20 = .ok (.iload_n 1, 1) := by decide +kernel
theorem dJ0_charAt_5068e_21 : decode cJ0_charAt_5068e 21 = .ok (.invokestatic 498, 3) := by decide +kernel
theorem dJ0_charAt_5068e_24 : decode cJ0_charAt_5068e 24 = .ok (.ireturn, 1) := by decide +kernel
set_option maxHeartbeats 800000 in
set_option maxRecDepth 100000 in
theorem c_J0_charAt_5068e {l : Launch} {ω : xO} {ki vi : Nat → Nat} (hφ : xph ω = xStr ki vi (xA ω)) {i j : Nat} {M : xMem} (hi : i < 24) (hj : j < stQ i) : Ct l ω yJ0_charAt_5068e ({ frames := 3, cells := 0, slots := 0, locals := 64 } : Room) 2 1 [.ref (ki i), .int (iI (j : Int))] M (some (.int (iI (stB i j)))) M := by
  refine Ct.of (bytes := cJ0_charAt_5068e) (ret := (some .char)) (lv0 := [some (.ref (ki i)), some (.int (iI (j : Int)))]) m_cd_J0_charAt_5068e m_in_J0 (by decide +kernel) (by decide +kernel) rfl rfl rfl rfl (fun hR => hR) ?_
  intro κ h he hR
  have hb := stB_i i hi j hj
  refine x_aload_n h dJ0_charAt_5068e_0 rfl ?_
  refine x_callVS (As := []) h hφ hi dJ0_charAt_5068e_1 m_ml_J0_492 m_im_J0_isLatin1_aae02 m_se_J0_isLatin1_aae02 rfl (by decide) rfl rfl rfl (c_J0_isLatin1_aae02 hφ hi) ?_
  refine x_if_eq h dJ0_charAt_5068e_4 (tgt := 16) (by decide) (by decide) (fun q => absurd q (by decide)) (fun q => ?_)
  refine x_aload_n h dJ0_charAt_5068e_7 rfl ?_
  refine x_sval h hφ hi dJ0_charAt_5068e_8 m_fl_J0_9 ?_
  refine x_iload_n h dJ0_charAt_5068e_11 rfl ?_
  refine x_S2i h dJ0_charAt_5068e_12 m_ml_J0_495 m_st_J1_charAt_3b067 (by decide) rfl (c_J1_charAt_3b067 hφ hi hj) ?_
  exact x_nret h he dJ0_charAt_5068e_15 (by rw [narrow_ch (by omega)]) rfl rfl rfl
