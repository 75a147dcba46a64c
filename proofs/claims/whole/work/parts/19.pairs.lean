/-! the class: who should be tied to whom -/
abbrev inS (p s : Int) : Prop := band (bshr s p) 1 ≠ 0
theorem band_255 {s : Int} (h : 0 ≤ s ∧ s < 256) (y : Int) : 0 ≤ band s y ∧ band s y < 256 := by
  obtain ⟨n, rfl⟩ : ∃ n : Nat, s = (n : Int) := ⟨s.toNat, by omega⟩
  have e : iI (n : Int) &&& (255 : Int32) = iI (n : Int) := by
    rw [iI_nI, pk_andN (m := 255) (by omega) 8 rfl, Nat.mod_eq_of_lt (by omega)]
  have e2 : iI (n : Int) &&& iI y = (iI (n : Int) &&& iI y) &&& 255 := by
    rw [Int32.and_assoc, Int32.and_comm (iI y) 255, ← Int32.and_assoc, e]
  obtain ⟨j, hj, ej⟩ := pk_andE (iI (n : Int) &&& iI y) (m := 255) 8 rfl
  unfold band
  rw [e2, ej, nI_toInt (by omega)]
  omega
def evF (n : Int) : Int := bshl 1 n - 1
theorem evF_n : ∀ n, n < 9 → evF ((n : Nat) : Int) = ((2 ^ n - 1 : Nat) : Int) := by
  have : (List.range 9).all (fun n => decide (evF ((n : Nat) : Int) = ((2 ^ n - 1 : Nat) : Int))) = true := by decide +kernel
  intro n hn
  exact of_decide_eq_true (List.all_eq_true.mp this n (List.mem_range.mpr hn))
theorem evF_R {n : Int} (h : 0 ≤ n ∧ n ≤ 8) : 0 ≤ evF n ∧ evF n < 256 := by
  obtain ⟨m, rfl⟩ : ∃ m : Nat, n = (m : Int) := ⟨n.toNat, by omega⟩
  rw [evF_n m (by omega)]
  have h1 : 2 ^ m ≤ 2 ^ 8 := Nat.pow_le_pow_right (by omega) (by omega)
  have h2 : 0 < 2 ^ m := Nat.pow_pos (by omega)
  omega
def woF (s f o : Int) : Int := if o = -1 then band s (bxor (bshl 1 f) (-1)) else band (band s (bxor (bshl 1 f) (-1))) (bxor (bshl 1 o) (-1))
theorem woF_R (s f o : Int) : inR (woF s f o) := by
  unfold woF
  split <;> exact band_R _ _
theorem woF_255 {s : Int} (h : 0 ≤ s ∧ s < 256) (f o : Int) : 0 ≤ woF s f o ∧ woF s f o < 256 := by
  unfold woF
  split
  · exact band_255 h _
  · exact band_255 (band_255 h _) _
def cpP (s f o : Int) : Prop := (o = -1 ∧ band (pc8 s) 1 ≠ 0) ∨ (o ≠ -1 ∧ o ≠ f ∧ inS o s)
theorem cpP_1 {s f o : Int} (h : ¬ o = -1) (g : o = f ∨ ¬ inS o s) : ¬ cpP s f o := by
  rintro (⟨y, _⟩ | ⟨_, y2, y3⟩)
  · exact h y
  · rcases g with g | g
    · exact y2 g
    · exact g y3
def gpF (G : Int → Int) (a c : Int) : Int := if 0 ≤ a ∧ a < 8 ∧ 0 ≤ c ∧ c < 8 then G (a * 8 + c) else 0
def loF (L : Int → Int) (s : Int) : Int := if 0 ≤ s ∧ s < 256 then L s else 0
theorem loF_R {L : Int → Int} (h : ∀ i, inR (L i)) (s : Int) : inR (loF L s) := by
  unfold loF
  split
  · exact h s
  · decide
def smF (L G : Int → Int) (s f o : Int) : Int := wr (gpF G f o + loF L (woF s f o))

theorem dX6_isIn_0 : decode cX6_isIn 0 = .ok (.iload_n 1, 1) := by decide +kernel
theorem dX6_isIn_1 : decode cX6_isIn 1 = .ok (.iload_n 0, 1) := by decide +kernel
theorem dX6_isIn_2 : decode cX6_isIn 2 = .ok (.ishr, 1) := by decide +kernel
theorem dX6_isIn_3 : decode cX6_isIn 3 = .ok (.iconst 1, 1) := by decide +kernel
theorem dX6_isIn_4 : decode cX6_isIn 4 = .ok (.iand, 1) := by decide +kernel
theorem dX6_isIn_5 : decode cX6_isIn 5 = .ok (.ifCond .eq 7, 3) := by decide +kernel
theorem dX6_isIn_8 : decode cX6_isIn 8 = .ok (.iconst 1, 1) := by decide +kernel
theorem dX6_isIn_9 : decode cX6_isIn 9 = .ok (.goto 4, 3) := by decide +kernel
theorem dX6_isIn_12 : decode cX6_isIn 12 = .ok (.iconst 0, 1) := by decide +kernel
theorem dX6_isIn_13 : decode cX6_isIn 13 = .ok (.ireturn, 1) := by decide +kernel
set_option maxHeartbeats 4000000 in
set_option maxRecDepth 100000 in
theorem c_X6_isIn {l : Launch} {ω : xO} (hc : xsh ω = clS) {p s : Int} {M : xMem}  : Ct l ω yX6_isIn ({ frames := 0, cells := 0, slots := 0, locals := 0 } : Room) 2 2 [.int (iI p), .int (iI s)] M (some (.int (iI (bI (inS p s))))) M := by
  refine Ct.of (bytes := cX6_isIn) (ret := (some .boolean)) (lv0 := [some (.int (iI p)), some (.int (iI s))]) m_cd_X6_isIn m_in_X6 (by decide +kernel) (by decide +kernel) rfl rfl rfl rfl (fun hR => hR) ?_
  intro κ h he hR
  refine x_iload_n h dX6_isIn_0 rfl ?_
  refine x_iload_n h dX6_isIn_1 rfl ?_
  refine x_ishr h dX6_isIn_2 (fun r2 => ?_)
  refine x_iconst h dX6_isIn_3 ?_
  refine x_iand h dX6_isIn_4 (fun r4 => ?_)
  refine x_if_eq h dX6_isIn_5 (tgt := 12) (by decide) (by omega) (fun q5 => ?_) (fun q5 => ?_)
  · refine x_iconst h dX6_isIn_12 ?_
    exact x_zret h he dX6_isIn_13 (by first | exact Or.inl rfl | exact Or.inr rfl | exact bI_01 _ | omega) rfl (by first | exact (bI_t (by assumption)).symm | exact (bI_f (by intro z; exact z (by assumption))).symm) rfl
  · refine x_iconst h dX6_isIn_8 ?_
    refine x_goto h dX6_isIn_9 (tgt := 13) (by decide) ?_
    exact x_zret h he dX6_isIn_13 (by first | exact Or.inl rfl | exact Or.inr rfl | exact bI_01 _ | omega) rfl (by first | exact (bI_t (by assumption)).symm | exact (bI_f (by intro z; exact z (by assumption))).symm) rfl

theorem dX0_everybody_0 : decode cX0_everybody 0 = .ok (.iconst 1, 1) := by decide +kernel
theorem dX0_everybody_1 : decode cX0_everybody 1 = .ok (.aload_n 0, 1) := by decide +kernel
theorem dX0_everybody_2 : decode cX0_everybody 2 = .ok (.getfield 21, 3) := by decide +kernel
theorem dX0_everybody_5 : decode cX0_everybody 5 = .ok (.ishl, 1) := by decide +kernel
theorem dX0_everybody_6 : decode cX0_everybody 6 = .ok (.iconst 1, 1) := by decide +kernel
theorem dX0_everybody_7 : decode cX0_everybody 7 = .ok (.isub, 1) := by decide +kernel
theorem dX0_everybody_8 : decode cX0_everybody 8 = .ok (.ireturn, 1) := by decide +kernel
set_option maxHeartbeats 4000000 in
set_option maxRecDepth 100000 in
theorem c_X0_everybody {l : Launch} {ω : xO} (hc : xsh ω = clS)  {M : xMem}  : Ct l ω yX0_everybody ({ frames := 0, cells := 0, slots := 0, locals := 0 } : Room) 1 0 [.ref (xad ω 43)] M (some (.int (iI (evF (M 43 3))))) M := by
  refine Ct.of (bytes := cX0_everybody) (ret := (some .int)) (lv0 := [some (.ref (xad ω 43))]) m_cd_X0_everybody m_in_X0 (by decide +kernel) (by decide +kernel) rfl rfl rfl rfl (fun hR => hR) ?_
  intro κ h he hR
  refine x_iconst h dX0_everybody_0 ?_
  refine x_aload_n h dX0_everybody_1 rfl ?_
  refine x_geti (j := 3) 3 h dX0_everybody_2 (sC43 hc) rfl in_X0 rfl (by decide) m_fl_X0_21 rfl (fun r2 => ?_)
  refine x_ishl h dX0_everybody_5 (fun r5 => ?_)
  refine x_iconst h dX0_everybody_6 ?_
  refine x_isub h dX0_everybody_7 ?_
  exact x_iret (ret := none) h he dX0_everybody_8 rfl (by first | rfl | omega | exact (bI_t (by omega)).symm | exact (bI_f (by omega)).symm) rfl

theorem dX0_leastOf_0 : decode cX0_leastOf 0 = .ok (.iload_n 1, 1) := by decide +kernel
theorem dX0_leastOf_1 : decode cX0_leastOf 1 = .ok (.ifCond .lt 19, 3) := by decide +kernel
theorem dX0_leastOf_4 : decode cX0_leastOf 4 = .ok (.iload_n 1, 1) := by decide +kernel
theorem dX0_leastOf_5 : decode cX0_leastOf 5 = .ok (.sipush 256, 3) := by decide +kernel
theorem dX0_leastOf_8 : decode cX0_leastOf 8 = .ok (.if_icmp .ge 12, 3) := by decide +kernel
theorem dX0_leastOf_11 : decode cX0_leastOf 11 = .ok (.aload_n 0, 1) := by decide +kernel
theorem dX0_leastOf_12 : decode cX0_leastOf 12 = .ok (.getfield 9, 3) := by decide +kernel
theorem dX0_leastOf_15 : decode cX0_leastOf 15 = .ok (.iload_n 1, 1) := by decide +kernel
theorem dX0_leastOf_16 : decode cX0_leastOf 16 = .ok (.iaload, 1) := by decide +kernel
theorem dX0_leastOf_17 : decode cX0_leastOf 17 = .ok (.goto 4, 3) := by decide +kernel
theorem dX0_leastOf_20 : decode cX0_leastOf 20 = .ok (.iconst 0, 1) := by decide +kernel
theorem dX0_leastOf_21 : decode cX0_leastOf 21 = .ok (.ireturn, 1) := by decide +kernel
set_option maxHeartbeats 4000000 in
set_option maxRecDepth 100000 in
theorem c_X0_leastOf {l : Launch} {ω : xO} (hc : xsh ω = clS) {s : Int} {M : xMem} (hs : inR s) : Ct l ω yX0_leastOf ({ frames := 0, cells := 0, slots := 0, locals := 0 } : Room) 2 1 [.ref (xad ω 43), .int (iI s)] M (some (.int (iI (loF (M 44) s)))) M := by
  refine Ct.of (bytes := cX0_leastOf) (ret := (some .int)) (lv0 := [some (.ref (xad ω 43)), some (.int (iI s))]) m_cd_X0_leastOf m_in_X0 (by decide +kernel) (by decide +kernel) rfl rfl rfl rfl (fun hR => hR) ?_
  intro κ h he hR
  refine x_iload_n h dX0_leastOf_0 rfl ?_
  refine x_if_lt h dX0_leastOf_1 (tgt := 20) (by decide) (by omega) (fun q1 => ?_) (fun q1 => ?_)
  · refine x_iconst h dX0_leastOf_20 ?_
    exact x_iret (ret := none) h he dX0_leastOf_21 rfl (by unfold loF; (repeat' split) <;> first | rfl | omega) rfl
  · refine x_iload_n h dX0_leastOf_4 rfl ?_
    refine x_sipush h dX0_leastOf_5 (by decide) ?_
    refine x_icmp_ge h dX0_leastOf_8 (tgt := 20) (by decide) (by omega) (by omega) (fun q8 => ?_) (fun q8 => ?_)
    · refine x_iconst h dX0_leastOf_20 ?_
      exact x_iret (ret := none) h he dX0_leastOf_21 rfl (by unfold loF; (repeat' split) <;> first | rfl | omega) rfl
    · refine x_aload_n h dX0_leastOf_11 rfl ?_
      refine x_getr (j := 0) (q := 44) h dX0_leastOf_12 (sC43 hc) rfl in_X0 rfl (by decide) m_fl_X0_9 ?_
      refine x_iload_n h dX0_leastOf_15 rfl ?_
      refine x_iaload h dX0_leastOf_16 (sC44 hc) (by omega) (fun r16 => ?_)
      refine x_goto h dX0_leastOf_17 (tgt := 21) (by decide) ?_
      exact x_iret (ret := none) h he dX0_leastOf_21 rfl (by unfold loF; (repeat' split) <;> first | rfl | omega) rfl

theorem dX0_choicesOf_0 : decode cX0_choicesOf 0 = .ok (.iload_n 1, 1) := by decide +kernel
theorem dX0_choicesOf_1 : decode cX0_choicesOf 1 = .ok (.ifCond .lt 19, 3) := by decide +kernel
theorem dX0_choicesOf_4 : decode cX0_choicesOf 4 = .ok (.iload_n 1, 1) := by decide +kernel
theorem dX0_choicesOf_5 : decode cX0_choicesOf 5 = .ok (.sipush 256, 3) := by decide +kernel
theorem dX0_choicesOf_8 : decode cX0_choicesOf 8 = .ok (.if_icmp .ge 12, 3) := by decide +kernel
theorem dX0_choicesOf_11 : decode cX0_choicesOf 11 = .ok (.aload_n 0, 1) := by decide +kernel
theorem dX0_choicesOf_12 : decode cX0_choicesOf 12 = .ok (.getfield 15, 3) := by decide +kernel
theorem dX0_choicesOf_15 : decode cX0_choicesOf 15 = .ok (.iload_n 1, 1) := by decide +kernel
theorem dX0_choicesOf_16 : decode cX0_choicesOf 16 = .ok (.iaload, 1) := by decide +kernel
theorem dX0_choicesOf_17 : decode cX0_choicesOf 17 = .ok (.goto 4, 3) := by decide +kernel
theorem dX0_choicesOf_20 : decode cX0_choicesOf 20 = .ok (.iconst 0, 1) := by decide +kernel
theorem dX0_choicesOf_21 : decode cX0_choicesOf 21 = .ok (.ireturn, 1) := by decide +kernel
set_option maxHeartbeats 4000000 in
set_option maxRecDepth 100000 in
theorem c_X0_choicesOf {l : Launch} {ω : xO} (hc : xsh ω = clS) {s : Int} {M : xMem} (hs : inR s) : Ct l ω yX0_choicesOf ({ frames := 0, cells := 0, slots := 0, locals := 0 } : Room) 2 1 [.ref (xad ω 43), .int (iI s)] M (some (.int (iI (loF (M 45) s)))) M := by
  refine Ct.of (bytes := cX0_choicesOf) (ret := (some .int)) (lv0 := [some (.ref (xad ω 43)), some (.int (iI s))]) m_cd_X0_choicesOf m_in_X0 (by decide +kernel) (by decide +kernel) rfl rfl rfl rfl (fun hR => hR) ?_
  intro κ h he hR
  refine x_iload_n h dX0_choicesOf_0 rfl ?_
  refine x_if_lt h dX0_choicesOf_1 (tgt := 20) (by decide) (by omega) (fun q1 => ?_) (fun q1 => ?_)
  · refine x_iconst h dX0_choicesOf_20 ?_
    exact x_iret (ret := none) h he dX0_choicesOf_21 rfl (by unfold loF; (repeat' split) <;> first | rfl | omega) rfl
  · refine x_iload_n h dX0_choicesOf_4 rfl ?_
    refine x_sipush h dX0_choicesOf_5 (by decide) ?_
    refine x_icmp_ge h dX0_choicesOf_8 (tgt := 20) (by decide) (by omega) (by omega) (fun q8 => ?_) (fun q8 => ?_)
    · refine x_iconst h dX0_choicesOf_20 ?_
      exact x_iret (ret := none) h he dX0_choicesOf_21 rfl (by unfold loF; (repeat' split) <;> first | rfl | omega) rfl
    · refine x_aload_n h dX0_choicesOf_11 rfl ?_
      refine x_getr (j := 1) (q := 45) h dX0_choicesOf_12 (sC43 hc) rfl in_X0 rfl (by decide) m_fl_X0_15 ?_
      refine x_iload_n h dX0_choicesOf_15 rfl ?_
      refine x_iaload h dX0_choicesOf_16 (sC45 hc) (by omega) (fun r16 => ?_)
      refine x_goto h dX0_choicesOf_17 (tgt := 21) (by decide) ?_
      exact x_iret (ret := none) h he dX0_choicesOf_21 rfl (by unfold loF; (repeat' split) <;> first | rfl | omega) rfl

theorem dX0_gapOf_0 : decode cX0_gapOf 0 = .ok (.iload_n 1, 1) := by decide +kernel
theorem dX0_gapOf_1 : decode cX0_gapOf 1 = .ok (.ifCond .lt 19, 3) := by decide +kernel
theorem dX0_gapOf_4 : decode cX0_gapOf 4 = .ok (.iload_n 1, 1) := by decide +kernel
theorem dX0_gapOf_5 : decode cX0_gapOf 5 = .ok (.bipush 8, 2) := by decide +kernel
theorem dX0_gapOf_7 : decode cX0_gapOf 7 = .ok (.if_icmp .ge 13, 3) := by decide +kernel
theorem dX0_gapOf_10 : decode cX0_gapOf 10 = .ok (.iload_n 2, 1) := by decide +kernel
theorem dX0_gapOf_11 : decode cX0_gapOf 11 = .ok (.ifCond .lt 9, 3) := by decide +kernel
theorem dX0_gapOf_14 : decode cX0_gapOf 14 = .ok (.iload_n 2, 1) := by decide +kernel
theorem dX0_gapOf_15 : decode cX0_gapOf 15 = .ok (.bipush 8, 2) := by decide +kernel
theorem dX0_gapOf_17 : decode cX0_gapOf 17 = .ok (.if_icmp .lt 5, 3) := by decide +kernel
theorem dX0_gapOf_20 : decode cX0_gapOf 20 = .ok (.iconst 0, 1) := by decide +kernel
theorem dX0_gapOf_21 : decode cX0_gapOf 21 = .ok (.ireturn, 1) := by decide +kernel
theorem dX0_gapOf_22 : decode cX0_gapOf 22 = .ok (.aload_n 0, 1) := by decide +kernel
theorem dX0_gapOf_23 : decode cX0_gapOf 23 = .ok (.getfield 18, 3) := by decide +kernel
theorem dX0_gapOf_26 : decode cX0_gapOf 26 = .ok (.iload_n 1, 1) := by decide +kernel
theorem dX0_gapOf_27 : decode cX0_gapOf 27 = .ok (.bipush 8, 2) := by decide +kernel
theorem dX0_gapOf_29 : decode cX0_gapOf 29 = .ok (.imul, 1) := by decide +kernel
theorem dX0_gapOf_30 : decode cX0_gapOf 30 = .ok (.iload_n 2, 1) := by decide +kernel
theorem dX0_gapOf_31 : decode cX0_gapOf 31 = .ok (.iadd, 1) := by decide +kernel
theorem dX0_gapOf_32 : decode cX0_gapOf 32 = .ok (.iaload, 1) := by decide +kernel
theorem dX0_gapOf_33 : decode cX0_gapOf 33 = .ok (.ireturn, 1) := by decide +kernel
set_option maxHeartbeats 4000000 in
set_option maxRecDepth 100000 in
theorem c_X0_gapOf {l : Launch} {ω : xO} (hc : xsh ω = clS) {a c : Int} {M : xMem} (ha : inR a) (hc2 : inR c) : Ct l ω yX0_gapOf ({ frames := 0, cells := 0, slots := 0, locals := 0 } : Room) 3 2 [.ref (xad ω 43), .int (iI a), .int (iI c)] M (some (.int (iI (gpF (M 46) a c)))) M := by
  refine Ct.of (bytes := cX0_gapOf) (ret := (some .int)) (lv0 := [some (.ref (xad ω 43)), some (.int (iI a)), some (.int (iI c))]) m_cd_X0_gapOf m_in_X0 (by decide +kernel) (by decide +kernel) rfl rfl rfl rfl (fun hR => hR) ?_
  intro κ h he hR
  refine x_iload_n h dX0_gapOf_0 rfl ?_
  refine x_if_lt h dX0_gapOf_1 (tgt := 20) (by decide) (by omega) (fun q1 => ?_) (fun q1 => ?_)
  · refine x_iconst h dX0_gapOf_20 ?_
    exact x_iret (ret := none) h he dX0_gapOf_21 rfl (by unfold gpF; (repeat' split) <;> first | rfl | omega) rfl
  · refine x_iload_n h dX0_gapOf_4 rfl ?_
    refine x_bipush h dX0_gapOf_5 (by decide) ?_
    refine x_icmp_ge h dX0_gapOf_7 (tgt := 20) (by decide) (by omega) (by omega) (fun q7 => ?_) (fun q7 => ?_)
    · refine x_iconst h dX0_gapOf_20 ?_
      exact x_iret (ret := none) h he dX0_gapOf_21 rfl (by unfold gpF; (repeat' split) <;> first | rfl | omega) rfl
    · refine x_iload_n h dX0_gapOf_10 rfl ?_
      refine x_if_lt h dX0_gapOf_11 (tgt := 20) (by decide) (by omega) (fun q11 => ?_) (fun q11 => ?_)
      · refine x_iconst h dX0_gapOf_20 ?_
        exact x_iret (ret := none) h he dX0_gapOf_21 rfl (by unfold gpF; (repeat' split) <;> first | rfl | omega) rfl
      · refine x_iload_n h dX0_gapOf_14 rfl ?_
        refine x_bipush h dX0_gapOf_15 (by decide) ?_
        refine x_icmp_lt h dX0_gapOf_17 (tgt := 22) (by decide) (by omega) (by omega) (fun q17 => ?_) (fun q17 => ?_)
        · refine x_aload_n h dX0_gapOf_22 rfl ?_
          refine x_getr (j := 2) (q := 46) h dX0_gapOf_23 (sC43 hc) rfl in_X0 rfl (by decide) m_fl_X0_18 ?_
          refine x_iload_n h dX0_gapOf_26 rfl ?_
          refine x_bipush h dX0_gapOf_27 (by decide) ?_
          refine x_imul h dX0_gapOf_29 ?_
          refine x_iload_n h dX0_gapOf_30 rfl ?_
          refine x_iadd h dX0_gapOf_31 ?_
          refine x_iaload h dX0_gapOf_32 (sC46 hc) (by omega) (fun r32 => ?_)
          exact x_iret (ret := none) h he dX0_gapOf_33 rfl (by unfold gpF; (repeat' split) <;> first | rfl | omega) rfl
        · refine x_iconst h dX0_gapOf_20 ?_
          exact x_iret (ret := none) h he dX0_gapOf_21 rfl (by unfold gpF; (repeat' split) <;> first | rfl | omega) rfl

theorem dX0_without_0 : decode cX0_without 0 = .ok (.iload_n 0, 1) := by decide +kernel
theorem dX0_without_1 : decode cX0_without 1 = .ok (.iconst 1, 1) := by decide +kernel
theorem dX0_without_2 : decode cX0_without 2 = .ok (.iload_n 1, 1) := by decide +kernel
theorem dX0_without_3 : decode cX0_without 3 = .ok (.ishl, 1) := by decide +kernel
theorem dX0_without_4 : decode cX0_without 4 = .ok (.iconst (-1), 1) := by decide +kernel
theorem dX0_without_5 : decode cX0_without 5 = .ok (.ixor, 1) := by decide +kernel
theorem dX0_without_6 : decode cX0_without 6 = .ok (.iand, 1) := by decide +kernel
theorem dX0_without_7 : decode cX0_without 7 = .ok (.istore_n 3, 1) := by decide +kernel
theorem dX0_without_8 : decode cX0_without 8 = .ok (.iload_n 2, 1) := by decide +kernel
theorem dX0_without_9 : decode cX0_without 9 = .ok (.iconst (-1), 1) := by decide +kernel
theorem dX0_without_10 : decode cX0_without 10 = .ok (.if_icmp .ne 7, 3) := by decide +kernel
theorem dX0_without_13 : decode cX0_without 13 = .ok (.iload_n 3, 1) := by decide +kernel
theorem dX0_without_14 : decode cX0_without 14 = .ok (.goto 10, 3) := by decide +kernel
theorem dX0_without_17 : decode cX0_without 17 = .ok (.iload_n 3, 1) := by decide +kernel
theorem dX0_without_18 : decode cX0_without 18 = .ok (.iconst 1, 1) := by decide +kernel
theorem dX0_without_19 : decode cX0_without 19 = .ok (.iload_n 2, 1) := by decide +kernel
theorem dX0_without_20 : decode cX0_without 20 = .ok (.ishl, 1) := by decide +kernel
theorem dX0_without_21 : decode cX0_without 21 = .ok (.iconst (-1), 1) := by decide +kernel
theorem dX0_without_22 : decode cX0_without 22 = .ok (.ixor, 1) := by decide +kernel
theorem dX0_without_23 : decode cX0_without 23 = .ok (.iand, 1) := by decide +kernel
theorem dX0_without_24 : decode cX0_without 24 = .ok (.ireturn, 1) := by decide +kernel
set_option maxHeartbeats 4000000 in
set_option maxRecDepth 100000 in
theorem c_X0_without {l : Launch} {ω : xO} (hc : xsh ω = clS) {s f o : Int} {M : xMem} (ho : inR o) : Ct l ω yX0_without ({ frames := 0, cells := 0, slots := 0, locals := 0 } : Room) 4 3 [.int (iI s), .int (iI f), .int (iI o)] M (some (.int (iI (woF s f o)))) M := by
  refine Ct.of (bytes := cX0_without) (ret := (some .int)) (lv0 := [some (.int (iI s)), some (.int (iI f)), some (.int (iI o)), none]) m_cd_X0_without m_in_X0 (by decide +kernel) (by decide +kernel) rfl rfl rfl rfl (fun hR => hR) ?_
  intro κ h he hR
  refine x_iload_n h dX0_without_0 rfl ?_
  refine x_iconst h dX0_without_1 ?_
  refine x_iload_n h dX0_without_2 rfl ?_
  refine x_ishl h dX0_without_3 (fun r3 => ?_)
  refine x_iconst h dX0_without_4 ?_
  refine x_ixor h dX0_without_5 (fun r5 => ?_)
  refine x_iand h dX0_without_6 (fun r6 => ?_)
  refine x_istore_n h dX0_without_7 rfl rfl ?_
  dsimp only [xset]
  refine x_iload_n h dX0_without_8 rfl ?_
  refine x_iconst h dX0_without_9 ?_
  refine x_icmp_ne h dX0_without_10 (tgt := 17) (by decide) (by omega) (by omega) (fun q10 => ?_) (fun q10 => ?_)
  · refine x_iload_n h dX0_without_17 rfl ?_
    refine x_iconst h dX0_without_18 ?_
    refine x_iload_n h dX0_without_19 rfl ?_
    refine x_ishl h dX0_without_20 (fun r20 => ?_)
    refine x_iconst h dX0_without_21 ?_
    refine x_ixor h dX0_without_22 (fun r22 => ?_)
    refine x_iand h dX0_without_23 (fun r23 => ?_)
    exact x_iret (ret := none) h he dX0_without_24 rfl (by unfold woF; first | rw [if_pos (by assumption)] | rw [if_neg (by assumption)]) rfl
  · refine x_iload_n h dX0_without_13 rfl ?_
    refine x_goto h dX0_without_14 (tgt := 24) (by decide) ?_
    exact x_iret (ret := none) h he dX0_without_24 rfl (by unfold woF; first | rw [if_pos (by assumption)] | rw [if_neg (by assumption)]) rfl

theorem dX0_leastOfAll_0 : decode cX0_leastOfAll 0 = .ok (.aload_n 0, 1) := by decide +kernel
theorem dX0_leastOfAll_1 : decode cX0_leastOfAll 1 = .ok (.aload_n 0, 1) := by decide +kernel
theorem dX0_leastOfAll_2 : decode cX0_leastOfAll 2 = .ok (.invokevirtual 39, 3) := by decide +kernel
theorem dX0_leastOfAll_5 : decode cX0_leastOfAll 5 = .ok (.invokevirtual 46, 3) := by decide +kernel
theorem dX0_leastOfAll_8 : decode cX0_leastOfAll 8 = .ok (.ireturn, 1) := by decide +kernel
set_option maxHeartbeats 4000000 in
set_option maxRecDepth 100000 in
theorem c_X0_leastOfAll {l : Launch} {ω : xO} (hc : xsh ω = clS)  {M : xMem} (hn : 0 ≤ M 43 3 ∧ M 43 3 ≤ 8) : Ct l ω yX0_leastOfAll ({ frames := 1, cells := 0, slots := 0, locals := 21 } : Room) 1 0 [.ref (xad ω 43)] M (some (.int (iI (loF (M 44) (evF (M 43 3)))))) M := by
  refine Ct.of (bytes := cX0_leastOfAll) (ret := (some .int)) (lv0 := [some (.ref (xad ω 43))]) m_cd_X0_leastOfAll m_in_X0 (by decide +kernel) (by decide +kernel) rfl rfl rfl rfl (fun hR => hR) ?_
  intro κ h he hR
  have hv := evF_R hn
  refine x_aload_n h dX0_leastOfAll_0 rfl ?_
  refine x_aload_n h dX0_leastOfAll_1 rfl ?_
  refine x_V0i h dX0_leastOfAll_2 m_ml_X0_39 m_im_X0_everybody m_se_X0_everybody (sC43 hc) rfl (by decide) rfl (c_X0_everybody hc) ?_
  refine x_V1i h dX0_leastOfAll_5 m_ml_X0_46 m_im_X0_leastOf m_se_X0_leastOf (sC43 hc) rfl (by decide) rfl (c_X0_leastOf hc (by omega)) ?_
  exact x_iret (ret := none) h he dX0_leastOfAll_8 rfl (by first | rfl | omega | exact (bI_t (by omega)).symm | exact (bI_f (by omega)).symm) rfl

theorem dX0_numberOfBest_0 : decode cX0_numberOfBest 0 = .ok (.aload_n 0, 1) := by decide +kernel
theorem dX0_numberOfBest_1 : decode cX0_numberOfBest 1 = .ok (.aload_n 0, 1) := by decide +kernel
theorem dX0_numberOfBest_2 : decode cX0_numberOfBest 2 = .ok (.invokevirtual 39, 3) := by decide +kernel
theorem dX0_numberOfBest_5 : decode cX0_numberOfBest 5 = .ok (.invokevirtual 50, 3) := by decide +kernel
theorem dX0_numberOfBest_8 : decode cX0_numberOfBest 8 = .ok (.ireturn, 1) := by decide +kernel
set_option maxHeartbeats 4000000 in
set_option maxRecDepth 100000 in
theorem c_X0_numberOfBest {l : Launch} {ω : xO} (hc : xsh ω = clS)  {M : xMem} (hn : 0 ≤ M 43 3 ∧ M 43 3 ≤ 8) : Ct l ω yX0_numberOfBest ({ frames := 1, cells := 0, slots := 0, locals := 21 } : Room) 1 0 [.ref (xad ω 43)] M (some (.int (iI (loF (M 45) (evF (M 43 3)))))) M := by
  refine Ct.of (bytes := cX0_numberOfBest) (ret := (some .int)) (lv0 := [some (.ref (xad ω 43))]) m_cd_X0_numberOfBest m_in_X0 (by decide +kernel) (by decide +kernel) rfl rfl rfl rfl (fun hR => hR) ?_
  intro κ h he hR
  have hv := evF_R hn
  refine x_aload_n h dX0_numberOfBest_0 rfl ?_
  refine x_aload_n h dX0_numberOfBest_1 rfl ?_
  refine x_V0i h dX0_numberOfBest_2 m_ml_X0_39 m_im_X0_everybody m_se_X0_everybody (sC43 hc) rfl (by decide) rfl (c_X0_everybody hc) ?_
  refine x_V1i h dX0_numberOfBest_5 m_ml_X0_50 m_im_X0_choicesOf m_se_X0_choicesOf (sC43 hc) rfl (by decide) rfl (c_X0_choicesOf hc (by omega)) ?_
  exact x_iret (ret := none) h he dX0_numberOfBest_8 rfl (by first | rfl | omega | exact (bI_t (by omega)).symm | exact (bI_f (by omega)).symm) rfl

theorem dX0_sumWith_0 : decode cX0_sumWith 0 = .ok (.aload_n 0, 1) := by decide +kernel
theorem dX0_sumWith_1 : decode cX0_sumWith 1 = .ok (.iload_n 2, 1) := by decide +kernel
theorem dX0_sumWith_2 : decode cX0_sumWith 2 = .ok (.iload_n 3, 1) := by decide +kernel
theorem dX0_sumWith_3 : decode cX0_sumWith 3 = .ok (.invokevirtual 79, 3) := by decide +kernel
theorem dX0_sumWith_6 : decode cX0_sumWith 6 = .ok (.aload_n 0, 1) := by decide +kernel
theorem dX0_sumWith_7 : decode cX0_sumWith 7 = .ok (.iload_n 1, 1) := by decide +kernel
theorem dX0_sumWith_8 : decode cX0_sumWith 8 = .ok (.iload_n 2, 1) := by decide +kernel
theorem dX0_sumWith_9 : decode cX0_sumWith 9 = .ok (.iload_n 3, 1) := by decide +kernel
theorem dX0_sumWith_10 : decode cX0_sumWith 10 = .ok (.invokestatic 60, 3) := by decide +kernel
theorem dX0_sumWith_13 : decode cX0_sumWith 13 = .ok (.invokevirtual 46, 3) := by decide +kernel
theorem dX0_sumWith_16 : decode cX0_sumWith 16 = .ok (.iadd, 1) := by decide +kernel
theorem dX0_sumWith_17 : decode cX0_sumWith 17 = .ok (.ireturn, 1) := by decide +kernel
set_option maxHeartbeats 4000000 in
set_option maxRecDepth 100000 in
theorem c_X0_sumWith {l : Launch} {ω : xO} (hc : xsh ω = clS) {s f o : Int} {M : xMem} (hf : inR f) (ho : inR o) : Ct l ω yX0_sumWith ({ frames := 1, cells := 0, slots := 0, locals := 23 } : Room) 4 3 [.ref (xad ω 43), .int (iI s), .int (iI f), .int (iI o)] M (some (.int (iI (smF (M 44) (M 46) s f o)))) M := by
  refine Ct.of (bytes := cX0_sumWith) (ret := (some .int)) (lv0 := [some (.ref (xad ω 43)), some (.int (iI s)), some (.int (iI f)), some (.int (iI o))]) m_cd_X0_sumWith m_in_X0 (by decide +kernel) (by decide +kernel) rfl rfl rfl rfl (fun hR => hR) ?_
  intro κ h he hR
  have hw := woF_R s f o
  refine x_aload_n h dX0_sumWith_0 rfl ?_
  refine x_iload_n h dX0_sumWith_1 rfl ?_
  refine x_iload_n h dX0_sumWith_2 rfl ?_
  refine x_V2i h dX0_sumWith_3 m_ml_X0_79 m_im_X0_gapOf m_se_X0_gapOf (sC43 hc) rfl (by decide) rfl (c_X0_gapOf hc (by omega) (by omega)) ?_
  refine x_aload_n h dX0_sumWith_6 rfl ?_
  refine x_iload_n h dX0_sumWith_7 rfl ?_
  refine x_iload_n h dX0_sumWith_8 rfl ?_
  refine x_iload_n h dX0_sumWith_9 rfl ?_
  refine x_S3i h dX0_sumWith_10 m_ml_X0_60 m_st_X0_without (by decide) rfl (c_X0_without hc (by omega)) ?_
  refine x_V1i h dX0_sumWith_13 m_ml_X0_46 m_im_X0_leastOf m_se_X0_leastOf (sC43 hc) rfl (by decide) rfl (c_X0_leastOf hc (by omega)) ?_
  refine x_iadd h dX0_sumWith_16 ?_
  refine x_wr (fun rw => ?_)
  exact x_iret (ret := none) h he dX0_sumWith_17 rfl (by first | rfl | omega | exact (bI_t (by omega)).symm | exact (bI_f (by omega)).symm) rfl

theorem dX0_canPair_0 : decode cX0_canPair 0 = .ok (.iload_n 3, 1) := by decide +kernel
theorem dX0_canPair_1 : decode cX0_canPair 1 = .ok (.iconst (-1), 1) := by decide +kernel
theorem dX0_canPair_2 : decode cX0_canPair 2 = .ok (.if_icmp .ne 18, 3) := by decide +kernel
theorem dX0_canPair_5 : decode cX0_canPair 5 = .ok (.iload_n 1, 1) := by decide +kernel
theorem dX0_canPair_6 : decode cX0_canPair 6 = .ok (.invokestatic 74, 3) := by decide +kernel
theorem dX0_canPair_9 : decode cX0_canPair 9 = .ok (.iconst 1, 1) := by decide +kernel
theorem dX0_canPair_10 : decode cX0_canPair 10 = .ok (.iand, 1) := by decide +kernel
theorem dX0_canPair_11 : decode cX0_canPair 11 = .ok (.ifCond .eq 7, 3) := by decide +kernel
theorem dX0_canPair_14 : decode cX0_canPair 14 = .ok (.iconst 1, 1) := by decide +kernel
theorem dX0_canPair_15 : decode cX0_canPair 15 = .ok (.goto 4, 3) := by decide +kernel
theorem dX0_canPair_18 : decode cX0_canPair 18 = .ok (.iconst 0, 1) := by decide +kernel
theorem dX0_canPair_19 : decode cX0_canPair 19 = .ok (.ireturn, 1) := by decide +kernel
theorem dX0_canPair_20 : decode cX0_canPair 20 = .ok (.iload_n 3, 1) := by decide +kernel
theorem dX0_canPair_21 : decode cX0_canPair 21 = .ok (.iload_n 2, 1) := by decide +kernel
theorem dX0_canPair_22 : decode cX0_canPair 22 = .ok (.if_icmp .eq 15, 3) := by decide +kernel
theorem dX0_canPair_25 : decode cX0_canPair 25 = .ok (.iload_n 3, 1) := by decide +kernel
theorem dX0_canPair_26 : decode cX0_canPair 26 = .ok (.iload_n 1, 1) := by decide +kernel
theorem dX0_canPair_27 : decode cX0_canPair 27 = .ok (.invokestatic 53, 3) := by decide +kernel
theorem dX0_canPair_30 : decode cX0_canPair 30 = .ok (.ifCond .eq 7, 3) := by decide +kernel
theorem dX0_canPair_33 : decode cX0_canPair 33 = .ok (.iconst 1, 1) := by decide +kernel
theorem dX0_canPair_34 : decode cX0_canPair 34 = .ok (.goto 4, 3) := by decide +kernel
theorem dX0_canPair_37 : decode cX0_canPair 37 = .ok (.iconst 0, 1) := by decide +kernel
theorem dX0_canPair_38 : decode cX0_canPair 38 = .ok (.ireturn, 1) := by decide +kernel
set_option maxHeartbeats 4000000 in
set_option maxRecDepth 100000 in
theorem c_X0_canPair {l : Launch} {ω : xO} (hc : xsh ω = clS) {s f o : Int} {M : xMem} (hs : 0 ≤ s ∧ s < 256) (hf : inR f) (ho : inR o) : Ct l ω yX0_canPair ({ frames := 1, cells := 0, slots := 0, locals := 21 } : Room) 4 3 [.ref (xad ω 43), .int (iI s), .int (iI f), .int (iI o)] M (some (.int (iI (bI (cpP s f o))))) M := by
  refine Ct.of (bytes := cX0_canPair) (ret := (some .boolean)) (lv0 := [some (.ref (xad ω 43)), some (.int (iI s)), some (.int (iI f)), some (.int (iI o))]) m_cd_X0_canPair m_in_X0 (by decide +kernel) (by decide +kernel) rfl rfl rfl rfl (fun hR => hR) ?_
  intro κ h he hR
  refine x_iload_n h dX0_canPair_0 rfl ?_
  refine x_iconst h dX0_canPair_1 ?_
  refine x_icmp_ne h dX0_canPair_2 (tgt := 20) (by decide) (by omega) (by omega) (fun q2 => ?_) (fun q2 => ?_)
  · refine x_iload_n h dX0_canPair_20 rfl ?_
    refine x_iload_n h dX0_canPair_21 rfl ?_
    refine x_icmp_eq h dX0_canPair_22 (tgt := 37) (by decide) (by omega) (by omega) (fun q22 => ?_) (fun q22 => ?_)
    · refine x_iconst h dX0_canPair_37 ?_
      exact x_zret h he dX0_canPair_38 (by first | exact Or.inl rfl | exact Or.inr rfl | exact bI_01 _ | omega) rfl (by first | exact (bI_t (Or.inr ⟨q2, q22, q30⟩)).symm | exact (bI_f (cpP_1 q2 (Or.inl q22))).symm | exact (bI_f (cpP_1 q2 (Or.inr q30))).symm) rfl
    · refine x_iload_n h dX0_canPair_25 rfl ?_
      refine x_iload_n h dX0_canPair_26 rfl ?_
      refine x_N2i h dX0_canPair_27 m_nl_X0_53 m_st_X6_isIn (by decide) rfl (c_X6_isIn hc) ?_
      refine x_ifeqB h dX0_canPair_30 (tgt := 37) (by decide) (fun q30 => ?_) (fun q30 => ?_)
      · refine x_iconst h dX0_canPair_37 ?_
        exact x_zret h he dX0_canPair_38 (by first | exact Or.inl rfl | exact Or.inr rfl | exact bI_01 _ | omega) rfl (by first | exact (bI_t (Or.inr ⟨q2, q22, q30⟩)).symm | exact (bI_f (cpP_1 q2 (Or.inl q22))).symm | exact (bI_f (cpP_1 q2 (Or.inr q30))).symm) rfl
      · refine x_iconst h dX0_canPair_33 ?_
        refine x_goto h dX0_canPair_34 (tgt := 38) (by decide) ?_
        exact x_zret h he dX0_canPair_38 (by first | exact Or.inl rfl | exact Or.inr rfl | exact bI_01 _ | omega) rfl (by first | exact (bI_t (Or.inr ⟨q2, q22, q30⟩)).symm | exact (bI_f (cpP_1 q2 (Or.inl q22))).symm | exact (bI_f (cpP_1 q2 (Or.inr q30))).symm) rfl
  · refine x_iload_n h dX0_canPair_5 rfl ?_
    refine x_S1i h dX0_canPair_6 m_ml_X0_74 m_st_J6_bitCount_0f7a4 (by decide) rfl (c_J6_bitCount_0f7a4 (by omega)) ?_
    have hp8 := pc8_R (a := s)
    refine x_iconst h dX0_canPair_9 ?_
    refine x_iand h dX0_canPair_10 (fun r10 => ?_)
    refine x_if_eq h dX0_canPair_11 (tgt := 18) (by decide) (by omega) (fun q11 => ?_) (fun q11 => ?_)
    · refine x_iconst h dX0_canPair_18 ?_
      exact x_zret h he dX0_canPair_19 (by first | exact Or.inl rfl | exact Or.inr rfl | exact bI_01 _ | omega) rfl (by first | exact (bI_t (Or.inl ⟨q2, q11⟩)).symm | exact (bI_f (fun z => z.elim (fun y => y.2 q11) (fun y => y.1 q2))).symm) rfl
    · refine x_iconst h dX0_canPair_14 ?_
      refine x_goto h dX0_canPair_15 (tgt := 19) (by decide) ?_
      exact x_zret h he dX0_canPair_19 (by first | exact Or.inl rfl | exact Or.inr rfl | exact bI_01 _ | omega) rfl (by first | exact (bI_t (Or.inl ⟨q2, q11⟩)).symm | exact (bI_f (fun z => z.elim (fun y => y.2 q11) (fun y => y.1 q2))).symm) rfl

theorem dX0_firstOf_0 : decode cX0_firstOf 0 = .ok (.iconst 0, 1) := by decide +kernel
theorem dX0_firstOf_1 : decode cX0_firstOf 1 = .ok (.istore_n 2, 1) := by decide +kernel
theorem dX0_firstOf_2 : decode cX0_firstOf 2 = .ok (.iload_n 2, 1) := by decide +kernel
theorem dX0_firstOf_3 : decode cX0_firstOf 3 = .ok (.aload_n 0, 1) := by decide +kernel
theorem dX0_firstOf_4 : decode cX0_firstOf 4 = .ok (.getfield 21, 3) := by decide +kernel
theorem dX0_firstOf_7 : decode cX0_firstOf 7 = .ok (.if_icmp .ge 19, 3) := by decide +kernel
theorem dX0_firstOf_10 : decode cX0_firstOf 10 = .ok (.iload_n 2, 1) := by decide +kernel
theorem dX0_firstOf_11 : decode cX0_firstOf 11 = .ok (.iload_n 1, 1) := by decide +kernel
theorem dX0_firstOf_12 : decode cX0_firstOf 12 = .ok (.invokestatic 53, 3) := by decide +kernel
theorem dX0_firstOf_15 : decode cX0_firstOf 15 = .ok (.ifCond .eq 5, 3) := by decide +kernel
theorem dX0_firstOf_18 : decode cX0_firstOf 18 = .ok (.iload_n 2, 1) := by decide +kernel
theorem dX0_firstOf_19 : decode cX0_firstOf 19 = .ok (.ireturn, 1) := by decide +kernel
theorem dX0_firstOf_20 : decode cX0_firstOf 20 = .ok (.iinc 2 1, 3) := by decide +kernel
theorem dX0_firstOf_23 : decode cX0_firstOf 23 = .ok (.goto (-21), 3) := by decide +kernel
theorem dX0_firstOf_26 : decode cX0_firstOf 26 = .ok (.iconst (-1), 1) := by decide +kernel
theorem dX0_firstOf_27 : decode cX0_firstOf 27 = .ok (.ireturn, 1) := by decide +kernel
set_option maxHeartbeats 4000000 in
set_option maxRecDepth 100000 in
theorem c_X0_firstOf {l : Launch} {ω : xO} (hc : xsh ω = clS) {s : Int} {M : xMem} (hn : 0 ≤ M 43 3 ∧ M 43 3 ≤ 8) : Ct l ω yX0_firstOf ({ frames := 1, cells := 0, slots := 0, locals := 21 } : Room) 3 1 [.ref (xad ω 43), .int (iI s)] M (some (.int (iI (fsF (fun i => inS i s) (M 43 3).toNat 0 (-1))))) M := by
  refine Ct.of (bytes := cX0_firstOf) (ret := (some .int)) (lv0 := [some (.ref (xad ω 43)), some (.int (iI s)), none]) m_cd_X0_firstOf m_in_X0 (by decide +kernel) (by decide +kernel) rfl rfl rfl rfl (fun hR => hR) ?_
  intro κ h he hR
  refine x_iconst h dX0_firstOf_0 ?_
  refine x_istore_n h dX0_firstOf_1 rfl rfl ?_
  dsimp only [xset]
  have H : ∀ (d : Nat) (i : Int), 0 ≤ i → i + d = M 43 3 → fsF (fun i => inS i s) d i (-1) = fsF (fun i => inS i s) (M 43 3).toNat 0 (-1) → X ω κ 2 [some (.ref (xad ω 43)), some (.int (iI s)), some (.int (iI i))] [] M := by
    intro d
    induction d with
    | zero =>
      intro i hi0 hid e
      refine x_iload_n h dX0_firstOf_2 rfl ?_
      refine x_aload_n h dX0_firstOf_3 rfl ?_
      refine x_geti (j := 3) 3 h dX0_firstOf_4 (sC43 hc) rfl in_X0 rfl (by decide) m_fl_X0_21 rfl (fun r4 => ?_)
      refine x_icmp_ge h dX0_firstOf_7 (tgt := 26) (by decide) (by omega) (by omega) (fun q7 => ?_) (fun q7 => ?_)
      · refine x_iconst h dX0_firstOf_26 ?_
        exact x_iret (ret := none) h he dX0_firstOf_27 rfl (by rw [← e]; rfl) rfl
      · exfalso; omega
    | succ d ih =>
      intro i hi0 hid e
      refine x_iload_n h dX0_firstOf_2 rfl ?_
      refine x_aload_n h dX0_firstOf_3 rfl ?_
      refine x_geti (j := 3) 3 h dX0_firstOf_4 (sC43 hc) rfl in_X0 rfl (by decide) m_fl_X0_21 rfl (fun r4 => ?_)
      refine x_icmp_ge h dX0_firstOf_7 (tgt := 26) (by decide) (by omega) (by omega) (fun q7 => ?_) (fun q7 => ?_)
      · exfalso; omega
      · refine x_iload_n h dX0_firstOf_10 rfl ?_
        refine x_iload_n h dX0_firstOf_11 rfl ?_
        refine x_N2i h dX0_firstOf_12 m_nl_X0_53 m_st_X6_isIn (by decide) rfl (c_X6_isIn hc) ?_
        refine x_ifeqB h dX0_firstOf_15 (tgt := 20) (by decide) (fun q15 => ?_) (fun q15 => ?_)
        · refine x_iinc h dX0_firstOf_20 rfl rfl rfl ?_
          dsimp only [xset]
          refine x_goto h dX0_firstOf_23 (tgt := 2) (by decide) ?_
          exact ih (i + 1) (by omega) (by omega) (by rw [← e, fsF, tI_n q15])
        · refine x_iload_n h dX0_firstOf_18 rfl ?_
          exact x_iret (ret := none) h he dX0_firstOf_19 rfl (by rw [← e, fsF, tI_p q15]) rfl
  exact H (M 43 3).toNat 0 (by omega) (by omega) rfl

theorem fsF_i {P : Int → Prop} : ∀ (d : Nat) (i z : Int), fsF P d i z = z ∨ (i ≤ fsF P d i z ∧ fsF P d i z < i + d) := by
  intro d
  induction d with
  | zero => intro i z; exact Or.inl rfl
  | succ d ih =>
    intro i z
    unfold fsF tI
    split
    · right; omega
    · rcases ih (i + 1) z with h | h
      · exact Or.inl h
      · right; omega
abbrev fpP (L G : Int → Int) (s f o : Int) : Prop := cpP s f o ∧ smF L G s f o = loF L s
noncomputable def fpF (L G : Int → Int) (n : Int) (s f : Int) : Int := fsF (fpP L G s f) (n + 1).toNat (-1) (-1)
theorem fpF_R {L G : Int → Int} {n s f : Int} (h : 0 ≤ n ∧ n ≤ 8) : -1 ≤ fpF L G n s f ∧ fpF L G n s f < n := by
  unfold fpF
  rcases fsF_i (P := fpP L G s f) (n + 1).toNat (-1) (-1) with e | e <;> omega
theorem dX0_firstPartner_0 : decode cX0_firstPartner 0 = .ok (.iconst (-1), 1) := by decide +kernel
theorem dX0_firstPartner_1 : decode cX0_firstPartner 1 = .ok (.istore_n 3, 1) := by decide +kernel
theorem dX0_firstPartner_2 : decode cX0_firstPartner 2 = .ok (.iload_n 3, 1) := by decide +kernel
theorem dX0_firstPartner_3 : decode cX0_firstPartner 3 = .ok (.aload_n 0, 1) := by decide +kernel
theorem dX0_firstPartner_4 : decode cX0_firstPartner 4 = .ok (.getfield 21, 3) := by decide +kernel
theorem dX0_firstPartner_7 : decode cX0_firstPartner 7 = .ok (.if_icmp .ge 36, 3) := by decide +kernel
theorem dX0_firstPartner_10 : decode cX0_firstPartner 10 = .ok (.aload_n 0, 1) := by decide +kernel
theorem dX0_firstPartner_11 : decode cX0_firstPartner 11 = .ok (.iload_n 1, 1) := by decide +kernel
theorem dX0_firstPartner_12 : decode cX0_firstPartner 12 = .ok (.iload_n 2, 1) := by decide +kernel
theorem dX0_firstPartner_13 : decode cX0_firstPartner 13 = .ok (.iload_n 3, 1) := by decide +kernel
theorem dX0_firstPartner_14 : decode cX0_firstPartner 14 = .ok (.invokevirtual 67, 3) := by decide +kernel
theorem dX0_firstPartner_17 : decode cX0_firstPartner 17 = .ok (.ifCond .eq 20, 3) := by decide +kernel
theorem dX0_firstPartner_20 : decode cX0_firstPartner 20 = .ok (.aload_n 0, 1) := by decide +kernel
theorem dX0_firstPartner_21 : decode cX0_firstPartner 21 = .ok (.iload_n 1, 1) := by decide +kernel
theorem dX0_firstPartner_22 : decode cX0_firstPartner 22 = .ok (.iload_n 2, 1) := by decide +kernel
theorem dX0_firstPartner_23 : decode cX0_firstPartner 23 = .ok (.iload_n 3, 1) := by decide +kernel
theorem dX0_firstPartner_24 : decode cX0_firstPartner 24 = .ok (.invokevirtual 71, 3) := by decide +kernel
theorem dX0_firstPartner_27 : decode cX0_firstPartner 27 = .ok (.aload_n 0, 1) := by decide +kernel
theorem dX0_firstPartner_28 : decode cX0_firstPartner 28 = .ok (.iload_n 1, 1) := by decide +kernel
theorem dX0_firstPartner_29 : decode cX0_firstPartner 29 = .ok (.invokevirtual 46, 3) := by decide +kernel
theorem dX0_firstPartner_32 : decode cX0_firstPartner 32 = .ok (.if_icmp .ne 5, 3) := by decide +kernel
theorem dX0_firstPartner_35 : decode cX0_firstPartner 35 = .ok (.iload_n 3, 1) := by decide +kernel
theorem dX0_firstPartner_36 : decode cX0_firstPartner 36 = .ok (.ireturn, 1) := by decide +kernel
theorem dX0_firstPartner_37 : decode cX0_firstPartner 37 = .ok (.iinc 3 1, 3) := by decide +kernel
theorem dX0_firstPartner_40 : decode cX0_firstPartner 40 = .ok (.goto (-38), 3) := by decide +kernel
theorem dX0_firstPartner_43 : decode cX0_firstPartner 43 = .ok (.iconst (-1), 1) := by decide +kernel
theorem dX0_firstPartner_44 : decode cX0_firstPartner 44 = .ok (.ireturn, 1) := by decide +kernel
set_option maxHeartbeats 4000000 in
set_option maxRecDepth 100000 in
theorem c_X0_firstPartner {l : Launch} {ω : xO} (hc : xsh ω = clS) {s f : Int} {M : xMem} (hn : 0 ≤ M 43 3 ∧ M 43 3 ≤ 8) (hs : 0 ≤ s ∧ s < 256) (hf : inR f) : Ct l ω yX0_firstPartner ({ frames := 2, cells := 0, slots := 0, locals := 46 } : Room) 4 2 [.ref (xad ω 43), .int (iI s), .int (iI f)] M (some (.int (iI (fpF (M 44) (M 46) (M 43 3) s f)))) M := by
  refine Ct.of (bytes := cX0_firstPartner) (ret := (some .int)) (lv0 := [some (.ref (xad ω 43)), some (.int (iI s)), some (.int (iI f)), none]) m_cd_X0_firstPartner m_in_X0 (by decide +kernel) (by decide +kernel) rfl rfl rfl rfl (fun hR => hR) ?_
  intro κ h he hR
  refine x_iconst h dX0_firstPartner_0 ?_
  refine x_istore_n h dX0_firstPartner_1 rfl rfl ?_
  dsimp only [xset]
  unfold fpF at he
  have H : ∀ (d : Nat) (i : Int), (-1) ≤ i → i + d = M 43 3 → fsF (fpP (M 44) (M 46) s f) d i (-1) = fsF (fpP (M 44) (M 46) s f) (M 43 3 + 1).toNat (-1) (-1) → X ω κ 2 [some (.ref (xad ω 43)), some (.int (iI s)), some (.int (iI f)), some (.int (iI i))] [] M := by
    intro d
    induction d with
    | zero =>
      intro i hi0 hid e
      refine x_iload_n h dX0_firstPartner_2 rfl ?_
      refine x_aload_n h dX0_firstPartner_3 rfl ?_
      refine x_geti (j := 3) 3 h dX0_firstPartner_4 (sC43 hc) rfl in_X0 rfl (by decide) m_fl_X0_21 rfl (fun r4 => ?_)
      refine x_icmp_ge h dX0_firstPartner_7 (tgt := 43) (by decide) (by omega) (by omega) (fun q7 => ?_) (fun q7 => ?_)
      · refine x_iconst h dX0_firstPartner_43 ?_
        exact x_iret (ret := none) h he dX0_firstPartner_44 rfl (by rw [← e]; rfl) rfl
      · exfalso; omega
    | succ d ih =>
      intro i hi0 hid e
      have r1 : inR (smF (M 44) (M 46) s f i) := wr_R _
      have r2 := loF_R (hR 44) s
      refine x_iload_n h dX0_firstPartner_2 rfl ?_
      refine x_aload_n h dX0_firstPartner_3 rfl ?_
      refine x_geti (j := 3) 3 h dX0_firstPartner_4 (sC43 hc) rfl in_X0 rfl (by decide) m_fl_X0_21 rfl (fun r4 => ?_)
      refine x_icmp_ge h dX0_firstPartner_7 (tgt := 43) (by decide) (by omega) (by omega) (fun q7 => ?_) (fun q7 => ?_)
      · exfalso; omega
      · refine x_aload_n h dX0_firstPartner_10 rfl ?_
        refine x_iload_n h dX0_firstPartner_11 rfl ?_
        refine x_iload_n h dX0_firstPartner_12 rfl ?_
        refine x_iload_n h dX0_firstPartner_13 rfl ?_
        refine x_V3i h dX0_firstPartner_14 m_ml_X0_67 m_im_X0_canPair m_se_X0_canPair (sC43 hc) rfl (by decide) rfl (c_X0_canPair hc (by omega) (by omega) (by omega)) ?_
        refine x_ifeqB h dX0_firstPartner_17 (tgt := 37) (by decide) (fun q17 => ?_) (fun q17 => ?_)
        · refine x_iinc h dX0_firstPartner_37 rfl rfl rfl ?_
          dsimp only [xset]
          refine x_goto h dX0_firstPartner_40 (tgt := 2) (by decide) ?_
          refine ih (i + 1) (by omega) (by omega) ?_
          rw [← e, fsF]
          first | rw [tI_n (fun z => q17 z.1)] | rw [tI_n (fun z => q32 z.2)]
        · refine x_aload_n h dX0_firstPartner_20 rfl ?_
          refine x_iload_n h dX0_firstPartner_21 rfl ?_
          refine x_iload_n h dX0_firstPartner_22 rfl ?_
          refine x_iload_n h dX0_firstPartner_23 rfl ?_
          refine x_V3i h dX0_firstPartner_24 m_ml_X0_71 m_im_X0_sumWith m_se_X0_sumWith (sC43 hc) rfl (by decide) rfl (c_X0_sumWith hc (by omega) (by omega)) ?_
          refine x_aload_n h dX0_firstPartner_27 rfl ?_
          refine x_iload_n h dX0_firstPartner_28 rfl ?_
          refine x_V1i h dX0_firstPartner_29 m_ml_X0_46 m_im_X0_leastOf m_se_X0_leastOf (sC43 hc) rfl (by decide) rfl (c_X0_leastOf hc (by omega)) ?_
          refine x_icmp_ne h dX0_firstPartner_32 (tgt := 37) (by decide) (by omega) (by omega) (fun q32 => ?_) (fun q32 => ?_)
          · refine x_iinc h dX0_firstPartner_37 rfl rfl rfl ?_
            dsimp only [xset]
            refine x_goto h dX0_firstPartner_40 (tgt := 2) (by decide) ?_
            refine ih (i + 1) (by omega) (by omega) ?_
            rw [← e, fsF]
            first | rw [tI_n (fun z => q17 z.1)] | rw [tI_n (fun z => q32 z.2)]
          · refine x_iload_n h dX0_firstPartner_35 rfl ?_
            exact x_iret (ret := none) h he dX0_firstPartner_36 rfl (by rw [← e, fsF, tI_p ⟨q17, q32⟩]) rfl
  exact H (M 43 3 + 1).toNat (-1) (by omega) (by omega) rfl

noncomputable def poF (L G : Int → Int) (n person : Int) : Nat → Int → Int → Int
  | 0, _, _ => -1
  | d + 1, i, s => tI (inS i s) (if i = person then fpF L G n s i else if fpF L G n s i = person then i else poF L G n person d (i + 1) (woF s i (fpF L G n s i))) (poF L G n person d (i + 1) s)
theorem dX0_partnerOf_0 : decode cX0_partnerOf 0 = .ok (.aload_n 0, 1) := by decide +kernel
theorem dX0_partnerOf_1 : decode cX0_partnerOf 1 = .ok (.invokevirtual 39, 3) := by decide +kernel
theorem dX0_partnerOf_4 : decode cX0_partnerOf 4 = .ok (.istore_n 2, 1) := by decide +kernel
theorem dX0_partnerOf_5 : decode cX0_partnerOf 5 = .ok (.iconst 0, 1) := by decide +kernel
theorem dX0_partnerOf_6 : decode cX0_partnerOf 6 = .ok (.istore_n 3, 1) := by decide +kernel
theorem dX0_partnerOf_7 : decode cX0_partnerOf 7 = .ok (.iload_n 3, 1) := by decide +kernel
theorem dX0_partnerOf_8 : decode cX0_partnerOf 8 = .ok (.aload_n 0, 1) := by decide +kernel
theorem dX0_partnerOf_9 : decode cX0_partnerOf 9 = .ok (.getfield 21, 3) := by decide +kernel
theorem dX0_partnerOf_12 : decode cX0_partnerOf 12 = .ok (.if_icmp .ge 49, 3) := by decide +kernel
theorem dX0_partnerOf_15 : decode cX0_partnerOf 15 = .ok (.iload_n 3, 1) := by decide +kernel
theorem dX0_partnerOf_16 : decode cX0_partnerOf 16 = .ok (.iload_n 2, 1) := by decide +kernel
theorem dX0_partnerOf_17 : decode cX0_partnerOf 17 = .ok (.invokestatic 53, 3) := by decide +kernel
theorem dX0_partnerOf_20 : decode cX0_partnerOf 20 = .ok (.ifCond .eq 35, 3) := by decide +kernel
theorem dX0_partnerOf_23 : decode cX0_partnerOf 23 = .ok (.aload_n 0, 1) := by decide +kernel
theorem dX0_partnerOf_24 : decode cX0_partnerOf 24 = .ok (.iload_n 2, 1) := by decide +kernel
theorem dX0_partnerOf_25 : decode cX0_partnerOf 25 = .ok (.iload_n 3, 1) := by decide +kernel
theorem dX0_partnerOf_26 : decode cX0_partnerOf 26 = .ok (.invokevirtual 57, 3) := by decide +kernel
theorem dX0_partnerOf_29 : decode cX0_partnerOf 29 = .ok (.istore 4, 2) := by decide +kernel
theorem dX0_partnerOf_31 : decode cX0_partnerOf 31 = .ok (.iload_n 3, 1) := by decide +kernel
theorem dX0_partnerOf_32 : decode cX0_partnerOf 32 = .ok (.iload_n 1, 1) := by decide +kernel
theorem dX0_partnerOf_33 : decode cX0_partnerOf 33 = .ok (.if_icmp .ne 6, 3) := by decide +kernel
theorem dX0_partnerOf_36 : decode cX0_partnerOf 36 = .ok (.iload 4, 2) := by decide +kernel
theorem dX0_partnerOf_38 : decode cX0_partnerOf 38 = .ok (.ireturn, 1) := by decide +kernel
theorem dX0_partnerOf_39 : decode cX0_partnerOf 39 = .ok (.iload 4, 2) := by decide +kernel
theorem dX0_partnerOf_41 : decode cX0_partnerOf 41 = .ok (.iload_n 1, 1) := by decide +kernel
theorem dX0_partnerOf_42 : decode cX0_partnerOf 42 = .ok (.if_icmp .ne 5, 3) := by decide +kernel
theorem dX0_partnerOf_45 : decode cX0_partnerOf 45 = .ok (.iload_n 3, 1) := by decide +kernel
theorem dX0_partnerOf_46 : decode cX0_partnerOf 46 = .ok (.ireturn, 1) := by decide +kernel
theorem dX0_partnerOf_47 : decode cX0_partnerOf 47 = .ok (.iload_n 2, 1) := by decide +kernel
theorem dX0_partnerOf_48 : decode cX0_partnerOf 48 = .ok (.iload_n 3, 1) := by decide +kernel
theorem dX0_partnerOf_49 : decode cX0_partnerOf 49 = .ok (.iload 4, 2) := by decide +kernel
theorem dX0_partnerOf_51 : decode cX0_partnerOf 51 = .ok (.invokestatic 60, 3) := by decide +kernel
theorem dX0_partnerOf_54 : decode cX0_partnerOf 54 = .ok (.istore_n 2, 1) := by decide +kernel
theorem dX0_partnerOf_55 : decode cX0_partnerOf 55 = .ok (.iinc 3 1, 3) := by decide +kernel
theorem dX0_partnerOf_58 : decode cX0_partnerOf 58 = .ok (.goto (-51), 3) := by decide +kernel
theorem dX0_partnerOf_61 : decode cX0_partnerOf 61 = .ok (.iconst (-1), 1) := by decide +kernel
theorem dX0_partnerOf_62 : decode cX0_partnerOf 62 = .ok (.ireturn, 1) := by decide +kernel
set_option maxHeartbeats 4000000 in
set_option maxRecDepth 100000 in
theorem c_X0_partnerOf {l : Launch} {ω : xO} (hc : xsh ω = clS) {p : Int} {M : xMem} (hn : 0 ≤ M 43 3 ∧ M 43 3 ≤ 8) (hp : inR p) : Ct l ω yX0_partnerOf ({ frames := 3, cells := 0, slots := 0, locals := 69 } : Room) 5 1 [.ref (xad ω 43), .int (iI p)] M (some (.int (iI (poF (M 44) (M 46) (M 43 3) p (M 43 3).toNat 0 (evF (M 43 3)))))) M := by
  refine Ct.of (bytes := cX0_partnerOf) (ret := (some .int)) (lv0 := [some (.ref (xad ω 43)), some (.int (iI p)), none, none, none]) m_cd_X0_partnerOf m_in_X0 (by decide +kernel) (by decide +kernel) rfl rfl rfl rfl (fun hR => hR) ?_
  intro κ h he hR
  refine x_aload_n h dX0_partnerOf_0 rfl ?_
  refine x_V0i h dX0_partnerOf_1 m_ml_X0_39 m_im_X0_everybody m_se_X0_everybody (sC43 hc) rfl (by decide) rfl (c_X0_everybody hc) ?_
  refine x_istore_n h dX0_partnerOf_4 rfl rfl ?_
  dsimp only [xset]
  refine x_iconst h dX0_partnerOf_5 ?_
  refine x_istore_n h dX0_partnerOf_6 rfl rfl ?_
  dsimp only [xset]
  have H : ∀ (d : Nat) (i s : Int), 0 ≤ i → i + d = M 43 3 → 0 ≤ s ∧ s < 256 → poF (M 44) (M 46) (M 43 3) p d i s = poF (M 44) (M 46) (M 43 3) p (M 43 3).toNat 0 (evF (M 43 3)) → X ω κ 7 [some (.ref (xad ω 43)), some (.int (iI p)), some (.int (iI s)), some (.int (iI i)), none] [] M := by
    intro d
    induction d with
    | zero =>
      intro i s hi0 hid hs e
      refine x_iload_n h dX0_partnerOf_7 rfl ?_
      refine x_aload_n h dX0_partnerOf_8 rfl ?_
      refine x_geti (j := 3) 3 h dX0_partnerOf_9 (sC43 hc) rfl in_X0 rfl (by decide) m_fl_X0_21 rfl (fun r9 => ?_)
      refine x_icmp_ge h dX0_partnerOf_12 (tgt := 61) (by decide) (by omega) (by omega) (fun q12 => ?_) (fun q12 => ?_)
      · refine x_iconst h dX0_partnerOf_61 ?_
        exact x_iret (ret := none) h he dX0_partnerOf_62 rfl (by rw [← e]; rfl) rfl
      · exfalso; omega
    | succ d ih =>
      intro i s hi0 hid hs e
      have hfp := fpF_R (L := M 44) (G := M 46) (n := M 43 3) (s := s) (f := i) hn
      refine x_iload_n h dX0_partnerOf_7 rfl ?_
      refine x_aload_n h dX0_partnerOf_8 rfl ?_
      refine x_geti (j := 3) 3 h dX0_partnerOf_9 (sC43 hc) rfl in_X0 rfl (by decide) m_fl_X0_21 rfl (fun r9 => ?_)
      refine x_icmp_ge h dX0_partnerOf_12 (tgt := 61) (by decide) (by omega) (by omega) (fun q12 => ?_) (fun q12 => ?_)
      · exfalso; omega
      · refine x_iload_n h dX0_partnerOf_15 rfl ?_
        refine x_iload_n h dX0_partnerOf_16 rfl ?_
        refine x_N2i h dX0_partnerOf_17 m_nl_X0_53 m_st_X6_isIn (by decide) rfl (c_X6_isIn hc) ?_
        refine x_ifeqB h dX0_partnerOf_20 (tgt := 55) (by decide) (fun q20 => ?_) (fun q20 => ?_)
        · refine x_iinc h dX0_partnerOf_55 rfl rfl rfl ?_
          dsimp only [xset]
          refine x_goto h dX0_partnerOf_58 (tgt := 7) (by decide) ?_
          first
            | (refine x_drop 4 ?_; dsimp only [xclr]; exact ih (i + 1) _ (by omega) (by omega) (woF_255 hs _ _) (by rw [← e, poF, tI_p q20, if_neg q33, if_neg q42]))
            | exact ih (i + 1) s (by omega) (by omega) hs (by rw [← e, poF, tI_n q20])
        · refine x_aload_n h dX0_partnerOf_23 rfl ?_
          refine x_iload_n h dX0_partnerOf_24 rfl ?_
          refine x_iload_n h dX0_partnerOf_25 rfl ?_
          refine x_V2i h dX0_partnerOf_26 m_ml_X0_57 m_im_X0_firstPartner m_se_X0_firstPartner (sC43 hc) rfl (by decide) rfl (c_X0_firstPartner hc (by omega) (by omega) (by omega)) ?_
          refine x_istore h dX0_partnerOf_29 rfl rfl ?_
          dsimp only [xset]
          refine x_iload_n h dX0_partnerOf_31 rfl ?_
          refine x_iload_n h dX0_partnerOf_32 rfl ?_
          refine x_icmp_ne h dX0_partnerOf_33 (tgt := 39) (by decide) (by omega) (by omega) (fun q33 => ?_) (fun q33 => ?_)
          · refine x_iload h dX0_partnerOf_39 rfl ?_
            refine x_iload_n h dX0_partnerOf_41 rfl ?_
            refine x_icmp_ne h dX0_partnerOf_42 (tgt := 47) (by decide) (by omega) (by omega) (fun q42 => ?_) (fun q42 => ?_)
            · refine x_iload_n h dX0_partnerOf_47 rfl ?_
              refine x_iload_n h dX0_partnerOf_48 rfl ?_
              refine x_iload h dX0_partnerOf_49 rfl ?_
              refine x_S3i h dX0_partnerOf_51 m_ml_X0_60 m_st_X0_without (by decide) rfl (c_X0_without hc (by omega)) ?_
              refine x_istore_n h dX0_partnerOf_54 rfl rfl ?_
              dsimp only [xset]
              refine x_iinc h dX0_partnerOf_55 rfl rfl rfl ?_
              dsimp only [xset]
              refine x_goto h dX0_partnerOf_58 (tgt := 7) (by decide) ?_
              first
                | (refine x_drop 4 ?_; dsimp only [xclr]; exact ih (i + 1) _ (by omega) (by omega) (woF_255 hs _ _) (by rw [← e, poF, tI_p q20, if_neg q33, if_neg q42]))
                | exact ih (i + 1) s (by omega) (by omega) hs (by rw [← e, poF, tI_n q20])
            · refine x_iload_n h dX0_partnerOf_45 rfl ?_
              exact x_iret (ret := none) h he dX0_partnerOf_46 rfl (by rw [← e, poF, tI_p q20, if_neg q33, if_pos q42]) rfl
          · refine x_iload h dX0_partnerOf_36 rfl ?_
            exact x_iret (ret := none) h he dX0_partnerOf_38 rfl (by rw [← e, poF, tI_p q20, if_pos q33]) rfl
  exact H (M 43 3).toNat 0 (evF (M 43 3)) (by omega) (by omega) (evF_R hn) rfl

noncomputable def rsG (L C G : Int → Int) (s f : Int) (k : Int) (st : Int × Int) : Int × Int :=
  tI (cpP s f (k - 1)) (if st.2 = 0 ∨ smF L G s f (k - 1) < st.1 then (smF L G s f (k - 1), loF C (woF s f (k - 1))) else if smF L G s f (k - 1) = st.1 then (st.1, wr (st.2 + loF C (woF s f (k - 1)))) else st) st
noncomputable def rsF (L C G : Int → Int) (s f : Int) (n : Nat) : Int × Int := xfo (rsG L C G s f) (0, 0) n
theorem rsF_s (L C G : Int → Int) (s f : Int) (n : Nat) : rsF L C G s f (n + 1) = rsG L C G s f (n : Int) (rsF L C G s f n) := by
  unfold rsF
  rw [xfo_s (rsG L C G s f) (0, 0) n]
theorem rsF_R {L C G : Int → Int} {s f : Int} (hC : ∀ i, inR (C i)) : ∀ n : Nat, inR (rsF L C G s f n).1 ∧ inR (rsF L C G s f n).2 := by
  intro n
  induction n with
  | zero => unfold rsF xfo; exact ⟨by decide, by decide⟩
  | succ n ih =>
    rw [rsF_s]
    unfold rsG tI
    split
    · split
      · exact ⟨wr_R _, loF_R hC _⟩
      · split
        · exact ⟨ih.1, wr_R _⟩
        · exact ih
    · exact ih
noncomputable abbrev foS (M : xMem) (s : Int) : Int := fsF (fun i => inS i s) (M 43 3).toNat 0 (-1)
noncomputable def rkR (M : xMem) (s : Int) : Int × Int := rsF (M 44) (M 45) (M 46) s (foS M s) (M 43 3 + 1).toNat
noncomputable def rkC (M : xMem) (s : Int) : xMem := up (up M 44 s (rkR M s).1) 45 s (rkR M s).2
theorem dX0_reckonSet_0 : decode cX0_reckonSet 0 = .ok (.iload_n 1, 1) := by decide +kernel
theorem dX0_reckonSet_1 : decode cX0_reckonSet 1 = .ok (.ifCond .lt 10, 3) := by decide +kernel
theorem dX0_reckonSet_4 : decode cX0_reckonSet 4 = .ok (.iload_n 1, 1) := by decide +kernel
theorem dX0_reckonSet_5 : decode cX0_reckonSet 5 = .ok (.sipush 256, 3) := by decide +kernel
theorem dX0_reckonSet_8 : decode cX0_reckonSet 8 = .ok (.if_icmp .lt 4, 3) := by decide +kernel
theorem dX0_reckonSet_11 : decode cX0_reckonSet 11 = .ok (.return_, 1) := by decide +kernel
theorem dX0_reckonSet_12 : decode cX0_reckonSet 12 = .ok (.aload_n 0, 1) := by decide +kernel
theorem dX0_reckonSet_13 : decode cX0_reckonSet 13 = .ok (.iload_n 1, 1) := by decide +kernel
theorem dX0_reckonSet_14 : decode cX0_reckonSet 14 = .ok (.invokevirtual 64, 3) := by decide +kernel
theorem dX0_reckonSet_17 : decode cX0_reckonSet 17 = .ok (.istore_n 2, 1) := by decide +kernel
theorem dX0_reckonSet_18 : decode cX0_reckonSet 18 = .ok (.iconst 0, 1) := by decide +kernel
theorem dX0_reckonSet_19 : decode cX0_reckonSet 19 = .ok (.istore_n 3, 1) := by decide +kernel
theorem dX0_reckonSet_20 : decode cX0_reckonSet 20 = .ok (.iconst 0, 1) := by decide +kernel
theorem dX0_reckonSet_21 : decode cX0_reckonSet 21 = .ok (.istore 4, 2) := by decide +kernel
theorem dX0_reckonSet_23 : decode cX0_reckonSet 23 = .ok (.iconst (-1), 1) := by decide +kernel
theorem dX0_reckonSet_24 : decode cX0_reckonSet 24 = .ok (.istore 5, 2) := by decide +kernel
theorem dX0_reckonSet_26 : decode cX0_reckonSet 26 = .ok (.iload 5, 2) := by decide +kernel
theorem dX0_reckonSet_28 : decode cX0_reckonSet 28 = .ok (.aload_n 0, 1) := by decide +kernel
theorem dX0_reckonSet_29 : decode cX0_reckonSet 29 = .ok (.getfield 21, 3) := by decide +kernel
theorem dX0_reckonSet_32 : decode cX0_reckonSet 32 = .ok (.if_icmp .ge 77, 3) := by decide +kernel
theorem dX0_reckonSet_35 : decode cX0_reckonSet 35 = .ok (.aload_n 0, 1) := by decide +kernel
theorem dX0_reckonSet_36 : decode cX0_reckonSet 36 = .ok (.iload_n 1, 1) := by decide +kernel
theorem dX0_reckonSet_37 : decode cX0_reckonSet 37 = .ok (.iload_n 2, 1) := by decide +kernel
theorem dX0_reckonSet_38 : decode cX0_reckonSet 38 = .ok (.iload 5, 2) := by decide +kernel
theorem dX0_reckonSet_40 : decode cX0_reckonSet 40 = .ok (.invokevirtual 67, 3) := by decide +kernel
theorem dX0_reckonSet_43 : decode cX0_reckonSet 43 = .ok (.ifCond .eq 60, 3) := by decide +kernel
theorem dX0_reckonSet_46 : decode cX0_reckonSet 46 = .ok (.aload_n 0, 1) := by decide +kernel
theorem dX0_reckonSet_47 : decode cX0_reckonSet 47 = .ok (.iload_n 1, 1) := by decide +kernel
theorem dX0_reckonSet_48 : decode cX0_reckonSet 48 = .ok (.iload_n 2, 1) := by decide +kernel
theorem dX0_reckonSet_49 : decode cX0_reckonSet 49 = .ok (.iload 5, 2) := by decide +kernel
theorem dX0_reckonSet_51 : decode cX0_reckonSet 51 = .ok (.invokevirtual 71, 3) := by decide +kernel
theorem dX0_reckonSet_54 : decode cX0_reckonSet 54 = .ok (.istore 6, 2) := by decide +kernel
theorem dX0_reckonSet_56 : decode cX0_reckonSet 56 = .ok (.aload_n 0, 1) := by decide +kernel
theorem dX0_reckonSet_57 : decode cX0_reckonSet 57 = .ok (.iload_n 1, 1) := by decide +kernel
theorem dX0_reckonSet_58 : decode cX0_reckonSet 58 = .ok (.iload_n 2, 1) := by decide +kernel
theorem dX0_reckonSet_59 : decode cX0_reckonSet 59 = .ok (.iload 5, 2) := by decide +kernel
theorem dX0_reckonSet_61 : decode cX0_reckonSet 61 = .ok (.invokestatic 60, 3) := by decide +kernel
theorem dX0_reckonSet_64 : decode cX0_reckonSet 64 = .ok (.invokevirtual 50, 3) := by decide +kernel
theorem dX0_reckonSet_67 : decode cX0_reckonSet 67 = .ok (.istore 7, 2) := by decide +kernel
theorem dX0_reckonSet_69 : decode cX0_reckonSet 69 = .ok (.iload 4, 2) := by decide +kernel
theorem dX0_reckonSet_71 : decode cX0_reckonSet 71 = .ok (.ifCond .eq 9, 3) := by decide +kernel
theorem dX0_reckonSet_74 : decode cX0_reckonSet 74 = .ok (.iload 6, 2) := by decide +kernel
theorem dX0_reckonSet_76 : decode cX0_reckonSet 76 = .ok (.iload_n 3, 1) := by decide +kernel
theorem dX0_reckonSet_77 : decode cX0_reckonSet 77 = .ok (.if_icmp .ge 13, 3) := by decide +kernel
theorem dX0_reckonSet_80 : decode cX0_reckonSet 80 = .ok (.iload 6, 2) := by decide +kernel
theorem dX0_reckonSet_82 : decode cX0_reckonSet 82 = .ok (.istore_n 3, 1) := by decide +kernel
theorem dX0_reckonSet_83 : decode cX0_reckonSet 83 = .ok (.iload 7, 2) := by decide +kernel
theorem dX0_reckonSet_85 : decode cX0_reckonSet 85 = .ok (.istore 4, 2) := by decide +kernel
theorem dX0_reckonSet_87 : decode cX0_reckonSet 87 = .ok (.goto 16, 3) := by decide +kernel
theorem dX0_reckonSet_90 : decode cX0_reckonSet 90 = .ok (.iload 6, 2) := by decide +kernel
theorem dX0_reckonSet_92 : decode cX0_reckonSet 92 = .ok (.iload_n 3, 1) := by decide +kernel
theorem dX0_reckonSet_93 : decode cX0_reckonSet 93 = .ok (.if_icmp .ne 10, 3) := by decide +kernel
theorem dX0_reckonSet_96 : decode cX0_reckonSet 96 = .ok (.iload 4, 2) := by decide +kernel
theorem dX0_reckonSet_98 : decode cX0_reckonSet 98 = .ok (.iload 7, 2) := by decide +kernel
theorem dX0_reckonSet_100 : decode cX0_reckonSet 100 = .ok (.iadd, 1) := by decide +kernel
theorem dX0_reckonSet_101 : decode cX0_reckonSet 101 = .ok (.istore 4, 2) := by decide +kernel
theorem dX0_reckonSet_103 : decode cX0_reckonSet 103 = .ok (.iinc 5 1, 3) := by decide +kernel
theorem dX0_reckonSet_106 : decode cX0_reckonSet 106 = .ok (.goto (-80), 3) := by decide +kernel
theorem dX0_reckonSet_109 : decode cX0_reckonSet 109 = .ok (.aload_n 0, 1) := by decide +kernel
theorem dX0_reckonSet_110 : decode cX0_reckonSet 110 = .ok (.getfield 9, 3) := by decide +kernel
theorem dX0_reckonSet_113 : decode cX0_reckonSet 113 = .ok (.iload_n 1, 1) := by decide +kernel
theorem dX0_reckonSet_114 : decode cX0_reckonSet 114 = .ok (.iload_n 3, 1) := by decide +kernel
theorem dX0_reckonSet_115 : decode cX0_reckonSet 115 = .ok (.iastore, 1) := by decide +kernel
theorem dX0_reckonSet_116 : decode cX0_reckonSet 116 = .ok (.aload_n 0, 1) := by decide +kernel
theorem dX0_reckonSet_117 : decode cX0_reckonSet 117 = .ok (.getfield 15, 3) := by decide +kernel
theorem dX0_reckonSet_120 : decode cX0_reckonSet 120 = .ok (.iload_n 1, 1) := by decide +kernel
theorem dX0_reckonSet_121 : decode cX0_reckonSet 121 = .ok (.iload 4, 2) := by decide +kernel
theorem dX0_reckonSet_123 : decode cX0_reckonSet 123 = .ok (.iastore, 1) := by decide +kernel
theorem dX0_reckonSet_124 : decode cX0_reckonSet 124 = .ok (.return_, 1) := by decide +kernel
set_option maxHeartbeats 4000000 in
set_option maxRecDepth 100000 in
theorem c_X0_reckonSet {l : Launch} {ω : xO} (hc : xsh ω = clS) {s : Int} {M : xMem} (hn : 0 ≤ M 43 3 ∧ M 43 3 ≤ 8) (hs : 0 ≤ s ∧ s < 256) : Ct l ω yX0_reckonSet ({ frames := 2, cells := 0, slots := 0, locals := 46 } : Room) 8 1 [.ref (xad ω 43), .int (iI s)] M none (rkC M s) := by
  refine Ct.of (bytes := cX0_reckonSet) (ret := none) (lv0 := [some (.ref (xad ω 43)), some (.int (iI s)), none, none, none, none, none, none]) m_cd_X0_reckonSet m_in_X0 (by decide +kernel) (by decide +kernel) rfl rfl rfl rfl (fun hR => up_R (up_R hR (rsF_R (hR 45) _).1) (rsF_R (hR 45) _).2) ?_
  intro κ h he hR
  have hfo : -1 ≤ foS M s ∧ foS M s < 8 := by
    rcases fsF_i (P := fun i => inS i s) (M 43 3).toNat 0 (-1) with e | e <;> (show -1 ≤ fsF _ _ _ _ ∧ fsF _ _ _ _ < 8; omega)
  refine x_iload_n h dX0_reckonSet_0 rfl ?_
  refine x_if_lt h dX0_reckonSet_1 (tgt := 11) (by decide) (by omega) (fun q1 => ?_) (fun q1 => ?_)
  · exact x_vret h he dX0_reckonSet_11 (by exfalso; omega)
  · refine x_iload_n h dX0_reckonSet_4 rfl ?_
    refine x_sipush h dX0_reckonSet_5 (by decide) ?_
    refine x_icmp_lt h dX0_reckonSet_8 (tgt := 12) (by decide) (by omega) (by omega) (fun q8 => ?_) (fun q8 => ?_)
    · refine x_aload_n h dX0_reckonSet_12 rfl ?_
      refine x_iload_n h dX0_reckonSet_13 rfl ?_
      refine x_V1i h dX0_reckonSet_14 m_ml_X0_64 m_im_X0_firstOf m_se_X0_firstOf (sC43 hc) rfl (by decide) rfl (c_X0_firstOf hc (by omega)) ?_
      refine x_istore_n h dX0_reckonSet_17 rfl rfl ?_
      dsimp only [xset]
      refine x_iconst h dX0_reckonSet_18 ?_
      refine x_istore_n h dX0_reckonSet_19 rfl rfl ?_
      dsimp only [xset]
      refine x_iconst h dX0_reckonSet_20 ?_
      refine x_istore h dX0_reckonSet_21 rfl rfl ?_
      dsimp only [xset]
      refine x_iconst h dX0_reckonSet_23 ?_
      refine x_istore h dX0_reckonSet_24 rfl rfl ?_
      dsimp only [xset]
      refine x_same (lv' := [some (.ref (xad ω 43)), some (.int (iI s)), some (.int (iI (foS M s))), some (.int (iI (rsF (M 44) (M 45) (M 46) s (foS M s) 0).1)), some (.int (iI (rsF (M 44) (M 45) (M 46) s (foS M s) 0).2)), some (.int (iI (((0 : Nat) : Int) - 1))), none, none]) (st' := []) (M' := M) ?_ rfl rfl rfl
      refine loop_up (fun k => X ω κ 26 [some (.ref (xad ω 43)), some (.int (iI s)), some (.int (iI (foS M s))), some (.int (iI (rsF (M 44) (M 45) (M 46) s (foS M s) k).1)), some (.int (iI (rsF (M 44) (M 45) (M 46) s (foS M s) k).2)), some (.int (iI ((k : Int) - 1))), none, none] [] M) ((M 43 3 + 1).toNat) ?_ ?_
      · show X ω κ 26 [some (.ref (xad ω 43)), some (.int (iI s)), some (.int (iI (foS M s))), some (.int (iI (rsF (M 44) (M 45) (M 46) s (foS M s) (M 43 3 + 1).toNat).1)), some (.int (iI (rsF (M 44) (M 45) (M 46) s (foS M s) (M 43 3 + 1).toNat).2)), some (.int (iI ((((M 43 3 + 1).toNat : Nat) : Int) - 1))), none, none] [] M
        have rr := rsF_R (L := M 44) (C := M 45) (G := M 46) (s := s) (f := foS M s) (hR 45) (M 43 3 + 1).toNat
        have rr1 := rr.1
        have rr2 := rr.2
        refine x_iload h dX0_reckonSet_26 rfl ?_
        refine x_aload_n h dX0_reckonSet_28 rfl ?_
        refine x_geti (j := 3) 3 h dX0_reckonSet_29 (sC43 hc) rfl in_X0 rfl (by decide) m_fl_X0_21 rfl (fun r29 => ?_)
        refine x_icmp_ge h dX0_reckonSet_32 (tgt := 109) (by decide) (by omega) (by omega) (fun q32 => ?_) (fun q32 => ?_)
        · refine x_aload_n h dX0_reckonSet_109 rfl ?_
          refine x_getr (j := 0) (q := 44) h dX0_reckonSet_110 (sC43 hc) rfl in_X0 rfl (by decide) m_fl_X0_9 ?_
          refine x_iload_n h dX0_reckonSet_113 rfl ?_
          refine x_iload_n h dX0_reckonSet_114 rfl ?_
          refine x_iastore h dX0_reckonSet_115 (sC44 hc) (by omega) (by omega) ?_
          refine x_aload_n h dX0_reckonSet_116 rfl ?_
          refine x_getr (j := 1) (q := 45) h dX0_reckonSet_117 (sC43 hc) rfl in_X0 rfl (by decide) m_fl_X0_15 ?_
          refine x_iload_n h dX0_reckonSet_120 rfl ?_
          refine x_iload h dX0_reckonSet_121 rfl ?_
          refine x_iastore h dX0_reckonSet_123 (sC45 hc) (by omega) (by omega) ?_
          exact x_vret h he dX0_reckonSet_124 rfl
        · exfalso; omega
      · intro k hk ihk
        replace ihk : X ω κ 26 [some (.ref (xad ω 43)), some (.int (iI s)), some (.int (iI (foS M s))), some (.int (iI (rsF (M 44) (M 45) (M 46) s (foS M s) (k + 1)).1)), some (.int (iI (rsF (M 44) (M 45) (M 46) s (foS M s) (k + 1)).2)), some (.int (iI (((k + 1 : Nat) : Int) - 1))), none, none] [] M := ihk
        show X ω κ 26 [some (.ref (xad ω 43)), some (.int (iI s)), some (.int (iI (foS M s))), some (.int (iI (rsF (M 44) (M 45) (M 46) s (foS M s) k).1)), some (.int (iI (rsF (M 44) (M 45) (M 46) s (foS M s) k).2)), some (.int (iI ((k : Int) - 1))), none, none] [] M
        have rr := rsF_R (L := M 44) (C := M 45) (G := M 46) (s := s) (f := foS M s) (hR 45) k
        have rr1 := rr.1
        have rr2 := rr.2
        have hwr := woF_R s (foS M s) ((k : Int) - 1)
        have hsr : inR (smF (M 44) (M 46) s (foS M s) ((k : Int) - 1)) := wr_R _
        have hcr := loF_R (hR 45) (woF s (foS M s) ((k : Int) - 1))
        refine x_iload h dX0_reckonSet_26 rfl ?_
        refine x_aload_n h dX0_reckonSet_28 rfl ?_
        refine x_geti (j := 3) 3 h dX0_reckonSet_29 (sC43 hc) rfl in_X0 rfl (by decide) m_fl_X0_21 rfl (fun r29 => ?_)
        refine x_icmp_ge h dX0_reckonSet_32 (tgt := 109) (by decide) (by omega) (by omega) (fun q32 => ?_) (fun q32 => ?_)
        · exfalso; omega
        · refine x_aload_n h dX0_reckonSet_35 rfl ?_
          refine x_iload_n h dX0_reckonSet_36 rfl ?_
          refine x_iload_n h dX0_reckonSet_37 rfl ?_
          refine x_iload h dX0_reckonSet_38 rfl ?_
          refine x_V3i h dX0_reckonSet_40 m_ml_X0_67 m_im_X0_canPair m_se_X0_canPair (sC43 hc) rfl (by decide) rfl (c_X0_canPair hc (by omega) (by omega) (by omega)) ?_
          refine x_ifeqB h dX0_reckonSet_43 (tgt := 103) (by decide) (fun q43 => ?_) (fun q43 => ?_)
          · refine x_iinc h dX0_reckonSet_103 rfl rfl rfl ?_
            dsimp only [xset]
            refine x_goto h dX0_reckonSet_106 (tgt := 26) (by decide) ?_
            refine x_drop 6 ?_
            dsimp only [xclr]
            refine x_drop 7 ?_
            dsimp only [xclr]
            first
              | exact x_same ihk (by rw [rsF_s, rsG, tI_n q43, show ((k + 1 : Nat) : Int) - 1 = (k : Int) - 1 + 1 by omega]) rfl rfl
              | exact x_same ihk (by rw [rsF_s, rsG, tI_p q43, if_pos (Or.inl q71), show ((k + 1 : Nat) : Int) - 1 = (k : Int) - 1 + 1 by omega]) rfl rfl
              | exact x_same ihk (by rw [rsF_s, rsG, tI_p q43, if_pos (Or.inr (Int.not_le.mp q77)), show ((k + 1 : Nat) : Int) - 1 = (k : Int) - 1 + 1 by omega]) rfl rfl
              | exact x_same ihk (by rw [rsF_s, rsG, tI_p q43, if_neg (by omega), if_pos q93, show ((k + 1 : Nat) : Int) - 1 = (k : Int) - 1 + 1 by omega]) rfl rfl
              | exact x_same ihk (by rw [rsF_s, rsG, tI_p q43, if_neg (by omega), if_neg q93, show ((k + 1 : Nat) : Int) - 1 = (k : Int) - 1 + 1 by omega]) rfl rfl
          · refine x_aload_n h dX0_reckonSet_46 rfl ?_
            refine x_iload_n h dX0_reckonSet_47 rfl ?_
            refine x_iload_n h dX0_reckonSet_48 rfl ?_
            refine x_iload h dX0_reckonSet_49 rfl ?_
            refine x_V3i h dX0_reckonSet_51 m_ml_X0_71 m_im_X0_sumWith m_se_X0_sumWith (sC43 hc) rfl (by decide) rfl (c_X0_sumWith hc (by omega) (by omega)) ?_
            refine x_istore h dX0_reckonSet_54 rfl rfl ?_
            dsimp only [xset]
            refine x_aload_n h dX0_reckonSet_56 rfl ?_
            refine x_iload_n h dX0_reckonSet_57 rfl ?_
            refine x_iload_n h dX0_reckonSet_58 rfl ?_
            refine x_iload h dX0_reckonSet_59 rfl ?_
            refine x_S3i h dX0_reckonSet_61 m_ml_X0_60 m_st_X0_without (by decide) rfl (c_X0_without hc (by omega)) ?_
            refine x_V1i h dX0_reckonSet_64 m_ml_X0_50 m_im_X0_choicesOf m_se_X0_choicesOf (sC43 hc) rfl (by decide) rfl (c_X0_choicesOf hc (by omega)) ?_
            refine x_istore h dX0_reckonSet_67 rfl rfl ?_
            dsimp only [xset]
            refine x_iload h dX0_reckonSet_69 rfl ?_
            refine x_if_eq h dX0_reckonSet_71 (tgt := 80) (by decide) (by omega) (fun q71 => ?_) (fun q71 => ?_)
            · refine x_iload h dX0_reckonSet_80 rfl ?_
              refine x_istore_n h dX0_reckonSet_82 rfl rfl ?_
              dsimp only [xset]
              refine x_iload h dX0_reckonSet_83 rfl ?_
              refine x_istore h dX0_reckonSet_85 rfl rfl ?_
              dsimp only [xset]
              refine x_goto h dX0_reckonSet_87 (tgt := 103) (by decide) ?_
              refine x_iinc h dX0_reckonSet_103 rfl rfl rfl ?_
              dsimp only [xset]
              refine x_goto h dX0_reckonSet_106 (tgt := 26) (by decide) ?_
              refine x_drop 6 ?_
              dsimp only [xclr]
              refine x_drop 7 ?_
              dsimp only [xclr]
              first
                | exact x_same ihk (by rw [rsF_s, rsG, tI_n q43, show ((k + 1 : Nat) : Int) - 1 = (k : Int) - 1 + 1 by omega]) rfl rfl
                | exact x_same ihk (by rw [rsF_s, rsG, tI_p q43, if_pos (Or.inl q71), show ((k + 1 : Nat) : Int) - 1 = (k : Int) - 1 + 1 by omega]) rfl rfl
                | exact x_same ihk (by rw [rsF_s, rsG, tI_p q43, if_pos (Or.inr (Int.not_le.mp q77)), show ((k + 1 : Nat) : Int) - 1 = (k : Int) - 1 + 1 by omega]) rfl rfl
                | exact x_same ihk (by rw [rsF_s, rsG, tI_p q43, if_neg (by omega), if_pos q93, show ((k + 1 : Nat) : Int) - 1 = (k : Int) - 1 + 1 by omega]) rfl rfl
                | exact x_same ihk (by rw [rsF_s, rsG, tI_p q43, if_neg (by omega), if_neg q93, show ((k + 1 : Nat) : Int) - 1 = (k : Int) - 1 + 1 by omega]) rfl rfl
            · refine x_iload h dX0_reckonSet_74 rfl ?_
              refine x_iload_n h dX0_reckonSet_76 rfl ?_
              refine x_icmp_ge h dX0_reckonSet_77 (tgt := 90) (by decide) (by omega) (by omega) (fun q77 => ?_) (fun q77 => ?_)
              · refine x_iload h dX0_reckonSet_90 rfl ?_
                refine x_iload_n h dX0_reckonSet_92 rfl ?_
                refine x_icmp_ne h dX0_reckonSet_93 (tgt := 103) (by decide) (by omega) (by omega) (fun q93 => ?_) (fun q93 => ?_)
                · refine x_iinc h dX0_reckonSet_103 rfl rfl rfl ?_
                  dsimp only [xset]
                  refine x_goto h dX0_reckonSet_106 (tgt := 26) (by decide) ?_
                  refine x_drop 6 ?_
                  dsimp only [xclr]
                  refine x_drop 7 ?_
                  dsimp only [xclr]
                  first
                    | exact x_same ihk (by rw [rsF_s, rsG, tI_n q43, show ((k + 1 : Nat) : Int) - 1 = (k : Int) - 1 + 1 by omega]) rfl rfl
                    | exact x_same ihk (by rw [rsF_s, rsG, tI_p q43, if_pos (Or.inl q71), show ((k + 1 : Nat) : Int) - 1 = (k : Int) - 1 + 1 by omega]) rfl rfl
                    | exact x_same ihk (by rw [rsF_s, rsG, tI_p q43, if_pos (Or.inr (Int.not_le.mp q77)), show ((k + 1 : Nat) : Int) - 1 = (k : Int) - 1 + 1 by omega]) rfl rfl
                    | exact x_same ihk (by rw [rsF_s, rsG, tI_p q43, if_neg (by omega), if_pos q93, show ((k + 1 : Nat) : Int) - 1 = (k : Int) - 1 + 1 by omega]) rfl rfl
                    | exact x_same ihk (by rw [rsF_s, rsG, tI_p q43, if_neg (by omega), if_neg q93, show ((k + 1 : Nat) : Int) - 1 = (k : Int) - 1 + 1 by omega]) rfl rfl
                · refine x_iload h dX0_reckonSet_96 rfl ?_
                  refine x_iload h dX0_reckonSet_98 rfl ?_
                  refine x_iadd h dX0_reckonSet_100 ?_
                  refine x_wr (fun r101 => ?_)
                  refine x_istore h dX0_reckonSet_101 rfl rfl ?_
                  dsimp only [xset]
                  refine x_iinc h dX0_reckonSet_103 rfl rfl rfl ?_
                  dsimp only [xset]
                  refine x_goto h dX0_reckonSet_106 (tgt := 26) (by decide) ?_
                  refine x_drop 6 ?_
                  dsimp only [xclr]
                  refine x_drop 7 ?_
                  dsimp only [xclr]
                  first
                    | exact x_same ihk (by rw [rsF_s, rsG, tI_n q43, show ((k + 1 : Nat) : Int) - 1 = (k : Int) - 1 + 1 by omega]) rfl rfl
                    | exact x_same ihk (by rw [rsF_s, rsG, tI_p q43, if_pos (Or.inl q71), show ((k + 1 : Nat) : Int) - 1 = (k : Int) - 1 + 1 by omega]) rfl rfl
                    | exact x_same ihk (by rw [rsF_s, rsG, tI_p q43, if_pos (Or.inr (Int.not_le.mp q77)), show ((k + 1 : Nat) : Int) - 1 = (k : Int) - 1 + 1 by omega]) rfl rfl
                    | exact x_same ihk (by rw [rsF_s, rsG, tI_p q43, if_neg (by omega), if_pos q93, show ((k + 1 : Nat) : Int) - 1 = (k : Int) - 1 + 1 by omega]) rfl rfl
                    | exact x_same ihk (by rw [rsF_s, rsG, tI_p q43, if_neg (by omega), if_neg q93, show ((k + 1 : Nat) : Int) - 1 = (k : Int) - 1 + 1 by omega]) rfl rfl
              · refine x_iload h dX0_reckonSet_80 rfl ?_
                refine x_istore_n h dX0_reckonSet_82 rfl rfl ?_
                dsimp only [xset]
                refine x_iload h dX0_reckonSet_83 rfl ?_
                refine x_istore h dX0_reckonSet_85 rfl rfl ?_
                dsimp only [xset]
                refine x_goto h dX0_reckonSet_87 (tgt := 103) (by decide) ?_
                refine x_iinc h dX0_reckonSet_103 rfl rfl rfl ?_
                dsimp only [xset]
                refine x_goto h dX0_reckonSet_106 (tgt := 26) (by decide) ?_
                refine x_drop 6 ?_
                dsimp only [xclr]
                refine x_drop 7 ?_
                dsimp only [xclr]
                first
                  | exact x_same ihk (by rw [rsF_s, rsG, tI_n q43, show ((k + 1 : Nat) : Int) - 1 = (k : Int) - 1 + 1 by omega]) rfl rfl
                  | exact x_same ihk (by rw [rsF_s, rsG, tI_p q43, if_pos (Or.inl q71), show ((k + 1 : Nat) : Int) - 1 = (k : Int) - 1 + 1 by omega]) rfl rfl
                  | exact x_same ihk (by rw [rsF_s, rsG, tI_p q43, if_pos (Or.inr (Int.not_le.mp q77)), show ((k + 1 : Nat) : Int) - 1 = (k : Int) - 1 + 1 by omega]) rfl rfl
                  | exact x_same ihk (by rw [rsF_s, rsG, tI_p q43, if_neg (by omega), if_pos q93, show ((k + 1 : Nat) : Int) - 1 = (k : Int) - 1 + 1 by omega]) rfl rfl
                  | exact x_same ihk (by rw [rsF_s, rsG, tI_p q43, if_neg (by omega), if_neg q93, show ((k + 1 : Nat) : Int) - 1 = (k : Int) - 1 + 1 by omega]) rfl rfl
    · exact x_vret h he dX0_reckonSet_11 (by exfalso; omega)
