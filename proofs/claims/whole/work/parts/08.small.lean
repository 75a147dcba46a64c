/-! the class: little methods of People and Roads, static helpers -/
abbrev plc (a : Int) : Prop := 0 ≤ a ∧ a < 10
abbrev clHas (M : xMem) (b : Nat) (p : Int) : Prop := 0 ≤ p ∧ p < M b 1 ∧ p < 8
theorem dX6_isPlace_0 : decode cX6_isPlace 0 = .ok (.iload_n 0, 1) := by decide +kernel
theorem dX6_isPlace_1 : decode cX6_isPlace 1 = .ok (.ifCond .lt 13, 3) := by decide +kernel
theorem dX6_isPlace_4 : decode cX6_isPlace 4 = .ok (.iload_n 0, 1) := by decide +kernel
theorem dX6_isPlace_5 : decode cX6_isPlace 5 = .ok (.bipush 10, 2) := by decide +kernel
theorem dX6_isPlace_7 : decode cX6_isPlace 7 = .ok (.if_icmp .ge 7, 3) := by decide +kernel
theorem dX6_isPlace_10 : decode cX6_isPlace 10 = .ok (.iconst 1, 1) := by decide +kernel
theorem dX6_isPlace_11 : decode cX6_isPlace 11 = .ok (.goto 4, 3) := by decide +kernel
theorem dX6_isPlace_14 : decode cX6_isPlace 14 = .ok (.iconst 0, 1) := by decide +kernel
theorem dX6_isPlace_15 : decode cX6_isPlace 15 = .ok (.ireturn, 1) := by decide +kernel
set_option maxHeartbeats 4000000 in
set_option maxRecDepth 100000 in
theorem c_X6_isPlace {l : Launch} {ω : xO} (hc : xsh ω = clS) {a : Int} {M : xMem} (ha : inR a) : Ct l ω yX6_isPlace ({ frames := 0, cells := 0, slots := 0, locals := 0 } : Room) 1 1 [.int (iI a)] M (some (.int (iI (bI (0 ≤ a ∧ a < 10))))) M := by
  refine Ct.of (bytes := cX6_isPlace) (ret := (some .boolean)) (lv0 := [some (.int (iI a))]) m_cd_X6_isPlace m_in_X6 (by decide +kernel) (by decide +kernel) rfl rfl rfl rfl (fun hR => hR) ?_
  intro κ h he hR
  refine x_iload_n h dX6_isPlace_0 rfl ?_
  refine x_if_lt h dX6_isPlace_1 (tgt := 14) (by decide) (by omega) (fun q1 => ?_) (fun q1 => ?_)
  · refine x_iconst h dX6_isPlace_14 ?_
    exact x_zret h he dX6_isPlace_15 (by first | exact Or.inl rfl | exact Or.inr rfl | exact bI_01 _ | omega) rfl (by first | rfl | omega | exact (bI_t (by omega)).symm | exact (bI_f (by omega)).symm) rfl
  · refine x_iload_n h dX6_isPlace_4 rfl ?_
    refine x_bipush h dX6_isPlace_5 (by decide) ?_
    refine x_icmp_ge h dX6_isPlace_7 (tgt := 14) (by decide) (by omega) (by omega) (fun q7 => ?_) (fun q7 => ?_)
    · refine x_iconst h dX6_isPlace_14 ?_
      exact x_zret h he dX6_isPlace_15 (by first | exact Or.inl rfl | exact Or.inr rfl | exact bI_01 _ | omega) rfl (by first | rfl | omega | exact (bI_t (by omega)).symm | exact (bI_f (by omega)).symm) rfl
    · refine x_iconst h dX6_isPlace_10 ?_
      refine x_goto h dX6_isPlace_11 (tgt := 15) (by decide) ?_
      exact x_zret h he dX6_isPlace_15 (by first | exact Or.inl rfl | exact Or.inr rfl | exact bI_01 _ | omega) rfl (by first | rfl | omega | exact (bI_t (by omega)).symm | exact (bI_f (by omega)).symm) rfl

theorem dX6_isSpot_0 : decode cX6_isSpot 0 = .ok (.iload_n 0, 1) := by decide +kernel
theorem dX6_isSpot_1 : decode cX6_isSpot 1 = .ok (.ifCond .lt 13, 3) := by decide +kernel
theorem dX6_isSpot_4 : decode cX6_isSpot 4 = .ok (.iload_n 0, 1) := by decide +kernel
theorem dX6_isSpot_5 : decode cX6_isSpot 5 = .ok (.bipush 10, 2) := by decide +kernel
theorem dX6_isSpot_7 : decode cX6_isSpot 7 = .ok (.if_icmp .ge 7, 3) := by decide +kernel
theorem dX6_isSpot_10 : decode cX6_isSpot 10 = .ok (.iconst 1, 1) := by decide +kernel
theorem dX6_isSpot_11 : decode cX6_isSpot 11 = .ok (.goto 4, 3) := by decide +kernel
theorem dX6_isSpot_14 : decode cX6_isSpot 14 = .ok (.iconst 0, 1) := by decide +kernel
theorem dX6_isSpot_15 : decode cX6_isSpot 15 = .ok (.ireturn, 1) := by decide +kernel
set_option maxHeartbeats 4000000 in
set_option maxRecDepth 100000 in
theorem c_X6_isSpot {l : Launch} {ω : xO} (hc : xsh ω = clS) {a : Int} {M : xMem} (ha : inR a) : Ct l ω yX6_isSpot ({ frames := 0, cells := 0, slots := 0, locals := 0 } : Room) 1 1 [.int (iI a)] M (some (.int (iI (bI (0 ≤ a ∧ a < 10))))) M := by
  refine Ct.of (bytes := cX6_isSpot) (ret := (some .boolean)) (lv0 := [some (.int (iI a))]) m_cd_X6_isSpot m_in_X6 (by decide +kernel) (by decide +kernel) rfl rfl rfl rfl (fun hR => hR) ?_
  intro κ h he hR
  refine x_iload_n h dX6_isSpot_0 rfl ?_
  refine x_if_lt h dX6_isSpot_1 (tgt := 14) (by decide) (by omega) (fun q1 => ?_) (fun q1 => ?_)
  · refine x_iconst h dX6_isSpot_14 ?_
    exact x_zret h he dX6_isSpot_15 (by first | exact Or.inl rfl | exact Or.inr rfl | exact bI_01 _ | omega) rfl (by first | rfl | omega | exact (bI_t (by omega)).symm | exact (bI_f (by omega)).symm) rfl
  · refine x_iload_n h dX6_isSpot_4 rfl ?_
    refine x_bipush h dX6_isSpot_5 (by decide) ?_
    refine x_icmp_ge h dX6_isSpot_7 (tgt := 14) (by decide) (by omega) (by omega) (fun q7 => ?_) (fun q7 => ?_)
    · refine x_iconst h dX6_isSpot_14 ?_
      exact x_zret h he dX6_isSpot_15 (by first | exact Or.inl rfl | exact Or.inr rfl | exact bI_01 _ | omega) rfl (by first | rfl | omega | exact (bI_t (by omega)).symm | exact (bI_f (by omega)).symm) rfl
    · refine x_iconst h dX6_isSpot_10 ?_
      refine x_goto h dX6_isSpot_11 (tgt := 15) (by decide) ?_
      exact x_zret h he dX6_isSpot_15 (by first | exact Or.inl rfl | exact Or.inr rfl | exact bI_01 _ | omega) rfl (by first | rfl | omega | exact (bI_t (by omega)).symm | exact (bI_f (by omega)).symm) rfl

theorem dX6_isSheet_0 : decode cX6_isSheet 0 = .ok (.iload_n 0, 1) := by decide +kernel
theorem dX6_isSheet_1 : decode cX6_isSheet 1 = .ok (.ifCond .lt 12, 3) := by decide +kernel
theorem dX6_isSheet_4 : decode cX6_isSheet 4 = .ok (.iload_n 0, 1) := by decide +kernel
theorem dX6_isSheet_5 : decode cX6_isSheet 5 = .ok (.iconst 4, 1) := by decide +kernel
theorem dX6_isSheet_6 : decode cX6_isSheet 6 = .ok (.if_icmp .ge 7, 3) := by decide +kernel
theorem dX6_isSheet_9 : decode cX6_isSheet 9 = .ok (.iconst 1, 1) := by decide +kernel
theorem dX6_isSheet_10 : decode cX6_isSheet 10 = .ok (.goto 4, 3) := by decide +kernel
theorem dX6_isSheet_13 : decode cX6_isSheet 13 = .ok (.iconst 0, 1) := by decide +kernel
theorem dX6_isSheet_14 : decode cX6_isSheet 14 = .ok (.ireturn, 1) := by decide +kernel
set_option maxHeartbeats 4000000 in
set_option maxRecDepth 100000 in
theorem c_X6_isSheet {l : Launch} {ω : xO} (hc : xsh ω = clS) {a : Int} {M : xMem} (ha : inR a) : Ct l ω yX6_isSheet ({ frames := 0, cells := 0, slots := 0, locals := 0 } : Room) 1 1 [.int (iI a)] M (some (.int (iI (bI (0 ≤ a ∧ a < 4))))) M := by
  refine Ct.of (bytes := cX6_isSheet) (ret := (some .boolean)) (lv0 := [some (.int (iI a))]) m_cd_X6_isSheet m_in_X6 (by decide +kernel) (by decide +kernel) rfl rfl rfl rfl (fun hR => hR) ?_
  intro κ h he hR
  refine x_iload_n h dX6_isSheet_0 rfl ?_
  refine x_if_lt h dX6_isSheet_1 (tgt := 13) (by decide) (by omega) (fun q1 => ?_) (fun q1 => ?_)
  · refine x_iconst h dX6_isSheet_13 ?_
    exact x_zret h he dX6_isSheet_14 (by first | exact Or.inl rfl | exact Or.inr rfl | exact bI_01 _ | omega) rfl (by first | rfl | omega | exact (bI_t (by omega)).symm | exact (bI_f (by omega)).symm) rfl
  · refine x_iload_n h dX6_isSheet_4 rfl ?_
    refine x_iconst h dX6_isSheet_5 ?_
    refine x_icmp_ge h dX6_isSheet_6 (tgt := 13) (by decide) (by omega) (by omega) (fun q6 => ?_) (fun q6 => ?_)
    · refine x_iconst h dX6_isSheet_13 ?_
      exact x_zret h he dX6_isSheet_14 (by first | exact Or.inl rfl | exact Or.inr rfl | exact bI_01 _ | omega) rfl (by first | rfl | omega | exact (bI_t (by omega)).symm | exact (bI_f (by omega)).symm) rfl
    · refine x_iconst h dX6_isSheet_9 ?_
      refine x_goto h dX6_isSheet_10 (tgt := 14) (by decide) ?_
      exact x_zret h he dX6_isSheet_14 (by first | exact Or.inl rfl | exact Or.inr rfl | exact bI_01 _ | omega) rfl (by first | rfl | omega | exact (bI_t (by omega)).symm | exact (bI_f (by omega)).symm) rfl

theorem dX6_isKind_0 : decode cX6_isKind 0 = .ok (.iload_n 0, 1) := by decide +kernel
theorem dX6_isKind_1 : decode cX6_isKind 1 = .ok (.ifCond .lt 13, 3) := by decide +kernel
theorem dX6_isKind_4 : decode cX6_isKind 4 = .ok (.iload_n 0, 1) := by decide +kernel
theorem dX6_isKind_5 : decode cX6_isKind 5 = .ok (.bipush 7, 2) := by decide +kernel
theorem dX6_isKind_7 : decode cX6_isKind 7 = .ok (.if_icmp .ge 7, 3) := by decide +kernel
theorem dX6_isKind_10 : decode cX6_isKind 10 = .ok (.iconst 1, 1) := by decide +kernel
theorem dX6_isKind_11 : decode cX6_isKind 11 = .ok (.goto 4, 3) := by decide +kernel
theorem dX6_isKind_14 : decode cX6_isKind 14 = .ok (.iconst 0, 1) := by decide +kernel
theorem dX6_isKind_15 : decode cX6_isKind 15 = .ok (.ireturn, 1) := by decide +kernel
set_option maxHeartbeats 4000000 in
set_option maxRecDepth 100000 in
theorem c_X6_isKind {l : Launch} {ω : xO} (hc : xsh ω = clS) {a : Int} {M : xMem} (ha : inR a) : Ct l ω yX6_isKind ({ frames := 0, cells := 0, slots := 0, locals := 0 } : Room) 1 1 [.int (iI a)] M (some (.int (iI (bI (0 ≤ a ∧ a < 7))))) M := by
  refine Ct.of (bytes := cX6_isKind) (ret := (some .boolean)) (lv0 := [some (.int (iI a))]) m_cd_X6_isKind m_in_X6 (by decide +kernel) (by decide +kernel) rfl rfl rfl rfl (fun hR => hR) ?_
  intro κ h he hR
  refine x_iload_n h dX6_isKind_0 rfl ?_
  refine x_if_lt h dX6_isKind_1 (tgt := 14) (by decide) (by omega) (fun q1 => ?_) (fun q1 => ?_)
  · refine x_iconst h dX6_isKind_14 ?_
    exact x_zret h he dX6_isKind_15 (by first | exact Or.inl rfl | exact Or.inr rfl | exact bI_01 _ | omega) rfl (by first | rfl | omega | exact (bI_t (by omega)).symm | exact (bI_f (by omega)).symm) rfl
  · refine x_iload_n h dX6_isKind_4 rfl ?_
    refine x_bipush h dX6_isKind_5 (by decide) ?_
    refine x_icmp_ge h dX6_isKind_7 (tgt := 14) (by decide) (by omega) (by omega) (fun q7 => ?_) (fun q7 => ?_)
    · refine x_iconst h dX6_isKind_14 ?_
      exact x_zret h he dX6_isKind_15 (by first | exact Or.inl rfl | exact Or.inr rfl | exact bI_01 _ | omega) rfl (by first | rfl | omega | exact (bI_t (by omega)).symm | exact (bI_f (by omega)).symm) rfl
    · refine x_iconst h dX6_isKind_10 ?_
      refine x_goto h dX6_isKind_11 (tgt := 15) (by decide) ?_
      exact x_zret h he dX6_isKind_15 (by first | exact Or.inl rfl | exact Or.inr rfl | exact bI_01 _ | omega) rfl (by first | rfl | omega | exact (bI_t (by omega)).symm | exact (bI_f (by omega)).symm) rfl

theorem dX1_has_0 : decode cX1_has 0 = .ok (.iload_n 1, 1) := by decide +kernel
theorem dX1_has_1 : decode cX1_has 1 = .ok (.ifCond .lt 21, 3) := by decide +kernel
theorem dX1_has_4 : decode cX1_has 4 = .ok (.iload_n 1, 1) := by decide +kernel
theorem dX1_has_5 : decode cX1_has 5 = .ok (.aload_n 0, 1) := by decide +kernel
theorem dX1_has_6 : decode cX1_has 6 = .ok (.getfield 9, 3) := by decide +kernel
theorem dX1_has_9 : decode cX1_has 9 = .ok (.if_icmp .ge 13, 3) := by decide +kernel
theorem dX1_has_12 : decode cX1_has 12 = .ok (.iload_n 1, 1) := by decide +kernel
theorem dX1_has_13 : decode cX1_has 13 = .ok (.bipush 8, 2) := by decide +kernel
theorem dX1_has_15 : decode cX1_has 15 = .ok (.if_icmp .ge 7, 3) := by decide +kernel
theorem dX1_has_18 : decode cX1_has 18 = .ok (.iconst 1, 1) := by decide +kernel
theorem dX1_has_19 : decode cX1_has 19 = .ok (.goto 4, 3) := by decide +kernel
theorem dX1_has_22 : decode cX1_has 22 = .ok (.iconst 0, 1) := by decide +kernel
theorem dX1_has_23 : decode cX1_has 23 = .ok (.ireturn, 1) := by decide +kernel
set_option maxHeartbeats 4000000 in
set_option maxRecDepth 100000 in
theorem c_X1_has {l : Launch} {ω : xO} (hc : xsh ω = clS) {b r : Nat} {p : Int} {M : xMem} (hb : pI b r) (hp : inR p) : Ct l ω yX1_has ({ frames := 0, cells := 0, slots := 0, locals := 0 } : Room) 2 1 [.ref (xad ω b), .int (iI p)] M (some (.int (iI (bI (clHas M b p))))) M := by
  refine Ct.of (bytes := cX1_has) (ret := (some .boolean)) (lv0 := [some (.ref (xad ω b)), some (.int (iI p))]) m_cd_X1_has m_in_X1 (by decide +kernel) (by decide +kernel) rfl rfl rfl rfl (fun hR => hR) ?_
  intro κ h he hR
  refine x_iload_n h dX1_has_0 rfl ?_
  refine x_if_lt h dX1_has_1 (tgt := 22) (by decide) (by omega) (fun q1 => ?_) (fun q1 => ?_)
  · refine x_iconst h dX1_has_22 ?_
    exact x_zret h he dX1_has_23 (by first | exact Or.inl rfl | exact Or.inr rfl | exact bI_01 _ | omega) rfl (by first | rfl | omega | exact (bI_t (by omega)).symm | exact (bI_f (by omega)).symm) rfl
  · refine x_iload_n h dX1_has_4 rfl ?_
    refine x_aload_n h dX1_has_5 rfl ?_
    refine x_geti (j := 1) 1 h dX1_has_6 (sPe hc hb) rfl in_X1 rfl (by decide) m_fl_X1_9 rfl (fun r6 => ?_)
    refine x_icmp_ge h dX1_has_9 (tgt := 22) (by decide) (by omega) (by omega) (fun q9 => ?_) (fun q9 => ?_)
    · refine x_iconst h dX1_has_22 ?_
      exact x_zret h he dX1_has_23 (by first | exact Or.inl rfl | exact Or.inr rfl | exact bI_01 _ | omega) rfl (by first | rfl | omega | exact (bI_t (by omega)).symm | exact (bI_f (by omega)).symm) rfl
    · refine x_iload_n h dX1_has_12 rfl ?_
      refine x_bipush h dX1_has_13 (by decide) ?_
      refine x_icmp_ge h dX1_has_15 (tgt := 22) (by decide) (by omega) (by omega) (fun q15 => ?_) (fun q15 => ?_)
      · refine x_iconst h dX1_has_22 ?_
        exact x_zret h he dX1_has_23 (by first | exact Or.inl rfl | exact Or.inr rfl | exact bI_01 _ | omega) rfl (by first | rfl | omega | exact (bI_t (by omega)).symm | exact (bI_f (by omega)).symm) rfl
      · refine x_iconst h dX1_has_18 ?_
        refine x_goto h dX1_has_19 (tgt := 23) (by decide) ?_
        exact x_zret h he dX1_has_23 (by first | exact Or.inl rfl | exact Or.inr rfl | exact bI_01 _ | omega) rfl (by first | rfl | omega | exact (bI_t (by omega)).symm | exact (bI_f (by omega)).symm) rfl

theorem dX1_number_0 : decode cX1_number 0 = .ok (.aload_n 0, 1) := by decide +kernel
theorem dX1_number_1 : decode cX1_number 1 = .ok (.getfield 9, 3) := by decide +kernel
theorem dX1_number_4 : decode cX1_number 4 = .ok (.ireturn, 1) := by decide +kernel
set_option maxHeartbeats 4000000 in
set_option maxRecDepth 100000 in
theorem c_X1_number {l : Launch} {ω : xO} (hc : xsh ω = clS) {b r : Nat} {M : xMem} (hb : pI b r) : Ct l ω yX1_number ({ frames := 0, cells := 0, slots := 0, locals := 0 } : Room) 1 0 [.ref (xad ω b)] M (some (.int (iI (M b 1)))) M := by
  refine Ct.of (bytes := cX1_number) (ret := (some .int)) (lv0 := [some (.ref (xad ω b))]) m_cd_X1_number m_in_X1 (by decide +kernel) (by decide +kernel) rfl rfl rfl rfl (fun hR => hR) ?_
  intro κ h he hR
  refine x_aload_n h dX1_number_0 rfl ?_
  refine x_geti (j := 1) 1 h dX1_number_1 (sPe hc hb) rfl in_X1 rfl (by decide) m_fl_X1_9 rfl (fun r1 => ?_)
  exact x_iret (ret := none) h he dX1_number_4 rfl (by first | rfl | omega | exact (bI_t (by omega)).symm | exact (bI_f (by omega)).symm) rfl

theorem dX1_clock_0 : decode cX1_clock 0 = .ok (.aload_n 0, 1) := by decide +kernel
theorem dX1_clock_1 : decode cX1_clock 1 = .ok (.getfield 15, 3) := by decide +kernel
theorem dX1_clock_4 : decode cX1_clock 4 = .ok (.ireturn, 1) := by decide +kernel
set_option maxHeartbeats 4000000 in
set_option maxRecDepth 100000 in
theorem c_X1_clock {l : Launch} {ω : xO} (hc : xsh ω = clS) {b r : Nat} {M : xMem} (hb : pI b r) : Ct l ω yX1_clock ({ frames := 0, cells := 0, slots := 0, locals := 0 } : Room) 1 0 [.ref (xad ω b)] M (some (.int (iI (M b 2)))) M := by
  refine Ct.of (bytes := cX1_clock) (ret := (some .int)) (lv0 := [some (.ref (xad ω b))]) m_cd_X1_clock m_in_X1 (by decide +kernel) (by decide +kernel) rfl rfl rfl rfl (fun hR => hR) ?_
  intro κ h he hR
  refine x_aload_n h dX1_clock_0 rfl ?_
  refine x_geti (j := 2) 2 h dX1_clock_1 (sPe hc hb) rfl in_X1 rfl (by decide) m_fl_X1_15 rfl (fun r1 => ?_)
  exact x_iret (ret := none) h he dX1_clock_4 rfl (by first | rfl | omega | exact (bI_t (by omega)).symm | exact (bI_f (by omega)).symm) rfl

theorem dX1_kindOf_0 : decode cX1_kindOf 0 = .ok (.aload_n 0, 1) := by decide +kernel
theorem dX1_kindOf_1 : decode cX1_kindOf 1 = .ok (.iload_n 1, 1) := by decide +kernel
theorem dX1_kindOf_2 : decode cX1_kindOf 2 = .ok (.invokevirtual 62, 3) := by decide +kernel
theorem dX1_kindOf_5 : decode cX1_kindOf 5 = .ok (.ifCond .eq 12, 3) := by decide +kernel
theorem dX1_kindOf_8 : decode cX1_kindOf 8 = .ok (.aload_n 0, 1) := by decide +kernel
theorem dX1_kindOf_9 : decode cX1_kindOf 9 = .ok (.getfield 18, 3) := by decide +kernel
theorem dX1_kindOf_12 : decode cX1_kindOf 12 = .ok (.iload_n 1, 1) := by decide +kernel
theorem dX1_kindOf_13 : decode cX1_kindOf 13 = .ok (.iaload, 1) := by decide +kernel
theorem dX1_kindOf_14 : decode cX1_kindOf 14 = .ok (.goto 4, 3) := by decide +kernel
theorem dX1_kindOf_17 : decode cX1_kindOf 17 = .ok (.iconst (-1), 1) := by decide +kernel
theorem dX1_kindOf_18 : decode cX1_kindOf 18 = .ok (.ireturn, 1) := by decide +kernel
set_option maxHeartbeats 4000000 in
set_option maxRecDepth 100000 in
theorem c_X1_kindOf {l : Launch} {ω : xO} (hc : xsh ω = clS) {b r : Nat} {p : Int} {M : xMem} (hb : pI b r) (hp : clHas M b p) : Ct l ω yX1_kindOf ({ frames := 1, cells := 0, slots := 0, locals := 21 } : Room) 2 1 [.ref (xad ω b), .int (iI p)] M (some (.int (iI (M (b + 1) p)))) M := by
  refine Ct.of (bytes := cX1_kindOf) (ret := (some .int)) (lv0 := [some (.ref (xad ω b)), some (.int (iI p))]) m_cd_X1_kindOf m_in_X1 (by decide +kernel) (by decide +kernel) rfl rfl rfl rfl (fun hR => hR) ?_
  intro κ h he hR
  refine x_aload_n h dX1_kindOf_0 rfl ?_
  refine x_iload_n h dX1_kindOf_1 rfl ?_
  refine x_V1i h dX1_kindOf_2 m_ml_X1_62 m_im_X1_has m_se_X1_has (sPe hc hb) rfl (by decide) rfl (c_X1_has hc hb (by omega)) ?_
  refine x_ifeqB h dX1_kindOf_5 (tgt := 17) (by decide) (fun q5 => ?_) (fun q5 => ?_)
  · refine x_iconst h dX1_kindOf_17 ?_
    exact x_iret (ret := none) h he dX1_kindOf_18 rfl (by first | rfl | exact absurd hp (by assumption)) rfl
  · refine x_aload_n h dX1_kindOf_8 rfl ?_
    refine x_getr (j := 3) (q := b + 1) h dX1_kindOf_9 (sPe hc hb) rfl in_X1 rfl (by decide) m_fl_X1_18 ?_
    refine x_iload_n h dX1_kindOf_12 rfl ?_
    refine x_iaload h dX1_kindOf_13 (sP1 hc hb) (by omega) (fun r13 => ?_)
    refine x_goto h dX1_kindOf_14 (tgt := 18) (by decide) ?_
    exact x_iret (ret := none) h he dX1_kindOf_18 rfl (by first | rfl | exact absurd hp (by assumption)) rfl

theorem dX1_placeOf_0 : decode cX1_placeOf 0 = .ok (.aload_n 0, 1) := by decide +kernel
theorem dX1_placeOf_1 : decode cX1_placeOf 1 = .ok (.iload_n 1, 1) := by decide +kernel
theorem dX1_placeOf_2 : decode cX1_placeOf 2 = .ok (.invokevirtual 62, 3) := by decide +kernel
theorem dX1_placeOf_5 : decode cX1_placeOf 5 = .ok (.ifCond .eq 12, 3) := by decide +kernel
theorem dX1_placeOf_8 : decode cX1_placeOf 8 = .ok (.aload_n 0, 1) := by decide +kernel
theorem dX1_placeOf_9 : decode cX1_placeOf 9 = .ok (.getfield 22, 3) := by decide +kernel
theorem dX1_placeOf_12 : decode cX1_placeOf 12 = .ok (.iload_n 1, 1) := by decide +kernel
theorem dX1_placeOf_13 : decode cX1_placeOf 13 = .ok (.iaload, 1) := by decide +kernel
theorem dX1_placeOf_14 : decode cX1_placeOf 14 = .ok (.goto 4, 3) := by decide +kernel
theorem dX1_placeOf_17 : decode cX1_placeOf 17 = .ok (.iconst (-1), 1) := by decide +kernel
theorem dX1_placeOf_18 : decode cX1_placeOf 18 = .ok (.ireturn, 1) := by decide +kernel
set_option maxHeartbeats 4000000 in
set_option maxRecDepth 100000 in
theorem c_X1_placeOf {l : Launch} {ω : xO} (hc : xsh ω = clS) {b r : Nat} {p : Int} {M : xMem} (hb : pI b r) (hp : clHas M b p) : Ct l ω yX1_placeOf ({ frames := 1, cells := 0, slots := 0, locals := 21 } : Room) 2 1 [.ref (xad ω b), .int (iI p)] M (some (.int (iI (M (b + 2) p)))) M := by
  refine Ct.of (bytes := cX1_placeOf) (ret := (some .int)) (lv0 := [some (.ref (xad ω b)), some (.int (iI p))]) m_cd_X1_placeOf m_in_X1 (by decide +kernel) (by decide +kernel) rfl rfl rfl rfl (fun hR => hR) ?_
  intro κ h he hR
  refine x_aload_n h dX1_placeOf_0 rfl ?_
  refine x_iload_n h dX1_placeOf_1 rfl ?_
  refine x_V1i h dX1_placeOf_2 m_ml_X1_62 m_im_X1_has m_se_X1_has (sPe hc hb) rfl (by decide) rfl (c_X1_has hc hb (by omega)) ?_
  refine x_ifeqB h dX1_placeOf_5 (tgt := 17) (by decide) (fun q5 => ?_) (fun q5 => ?_)
  · refine x_iconst h dX1_placeOf_17 ?_
    exact x_iret (ret := none) h he dX1_placeOf_18 rfl (by first | rfl | exact absurd hp (by assumption)) rfl
  · refine x_aload_n h dX1_placeOf_8 rfl ?_
    refine x_getr (j := 4) (q := b + 2) h dX1_placeOf_9 (sPe hc hb) rfl in_X1 rfl (by decide) m_fl_X1_22 ?_
    refine x_iload_n h dX1_placeOf_12 rfl ?_
    refine x_iaload h dX1_placeOf_13 (sP2 hc hb) (by omega) (fun r13 => ?_)
    refine x_goto h dX1_placeOf_14 (tgt := 18) (by decide) ?_
    exact x_iret (ret := none) h he dX1_placeOf_18 rfl (by first | rfl | exact absurd hp (by assumption)) rfl

theorem dX1_errandOf_0 : decode cX1_errandOf 0 = .ok (.aload_n 0, 1) := by decide +kernel
theorem dX1_errandOf_1 : decode cX1_errandOf 1 = .ok (.iload_n 1, 1) := by decide +kernel
theorem dX1_errandOf_2 : decode cX1_errandOf 2 = .ok (.invokevirtual 62, 3) := by decide +kernel
theorem dX1_errandOf_5 : decode cX1_errandOf 5 = .ok (.ifCond .eq 12, 3) := by decide +kernel
theorem dX1_errandOf_8 : decode cX1_errandOf 8 = .ok (.aload_n 0, 1) := by decide +kernel
theorem dX1_errandOf_9 : decode cX1_errandOf 9 = .ok (.getfield 25, 3) := by decide +kernel
theorem dX1_errandOf_12 : decode cX1_errandOf 12 = .ok (.iload_n 1, 1) := by decide +kernel
theorem dX1_errandOf_13 : decode cX1_errandOf 13 = .ok (.iaload, 1) := by decide +kernel
theorem dX1_errandOf_14 : decode cX1_errandOf 14 = .ok (.goto 4, 3) := by decide +kernel
theorem dX1_errandOf_17 : decode cX1_errandOf 17 = .ok (.iconst (-1), 1) := by decide +kernel
theorem dX1_errandOf_18 : decode cX1_errandOf 18 = .ok (.ireturn, 1) := by decide +kernel
set_option maxHeartbeats 4000000 in
set_option maxRecDepth 100000 in
theorem c_X1_errandOf {l : Launch} {ω : xO} (hc : xsh ω = clS) {b r : Nat} {p : Int} {M : xMem} (hb : pI b r) (hp : clHas M b p) : Ct l ω yX1_errandOf ({ frames := 1, cells := 0, slots := 0, locals := 21 } : Room) 2 1 [.ref (xad ω b), .int (iI p)] M (some (.int (iI (M (b + 3) p)))) M := by
  refine Ct.of (bytes := cX1_errandOf) (ret := (some .int)) (lv0 := [some (.ref (xad ω b)), some (.int (iI p))]) m_cd_X1_errandOf m_in_X1 (by decide +kernel) (by decide +kernel) rfl rfl rfl rfl (fun hR => hR) ?_
  intro κ h he hR
  refine x_aload_n h dX1_errandOf_0 rfl ?_
  refine x_iload_n h dX1_errandOf_1 rfl ?_
  refine x_V1i h dX1_errandOf_2 m_ml_X1_62 m_im_X1_has m_se_X1_has (sPe hc hb) rfl (by decide) rfl (c_X1_has hc hb (by omega)) ?_
  refine x_ifeqB h dX1_errandOf_5 (tgt := 17) (by decide) (fun q5 => ?_) (fun q5 => ?_)
  · refine x_iconst h dX1_errandOf_17 ?_
    exact x_iret (ret := none) h he dX1_errandOf_18 rfl (by first | rfl | exact absurd hp (by assumption)) rfl
  · refine x_aload_n h dX1_errandOf_8 rfl ?_
    refine x_getr (j := 5) (q := b + 3) h dX1_errandOf_9 (sPe hc hb) rfl in_X1 rfl (by decide) m_fl_X1_25 ?_
    refine x_iload_n h dX1_errandOf_12 rfl ?_
    refine x_iaload h dX1_errandOf_13 (sP3 hc hb) (by omega) (fun r13 => ?_)
    refine x_goto h dX1_errandOf_14 (tgt := 18) (by decide) ?_
    exact x_iret (ret := none) h he dX1_errandOf_18 rfl (by first | rfl | exact absurd hp (by assumption)) rfl

theorem dX1_mateOf_0 : decode cX1_mateOf 0 = .ok (.aload_n 0, 1) := by decide +kernel
theorem dX1_mateOf_1 : decode cX1_mateOf 1 = .ok (.iload_n 1, 1) := by decide +kernel
theorem dX1_mateOf_2 : decode cX1_mateOf 2 = .ok (.invokevirtual 62, 3) := by decide +kernel
theorem dX1_mateOf_5 : decode cX1_mateOf 5 = .ok (.ifCond .eq 12, 3) := by decide +kernel
theorem dX1_mateOf_8 : decode cX1_mateOf 8 = .ok (.aload_n 0, 1) := by decide +kernel
theorem dX1_mateOf_9 : decode cX1_mateOf 9 = .ok (.getfield 28, 3) := by decide +kernel
theorem dX1_mateOf_12 : decode cX1_mateOf 12 = .ok (.iload_n 1, 1) := by decide +kernel
theorem dX1_mateOf_13 : decode cX1_mateOf 13 = .ok (.iaload, 1) := by decide +kernel
theorem dX1_mateOf_14 : decode cX1_mateOf 14 = .ok (.goto 4, 3) := by decide +kernel
theorem dX1_mateOf_17 : decode cX1_mateOf 17 = .ok (.iconst (-1), 1) := by decide +kernel
theorem dX1_mateOf_18 : decode cX1_mateOf 18 = .ok (.ireturn, 1) := by decide +kernel
set_option maxHeartbeats 4000000 in
set_option maxRecDepth 100000 in
theorem c_X1_mateOf {l : Launch} {ω : xO} (hc : xsh ω = clS) {b r : Nat} {p : Int} {M : xMem} (hb : pI b r) (hp : clHas M b p) : Ct l ω yX1_mateOf ({ frames := 1, cells := 0, slots := 0, locals := 21 } : Room) 2 1 [.ref (xad ω b), .int (iI p)] M (some (.int (iI (M (b + 4) p)))) M := by
  refine Ct.of (bytes := cX1_mateOf) (ret := (some .int)) (lv0 := [some (.ref (xad ω b)), some (.int (iI p))]) m_cd_X1_mateOf m_in_X1 (by decide +kernel) (by decide +kernel) rfl rfl rfl rfl (fun hR => hR) ?_
  intro κ h he hR
  refine x_aload_n h dX1_mateOf_0 rfl ?_
  refine x_iload_n h dX1_mateOf_1 rfl ?_
  refine x_V1i h dX1_mateOf_2 m_ml_X1_62 m_im_X1_has m_se_X1_has (sPe hc hb) rfl (by decide) rfl (c_X1_has hc hb (by omega)) ?_
  refine x_ifeqB h dX1_mateOf_5 (tgt := 17) (by decide) (fun q5 => ?_) (fun q5 => ?_)
  · refine x_iconst h dX1_mateOf_17 ?_
    exact x_iret (ret := none) h he dX1_mateOf_18 rfl (by first | rfl | exact absurd hp (by assumption)) rfl
  · refine x_aload_n h dX1_mateOf_8 rfl ?_
    refine x_getr (j := 6) (q := b + 4) h dX1_mateOf_9 (sPe hc hb) rfl in_X1 rfl (by decide) m_fl_X1_28 ?_
    refine x_iload_n h dX1_mateOf_12 rfl ?_
    refine x_iaload h dX1_mateOf_13 (sP4 hc hb) (by omega) (fun r13 => ?_)
    refine x_goto h dX1_mateOf_14 (tgt := 18) (by decide) ?_
    exact x_iret (ret := none) h he dX1_mateOf_18 rfl (by first | rfl | exact absurd hp (by assumption)) rfl

theorem dX1_strengthOf_0 : decode cX1_strengthOf 0 = .ok (.aload_n 0, 1) := by decide +kernel
theorem dX1_strengthOf_1 : decode cX1_strengthOf 1 = .ok (.iload_n 1, 1) := by decide +kernel
theorem dX1_strengthOf_2 : decode cX1_strengthOf 2 = .ok (.invokevirtual 62, 3) := by decide +kernel
theorem dX1_strengthOf_5 : decode cX1_strengthOf 5 = .ok (.ifCond .eq 12, 3) := by decide +kernel
theorem dX1_strengthOf_8 : decode cX1_strengthOf 8 = .ok (.aload_n 0, 1) := by decide +kernel
theorem dX1_strengthOf_9 : decode cX1_strengthOf 9 = .ok (.getfield 31, 3) := by decide +kernel
theorem dX1_strengthOf_12 : decode cX1_strengthOf 12 = .ok (.iload_n 1, 1) := by decide +kernel
theorem dX1_strengthOf_13 : decode cX1_strengthOf 13 = .ok (.iaload, 1) := by decide +kernel
theorem dX1_strengthOf_14 : decode cX1_strengthOf 14 = .ok (.goto 4, 3) := by decide +kernel
theorem dX1_strengthOf_17 : decode cX1_strengthOf 17 = .ok (.iconst 0, 1) := by decide +kernel
theorem dX1_strengthOf_18 : decode cX1_strengthOf 18 = .ok (.ireturn, 1) := by decide +kernel
set_option maxHeartbeats 4000000 in
set_option maxRecDepth 100000 in
theorem c_X1_strengthOf {l : Launch} {ω : xO} (hc : xsh ω = clS) {b r : Nat} {p : Int} {M : xMem} (hb : pI b r) (hp : clHas M b p) : Ct l ω yX1_strengthOf ({ frames := 1, cells := 0, slots := 0, locals := 21 } : Room) 2 1 [.ref (xad ω b), .int (iI p)] M (some (.int (iI (M (b + 5) p)))) M := by
  refine Ct.of (bytes := cX1_strengthOf) (ret := (some .int)) (lv0 := [some (.ref (xad ω b)), some (.int (iI p))]) m_cd_X1_strengthOf m_in_X1 (by decide +kernel) (by decide +kernel) rfl rfl rfl rfl (fun hR => hR) ?_
  intro κ h he hR
  refine x_aload_n h dX1_strengthOf_0 rfl ?_
  refine x_iload_n h dX1_strengthOf_1 rfl ?_
  refine x_V1i h dX1_strengthOf_2 m_ml_X1_62 m_im_X1_has m_se_X1_has (sPe hc hb) rfl (by decide) rfl (c_X1_has hc hb (by omega)) ?_
  refine x_ifeqB h dX1_strengthOf_5 (tgt := 17) (by decide) (fun q5 => ?_) (fun q5 => ?_)
  · refine x_iconst h dX1_strengthOf_17 ?_
    exact x_iret (ret := none) h he dX1_strengthOf_18 rfl (by first | rfl | exact absurd hp (by assumption)) rfl
  · refine x_aload_n h dX1_strengthOf_8 rfl ?_
    refine x_getr (j := 7) (q := b + 5) h dX1_strengthOf_9 (sPe hc hb) rfl in_X1 rfl (by decide) m_fl_X1_31 ?_
    refine x_iload_n h dX1_strengthOf_12 rfl ?_
    refine x_iaload h dX1_strengthOf_13 (sP5 hc hb) (by omega) (fun r13 => ?_)
    refine x_goto h dX1_strengthOf_14 (tgt := 18) (by decide) ?_
    exact x_iret (ret := none) h he dX1_strengthOf_18 rfl (by first | rfl | exact absurd hp (by assumption)) rfl

theorem dX1_ropeOf_0 : decode cX1_ropeOf 0 = .ok (.aload_n 0, 1) := by decide +kernel
theorem dX1_ropeOf_1 : decode cX1_ropeOf 1 = .ok (.iload_n 1, 1) := by decide +kernel
theorem dX1_ropeOf_2 : decode cX1_ropeOf 2 = .ok (.invokevirtual 62, 3) := by decide +kernel
theorem dX1_ropeOf_5 : decode cX1_ropeOf 5 = .ok (.ifCond .eq 12, 3) := by decide +kernel
theorem dX1_ropeOf_8 : decode cX1_ropeOf 8 = .ok (.aload_n 0, 1) := by decide +kernel
theorem dX1_ropeOf_9 : decode cX1_ropeOf 9 = .ok (.getfield 34, 3) := by decide +kernel
theorem dX1_ropeOf_12 : decode cX1_ropeOf 12 = .ok (.iload_n 1, 1) := by decide +kernel
theorem dX1_ropeOf_13 : decode cX1_ropeOf 13 = .ok (.iaload, 1) := by decide +kernel
theorem dX1_ropeOf_14 : decode cX1_ropeOf 14 = .ok (.goto 4, 3) := by decide +kernel
theorem dX1_ropeOf_17 : decode cX1_ropeOf 17 = .ok (.iconst 0, 1) := by decide +kernel
theorem dX1_ropeOf_18 : decode cX1_ropeOf 18 = .ok (.ireturn, 1) := by decide +kernel
set_option maxHeartbeats 4000000 in
set_option maxRecDepth 100000 in
theorem c_X1_ropeOf {l : Launch} {ω : xO} (hc : xsh ω = clS) {b r : Nat} {p : Int} {M : xMem} (hb : pI b r) (hp : clHas M b p) : Ct l ω yX1_ropeOf ({ frames := 1, cells := 0, slots := 0, locals := 21 } : Room) 2 1 [.ref (xad ω b), .int (iI p)] M (some (.int (iI (M (b + 6) p)))) M := by
  refine Ct.of (bytes := cX1_ropeOf) (ret := (some .int)) (lv0 := [some (.ref (xad ω b)), some (.int (iI p))]) m_cd_X1_ropeOf m_in_X1 (by decide +kernel) (by decide +kernel) rfl rfl rfl rfl (fun hR => hR) ?_
  intro κ h he hR
  refine x_aload_n h dX1_ropeOf_0 rfl ?_
  refine x_iload_n h dX1_ropeOf_1 rfl ?_
  refine x_V1i h dX1_ropeOf_2 m_ml_X1_62 m_im_X1_has m_se_X1_has (sPe hc hb) rfl (by decide) rfl (c_X1_has hc hb (by omega)) ?_
  refine x_ifeqB h dX1_ropeOf_5 (tgt := 17) (by decide) (fun q5 => ?_) (fun q5 => ?_)
  · refine x_iconst h dX1_ropeOf_17 ?_
    exact x_iret (ret := none) h he dX1_ropeOf_18 rfl (by first | rfl | exact absurd hp (by assumption)) rfl
  · refine x_aload_n h dX1_ropeOf_8 rfl ?_
    refine x_getr (j := 8) (q := b + 6) h dX1_ropeOf_9 (sPe hc hb) rfl in_X1 rfl (by decide) m_fl_X1_34 ?_
    refine x_iload_n h dX1_ropeOf_12 rfl ?_
    refine x_iaload h dX1_ropeOf_13 (sP6 hc hb) (by omega) (fun r13 => ?_)
    refine x_goto h dX1_ropeOf_14 (tgt := 18) (by decide) ?_
    exact x_iret (ret := none) h he dX1_ropeOf_18 rfl (by first | rfl | exact absurd hp (by assumption)) rfl

theorem dX1_holdsOf_0 : decode cX1_holdsOf 0 = .ok (.aload_n 0, 1) := by decide +kernel
theorem dX1_holdsOf_1 : decode cX1_holdsOf 1 = .ok (.iload_n 1, 1) := by decide +kernel
theorem dX1_holdsOf_2 : decode cX1_holdsOf 2 = .ok (.invokevirtual 62, 3) := by decide +kernel
theorem dX1_holdsOf_5 : decode cX1_holdsOf 5 = .ok (.ifCond .eq 12, 3) := by decide +kernel
theorem dX1_holdsOf_8 : decode cX1_holdsOf 8 = .ok (.aload_n 0, 1) := by decide +kernel
theorem dX1_holdsOf_9 : decode cX1_holdsOf 9 = .ok (.getfield 37, 3) := by decide +kernel
theorem dX1_holdsOf_12 : decode cX1_holdsOf 12 = .ok (.iload_n 1, 1) := by decide +kernel
theorem dX1_holdsOf_13 : decode cX1_holdsOf 13 = .ok (.iaload, 1) := by decide +kernel
theorem dX1_holdsOf_14 : decode cX1_holdsOf 14 = .ok (.goto 4, 3) := by decide +kernel
theorem dX1_holdsOf_17 : decode cX1_holdsOf 17 = .ok (.iconst 0, 1) := by decide +kernel
theorem dX1_holdsOf_18 : decode cX1_holdsOf 18 = .ok (.ireturn, 1) := by decide +kernel
set_option maxHeartbeats 4000000 in
set_option maxRecDepth 100000 in
theorem c_X1_holdsOf {l : Launch} {ω : xO} (hc : xsh ω = clS) {b r : Nat} {p : Int} {M : xMem} (hb : pI b r) (hp : clHas M b p) : Ct l ω yX1_holdsOf ({ frames := 1, cells := 0, slots := 0, locals := 21 } : Room) 2 1 [.ref (xad ω b), .int (iI p)] M (some (.int (iI (M (b + 7) p)))) M := by
  refine Ct.of (bytes := cX1_holdsOf) (ret := (some .int)) (lv0 := [some (.ref (xad ω b)), some (.int (iI p))]) m_cd_X1_holdsOf m_in_X1 (by decide +kernel) (by decide +kernel) rfl rfl rfl rfl (fun hR => hR) ?_
  intro κ h he hR
  refine x_aload_n h dX1_holdsOf_0 rfl ?_
  refine x_iload_n h dX1_holdsOf_1 rfl ?_
  refine x_V1i h dX1_holdsOf_2 m_ml_X1_62 m_im_X1_has m_se_X1_has (sPe hc hb) rfl (by decide) rfl (c_X1_has hc hb (by omega)) ?_
  refine x_ifeqB h dX1_holdsOf_5 (tgt := 17) (by decide) (fun q5 => ?_) (fun q5 => ?_)
  · refine x_iconst h dX1_holdsOf_17 ?_
    exact x_iret (ret := none) h he dX1_holdsOf_18 rfl (by first | rfl | exact absurd hp (by assumption)) rfl
  · refine x_aload_n h dX1_holdsOf_8 rfl ?_
    refine x_getr (j := 9) (q := b + 7) h dX1_holdsOf_9 (sPe hc hb) rfl in_X1 rfl (by decide) m_fl_X1_37 ?_
    refine x_iload_n h dX1_holdsOf_12 rfl ?_
    refine x_iaload h dX1_holdsOf_13 (sP7 hc hb) (by omega) (fun r13 => ?_)
    refine x_goto h dX1_holdsOf_14 (tgt := 18) (by decide) ?_
    exact x_iret (ret := none) h he dX1_holdsOf_18 rfl (by first | rfl | exact absurd hp (by assumption)) rfl

theorem dX1_tugsOf_0 : decode cX1_tugsOf 0 = .ok (.aload_n 0, 1) := by decide +kernel
theorem dX1_tugsOf_1 : decode cX1_tugsOf 1 = .ok (.iload_n 1, 1) := by decide +kernel
theorem dX1_tugsOf_2 : decode cX1_tugsOf 2 = .ok (.invokevirtual 62, 3) := by decide +kernel
theorem dX1_tugsOf_5 : decode cX1_tugsOf 5 = .ok (.ifCond .eq 12, 3) := by decide +kernel
theorem dX1_tugsOf_8 : decode cX1_tugsOf 8 = .ok (.aload_n 0, 1) := by decide +kernel
theorem dX1_tugsOf_9 : decode cX1_tugsOf 9 = .ok (.getfield 40, 3) := by decide +kernel
theorem dX1_tugsOf_12 : decode cX1_tugsOf 12 = .ok (.iload_n 1, 1) := by decide +kernel
theorem dX1_tugsOf_13 : decode cX1_tugsOf 13 = .ok (.iaload, 1) := by decide +kernel
theorem dX1_tugsOf_14 : decode cX1_tugsOf 14 = .ok (.goto 4, 3) := by decide +kernel
theorem dX1_tugsOf_17 : decode cX1_tugsOf 17 = .ok (.iconst 0, 1) := by decide +kernel
theorem dX1_tugsOf_18 : decode cX1_tugsOf 18 = .ok (.ireturn, 1) := by decide +kernel
set_option maxHeartbeats 4000000 in
set_option maxRecDepth 100000 in
theorem c_X1_tugsOf {l : Launch} {ω : xO} (hc : xsh ω = clS) {b r : Nat} {p : Int} {M : xMem} (hb : pI b r) (hp : clHas M b p) : Ct l ω yX1_tugsOf ({ frames := 1, cells := 0, slots := 0, locals := 21 } : Room) 2 1 [.ref (xad ω b), .int (iI p)] M (some (.int (iI (M (b + 8) p)))) M := by
  refine Ct.of (bytes := cX1_tugsOf) (ret := (some .int)) (lv0 := [some (.ref (xad ω b)), some (.int (iI p))]) m_cd_X1_tugsOf m_in_X1 (by decide +kernel) (by decide +kernel) rfl rfl rfl rfl (fun hR => hR) ?_
  intro κ h he hR
  refine x_aload_n h dX1_tugsOf_0 rfl ?_
  refine x_iload_n h dX1_tugsOf_1 rfl ?_
  refine x_V1i h dX1_tugsOf_2 m_ml_X1_62 m_im_X1_has m_se_X1_has (sPe hc hb) rfl (by decide) rfl (c_X1_has hc hb (by omega)) ?_
  refine x_ifeqB h dX1_tugsOf_5 (tgt := 17) (by decide) (fun q5 => ?_) (fun q5 => ?_)
  · refine x_iconst h dX1_tugsOf_17 ?_
    exact x_iret (ret := none) h he dX1_tugsOf_18 rfl (by first | rfl | exact absurd hp (by assumption)) rfl
  · refine x_aload_n h dX1_tugsOf_8 rfl ?_
    refine x_getr (j := 10) (q := b + 8) h dX1_tugsOf_9 (sPe hc hb) rfl in_X1 rfl (by decide) m_fl_X1_40 ?_
    refine x_iload_n h dX1_tugsOf_12 rfl ?_
    refine x_iaload h dX1_tugsOf_13 (sP8 hc hb) (by omega) (fun r13 => ?_)
    refine x_goto h dX1_tugsOf_14 (tgt := 18) (by decide) ?_
    exact x_iret (ret := none) h he dX1_tugsOf_18 rfl (by first | rfl | exact absurd hp (by assumption)) rfl

theorem dX3_distance_0 : decode cX3_distance 0 = .ok (.iload_n 1, 1) := by decide +kernel
theorem dX3_distance_1 : decode cX3_distance 1 = .ok (.invokestatic 39, 3) := by decide +kernel
theorem dX3_distance_4 : decode cX3_distance 4 = .ok (.ifCond .eq 24, 3) := by decide +kernel
theorem dX3_distance_7 : decode cX3_distance 7 = .ok (.iload_n 2, 1) := by decide +kernel
theorem dX3_distance_8 : decode cX3_distance 8 = .ok (.invokestatic 39, 3) := by decide +kernel
theorem dX3_distance_11 : decode cX3_distance 11 = .ok (.ifCond .eq 17, 3) := by decide +kernel
theorem dX3_distance_14 : decode cX3_distance 14 = .ok (.aload_n 0, 1) := by decide +kernel
theorem dX3_distance_15 : decode cX3_distance 15 = .ok (.getfield 15, 3) := by decide +kernel
theorem dX3_distance_18 : decode cX3_distance 18 = .ok (.iload_n 1, 1) := by decide +kernel
theorem dX3_distance_19 : decode cX3_distance 19 = .ok (.bipush 10, 2) := by decide +kernel
theorem dX3_distance_21 : decode cX3_distance 21 = .ok (.imul, 1) := by decide +kernel
theorem dX3_distance_22 : decode cX3_distance 22 = .ok (.iload_n 2, 1) := by decide +kernel
theorem dX3_distance_23 : decode cX3_distance 23 = .ok (.iadd, 1) := by decide +kernel
theorem dX3_distance_24 : decode cX3_distance 24 = .ok (.iaload, 1) := by decide +kernel
theorem dX3_distance_25 : decode cX3_distance 25 = .ok (.goto 6, 3) := by decide +kernel
theorem dX3_distance_28 : decode cX3_distance 28 = .ok (.sipush 999, 3) := by decide +kernel
theorem dX3_distance_31 : decode cX3_distance 31 = .ok (.ireturn, 1) := by decide +kernel
set_option maxHeartbeats 4000000 in
set_option maxRecDepth 100000 in
theorem c_X3_distance {l : Launch} {ω : xO} (hc : xsh ω = clS) {r : Nat} {a c : Int} {M : xMem} (hb : rI r) (ha : plc a) (hc2 : plc c) : Ct l ω yX3_distance ({ frames := 1, cells := 0, slots := 0, locals := 20 } : Room) 3 2 [.ref (xad ω r), .int (iI a), .int (iI c)] M (some (.int (iI (M (r + 2) (a * 10 + c))))) M := by
  refine Ct.of (bytes := cX3_distance) (ret := (some .int)) (lv0 := [some (.ref (xad ω r)), some (.int (iI a)), some (.int (iI c))]) m_cd_X3_distance m_in_X3 (by decide +kernel) (by decide +kernel) rfl rfl rfl rfl (fun hR => hR) ?_
  intro κ h he hR
  refine x_iload_n h dX3_distance_0 rfl ?_
  refine x_N1i h dX3_distance_1 m_nl_X3_39 m_st_X6_isPlace (by decide) rfl (c_X6_isPlace hc (by omega)) ?_
  refine x_ifeqB h dX3_distance_4 (tgt := 28) (by decide) (fun q4 => ?_) (fun q4 => ?_)
  · refine x_sipush h dX3_distance_28 (by decide) ?_
    exact x_iret (ret := none) h he dX3_distance_31 rfl (by first | rfl | exact absurd ha (by assumption) | exact absurd hc2 (by assumption)) rfl
  · refine x_iload_n h dX3_distance_7 rfl ?_
    refine x_N1i h dX3_distance_8 m_nl_X3_39 m_st_X6_isPlace (by decide) rfl (c_X6_isPlace hc (by omega)) ?_
    refine x_ifeqB h dX3_distance_11 (tgt := 28) (by decide) (fun q11 => ?_) (fun q11 => ?_)
    · refine x_sipush h dX3_distance_28 (by decide) ?_
      exact x_iret (ret := none) h he dX3_distance_31 rfl (by first | rfl | exact absurd ha (by assumption) | exact absurd hc2 (by assumption)) rfl
    · refine x_aload_n h dX3_distance_14 rfl ?_
      refine x_getr (j := 1) (q := r + 2) h dX3_distance_15 (sRd hc hb) rfl in_X3 rfl (by decide) m_fl_X3_15 ?_
      refine x_iload_n h dX3_distance_18 rfl ?_
      refine x_bipush h dX3_distance_19 (by decide) ?_
      refine x_imul h dX3_distance_21 ?_
      refine x_iload_n h dX3_distance_22 rfl ?_
      refine x_iadd h dX3_distance_23 ?_
      refine x_iaload h dX3_distance_24 (sR2 hc hb) (by omega) (fun r24 => ?_)
      refine x_goto h dX3_distance_25 (tgt := 31) (by decide) ?_
      exact x_iret (ret := none) h he dX3_distance_31 rfl (by first | rfl | exact absurd ha (by assumption) | exact absurd hc2 (by assumption)) rfl

theorem dX3_lengthOf_0 : decode cX3_lengthOf 0 = .ok (.iload_n 1, 1) := by decide +kernel
theorem dX3_lengthOf_1 : decode cX3_lengthOf 1 = .ok (.invokestatic 39, 3) := by decide +kernel
theorem dX3_lengthOf_4 : decode cX3_lengthOf 4 = .ok (.ifCond .eq 24, 3) := by decide +kernel
theorem dX3_lengthOf_7 : decode cX3_lengthOf 7 = .ok (.iload_n 2, 1) := by decide +kernel
theorem dX3_lengthOf_8 : decode cX3_lengthOf 8 = .ok (.invokestatic 39, 3) := by decide +kernel
theorem dX3_lengthOf_11 : decode cX3_lengthOf 11 = .ok (.ifCond .eq 17, 3) := by decide +kernel
theorem dX3_lengthOf_14 : decode cX3_lengthOf 14 = .ok (.aload_n 0, 1) := by decide +kernel
theorem dX3_lengthOf_15 : decode cX3_lengthOf 15 = .ok (.getfield 9, 3) := by decide +kernel
theorem dX3_lengthOf_18 : decode cX3_lengthOf 18 = .ok (.iload_n 1, 1) := by decide +kernel
theorem dX3_lengthOf_19 : decode cX3_lengthOf 19 = .ok (.bipush 10, 2) := by decide +kernel
theorem dX3_lengthOf_21 : decode cX3_lengthOf 21 = .ok (.imul, 1) := by decide +kernel
theorem dX3_lengthOf_22 : decode cX3_lengthOf 22 = .ok (.iload_n 2, 1) := by decide +kernel
theorem dX3_lengthOf_23 : decode cX3_lengthOf 23 = .ok (.iadd, 1) := by decide +kernel
theorem dX3_lengthOf_24 : decode cX3_lengthOf 24 = .ok (.iaload, 1) := by decide +kernel
theorem dX3_lengthOf_25 : decode cX3_lengthOf 25 = .ok (.goto 4, 3) := by decide +kernel
theorem dX3_lengthOf_28 : decode cX3_lengthOf 28 = .ok (.iconst 0, 1) := by decide +kernel
theorem dX3_lengthOf_29 : decode cX3_lengthOf 29 = .ok (.ireturn, 1) := by decide +kernel
set_option maxHeartbeats 4000000 in
set_option maxRecDepth 100000 in
theorem c_X3_lengthOf {l : Launch} {ω : xO} (hc : xsh ω = clS) {r : Nat} {a c : Int} {M : xMem} (hb : rI r) (ha : plc a) (hc2 : plc c) : Ct l ω yX3_lengthOf ({ frames := 1, cells := 0, slots := 0, locals := 20 } : Room) 3 2 [.ref (xad ω r), .int (iI a), .int (iI c)] M (some (.int (iI (M (r + 1) (a * 10 + c))))) M := by
  refine Ct.of (bytes := cX3_lengthOf) (ret := (some .int)) (lv0 := [some (.ref (xad ω r)), some (.int (iI a)), some (.int (iI c))]) m_cd_X3_lengthOf m_in_X3 (by decide +kernel) (by decide +kernel) rfl rfl rfl rfl (fun hR => hR) ?_
  intro κ h he hR
  refine x_iload_n h dX3_lengthOf_0 rfl ?_
  refine x_N1i h dX3_lengthOf_1 m_nl_X3_39 m_st_X6_isPlace (by decide) rfl (c_X6_isPlace hc (by omega)) ?_
  refine x_ifeqB h dX3_lengthOf_4 (tgt := 28) (by decide) (fun q4 => ?_) (fun q4 => ?_)
  · refine x_iconst h dX3_lengthOf_28 ?_
    exact x_iret (ret := none) h he dX3_lengthOf_29 rfl (by first | rfl | exact absurd ha (by assumption) | exact absurd hc2 (by assumption)) rfl
  · refine x_iload_n h dX3_lengthOf_7 rfl ?_
    refine x_N1i h dX3_lengthOf_8 m_nl_X3_39 m_st_X6_isPlace (by decide) rfl (c_X6_isPlace hc (by omega)) ?_
    refine x_ifeqB h dX3_lengthOf_11 (tgt := 28) (by decide) (fun q11 => ?_) (fun q11 => ?_)
    · refine x_iconst h dX3_lengthOf_28 ?_
      exact x_iret (ret := none) h he dX3_lengthOf_29 rfl (by first | rfl | exact absurd ha (by assumption) | exact absurd hc2 (by assumption)) rfl
    · refine x_aload_n h dX3_lengthOf_14 rfl ?_
      refine x_getr (j := 0) (q := r + 1) h dX3_lengthOf_15 (sRd hc hb) rfl in_X3 rfl (by decide) m_fl_X3_9 ?_
      refine x_iload_n h dX3_lengthOf_18 rfl ?_
      refine x_bipush h dX3_lengthOf_19 (by decide) ?_
      refine x_imul h dX3_lengthOf_21 ?_
      refine x_iload_n h dX3_lengthOf_22 rfl ?_
      refine x_iadd h dX3_lengthOf_23 ?_
      refine x_iaload h dX3_lengthOf_24 (sR1 hc hb) (by omega) (fun r24 => ?_)
      refine x_goto h dX3_lengthOf_25 (tgt := 29) (by decide) ?_
      exact x_iret (ret := none) h he dX3_lengthOf_29 rfl (by first | rfl | exact absurd ha (by assumption) | exact absurd hc2 (by assumption)) rfl

theorem dX3_nextPlace_0 : decode cX3_nextPlace 0 = .ok (.iload_n 1, 1) := by decide +kernel
theorem dX3_nextPlace_1 : decode cX3_nextPlace 1 = .ok (.invokestatic 39, 3) := by decide +kernel
theorem dX3_nextPlace_4 : decode cX3_nextPlace 4 = .ok (.ifCond .eq 24, 3) := by decide +kernel
theorem dX3_nextPlace_7 : decode cX3_nextPlace 7 = .ok (.iload_n 2, 1) := by decide +kernel
theorem dX3_nextPlace_8 : decode cX3_nextPlace 8 = .ok (.invokestatic 39, 3) := by decide +kernel
theorem dX3_nextPlace_11 : decode cX3_nextPlace 11 = .ok (.ifCond .eq 17, 3) := by decide +kernel
theorem dX3_nextPlace_14 : decode cX3_nextPlace 14 = .ok (.aload_n 0, 1) := by decide +kernel
theorem dX3_nextPlace_15 : decode cX3_nextPlace 15 = .ok (.getfield 18, 3) := by decide +kernel
theorem dX3_nextPlace_18 : decode cX3_nextPlace 18 = .ok (.iload_n 1, 1) := by decide +kernel
theorem dX3_nextPlace_19 : decode cX3_nextPlace 19 = .ok (.bipush 10, 2) := by decide +kernel
theorem dX3_nextPlace_21 : decode cX3_nextPlace 21 = .ok (.imul, 1) := by decide +kernel
theorem dX3_nextPlace_22 : decode cX3_nextPlace 22 = .ok (.iload_n 2, 1) := by decide +kernel
theorem dX3_nextPlace_23 : decode cX3_nextPlace 23 = .ok (.iadd, 1) := by decide +kernel
theorem dX3_nextPlace_24 : decode cX3_nextPlace 24 = .ok (.iaload, 1) := by decide +kernel
theorem dX3_nextPlace_25 : decode cX3_nextPlace 25 = .ok (.goto 4, 3) := by decide +kernel
theorem dX3_nextPlace_28 : decode cX3_nextPlace 28 = .ok (.iload_n 1, 1) := by decide +kernel
theorem dX3_nextPlace_29 : decode cX3_nextPlace 29 = .ok (.ireturn, 1) := by decide +kernel
set_option maxHeartbeats 4000000 in
set_option maxRecDepth 100000 in
theorem c_X3_nextPlace {l : Launch} {ω : xO} (hc : xsh ω = clS) {r : Nat} {a c : Int} {M : xMem} (hb : rI r) (ha : plc a) (hc2 : plc c) : Ct l ω yX3_nextPlace ({ frames := 1, cells := 0, slots := 0, locals := 20 } : Room) 3 2 [.ref (xad ω r), .int (iI a), .int (iI c)] M (some (.int (iI (M (r + 3) (a * 10 + c))))) M := by
  refine Ct.of (bytes := cX3_nextPlace) (ret := (some .int)) (lv0 := [some (.ref (xad ω r)), some (.int (iI a)), some (.int (iI c))]) m_cd_X3_nextPlace m_in_X3 (by decide +kernel) (by decide +kernel) rfl rfl rfl rfl (fun hR => hR) ?_
  intro κ h he hR
  refine x_iload_n h dX3_nextPlace_0 rfl ?_
  refine x_N1i h dX3_nextPlace_1 m_nl_X3_39 m_st_X6_isPlace (by decide) rfl (c_X6_isPlace hc (by omega)) ?_
  refine x_ifeqB h dX3_nextPlace_4 (tgt := 28) (by decide) (fun q4 => ?_) (fun q4 => ?_)
  · refine x_iload_n h dX3_nextPlace_28 rfl ?_
    exact x_iret (ret := none) h he dX3_nextPlace_29 rfl (by first | rfl | exact absurd ha (by assumption) | exact absurd hc2 (by assumption)) rfl
  · refine x_iload_n h dX3_nextPlace_7 rfl ?_
    refine x_N1i h dX3_nextPlace_8 m_nl_X3_39 m_st_X6_isPlace (by decide) rfl (c_X6_isPlace hc (by omega)) ?_
    refine x_ifeqB h dX3_nextPlace_11 (tgt := 28) (by decide) (fun q11 => ?_) (fun q11 => ?_)
    · refine x_iload_n h dX3_nextPlace_28 rfl ?_
      exact x_iret (ret := none) h he dX3_nextPlace_29 rfl (by first | rfl | exact absurd ha (by assumption) | exact absurd hc2 (by assumption)) rfl
    · refine x_aload_n h dX3_nextPlace_14 rfl ?_
      refine x_getr (j := 2) (q := r + 3) h dX3_nextPlace_15 (sRd hc hb) rfl in_X3 rfl (by decide) m_fl_X3_18 ?_
      refine x_iload_n h dX3_nextPlace_18 rfl ?_
      refine x_bipush h dX3_nextPlace_19 (by decide) ?_
      refine x_imul h dX3_nextPlace_21 ?_
      refine x_iload_n h dX3_nextPlace_22 rfl ?_
      refine x_iadd h dX3_nextPlace_23 ?_
      refine x_iaload h dX3_nextPlace_24 (sR3 hc hb) (by omega) (fun r24 => ?_)
      refine x_goto h dX3_nextPlace_25 (tgt := 29) (by decide) ?_
      exact x_iret (ret := none) h he dX3_nextPlace_29 rfl (by first | rfl | exact absurd ha (by assumption) | exact absurd hc2 (by assumption)) rfl

theorem dX3_nearestBeside_0 : decode cX3_nearestBeside 0 = .ok (.iload_n 1, 1) := by decide +kernel
theorem dX3_nearestBeside_1 : decode cX3_nearestBeside 1 = .ok (.invokestatic 39, 3) := by decide +kernel
theorem dX3_nearestBeside_4 : decode cX3_nearestBeside 4 = .ok (.ifCond .eq 24, 3) := by decide +kernel
theorem dX3_nearestBeside_7 : decode cX3_nearestBeside 7 = .ok (.iload_n 2, 1) := by decide +kernel
theorem dX3_nearestBeside_8 : decode cX3_nearestBeside 8 = .ok (.invokestatic 39, 3) := by decide +kernel
theorem dX3_nearestBeside_11 : decode cX3_nearestBeside 11 = .ok (.ifCond .eq 17, 3) := by decide +kernel
theorem dX3_nearestBeside_14 : decode cX3_nearestBeside 14 = .ok (.aload_n 0, 1) := by decide +kernel
theorem dX3_nearestBeside_15 : decode cX3_nearestBeside 15 = .ok (.getfield 21, 3) := by decide +kernel
theorem dX3_nearestBeside_18 : decode cX3_nearestBeside 18 = .ok (.iload_n 1, 1) := by decide +kernel
theorem dX3_nearestBeside_19 : decode cX3_nearestBeside 19 = .ok (.bipush 10, 2) := by decide +kernel
theorem dX3_nearestBeside_21 : decode cX3_nearestBeside 21 = .ok (.imul, 1) := by decide +kernel
theorem dX3_nearestBeside_22 : decode cX3_nearestBeside 22 = .ok (.iload_n 2, 1) := by decide +kernel
theorem dX3_nearestBeside_23 : decode cX3_nearestBeside 23 = .ok (.iadd, 1) := by decide +kernel
theorem dX3_nearestBeside_24 : decode cX3_nearestBeside 24 = .ok (.iaload, 1) := by decide +kernel
theorem dX3_nearestBeside_25 : decode cX3_nearestBeside 25 = .ok (.goto 4, 3) := by decide +kernel
theorem dX3_nearestBeside_28 : decode cX3_nearestBeside 28 = .ok (.iload_n 1, 1) := by decide +kernel
theorem dX3_nearestBeside_29 : decode cX3_nearestBeside 29 = .ok (.ireturn, 1) := by decide +kernel
set_option maxHeartbeats 4000000 in
set_option maxRecDepth 100000 in
theorem c_X3_nearestBeside {l : Launch} {ω : xO} (hc : xsh ω = clS) {r : Nat} {a c : Int} {M : xMem} (hb : rI r) (ha : plc a) (hc2 : plc c) : Ct l ω yX3_nearestBeside ({ frames := 1, cells := 0, slots := 0, locals := 20 } : Room) 3 2 [.ref (xad ω r), .int (iI a), .int (iI c)] M (some (.int (iI (M (r + 4) (a * 10 + c))))) M := by
  refine Ct.of (bytes := cX3_nearestBeside) (ret := (some .int)) (lv0 := [some (.ref (xad ω r)), some (.int (iI a)), some (.int (iI c))]) m_cd_X3_nearestBeside m_in_X3 (by decide +kernel) (by decide +kernel) rfl rfl rfl rfl (fun hR => hR) ?_
  intro κ h he hR
  refine x_iload_n h dX3_nearestBeside_0 rfl ?_
  refine x_N1i h dX3_nearestBeside_1 m_nl_X3_39 m_st_X6_isPlace (by decide) rfl (c_X6_isPlace hc (by omega)) ?_
  refine x_ifeqB h dX3_nearestBeside_4 (tgt := 28) (by decide) (fun q4 => ?_) (fun q4 => ?_)
  · refine x_iload_n h dX3_nearestBeside_28 rfl ?_
    exact x_iret (ret := none) h he dX3_nearestBeside_29 rfl (by first | rfl | exact absurd ha (by assumption) | exact absurd hc2 (by assumption)) rfl
  · refine x_iload_n h dX3_nearestBeside_7 rfl ?_
    refine x_N1i h dX3_nearestBeside_8 m_nl_X3_39 m_st_X6_isPlace (by decide) rfl (c_X6_isPlace hc (by omega)) ?_
    refine x_ifeqB h dX3_nearestBeside_11 (tgt := 28) (by decide) (fun q11 => ?_) (fun q11 => ?_)
    · refine x_iload_n h dX3_nearestBeside_28 rfl ?_
      exact x_iret (ret := none) h he dX3_nearestBeside_29 rfl (by first | rfl | exact absurd ha (by assumption) | exact absurd hc2 (by assumption)) rfl
    · refine x_aload_n h dX3_nearestBeside_14 rfl ?_
      refine x_getr (j := 3) (q := r + 4) h dX3_nearestBeside_15 (sRd hc hb) rfl in_X3 rfl (by decide) m_fl_X3_21 ?_
      refine x_iload_n h dX3_nearestBeside_18 rfl ?_
      refine x_bipush h dX3_nearestBeside_19 (by decide) ?_
      refine x_imul h dX3_nearestBeside_21 ?_
      refine x_iload_n h dX3_nearestBeside_22 rfl ?_
      refine x_iadd h dX3_nearestBeside_23 ?_
      refine x_iaload h dX3_nearestBeside_24 (sR4 hc hb) (by omega) (fun r24 => ?_)
      refine x_goto h dX3_nearestBeside_25 (tgt := 29) (by decide) ?_
      exact x_iret (ret := none) h he dX3_nearestBeside_29 rfl (by first | rfl | exact absurd ha (by assumption) | exact absurd hc2 (by assumption)) rfl
