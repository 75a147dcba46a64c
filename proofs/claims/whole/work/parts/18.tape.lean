/-! the class: THE TAPE, SHEETS -/
theorem dX5_size_0 : decode cX5_size 0 = .ok (.aload_n 0, 1) := by decide +kernel
theorem dX5_size_1 : decode cX5_size 1 = .ok (.getfield 15, 3) := by decide +kernel
theorem dX5_size_4 : decode cX5_size 4 = .ok (.ireturn, 1) := by decide +kernel
set_option maxHeartbeats 4000000 in
set_option maxRecDepth 100000 in
theorem c_X5_size {l : Launch} {ω : xO} (hc : xsh ω = clS)  {M : xMem}  : Ct l ω yX5_size ({ frames := 0, cells := 0, slots := 0, locals := 0 } : Room) 1 0 [.ref (xad ω 47)] M (some (.int (iI (M 47 1)))) M := by
  refine Ct.of (bytes := cX5_size) (ret := (some .int)) (lv0 := [some (.ref (xad ω 47))]) m_cd_X5_size m_in_X5 (by decide +kernel) (by decide +kernel) rfl rfl rfl rfl (fun hR => hR) ?_
  intro κ h he hR
  refine x_aload_n h dX5_size_0 rfl ?_
  refine x_geti (j := 1) 1 h dX5_size_1 (sC47 hc) rfl in_X5 rfl (by decide) m_fl_X5_15 rfl (fun r1 => ?_)
  exact x_iret (ret := none) h he dX5_size_4 rfl (by first | rfl | omega | exact (bI_t (by omega)).symm | exact (bI_f (by omega)).symm) rfl

theorem dX5_clear_0 : decode cX5_clear 0 = .ok (.aload_n 0, 1) := by decide +kernel
theorem dX5_clear_1 : decode cX5_clear 1 = .ok (.iconst 0, 1) := by decide +kernel
theorem dX5_clear_2 : decode cX5_clear 2 = .ok (.putfield 15, 3) := by decide +kernel
theorem dX5_clear_5 : decode cX5_clear 5 = .ok (.return_, 1) := by decide +kernel
set_option maxHeartbeats 4000000 in
set_option maxRecDepth 100000 in
theorem c_X5_clear {l : Launch} {ω : xO} (hc : xsh ω = clS)  {M : xMem}  : Ct l ω yX5_clear ({ frames := 0, cells := 0, slots := 0, locals := 0 } : Room) 1 0 [.ref (xad ω 47)] M none (up M 47 1 0) := by
  refine Ct.of (bytes := cX5_clear) (ret := none) (lv0 := [some (.ref (xad ω 47))]) m_cd_X5_clear m_in_X5 (by decide +kernel) (by decide +kernel) rfl rfl rfl rfl (fun hR => up_R hR (by decide)) ?_
  intro κ h he hR
  refine x_aload_n h dX5_clear_0 rfl ?_
  refine x_iconst h dX5_clear_1 ?_
  refine x_puti (j := 1) 1 h dX5_clear_2 (sC47 hc) rfl in_X5 rfl (by decide) m_fl_X5_15 tyX5_ok nmX5 rfl (tyX5_ok 1 (by decide)) rfl rfl (by omega) rfl ?_
  exact x_vret h he dX5_clear_5 rfl

def bytF (x : Int) (i : Int) : Int := band (bshr x (8 * i)) 255
def apG (x n : Int) (k : Int) (M : xMem) : xMem := up (up M 48 (M 47 1) (bytF x (n - 1 - k))) 47 1 (M 47 1 + 1)
def apC (x n : Int) (M : xMem) (k : Nat) : xMem := xfo (apG x n) M k
theorem apC_s (x n : Int) (M : xMem) (k : Nat) : apC x n M (k + 1) = apG x n (k : Int) (apC x n M k) := by
  unfold apC
  rw [xfo_s (apG x n) M k]
theorem apC_z (x n : Int) (M : xMem) : ∀ k : Nat, apC x n M k 47 1 = M 47 1 + k := by
  intro k
  induction k with
  | zero => unfold apC xfo; omega
  | succ k ih => rw [apC_s]; unfold apG; rw [up_ss, ih]; omega
theorem apC_R {x n : Int} {M : xMem} (hR : xR M) (hs : 0 ≤ M 47 1 ∧ M 47 1 ≤ 120) : ∀ k : Nat, k ≤ 4 → xR (apC x n M k) := by
  intro k
  induction k with
  | zero => intro _; exact hR
  | succ k ih =>
    intro hk
    rw [apC_s]
    unfold apG
    have := apC_z x n M k
    exact up_R (up_R (ih (by omega)) (by unfold bytF; exact band_R _ _)) (by omega)
theorem dX5_append_0 : decode cX5_append 0 = .ok (.iload_n 2, 1) := by decide +kernel
theorem dX5_append_1 : decode cX5_append 1 = .ok (.iconst 1, 1) := by decide +kernel
theorem dX5_append_2 : decode cX5_append 2 = .ok (.isub, 1) := by decide +kernel
theorem dX5_append_3 : decode cX5_append 3 = .ok (.istore_n 3, 1) := by decide +kernel
theorem dX5_append_4 : decode cX5_append 4 = .ok (.iload_n 3, 1) := by decide +kernel
theorem dX5_append_5 : decode cX5_append 5 = .ok (.ifCond .lt 55, 3) := by decide +kernel
theorem dX5_append_8 : decode cX5_append 8 = .ok (.aload_n 0, 1) := by decide +kernel
theorem dX5_append_9 : decode cX5_append 9 = .ok (.getfield 15, 3) := by decide +kernel
theorem dX5_append_12 : decode cX5_append 12 = .ok (.ifCond .lt 12, 3) := by decide +kernel
theorem dX5_append_15 : decode cX5_append 15 = .ok (.aload_n 0, 1) := by decide +kernel
theorem dX5_append_16 : decode cX5_append 16 = .ok (.getfield 15, 3) := by decide +kernel
theorem dX5_append_19 : decode cX5_append 19 = .ok (.bipush 120, 2) := by decide +kernel
theorem dX5_append_21 : decode cX5_append 21 = .ok (.if_icmp .lt 4, 3) := by decide +kernel
theorem dX5_append_24 : decode cX5_append 24 = .ok (.return_, 1) := by decide +kernel
theorem dX5_append_25 : decode cX5_append 25 = .ok (.aload_n 0, 1) := by decide +kernel
theorem dX5_append_26 : decode cX5_append 26 = .ok (.getfield 9, 3) := by decide +kernel
theorem dX5_append_29 : decode cX5_append 29 = .ok (.aload_n 0, 1) := by decide +kernel
theorem dX5_append_30 : decode cX5_append 30 = .ok (.getfield 15, 3) := by decide +kernel
theorem dX5_append_33 : decode cX5_append 33 = .ok (.iload_n 1, 1) := by decide +kernel
theorem dX5_append_34 : decode cX5_append 34 = .ok (.bipush 8, 2) := by decide +kernel
theorem dX5_append_36 : decode cX5_append 36 = .ok (.iload_n 3, 1) := by decide +kernel
theorem dX5_append_37 : decode cX5_append 37 = .ok (.imul, 1) := by decide +kernel
theorem dX5_append_38 : decode cX5_append 38 = .ok (.ishr, 1) := by decide +kernel
theorem dX5_append_39 : decode cX5_append 39 = .ok (.sipush 255, 3) := by decide +kernel
theorem dX5_append_42 : decode cX5_append 42 = .ok (.iand, 1) := by decide +kernel
theorem dX5_append_43 : decode cX5_append 43 = .ok (.iastore, 1) := by decide +kernel
theorem dX5_append_44 : decode cX5_append 44 = .ok (.aload_n 0, 1) := by decide +kernel
theorem dX5_append_45 : decode cX5_append 45 = .ok (.dup, 1) := by decide +kernel
theorem dX5_append_46 : decode cX5_append 46 = .ok (.getfield 15, 3) := by decide +kernel
theorem dX5_append_49 : decode cX5_append 49 = .ok (.iconst 1, 1) := by decide +kernel
theorem dX5_append_50 : decode cX5_append 50 = .ok (.iadd, 1) := by decide +kernel
theorem dX5_append_51 : decode cX5_append 51 = .ok (.putfield 15, 3) := by decide +kernel
theorem dX5_append_54 : decode cX5_append 54 = .ok (.iinc 3 (-1), 3) := by decide +kernel
theorem dX5_append_57 : decode cX5_append 57 = .ok (.goto (-53), 3) := by decide +kernel
theorem dX5_append_60 : decode cX5_append 60 = .ok (.return_, 1) := by decide +kernel
set_option maxHeartbeats 4000000 in
set_option maxRecDepth 100000 in
theorem c_X5_append {l : Launch} {ω : xO} (hc : xsh ω = clS) {x n : Int} {M : xMem} (hn : 1 ≤ n ∧ n ≤ 4) (hs : 0 ≤ M 47 1 ∧ M 47 1 + n ≤ 120) : Ct l ω yX5_append ({ frames := 0, cells := 0, slots := 0, locals := 0 } : Room) 4 2 [.ref (xad ω 47), .int (iI x), .int (iI n)] M none (apC x n M n.toNat) := by
  refine Ct.of (bytes := cX5_append) (ret := none) (lv0 := [some (.ref (xad ω 47)), some (.int (iI x)), some (.int (iI n)), none]) m_cd_X5_append m_in_X5 (by decide +kernel) (by decide +kernel) rfl rfl rfl rfl (fun hR => apC_R hR (by omega) n.toNat (by omega)) ?_
  intro κ h he hR
  refine x_iload_n h dX5_append_0 rfl ?_
  refine x_iconst h dX5_append_1 ?_
  refine x_isub h dX5_append_2 ?_
  refine x_istore_n h dX5_append_3 rfl rfl ?_
  dsimp only [xset]
  refine x_same (lv' := [some (.ref (xad ω 47)), some (.int (iI x)), some (.int (iI n)), some (.int (iI (n - 1 - ((0 : Nat) : Int))))]) (st' := []) (M' := apC x n M 0) ?_ (by rw [show n - 1 - ((0 : Nat) : Int) = n - 1 by omega]) rfl rfl
  refine loop_up (fun k => X ω κ 4 [some (.ref (xad ω 47)), some (.int (iI x)), some (.int (iI n)), some (.int (iI (n - 1 - (k : Int))))] [] (apC x n M k)) (n.toNat) ?_ ?_
  · show X ω κ 4 [some (.ref (xad ω 47)), some (.int (iI x)), some (.int (iI n)), some (.int (iI (n - 1 - ((n.toNat : Nat) : Int))))] [] (apC x n M (n.toNat))
    refine x_iload_n h dX5_append_4 rfl ?_
    refine x_if_lt h dX5_append_5 (tgt := 60) (by decide) (by omega) (fun q5 => ?_) (fun q5 => ?_)
    · exact x_vret h he dX5_append_60 rfl
    · exfalso; omega
  · intro k hk ihk
    replace ihk : X ω κ 4 [some (.ref (xad ω 47)), some (.int (iI x)), some (.int (iI n)), some (.int (iI (n - 1 - ((k + 1 : Nat) : Int))))] [] (apC x n M (k + 1)) := ihk
    show X ω κ 4 [some (.ref (xad ω 47)), some (.int (iI x)), some (.int (iI n)), some (.int (iI (n - 1 - (k : Int))))] [] (apC x n M k)
    have hz := apC_z x n M k
    revert ihk
    rw [apC_s x n M k]
    generalize apC x n M k = M1 at hz ⊢
    intro ihk
    refine x_iload_n h dX5_append_4 rfl ?_
    refine x_if_lt h dX5_append_5 (tgt := 60) (by decide) (by omega) (fun q5 => ?_) (fun q5 => ?_)
    · exfalso; omega
    · refine x_aload_n h dX5_append_8 rfl ?_
      refine x_geti (j := 1) 1 h dX5_append_9 (sC47 hc) rfl in_X5 rfl (by decide) m_fl_X5_15 rfl (fun r9 => ?_)
      refine x_if_lt h dX5_append_12 (tgt := 24) (by decide) (by omega) (fun q12 => ?_) (fun q12 => ?_)
      · exact x_vret h he dX5_append_24 (by exfalso; omega)
      · refine x_aload_n h dX5_append_15 rfl ?_
        refine x_geti (j := 1) 1 h dX5_append_16 (sC47 hc) rfl in_X5 rfl (by decide) m_fl_X5_15 rfl (fun r16 => ?_)
        refine x_bipush h dX5_append_19 (by decide) ?_
        refine x_icmp_lt h dX5_append_21 (tgt := 25) (by decide) (by omega) (by omega) (fun q21 => ?_) (fun q21 => ?_)
        · refine x_aload_n h dX5_append_25 rfl ?_
          refine x_getr (j := 0) (q := 48) h dX5_append_26 (sC47 hc) rfl in_X5 rfl (by decide) m_fl_X5_9 ?_
          refine x_aload_n h dX5_append_29 rfl ?_
          refine x_geti (j := 1) 1 h dX5_append_30 (sC47 hc) rfl in_X5 rfl (by decide) m_fl_X5_15 rfl (fun r30 => ?_)
          refine x_iload_n h dX5_append_33 rfl ?_
          refine x_bipush h dX5_append_34 (by decide) ?_
          refine x_iload_n h dX5_append_36 rfl ?_
          refine x_imul h dX5_append_37 ?_
          refine x_ishr h dX5_append_38 (fun r38 => ?_)
          refine x_sipush h dX5_append_39 (by decide) ?_
          refine x_iand h dX5_append_42 (fun r42 => ?_)
          refine x_iastore h dX5_append_43 (sC48 hc) (by omega) (by omega) ?_
          refine x_aload_n h dX5_append_44 rfl ?_
          have ez : up M1 48 (M1 47 1) (band (bshr x (8 * (n - 1 - (k : Int)))) 255) 47 1 = M1 47 1 := up_nn (by omega)
          refine x_dup h dX5_append_45 rfl ?_
          refine x_geti (j := 1) 1 h dX5_append_46 (sC47 hc) rfl in_X5 rfl (by decide) m_fl_X5_15 rfl (fun r46 => ?_)
          refine x_iconst h dX5_append_49 ?_
          refine x_iadd h dX5_append_50 ?_
          refine x_puti (j := 1) 1 h dX5_append_51 (sC47 hc) rfl in_X5 rfl (by decide) m_fl_X5_15 tyX5_ok nmX5 rfl (tyX5_ok 1 (by decide)) rfl rfl (by omega) rfl ?_
          refine x_iinc h dX5_append_54 rfl rfl rfl ?_
          dsimp only [xset]
          refine x_goto h dX5_append_57 (tgt := 4) (by decide) ?_
          exact x_same ihk (by rw [show n - 1 - (k : Int) + -1 = n - 1 - ((k + 1 : Nat) : Int) by omega]) rfl (by unfold apG; rw [ez]; rfl)
        · exact x_vret h he dX5_append_24 (by exfalso; omega)

def btC (M : xMem) (i : Int) : Int := if 0 ≤ i ∧ i < M 47 1 ∧ i < 120 then M 48 i else -1
theorem dX5_byteAt_0 : decode cX5_byteAt 0 = .ok (.iload_n 1, 1) := by decide +kernel
theorem dX5_byteAt_1 : decode cX5_byteAt 1 = .ok (.ifCond .lt 26, 3) := by decide +kernel
theorem dX5_byteAt_4 : decode cX5_byteAt 4 = .ok (.iload_n 1, 1) := by decide +kernel
theorem dX5_byteAt_5 : decode cX5_byteAt 5 = .ok (.aload_n 0, 1) := by decide +kernel
theorem dX5_byteAt_6 : decode cX5_byteAt 6 = .ok (.getfield 15, 3) := by decide +kernel
theorem dX5_byteAt_9 : decode cX5_byteAt 9 = .ok (.if_icmp .ge 18, 3) := by decide +kernel
theorem dX5_byteAt_12 : decode cX5_byteAt 12 = .ok (.iload_n 1, 1) := by decide +kernel
theorem dX5_byteAt_13 : decode cX5_byteAt 13 = .ok (.bipush 120, 2) := by decide +kernel
theorem dX5_byteAt_15 : decode cX5_byteAt 15 = .ok (.if_icmp .ge 12, 3) := by decide +kernel
theorem dX5_byteAt_18 : decode cX5_byteAt 18 = .ok (.aload_n 0, 1) := by decide +kernel
theorem dX5_byteAt_19 : decode cX5_byteAt 19 = .ok (.getfield 9, 3) := by decide +kernel
theorem dX5_byteAt_22 : decode cX5_byteAt 22 = .ok (.iload_n 1, 1) := by decide +kernel
theorem dX5_byteAt_23 : decode cX5_byteAt 23 = .ok (.iaload, 1) := by decide +kernel
theorem dX5_byteAt_24 : decode cX5_byteAt 24 = .ok (.goto 4, 3) := by decide +kernel
theorem dX5_byteAt_27 : decode cX5_byteAt 27 = .ok (.iconst (-1), 1) := by decide +kernel
theorem dX5_byteAt_28 : decode cX5_byteAt 28 = .ok (.ireturn, 1) := by decide +kernel
set_option maxHeartbeats 4000000 in
set_option maxRecDepth 100000 in
theorem c_X5_byteAt {l : Launch} {ω : xO} (hc : xsh ω = clS) {i : Int} {M : xMem} (hi : inR i) : Ct l ω yX5_byteAt ({ frames := 0, cells := 0, slots := 0, locals := 0 } : Room) 2 1 [.ref (xad ω 47), .int (iI i)] M (some (.int (iI (btC M i)))) M := by
  refine Ct.of (bytes := cX5_byteAt) (ret := (some .int)) (lv0 := [some (.ref (xad ω 47)), some (.int (iI i))]) m_cd_X5_byteAt m_in_X5 (by decide +kernel) (by decide +kernel) rfl rfl rfl rfl (fun hR => hR) ?_
  intro κ h he hR
  refine x_iload_n h dX5_byteAt_0 rfl ?_
  refine x_if_lt h dX5_byteAt_1 (tgt := 27) (by decide) (by omega) (fun q1 => ?_) (fun q1 => ?_)
  · refine x_iconst h dX5_byteAt_27 ?_
    exact x_iret (ret := none) h he dX5_byteAt_28 rfl (by unfold btC; (repeat' split) <;> first | rfl | omega) rfl
  · refine x_iload_n h dX5_byteAt_4 rfl ?_
    refine x_aload_n h dX5_byteAt_5 rfl ?_
    refine x_geti (j := 1) 1 h dX5_byteAt_6 (sC47 hc) rfl in_X5 rfl (by decide) m_fl_X5_15 rfl (fun r6 => ?_)
    refine x_icmp_ge h dX5_byteAt_9 (tgt := 27) (by decide) (by omega) (by omega) (fun q9 => ?_) (fun q9 => ?_)
    · refine x_iconst h dX5_byteAt_27 ?_
      exact x_iret (ret := none) h he dX5_byteAt_28 rfl (by unfold btC; (repeat' split) <;> first | rfl | omega) rfl
    · refine x_iload_n h dX5_byteAt_12 rfl ?_
      refine x_bipush h dX5_byteAt_13 (by decide) ?_
      refine x_icmp_ge h dX5_byteAt_15 (tgt := 27) (by decide) (by omega) (by omega) (fun q15 => ?_) (fun q15 => ?_)
      · refine x_iconst h dX5_byteAt_27 ?_
        exact x_iret (ret := none) h he dX5_byteAt_28 rfl (by unfold btC; (repeat' split) <;> first | rfl | omega) rfl
      · refine x_aload_n h dX5_byteAt_18 rfl ?_
        refine x_getr (j := 0) (q := 48) h dX5_byteAt_19 (sC47 hc) rfl in_X5 rfl (by decide) m_fl_X5_9 ?_
        refine x_iload_n h dX5_byteAt_22 rfl ?_
        refine x_iaload h dX5_byteAt_23 (sC48 hc) (by omega) (fun r23 => ?_)
        refine x_goto h dX5_byteAt_24 (tgt := 28) (by decide) ?_
        exact x_iret (ret := none) h he dX5_byteAt_28 rfl (by unfold btC; (repeat' split) <;> first | rfl | omega) rfl

abbrev shI (s : Int) : Prop := 0 ≤ s ∧ s < 4
theorem dX4_bitsOf_0 : decode cX4_bitsOf 0 = .ok (.iload_n 1, 1) := by decide +kernel
theorem dX4_bitsOf_1 : decode cX4_bitsOf 1 = .ok (.invokestatic 25, 3) := by decide +kernel
theorem dX4_bitsOf_4 : decode cX4_bitsOf 4 = .ok (.ifCond .eq 12, 3) := by decide +kernel
theorem dX4_bitsOf_7 : decode cX4_bitsOf 7 = .ok (.aload_n 0, 1) := by decide +kernel
theorem dX4_bitsOf_8 : decode cX4_bitsOf 8 = .ok (.getfield 9, 3) := by decide +kernel
theorem dX4_bitsOf_11 : decode cX4_bitsOf 11 = .ok (.iload_n 1, 1) := by decide +kernel
theorem dX4_bitsOf_12 : decode cX4_bitsOf 12 = .ok (.iaload, 1) := by decide +kernel
theorem dX4_bitsOf_13 : decode cX4_bitsOf 13 = .ok (.goto 4, 3) := by decide +kernel
theorem dX4_bitsOf_16 : decode cX4_bitsOf 16 = .ok (.iconst 0, 1) := by decide +kernel
theorem dX4_bitsOf_17 : decode cX4_bitsOf 17 = .ok (.ireturn, 1) := by decide +kernel
set_option maxHeartbeats 4000000 in
set_option maxRecDepth 100000 in
theorem c_X4_bitsOf {l : Launch} {ω : xO} (hc : xsh ω = clS) {s : Int} {M : xMem} (hs : shI s) : Ct l ω yX4_bitsOf ({ frames := 1, cells := 0, slots := 0, locals := 20 } : Room) 2 1 [.ref (xad ω 51), .int (iI s)] M (some (.int (iI (M 52 s)))) M := by
  refine Ct.of (bytes := cX4_bitsOf) (ret := (some .int)) (lv0 := [some (.ref (xad ω 51)), some (.int (iI s))]) m_cd_X4_bitsOf m_in_X4 (by decide +kernel) (by decide +kernel) rfl rfl rfl rfl (fun hR => hR) ?_
  intro κ h he hR
  refine x_iload_n h dX4_bitsOf_0 rfl ?_
  refine x_N1i h dX4_bitsOf_1 m_nl_X4_25 m_st_X6_isSheet (by decide) rfl (c_X6_isSheet hc (by omega)) ?_
  refine x_ifeqB h dX4_bitsOf_4 (tgt := 16) (by decide) (fun q4 => ?_) (fun q4 => ?_)
  · refine x_iconst h dX4_bitsOf_16 ?_
    exact x_iret (ret := none) h he dX4_bitsOf_17 rfl (by first | rfl | exact absurd hs (by assumption)) rfl
  · refine x_aload_n h dX4_bitsOf_7 rfl ?_
    refine x_getr (j := 0) (q := 52) h dX4_bitsOf_8 (sC51 hc) rfl in_X4 rfl (by decide) m_fl_X4_9 ?_
    refine x_iload_n h dX4_bitsOf_11 rfl ?_
    refine x_iaload h dX4_bitsOf_12 (sC52 hc) (by omega) (fun r12 => ?_)
    refine x_goto h dX4_bitsOf_13 (tgt := 17) (by decide) ?_
    exact x_iret (ret := none) h he dX4_bitsOf_17 rfl (by first | rfl | exact absurd hs (by assumption)) rfl

theorem dX4_sizeOf_0 : decode cX4_sizeOf 0 = .ok (.iload_n 1, 1) := by decide +kernel
theorem dX4_sizeOf_1 : decode cX4_sizeOf 1 = .ok (.invokestatic 25, 3) := by decide +kernel
theorem dX4_sizeOf_4 : decode cX4_sizeOf 4 = .ok (.ifCond .eq 12, 3) := by decide +kernel
theorem dX4_sizeOf_7 : decode cX4_sizeOf 7 = .ok (.aload_n 0, 1) := by decide +kernel
theorem dX4_sizeOf_8 : decode cX4_sizeOf 8 = .ok (.getfield 15, 3) := by decide +kernel
theorem dX4_sizeOf_11 : decode cX4_sizeOf 11 = .ok (.iload_n 1, 1) := by decide +kernel
theorem dX4_sizeOf_12 : decode cX4_sizeOf 12 = .ok (.iaload, 1) := by decide +kernel
theorem dX4_sizeOf_13 : decode cX4_sizeOf 13 = .ok (.goto 4, 3) := by decide +kernel
theorem dX4_sizeOf_16 : decode cX4_sizeOf 16 = .ok (.iconst 0, 1) := by decide +kernel
theorem dX4_sizeOf_17 : decode cX4_sizeOf 17 = .ok (.ireturn, 1) := by decide +kernel
set_option maxHeartbeats 4000000 in
set_option maxRecDepth 100000 in
theorem c_X4_sizeOf {l : Launch} {ω : xO} (hc : xsh ω = clS) {s : Int} {M : xMem} (hs : shI s) : Ct l ω yX4_sizeOf ({ frames := 1, cells := 0, slots := 0, locals := 20 } : Room) 2 1 [.ref (xad ω 51), .int (iI s)] M (some (.int (iI (M 53 s)))) M := by
  refine Ct.of (bytes := cX4_sizeOf) (ret := (some .int)) (lv0 := [some (.ref (xad ω 51)), some (.int (iI s))]) m_cd_X4_sizeOf m_in_X4 (by decide +kernel) (by decide +kernel) rfl rfl rfl rfl (fun hR => hR) ?_
  intro κ h he hR
  refine x_iload_n h dX4_sizeOf_0 rfl ?_
  refine x_N1i h dX4_sizeOf_1 m_nl_X4_25 m_st_X6_isSheet (by decide) rfl (c_X6_isSheet hc (by omega)) ?_
  refine x_ifeqB h dX4_sizeOf_4 (tgt := 16) (by decide) (fun q4 => ?_) (fun q4 => ?_)
  · refine x_iconst h dX4_sizeOf_16 ?_
    exact x_iret (ret := none) h he dX4_sizeOf_17 rfl (by first | rfl | exact absurd hs (by assumption)) rfl
  · refine x_aload_n h dX4_sizeOf_7 rfl ?_
    refine x_getr (j := 1) (q := 53) h dX4_sizeOf_8 (sC51 hc) rfl in_X4 rfl (by decide) m_fl_X4_15 ?_
    refine x_iload_n h dX4_sizeOf_11 rfl ?_
    refine x_iaload h dX4_sizeOf_12 (sC53 hc) (by omega) (fun r12 => ?_)
    refine x_goto h dX4_sizeOf_13 (tgt := 17) (by decide) ?_
    exact x_iret (ret := none) h he dX4_sizeOf_17 rfl (by first | rfl | exact absurd hs (by assumption)) rfl

theorem dX4_isMissing_0 : decode cX4_isMissing 0 = .ok (.aload_n 0, 1) := by decide +kernel
theorem dX4_isMissing_1 : decode cX4_isMissing 1 = .ok (.iload_n 1, 1) := by decide +kernel
theorem dX4_isMissing_2 : decode cX4_isMissing 2 = .ok (.invokevirtual 21, 3) := by decide +kernel
theorem dX4_isMissing_5 : decode cX4_isMissing 5 = .ok (.ifCond .ne 7, 3) := by decide +kernel
theorem dX4_isMissing_8 : decode cX4_isMissing 8 = .ok (.iconst 1, 1) := by decide +kernel
theorem dX4_isMissing_9 : decode cX4_isMissing 9 = .ok (.goto 4, 3) := by decide +kernel
theorem dX4_isMissing_12 : decode cX4_isMissing 12 = .ok (.iconst 0, 1) := by decide +kernel
theorem dX4_isMissing_13 : decode cX4_isMissing 13 = .ok (.ireturn, 1) := by decide +kernel
set_option maxHeartbeats 4000000 in
set_option maxRecDepth 100000 in
theorem c_X4_isMissing {l : Launch} {ω : xO} (hc : xsh ω = clS) {s : Int} {M : xMem} (hs : shI s) : Ct l ω yX4_isMissing ({ frames := 2, cells := 0, slots := 0, locals := 41 } : Room) 2 1 [.ref (xad ω 51), .int (iI s)] M (some (.int (iI (bI (M 52 s = 0))))) M := by
  refine Ct.of (bytes := cX4_isMissing) (ret := (some .boolean)) (lv0 := [some (.ref (xad ω 51)), some (.int (iI s))]) m_cd_X4_isMissing m_in_X4 (by decide +kernel) (by decide +kernel) rfl rfl rfl rfl (fun hR => hR) ?_
  intro κ h he hR
  have g := hR 52 s
  refine x_aload_n h dX4_isMissing_0 rfl ?_
  refine x_iload_n h dX4_isMissing_1 rfl ?_
  refine x_V1i h dX4_isMissing_2 m_ml_X4_21 m_im_X4_bitsOf m_se_X4_bitsOf (sC51 hc) rfl (by decide) rfl (c_X4_bitsOf hc (by omega)) ?_
  refine x_if_ne h dX4_isMissing_5 (tgt := 12) (by decide) (by omega) (fun q5 => ?_) (fun q5 => ?_)
  · refine x_iconst h dX4_isMissing_12 ?_
    exact x_zret h he dX4_isMissing_13 (by first | exact Or.inl rfl | exact Or.inr rfl | exact bI_01 _ | omega) rfl (by first | rfl | omega | exact (bI_t (by omega)).symm | exact (bI_f (by omega)).symm) rfl
  · refine x_iconst h dX4_isMissing_8 ?_
    refine x_goto h dX4_isMissing_9 (tgt := 13) (by decide) ?_
    exact x_zret h he dX4_isMissing_13 (by first | exact Or.inl rfl | exact Or.inr rfl | exact bI_01 _ | omega) rfl (by first | rfl | omega | exact (bI_t (by omega)).symm | exact (bI_f (by omega)).symm) rfl

abbrev hrC (M : xMem) (s f n : Int) : Prop := 0 ≤ f ∧ 0 ≤ n ∧ f ≤ M 53 s ∧ n ≤ M 53 s - f
theorem dX4_hasRow_0 : decode cX4_hasRow 0 = .ok (.iload_n 2, 1) := by decide +kernel
theorem dX4_hasRow_1 : decode cX4_hasRow 1 = .ok (.ifCond .lt 31, 3) := by decide +kernel
theorem dX4_hasRow_4 : decode cX4_hasRow 4 = .ok (.iload_n 3, 1) := by decide +kernel
theorem dX4_hasRow_5 : decode cX4_hasRow 5 = .ok (.ifCond .lt 27, 3) := by decide +kernel
theorem dX4_hasRow_8 : decode cX4_hasRow 8 = .ok (.iload_n 2, 1) := by decide +kernel
theorem dX4_hasRow_9 : decode cX4_hasRow 9 = .ok (.aload_n 0, 1) := by decide +kernel
theorem dX4_hasRow_10 : decode cX4_hasRow 10 = .ok (.iload_n 1, 1) := by decide +kernel
theorem dX4_hasRow_11 : decode cX4_hasRow 11 = .ok (.invokevirtual 33, 3) := by decide +kernel
theorem dX4_hasRow_14 : decode cX4_hasRow 14 = .ok (.if_icmp .gt 18, 3) := by decide +kernel
theorem dX4_hasRow_17 : decode cX4_hasRow 17 = .ok (.iload_n 3, 1) := by decide +kernel
theorem dX4_hasRow_18 : decode cX4_hasRow 18 = .ok (.aload_n 0, 1) := by decide +kernel
theorem dX4_hasRow_19 : decode cX4_hasRow 19 = .ok (.iload_n 1, 1) := by decide +kernel
theorem dX4_hasRow_20 : decode cX4_hasRow 20 = .ok (.invokevirtual 33, 3) := by decide +kernel
theorem dX4_hasRow_23 : decode cX4_hasRow 23 = .ok (.iload_n 2, 1) := by decide +kernel
theorem dX4_hasRow_24 : decode cX4_hasRow 24 = .ok (.isub, 1) := by decide +kernel
theorem dX4_hasRow_25 : decode cX4_hasRow 25 = .ok (.if_icmp .gt 7, 3) := by decide +kernel
theorem dX4_hasRow_28 : decode cX4_hasRow 28 = .ok (.iconst 1, 1) := by decide +kernel
theorem dX4_hasRow_29 : decode cX4_hasRow 29 = .ok (.goto 4, 3) := by decide +kernel
theorem dX4_hasRow_32 : decode cX4_hasRow 32 = .ok (.iconst 0, 1) := by decide +kernel
theorem dX4_hasRow_33 : decode cX4_hasRow 33 = .ok (.ireturn, 1) := by decide +kernel
set_option maxHeartbeats 4000000 in
set_option maxRecDepth 100000 in
theorem c_X4_hasRow {l : Launch} {ω : xO} (hc : xsh ω = clS) {s f n : Int} {M : xMem} (hs : shI s) (hf : inR f) (hn : inR n) : Ct l ω yX4_hasRow ({ frames := 2, cells := 0, slots := 0, locals := 41 } : Room) 4 3 [.ref (xad ω 51), .int (iI s), .int (iI f), .int (iI n)] M (some (.int (iI (bI (hrC M s f n))))) M := by
  refine Ct.of (bytes := cX4_hasRow) (ret := (some .boolean)) (lv0 := [some (.ref (xad ω 51)), some (.int (iI s)), some (.int (iI f)), some (.int (iI n))]) m_cd_X4_hasRow m_in_X4 (by decide +kernel) (by decide +kernel) rfl rfl rfl rfl (fun hR => hR) ?_
  intro κ h he hR
  have g := hR 53 s
  refine x_iload_n h dX4_hasRow_0 rfl ?_
  refine x_if_lt h dX4_hasRow_1 (tgt := 32) (by decide) (by omega) (fun q1 => ?_) (fun q1 => ?_)
  · refine x_iconst h dX4_hasRow_32 ?_
    exact x_zret h he dX4_hasRow_33 (by first | exact Or.inl rfl | exact Or.inr rfl | exact bI_01 _ | omega) rfl (by first | rfl | omega | exact (bI_t (by omega)).symm | exact (bI_f (by omega)).symm) rfl
  · refine x_iload_n h dX4_hasRow_4 rfl ?_
    refine x_if_lt h dX4_hasRow_5 (tgt := 32) (by decide) (by omega) (fun q5 => ?_) (fun q5 => ?_)
    · refine x_iconst h dX4_hasRow_32 ?_
      exact x_zret h he dX4_hasRow_33 (by first | exact Or.inl rfl | exact Or.inr rfl | exact bI_01 _ | omega) rfl (by first | rfl | omega | exact (bI_t (by omega)).symm | exact (bI_f (by omega)).symm) rfl
    · refine x_iload_n h dX4_hasRow_8 rfl ?_
      refine x_aload_n h dX4_hasRow_9 rfl ?_
      refine x_iload_n h dX4_hasRow_10 rfl ?_
      refine x_V1i h dX4_hasRow_11 m_ml_X4_33 m_im_X4_sizeOf m_se_X4_sizeOf (sC51 hc) rfl (by decide) rfl (c_X4_sizeOf hc (by omega)) ?_
      refine x_icmp_gt h dX4_hasRow_14 (tgt := 32) (by decide) (by omega) (by omega) (fun q14 => ?_) (fun q14 => ?_)
      · refine x_iconst h dX4_hasRow_32 ?_
        exact x_zret h he dX4_hasRow_33 (by first | exact Or.inl rfl | exact Or.inr rfl | exact bI_01 _ | omega) rfl (by first | rfl | omega | exact (bI_t (by omega)).symm | exact (bI_f (by omega)).symm) rfl
      · refine x_iload_n h dX4_hasRow_17 rfl ?_
        refine x_aload_n h dX4_hasRow_18 rfl ?_
        refine x_iload_n h dX4_hasRow_19 rfl ?_
        refine x_V1i h dX4_hasRow_20 m_ml_X4_33 m_im_X4_sizeOf m_se_X4_sizeOf (sC51 hc) rfl (by decide) rfl (c_X4_sizeOf hc (by omega)) ?_
        refine x_iload_n h dX4_hasRow_23 rfl ?_
        refine x_isub h dX4_hasRow_24 ?_
        refine x_icmp_gt h dX4_hasRow_25 (tgt := 32) (by decide) (by omega) (by omega) (fun q25 => ?_) (fun q25 => ?_)
        · refine x_iconst h dX4_hasRow_32 ?_
          exact x_zret h he dX4_hasRow_33 (by first | exact Or.inl rfl | exact Or.inr rfl | exact bI_01 _ | omega) rfl (by first | rfl | omega | exact (bI_t (by omega)).symm | exact (bI_f (by omega)).symm) rfl
        · refine x_iconst h dX4_hasRow_28 ?_
          refine x_goto h dX4_hasRow_29 (tgt := 33) (by decide) ?_
          exact x_zret h he dX4_hasRow_33 (by first | exact Or.inl rfl | exact Or.inr rfl | exact bI_01 _ | omega) rfl (by first | rfl | omega | exact (bI_t (by omega)).symm | exact (bI_f (by omega)).symm) rfl

theorem dX4_numberAt_0 : decode cX4_numberAt 0 = .ok (.aload_n 0, 1) := by decide +kernel
theorem dX4_numberAt_1 : decode cX4_numberAt 1 = .ok (.iload_n 1, 1) := by decide +kernel
theorem dX4_numberAt_2 : decode cX4_numberAt 2 = .ok (.iload_n 2, 1) := by decide +kernel
theorem dX4_numberAt_3 : decode cX4_numberAt 3 = .ok (.iconst 1, 1) := by decide +kernel
theorem dX4_numberAt_4 : decode cX4_numberAt 4 = .ok (.invokevirtual 29, 3) := by decide +kernel
theorem dX4_numberAt_7 : decode cX4_numberAt 7 = .ok (.ifCond .eq 17, 3) := by decide +kernel
theorem dX4_numberAt_10 : decode cX4_numberAt 10 = .ok (.aload_n 0, 1) := by decide +kernel
theorem dX4_numberAt_11 : decode cX4_numberAt 11 = .ok (.getfield 18, 3) := by decide +kernel
theorem dX4_numberAt_14 : decode cX4_numberAt 14 = .ok (.iload_n 1, 1) := by decide +kernel
theorem dX4_numberAt_15 : decode cX4_numberAt 15 = .ok (.bipush 40, 2) := by decide +kernel
theorem dX4_numberAt_17 : decode cX4_numberAt 17 = .ok (.imul, 1) := by decide +kernel
theorem dX4_numberAt_18 : decode cX4_numberAt 18 = .ok (.iload_n 2, 1) := by decide +kernel
theorem dX4_numberAt_19 : decode cX4_numberAt 19 = .ok (.iadd, 1) := by decide +kernel
theorem dX4_numberAt_20 : decode cX4_numberAt 20 = .ok (.iaload, 1) := by decide +kernel
theorem dX4_numberAt_21 : decode cX4_numberAt 21 = .ok (.goto 4, 3) := by decide +kernel
theorem dX4_numberAt_24 : decode cX4_numberAt 24 = .ok (.iconst 0, 1) := by decide +kernel
theorem dX4_numberAt_25 : decode cX4_numberAt 25 = .ok (.ireturn, 1) := by decide +kernel
set_option maxHeartbeats 4000000 in
set_option maxRecDepth 100000 in
theorem c_X4_numberAt {l : Launch} {ω : xO} (hc : xsh ω = clS) {s i : Int} {M : xMem} (hs : shI s) (hi : 0 ≤ i ∧ i < M 53 s ∧ M 53 s ≤ 40) : Ct l ω yX4_numberAt ({ frames := 3, cells := 0, slots := 0, locals := 64 } : Room) 3 2 [.ref (xad ω 51), .int (iI s), .int (iI i)] M (some (.int (iI (M 54 (s * 40 + i))))) M := by
  refine Ct.of (bytes := cX4_numberAt) (ret := (some .int)) (lv0 := [some (.ref (xad ω 51)), some (.int (iI s)), some (.int (iI i))]) m_cd_X4_numberAt m_in_X4 (by decide +kernel) (by decide +kernel) rfl rfl rfl rfl (fun hR => hR) ?_
  intro κ h he hR
  refine x_aload_n h dX4_numberAt_0 rfl ?_
  refine x_iload_n h dX4_numberAt_1 rfl ?_
  refine x_iload_n h dX4_numberAt_2 rfl ?_
  refine x_iconst h dX4_numberAt_3 ?_
  refine x_V3i h dX4_numberAt_4 m_ml_X4_29 m_im_X4_hasRow m_se_X4_hasRow (sC51 hc) rfl (by decide) rfl (c_X4_hasRow hc (by omega) (by omega) (by omega)) ?_
  refine x_ifeqB h dX4_numberAt_7 (tgt := 24) (by decide) (fun q7 => ?_) (fun q7 => ?_)
  · refine x_iconst h dX4_numberAt_24 ?_
    exact x_iret (ret := none) h he dX4_numberAt_25 rfl (by first | rfl | (exfalso; omega)) rfl
  · refine x_aload_n h dX4_numberAt_10 rfl ?_
    refine x_getr (j := 2) (q := 54) h dX4_numberAt_11 (sC51 hc) rfl in_X4 rfl (by decide) m_fl_X4_18 ?_
    refine x_iload_n h dX4_numberAt_14 rfl ?_
    refine x_bipush h dX4_numberAt_15 (by decide) ?_
    refine x_imul h dX4_numberAt_17 ?_
    refine x_iload_n h dX4_numberAt_18 rfl ?_
    refine x_iadd h dX4_numberAt_19 ?_
    refine x_iaload h dX4_numberAt_20 (sC54 hc) (by omega) (fun r20 => ?_)
    refine x_goto h dX4_numberAt_21 (tgt := 25) (by decide) ?_
    exact x_iret (ret := none) h he dX4_numberAt_25 rfl (by first | rfl | (exfalso; omega)) rfl

def lwF (v b : Int) : Int := if b = 8 then bi2b v else if b = 16 then bi2s v else v
theorem lwF_R {v b : Int} (h : inR v) : inR (lwF v b) := by
  unfold lwF bi2b bi2s
  split
  · exact inR_of _
  · split
    · exact inR_of _
    · exact h
def zrC (a n : Int) (r : Int → Int) : Int → Int := fun i => if a ≤ i ∧ i < a + n then 0 else r i
theorem zrC_s (a : Int) (k : Nat) (r : Int → Int) : ur (zrC a (k : Int) r) (a + k) 0 = zrC a ((k + 1 : Nat) : Int) r := by
  funext i
  unfold ur zrC
  by_cases h : i = a + k
  · rw [if_pos h, if_pos (by omega)]
  · rw [if_neg h]
    by_cases g : a ≤ i ∧ i < a + (k : Int)
    · rw [if_pos g, if_pos (by omega)]
    · rw [if_neg g, if_neg (by omega)]
theorem zrC_0 (a : Int) (r : Int → Int) : zrC a 0 r = r := by
  funext i
  unfold zrC
  rw [if_neg (by omega)]
theorem upr_id {M : xMem} {k : Nat} {r : Int → Int} (h : M k = r) : upr M k r = M := by rw [← h]; exact upr_self M k
def slH (M : xMem) (s b n : Int) : xMem := up (up M 52 s b) 53 s (if b = 0 then 0 else n)
def slC (M : xMem) (s b n : Int) : xMem := upr (slH M s b n) 54 (zrC (s * 40) n (M 54))
theorem dX4_lowestBits_0 : decode cX4_lowestBits 0 = .ok (.iload_n 1, 1) := by decide +kernel
theorem dX4_lowestBits_1 : decode cX4_lowestBits 1 = .ok (.bipush 8, 2) := by decide +kernel
theorem dX4_lowestBits_3 : decode cX4_lowestBits 3 = .ok (.if_icmp .ne 6, 3) := by decide +kernel
theorem dX4_lowestBits_6 : decode cX4_lowestBits 6 = .ok (.iload_n 0, 1) := by decide +kernel
theorem dX4_lowestBits_7 : decode cX4_lowestBits 7 = .ok (.i2b, 1) := by decide +kernel
theorem dX4_lowestBits_8 : decode cX4_lowestBits 8 = .ok (.ireturn, 1) := by decide +kernel
theorem dX4_lowestBits_9 : decode cX4_lowestBits 9 = .ok (.iload_n 1, 1) := by decide +kernel
theorem dX4_lowestBits_10 : decode cX4_lowestBits 10 = .ok (.bipush 16, 2) := by decide +kernel
theorem dX4_lowestBits_12 : decode cX4_lowestBits 12 = .ok (.if_icmp .ne 6, 3) := by decide +kernel
theorem dX4_lowestBits_15 : decode cX4_lowestBits 15 = .ok (.iload_n 0, 1) := by decide +kernel
theorem dX4_lowestBits_16 : decode cX4_lowestBits 16 = .ok (.i2s, 1) := by decide +kernel
theorem dX4_lowestBits_17 : decode cX4_lowestBits 17 = .ok (.ireturn, 1) := by decide +kernel
theorem dX4_lowestBits_18 : decode cX4_lowestBits 18 = .ok (.iload_n 0, 1) := by decide +kernel
theorem dX4_lowestBits_19 : decode cX4_lowestBits 19 = .ok (.ireturn, 1) := by decide +kernel
set_option maxHeartbeats 4000000 in
set_option maxRecDepth 100000 in
theorem c_X4_lowestBits {l : Launch} {ω : xO} (hc : xsh ω = clS) {v b : Int} {M : xMem} (hb : inR b) : Ct l ω yX4_lowestBits ({ frames := 0, cells := 0, slots := 0, locals := 0 } : Room) 2 2 [.int (iI v), .int (iI b)] M (some (.int (iI (lwF v b)))) M := by
  refine Ct.of (bytes := cX4_lowestBits) (ret := (some .int)) (lv0 := [some (.int (iI v)), some (.int (iI b))]) m_cd_X4_lowestBits m_in_X4 (by decide +kernel) (by decide +kernel) rfl rfl rfl rfl (fun hR => hR) ?_
  intro κ h he hR
  refine x_iload_n h dX4_lowestBits_0 rfl ?_
  refine x_bipush h dX4_lowestBits_1 (by decide) ?_
  refine x_icmp_ne h dX4_lowestBits_3 (tgt := 9) (by decide) (by omega) (by omega) (fun q3 => ?_) (fun q3 => ?_)
  · refine x_iload_n h dX4_lowestBits_9 rfl ?_
    refine x_bipush h dX4_lowestBits_10 (by decide) ?_
    refine x_icmp_ne h dX4_lowestBits_12 (tgt := 18) (by decide) (by omega) (by omega) (fun q12 => ?_) (fun q12 => ?_)
    · refine x_iload_n h dX4_lowestBits_18 rfl ?_
      exact x_iret (ret := none) h he dX4_lowestBits_19 rfl (by unfold lwF; first | rw [if_pos (by assumption)] | rw [if_neg (by assumption), if_pos (by assumption)] | rw [if_neg (by assumption), if_neg (by assumption)]) rfl
    · refine x_iload_n h dX4_lowestBits_15 rfl ?_
      refine x_i2s h dX4_lowestBits_16 (fun r16 => ?_)
      exact x_iret (ret := none) h he dX4_lowestBits_17 rfl (by unfold lwF; first | rw [if_pos (by assumption)] | rw [if_neg (by assumption), if_pos (by assumption)] | rw [if_neg (by assumption), if_neg (by assumption)]) rfl
  · refine x_iload_n h dX4_lowestBits_6 rfl ?_
    refine x_i2b h dX4_lowestBits_7 (fun r7 => ?_)
    exact x_iret (ret := none) h he dX4_lowestBits_8 rfl (by unfold lwF; first | rw [if_pos (by assumption)] | rw [if_neg (by assumption), if_pos (by assumption)] | rw [if_neg (by assumption), if_neg (by assumption)]) rfl

theorem dX4_lay_0 : decode cX4_lay 0 = .ok (.iload_n 1, 1) := by decide +kernel
theorem dX4_lay_1 : decode cX4_lay 1 = .ok (.invokestatic 25, 3) := by decide +kernel
theorem dX4_lay_4 : decode cX4_lay 4 = .ok (.ifCond .eq 13, 3) := by decide +kernel
theorem dX4_lay_7 : decode cX4_lay 7 = .ok (.iload_n 3, 1) := by decide +kernel
theorem dX4_lay_8 : decode cX4_lay 8 = .ok (.ifCond .lt 9, 3) := by decide +kernel
theorem dX4_lay_11 : decode cX4_lay 11 = .ok (.iload_n 3, 1) := by decide +kernel
theorem dX4_lay_12 : decode cX4_lay 12 = .ok (.bipush 40, 2) := by decide +kernel
theorem dX4_lay_14 : decode cX4_lay 14 = .ok (.if_icmp .le 4, 3) := by decide +kernel
theorem dX4_lay_17 : decode cX4_lay 17 = .ok (.return_, 1) := by decide +kernel
theorem dX4_lay_18 : decode cX4_lay 18 = .ok (.aload_n 0, 1) := by decide +kernel
theorem dX4_lay_19 : decode cX4_lay 19 = .ok (.getfield 9, 3) := by decide +kernel
theorem dX4_lay_22 : decode cX4_lay 22 = .ok (.iload_n 1, 1) := by decide +kernel
theorem dX4_lay_23 : decode cX4_lay 23 = .ok (.iload_n 2, 1) := by decide +kernel
theorem dX4_lay_24 : decode cX4_lay 24 = .ok (.iastore, 1) := by decide +kernel
theorem dX4_lay_25 : decode cX4_lay 25 = .ok (.aload_n 0, 1) := by decide +kernel
theorem dX4_lay_26 : decode cX4_lay 26 = .ok (.getfield 15, 3) := by decide +kernel
theorem dX4_lay_29 : decode cX4_lay 29 = .ok (.iload_n 1, 1) := by decide +kernel
theorem dX4_lay_30 : decode cX4_lay 30 = .ok (.iload_n 2, 1) := by decide +kernel
theorem dX4_lay_31 : decode cX4_lay 31 = .ok (.ifCond .ne 7, 3) := by decide +kernel
theorem dX4_lay_34 : decode cX4_lay 34 = .ok (.iconst 0, 1) := by decide +kernel
theorem dX4_lay_35 : decode cX4_lay 35 = .ok (.goto 4, 3) := by decide +kernel
theorem dX4_lay_38 : decode cX4_lay 38 = .ok (.iload_n 3, 1) := by decide +kernel
theorem dX4_lay_39 : decode cX4_lay 39 = .ok (.iastore, 1) := by decide +kernel
theorem dX4_lay_40 : decode cX4_lay 40 = .ok (.iconst 0, 1) := by decide +kernel
theorem dX4_lay_41 : decode cX4_lay 41 = .ok (.istore 4, 2) := by decide +kernel
theorem dX4_lay_43 : decode cX4_lay 43 = .ok (.iload 4, 2) := by decide +kernel
theorem dX4_lay_45 : decode cX4_lay 45 = .ok (.iload_n 3, 1) := by decide +kernel
theorem dX4_lay_46 : decode cX4_lay 46 = .ok (.if_icmp .ge 22, 3) := by decide +kernel
theorem dX4_lay_49 : decode cX4_lay 49 = .ok (.aload_n 0, 1) := by decide +kernel
theorem dX4_lay_50 : decode cX4_lay 50 = .ok (.getfield 18, 3) := by decide +kernel
theorem dX4_lay_53 : decode cX4_lay 53 = .ok (.iload_n 1, 1) := by decide +kernel
theorem dX4_lay_54 : decode cX4_lay 54 = .ok (.bipush 40, 2) := by decide +kernel
theorem dX4_lay_56 : decode cX4_lay 56 = .ok (.imul, 1) := by decide +kernel
theorem dX4_lay_57 : decode cX4_lay 57 = .ok (.iload 4, 2) := by decide +kernel
theorem dX4_lay_59 : decode cX4_lay 59 = .ok (.iadd, 1) := by decide +kernel
theorem dX4_lay_60 : decode cX4_lay 60 = .ok (.iconst 0, 1) := by decide +kernel
theorem dX4_lay_61 : decode cX4_lay 61 = .ok (.iastore, 1) := by decide +kernel
theorem dX4_lay_62 : decode cX4_lay 62 = .ok (.iinc 4 1, 3) := by decide +kernel
theorem dX4_lay_65 : decode cX4_lay 65 = .ok (.goto (-22), 3) := by decide +kernel
theorem dX4_lay_68 : decode cX4_lay 68 = .ok (.return_, 1) := by decide +kernel
set_option maxHeartbeats 4000000 in
set_option maxRecDepth 100000 in
theorem c_X4_lay {l : Launch} {ω : xO} (hc : xsh ω = clS) {s b n : Int} {M : xMem} (hs : shI s) (hb : inR b) (hn : 0 ≤ n ∧ n ≤ 40) : Ct l ω yX4_lay ({ frames := 1, cells := 0, slots := 0, locals := 20 } : Room) 5 3 [.ref (xad ω 51), .int (iI s), .int (iI b), .int (iI n)] M none (slC M s b n) := by
  refine Ct.of (bytes := cX4_lay) (ret := none) (lv0 := [some (.ref (xad ω 51)), some (.int (iI s)), some (.int (iI b)), some (.int (iI n)), none]) m_cd_X4_lay m_in_X4 (by decide +kernel) (by decide +kernel) rfl rfl rfl rfl (fun hR => upr_R (up_R (up_R hR hb) (by split <;> omega)) (fun i => by unfold zrC; split; decide; exact hR 54 i)) ?_
  intro κ h he hR
  refine x_iload_n h dX4_lay_0 rfl ?_
  refine x_N1i h dX4_lay_1 m_nl_X4_25 m_st_X6_isSheet (by decide) rfl (c_X6_isSheet hc (by omega)) ?_
  refine x_ifeqB h dX4_lay_4 (tgt := 17) (by decide) (fun q4 => ?_) (fun q4 => ?_)
  · exact x_vret h he dX4_lay_17 (by first | exact absurd hs (by assumption) | (exfalso; omega))
  · refine x_iload_n h dX4_lay_7 rfl ?_
    refine x_if_lt h dX4_lay_8 (tgt := 17) (by decide) (by omega) (fun q8 => ?_) (fun q8 => ?_)
    · exact x_vret h he dX4_lay_17 (by first | exact absurd hs (by assumption) | (exfalso; omega))
    · refine x_iload_n h dX4_lay_11 rfl ?_
      refine x_bipush h dX4_lay_12 (by decide) ?_
      refine x_icmp_le h dX4_lay_14 (tgt := 18) (by decide) (by omega) (by omega) (fun q14 => ?_) (fun q14 => ?_)
      · refine x_aload_n h dX4_lay_18 rfl ?_
        refine x_getr (j := 0) (q := 52) h dX4_lay_19 (sC51 hc) rfl in_X4 rfl (by decide) m_fl_X4_9 ?_
        refine x_iload_n h dX4_lay_22 rfl ?_
        refine x_iload_n h dX4_lay_23 rfl ?_
        refine x_iastore h dX4_lay_24 (sC52 hc) (by omega) (by omega) ?_
        refine x_aload_n h dX4_lay_25 rfl ?_
        refine x_getr (j := 1) (q := 53) h dX4_lay_26 (sC51 hc) rfl in_X4 rfl (by decide) m_fl_X4_15 ?_
        refine x_iload_n h dX4_lay_29 rfl ?_
        refine x_iload_n h dX4_lay_30 rfl ?_
        refine x_if_ne h dX4_lay_31 (tgt := 38) (by decide) (by omega) (fun q31 => ?_) (fun q31 => ?_)
        · refine x_iload_n h dX4_lay_38 rfl ?_
          refine x_iastore h dX4_lay_39 (sC53 hc) (by omega) (by omega) ?_
          refine x_iconst h dX4_lay_40 ?_
          refine x_istore h dX4_lay_41 rfl rfl ?_
          dsimp only [xset]
          refine x_same (lv' := [some (.ref (xad ω 51)), some (.int (iI s)), some (.int (iI b)), some (.int (iI n)), some (.int (iI ((0 : Nat) : Int)))]) (st' := []) (M' := upr (slH M s b n) 54 (zrC (s * 40) ((0 : Nat) : Int) (M 54))) ?_ rfl rfl (by rw [show ((0 : Nat) : Int) = 0 from rfl, zrC_0]; unfold slH; (first | rw [if_pos (by assumption)] | rw [if_neg (by assumption)]); exact (upr_id (by rw [up_n (by decide), up_n (by decide)])).symm)
          refine loop_up (fun k => X ω κ 43 [some (.ref (xad ω 51)), some (.int (iI s)), some (.int (iI b)), some (.int (iI n)), some (.int (iI (k : Int)))] [] (upr (slH M s b n) 54 (zrC (s * 40) (k : Nat) (M 54)))) (n.toNat) ?_ ?_
          · show X ω κ 43 [some (.ref (xad ω 51)), some (.int (iI s)), some (.int (iI b)), some (.int (iI n)), some (.int (iI ((n.toNat : Nat) : Int)))] [] (upr (slH M s b n) 54 (zrC (s * 40) ((n.toNat) : Nat) (M 54)))
            refine x_iload h dX4_lay_43 rfl ?_
            refine x_iload_n h dX4_lay_45 rfl ?_
            refine x_icmp_ge h dX4_lay_46 (tgt := 68) (by decide) (by omega) (by omega) (fun q46 => ?_) (fun q46 => ?_)
            · exact x_vret h he dX4_lay_68 (by unfold slC; rw [show ((n.toNat : Nat) : Int) = n by omega])
            · exfalso; omega
          · intro k hk ihk
            replace ihk : X ω κ 43 [some (.ref (xad ω 51)), some (.int (iI s)), some (.int (iI b)), some (.int (iI n)), some (.int (iI ((k + 1 : Nat) : Int)))] [] (upr (slH M s b n) 54 (zrC (s * 40) ((k + 1) : Nat) (M 54))) := ihk
            show X ω κ 43 [some (.ref (xad ω 51)), some (.int (iI s)), some (.int (iI b)), some (.int (iI n)), some (.int (iI (k : Int)))] [] (upr (slH M s b n) 54 (zrC (s * 40) (k : Nat) (M 54)))
            refine x_iload h dX4_lay_43 rfl ?_
            refine x_iload_n h dX4_lay_45 rfl ?_
            refine x_icmp_ge h dX4_lay_46 (tgt := 68) (by decide) (by omega) (by omega) (fun q46 => ?_) (fun q46 => ?_)
            · exfalso; omega
            · refine x_aload_n h dX4_lay_49 rfl ?_
              refine x_getr (j := 2) (q := 54) h dX4_lay_50 (sC51 hc) rfl in_X4 rfl (by decide) m_fl_X4_18 ?_
              refine x_iload_n h dX4_lay_53 rfl ?_
              refine x_bipush h dX4_lay_54 (by decide) ?_
              refine x_imul h dX4_lay_56 ?_
              refine x_iload h dX4_lay_57 rfl ?_
              refine x_iadd h dX4_lay_59 ?_
              refine x_iconst h dX4_lay_60 ?_
              refine x_iastore h dX4_lay_61 (sC54 hc) (by omega) (by omega) ?_
              refine x_iinc h dX4_lay_62 rfl rfl rfl ?_
              dsimp only [xset]
              refine x_goto h dX4_lay_65 (tgt := 43) (by decide) ?_
              exact x_same ihk rfl rfl (by rw [up_upr, zrC_s])
        · refine x_iconst h dX4_lay_34 ?_
          refine x_goto h dX4_lay_35 (tgt := 39) (by decide) ?_
          refine x_iastore h dX4_lay_39 (sC53 hc) (by omega) (by omega) ?_
          refine x_iconst h dX4_lay_40 ?_
          refine x_istore h dX4_lay_41 rfl rfl ?_
          dsimp only [xset]
          refine x_same (lv' := [some (.ref (xad ω 51)), some (.int (iI s)), some (.int (iI b)), some (.int (iI n)), some (.int (iI ((0 : Nat) : Int)))]) (st' := []) (M' := upr (slH M s b n) 54 (zrC (s * 40) ((0 : Nat) : Int) (M 54))) ?_ rfl rfl (by rw [show ((0 : Nat) : Int) = 0 from rfl, zrC_0]; unfold slH; (first | rw [if_pos (by assumption)] | rw [if_neg (by assumption)]); exact (upr_id (by rw [up_n (by decide), up_n (by decide)])).symm)
          refine loop_up (fun k => X ω κ 43 [some (.ref (xad ω 51)), some (.int (iI s)), some (.int (iI b)), some (.int (iI n)), some (.int (iI (k : Int)))] [] (upr (slH M s b n) 54 (zrC (s * 40) (k : Nat) (M 54)))) (n.toNat) ?_ ?_
          · show X ω κ 43 [some (.ref (xad ω 51)), some (.int (iI s)), some (.int (iI b)), some (.int (iI n)), some (.int (iI ((n.toNat : Nat) : Int)))] [] (upr (slH M s b n) 54 (zrC (s * 40) ((n.toNat) : Nat) (M 54)))
            refine x_iload h dX4_lay_43 rfl ?_
            refine x_iload_n h dX4_lay_45 rfl ?_
            refine x_icmp_ge h dX4_lay_46 (tgt := 68) (by decide) (by omega) (by omega) (fun q46 => ?_) (fun q46 => ?_)
            · exact x_vret h he dX4_lay_68 (by unfold slC; rw [show ((n.toNat : Nat) : Int) = n by omega])
            · exfalso; omega
          · intro k hk ihk
            replace ihk : X ω κ 43 [some (.ref (xad ω 51)), some (.int (iI s)), some (.int (iI b)), some (.int (iI n)), some (.int (iI ((k + 1 : Nat) : Int)))] [] (upr (slH M s b n) 54 (zrC (s * 40) ((k + 1) : Nat) (M 54))) := ihk
            show X ω κ 43 [some (.ref (xad ω 51)), some (.int (iI s)), some (.int (iI b)), some (.int (iI n)), some (.int (iI (k : Int)))] [] (upr (slH M s b n) 54 (zrC (s * 40) (k : Nat) (M 54)))
            refine x_iload h dX4_lay_43 rfl ?_
            refine x_iload_n h dX4_lay_45 rfl ?_
            refine x_icmp_ge h dX4_lay_46 (tgt := 68) (by decide) (by omega) (by omega) (fun q46 => ?_) (fun q46 => ?_)
            · exfalso; omega
            · refine x_aload_n h dX4_lay_49 rfl ?_
              refine x_getr (j := 2) (q := 54) h dX4_lay_50 (sC51 hc) rfl in_X4 rfl (by decide) m_fl_X4_18 ?_
              refine x_iload_n h dX4_lay_53 rfl ?_
              refine x_bipush h dX4_lay_54 (by decide) ?_
              refine x_imul h dX4_lay_56 ?_
              refine x_iload h dX4_lay_57 rfl ?_
              refine x_iadd h dX4_lay_59 ?_
              refine x_iconst h dX4_lay_60 ?_
              refine x_iastore h dX4_lay_61 (sC54 hc) (by omega) (by omega) ?_
              refine x_iinc h dX4_lay_62 rfl rfl rfl ?_
              dsimp only [xset]
              refine x_goto h dX4_lay_65 (tgt := 43) (by decide) ?_
              exact x_same ihk rfl rfl (by rw [up_upr, zrC_s])
      · exact x_vret h he dX4_lay_17 (by first | exact absurd hs (by assumption) | (exfalso; omega))

theorem dX4_put_0 : decode cX4_put 0 = .ok (.aload_n 0, 1) := by decide +kernel
theorem dX4_put_1 : decode cX4_put 1 = .ok (.iload_n 1, 1) := by decide +kernel
theorem dX4_put_2 : decode cX4_put 2 = .ok (.iload_n 2, 1) := by decide +kernel
theorem dX4_put_3 : decode cX4_put 3 = .ok (.iconst 1, 1) := by decide +kernel
theorem dX4_put_4 : decode cX4_put 4 = .ok (.invokevirtual 29, 3) := by decide +kernel
theorem dX4_put_7 : decode cX4_put 7 = .ok (.ifCond .eq 23, 3) := by decide +kernel
theorem dX4_put_10 : decode cX4_put 10 = .ok (.aload_n 0, 1) := by decide +kernel
theorem dX4_put_11 : decode cX4_put 11 = .ok (.getfield 18, 3) := by decide +kernel
theorem dX4_put_14 : decode cX4_put 14 = .ok (.iload_n 1, 1) := by decide +kernel
theorem dX4_put_15 : decode cX4_put 15 = .ok (.bipush 40, 2) := by decide +kernel
theorem dX4_put_17 : decode cX4_put 17 = .ok (.imul, 1) := by decide +kernel
theorem dX4_put_18 : decode cX4_put 18 = .ok (.iload_n 2, 1) := by decide +kernel
theorem dX4_put_19 : decode cX4_put 19 = .ok (.iadd, 1) := by decide +kernel
theorem dX4_put_20 : decode cX4_put 20 = .ok (.iload_n 3, 1) := by decide +kernel
theorem dX4_put_21 : decode cX4_put 21 = .ok (.aload_n 0, 1) := by decide +kernel
theorem dX4_put_22 : decode cX4_put 22 = .ok (.iload_n 1, 1) := by decide +kernel
theorem dX4_put_23 : decode cX4_put 23 = .ok (.invokevirtual 21, 3) := by decide +kernel
theorem dX4_put_26 : decode cX4_put 26 = .ok (.invokestatic 36, 3) := by decide +kernel
theorem dX4_put_29 : decode cX4_put 29 = .ok (.iastore, 1) := by decide +kernel
theorem dX4_put_30 : decode cX4_put 30 = .ok (.return_, 1) := by decide +kernel
set_option maxHeartbeats 4000000 in
set_option maxRecDepth 100000 in
theorem c_X4_put {l : Launch} {ω : xO} (hc : xsh ω = clS) {s i v : Int} {M : xMem} (hs : shI s) (hi : 0 ≤ i ∧ i < M 53 s ∧ M 53 s ≤ 40) (hv : inR v) : Ct l ω yX4_put ({ frames := 3, cells := 0, slots := 0, locals := 64 } : Room) 4 3 [.ref (xad ω 51), .int (iI s), .int (iI i), .int (iI v)] M none (up M 54 (s * 40 + i) (lwF v (M 52 s))) := by
  refine Ct.of (bytes := cX4_put) (ret := none) (lv0 := [some (.ref (xad ω 51)), some (.int (iI s)), some (.int (iI i)), some (.int (iI v))]) m_cd_X4_put m_in_X4 (by decide +kernel) (by decide +kernel) rfl rfl rfl rfl (fun hR => up_R hR (lwF_R hv)) ?_
  intro κ h he hR
  have g := hR 52 s
  have g2 := lwF_R (b := M 52 s) hv
  refine x_aload_n h dX4_put_0 rfl ?_
  refine x_iload_n h dX4_put_1 rfl ?_
  refine x_iload_n h dX4_put_2 rfl ?_
  refine x_iconst h dX4_put_3 ?_
  refine x_V3i h dX4_put_4 m_ml_X4_29 m_im_X4_hasRow m_se_X4_hasRow (sC51 hc) rfl (by decide) rfl (c_X4_hasRow hc (by omega) (by omega) (by omega)) ?_
  refine x_ifeqB h dX4_put_7 (tgt := 30) (by decide) (fun q7 => ?_) (fun q7 => ?_)
  · exact x_vret h he dX4_put_30 (by first | rfl | (exfalso; omega))
  · refine x_aload_n h dX4_put_10 rfl ?_
    refine x_getr (j := 2) (q := 54) h dX4_put_11 (sC51 hc) rfl in_X4 rfl (by decide) m_fl_X4_18 ?_
    refine x_iload_n h dX4_put_14 rfl ?_
    refine x_bipush h dX4_put_15 (by decide) ?_
    refine x_imul h dX4_put_17 ?_
    refine x_iload_n h dX4_put_18 rfl ?_
    refine x_iadd h dX4_put_19 ?_
    refine x_iload_n h dX4_put_20 rfl ?_
    refine x_aload_n h dX4_put_21 rfl ?_
    refine x_iload_n h dX4_put_22 rfl ?_
    refine x_V1i h dX4_put_23 m_ml_X4_21 m_im_X4_bitsOf m_se_X4_bitsOf (sC51 hc) rfl (by decide) rfl (c_X4_bitsOf hc (by omega)) ?_
    refine x_S2i h dX4_put_26 m_ml_X4_36 m_st_X4_lowestBits (by decide) rfl (c_X4_lowestBits hc (by omega)) ?_
    refine x_iastore h dX4_put_29 (sC54 hc) (by omega) (by omega) ?_
    exact x_vret h he dX4_put_30 (by first | rfl | (exfalso; omega))

theorem dX4_bring_0 : decode cX4_bring 0 = .ok (.aload_n 0, 1) := by decide +kernel
theorem dX4_bring_1 : decode cX4_bring 1 = .ok (.iload_n 1, 1) := by decide +kernel
theorem dX4_bring_2 : decode cX4_bring 2 = .ok (.iload_n 2, 1) := by decide +kernel
theorem dX4_bring_3 : decode cX4_bring 3 = .ok (.iload 5, 2) := by decide +kernel
theorem dX4_bring_5 : decode cX4_bring 5 = .ok (.invokevirtual 29, 3) := by decide +kernel
theorem dX4_bring_8 : decode cX4_bring 8 = .ok (.ifCond .eq 15, 3) := by decide +kernel
theorem dX4_bring_11 : decode cX4_bring 11 = .ok (.aload_n 0, 1) := by decide +kernel
theorem dX4_bring_12 : decode cX4_bring 12 = .ok (.iload_n 3, 1) := by decide +kernel
theorem dX4_bring_13 : decode cX4_bring 13 = .ok (.iload 4, 2) := by decide +kernel
theorem dX4_bring_15 : decode cX4_bring 15 = .ok (.iload 5, 2) := by decide +kernel
theorem dX4_bring_17 : decode cX4_bring 17 = .ok (.invokevirtual 29, 3) := by decide +kernel
theorem dX4_bring_20 : decode cX4_bring 20 = .ok (.ifCond .ne 4, 3) := by decide +kernel
theorem dX4_bring_23 : decode cX4_bring 23 = .ok (.return_, 1) := by decide +kernel
theorem dX4_bring_24 : decode cX4_bring 24 = .ok (.aload_n 0, 1) := by decide +kernel
theorem dX4_bring_25 : decode cX4_bring 25 = .ok (.getfield 18, 3) := by decide +kernel
theorem dX4_bring_28 : decode cX4_bring 28 = .ok (.iload_n 1, 1) := by decide +kernel
theorem dX4_bring_29 : decode cX4_bring 29 = .ok (.bipush 40, 2) := by decide +kernel
theorem dX4_bring_31 : decode cX4_bring 31 = .ok (.imul, 1) := by decide +kernel
theorem dX4_bring_32 : decode cX4_bring 32 = .ok (.iload_n 2, 1) := by decide +kernel
theorem dX4_bring_33 : decode cX4_bring 33 = .ok (.iadd, 1) := by decide +kernel
theorem dX4_bring_34 : decode cX4_bring 34 = .ok (.aload_n 0, 1) := by decide +kernel
theorem dX4_bring_35 : decode cX4_bring 35 = .ok (.getfield 18, 3) := by decide +kernel
theorem dX4_bring_38 : decode cX4_bring 38 = .ok (.iload_n 3, 1) := by decide +kernel
theorem dX4_bring_39 : decode cX4_bring 39 = .ok (.bipush 40, 2) := by decide +kernel
theorem dX4_bring_41 : decode cX4_bring 41 = .ok (.imul, 1) := by decide +kernel
theorem dX4_bring_42 : decode cX4_bring 42 = .ok (.iload 4, 2) := by decide +kernel
theorem dX4_bring_44 : decode cX4_bring 44 = .ok (.iadd, 1) := by decide +kernel
theorem dX4_bring_45 : decode cX4_bring 45 = .ok (.iload 5, 2) := by decide +kernel
theorem dX4_bring_47 : decode cX4_bring 47 = .ok (.invokestatic 40, 3) := by decide +kernel
theorem dX4_bring_50 : decode cX4_bring 50 = .ok (.return_, 1) := by decide +kernel
set_option maxHeartbeats 4000000 in
set_option maxRecDepth 100000 in
theorem c_X4_bring {l : Launch} {ω : xO} (hc : xsh ω = clS) {s f t u n : Int} {M : xMem} (hs : shI s) (ht : shI t) (h1 : hrC M s f n) (h2 : hrC M t u n) (h3 : M 53 s ≤ 40 ∧ M 53 t ≤ 40) : Ct l ω yX4_bring ({ frames := 3, cells := 0, slots := 0, locals := 64 } : Room) 6 5 [.ref (xad ω 51), .int (iI s), .int (iI f), .int (iI t), .int (iI u), .int (iI n)] M none (upr M 54 (rcp (M 54) (M 54) (s * 40 + f) (t * 40 + u) n)) := by
  refine Ct.of (bytes := cX4_bring) (ret := none) (lv0 := [some (.ref (xad ω 51)), some (.int (iI s)), some (.int (iI f)), some (.int (iI t)), some (.int (iI u)), some (.int (iI n))]) m_cd_X4_bring m_in_X4 (by decide +kernel) (by decide +kernel) rfl rfl rfl rfl (fun hR => upr_R hR fun i => rcp_R (hR _) (hR _) i) ?_
  intro κ h he hR
  refine x_aload_n h dX4_bring_0 rfl ?_
  refine x_iload_n h dX4_bring_1 rfl ?_
  refine x_iload_n h dX4_bring_2 rfl ?_
  refine x_iload h dX4_bring_3 rfl ?_
  refine x_V3i h dX4_bring_5 m_ml_X4_29 m_im_X4_hasRow m_se_X4_hasRow (sC51 hc) rfl (by decide) rfl (c_X4_hasRow hc (by omega) (by omega) (by omega)) ?_
  refine x_ifeqB h dX4_bring_8 (tgt := 23) (by decide) (fun q8 => ?_) (fun q8 => ?_)
  · exact x_vret h he dX4_bring_23 (by first | rfl | exact absurd h1 (by assumption) | exact absurd h2 (by assumption))
  · refine x_aload_n h dX4_bring_11 rfl ?_
    refine x_iload_n h dX4_bring_12 rfl ?_
    refine x_iload h dX4_bring_13 rfl ?_
    refine x_iload h dX4_bring_15 rfl ?_
    refine x_V3i h dX4_bring_17 m_ml_X4_29 m_im_X4_hasRow m_se_X4_hasRow (sC51 hc) rfl (by decide) rfl (c_X4_hasRow hc (by omega) (by omega) (by omega)) ?_
    refine x_ifneB h dX4_bring_20 (tgt := 24) (by decide) (fun q20 => ?_) (fun q20 => ?_)
    · refine x_aload_n h dX4_bring_24 rfl ?_
      refine x_getr (j := 2) (q := 54) h dX4_bring_25 (sC51 hc) rfl in_X4 rfl (by decide) m_fl_X4_18 ?_
      refine x_iload_n h dX4_bring_28 rfl ?_
      refine x_bipush h dX4_bring_29 (by decide) ?_
      refine x_imul h dX4_bring_31 ?_
      refine x_iload_n h dX4_bring_32 rfl ?_
      refine x_iadd h dX4_bring_33 ?_
      refine x_aload_n h dX4_bring_34 rfl ?_
      refine x_getr (j := 2) (q := 54) h dX4_bring_35 (sC51 hc) rfl in_X4 rfl (by decide) m_fl_X4_18 ?_
      refine x_iload_n h dX4_bring_38 rfl ?_
      refine x_bipush h dX4_bring_39 (by decide) ?_
      refine x_imul h dX4_bring_41 ?_
      refine x_iload h dX4_bring_42 rfl ?_
      refine x_iadd h dX4_bring_44 ?_
      refine x_iload h dX4_bring_45 rfl ?_
      refine x_copy h dX4_bring_47 m_ml_X4_40 (sC54 hc) (sC54 hc) (by omega) rfl (by decide) ?_
      exact x_vret h he dX4_bring_50 (by first | rfl | exact absurd h1 (by assumption) | exact absurd h2 (by assumption))
    · exact x_vret h he dX4_bring_23 (by first | rfl | exact absurd h1 (by assumption) | exact absurd h2 (by assumption))
