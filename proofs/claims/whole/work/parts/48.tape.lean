/-! the reference: the tape -/
def fdG (x n : Int) (k : Int) (M : xMem) : xMem := up (up M 9 (M 0 16) (bytF x (n - 1 - k))) 0 16 (M 0 16 + 1)
def fdC (x n : Int) (M : xMem) (k : Nat) : xMem := xfo (fdG x n) M k
theorem fdC_s (x n : Int) (M : xMem) (k : Nat) : fdC x n M (k + 1) = fdG x n (k : Int) (fdC x n M k) := by
  unfold fdC
  rw [xfo_s (fdG x n) M k]
theorem fdC_t (x n : Int) (M : xMem) : ∀ k : Nat, fdC x n M k 0 16 = M 0 16 + k := by
  intro k
  induction k with
  | zero => show M 0 16 = M 0 16 + ((0 : Nat) : Int); omega
  | succ k ih =>
    rw [fdC_s]
    unfold fdG
    rw [up_ss, ih]
    omega
def nfdR (M : xMem) (n : Int) : Int := if 1 ≤ n ∧ n ≤ 4 then (if 120 < M 0 16 + n then -1000002 else M 0 16 + n) else -1000001
def nfdM (M : xMem) (x n : Int) : xMem := if 1 ≤ n ∧ n ≤ 4 then (if 120 < M 0 16 + n then fnM M (-1000002) else fdC x n M n.toNat) else fnM M (-1000001)
theorem fdC_R {x n : Int} {M : xMem} (h : xR M) (ht : 0 ≤ M 0 16 ∧ M 0 16 ≤ 120) : ∀ k : Nat, k ≤ 4 → xR (fdC x n M k) := by
  intro k
  induction k with
  | zero => intro _; exact h
  | succ k ih =>
    intro hk
    have e := fdC_t x n M k
    rw [fdC_s]
    unfold fdG
    exact up_R (up_R (ih (by omega)) (band_R _ _)) (by omega)
theorem dX7_byteAt_0 : decode cX7_byteAt 0 = .ok (.iload_n 1, 1) := by decide +kernel
theorem dX7_byteAt_1 : decode cX7_byteAt 1 = .ok (.aload_n 0, 1) := by decide +kernel
theorem dX7_byteAt_2 : decode cX7_byteAt 2 = .ok (.getfield 295, 3) := by decide +kernel
theorem dX7_byteAt_5 : decode cX7_byteAt 5 = .ok (.if_icmp .ge 12, 3) := by decide +kernel
theorem dX7_byteAt_8 : decode cX7_byteAt 8 = .ok (.aload_n 0, 1) := by decide +kernel
theorem dX7_byteAt_9 : decode cX7_byteAt 9 = .ok (.getfield 34, 3) := by decide +kernel
theorem dX7_byteAt_12 : decode cX7_byteAt 12 = .ok (.iload_n 1, 1) := by decide +kernel
theorem dX7_byteAt_13 : decode cX7_byteAt 13 = .ok (.iaload, 1) := by decide +kernel
theorem dX7_byteAt_14 : decode cX7_byteAt 14 = .ok (.goto 4, 3) := by decide +kernel
theorem dX7_byteAt_17 : decode cX7_byteAt 17 = .ok (.iconst (-1), 1) := by decide +kernel
theorem dX7_byteAt_18 : decode cX7_byteAt 18 = .ok (.ireturn, 1) := by decide +kernel
set_option maxHeartbeats 800000 in
set_option maxRecDepth 100000 in
theorem c_X7_byteAt {l : Launch} {ω : xO} {ks : Nat → Option Nat} (hm : xsh ω = mdS ks) {k : Int} {M : xMem} (ht : 0 ≤ M 0 16 ∧ M 0 16 ≤ 120) (hk : 0 ≤ k ∧ k ≤ 1000) : Ct l ω yX7_byteAt ({ frames := 0, cells := 0, slots := 0, locals := 0 } : Room) 2 1 [.ref (xad ω 0), .int (iI k)] M (some (.int (iI ((if k < M 0 16 then M 9 k else -1))))) M := by
  refine Ct.of (bytes := cX7_byteAt) (ret := (some .int)) (lv0 := [some (.ref (xad ω 0)), some (.int (iI k))]) m_cd_X7_byteAt m_in_X7 (by decide +kernel) (by decide +kernel) rfl rfl rfl rfl (fun hR => hR) ?_
  intro κ h he hR
  refine x_iload_n h dX7_byteAt_0 rfl ?_
  refine x_aload_n h dX7_byteAt_1 rfl ?_
  refine x_geti (j := 16) 16 h dX7_byteAt_2 (sM0 hm) rfl in_X7 rfl (by decide) m_fl_X7_295 rfl (fun r2 => ?_)
  refine x_icmp_ge h dX7_byteAt_5 (tgt := 17) (by decide) (by omega) (by omega) (fun q5 => ?_) (fun q5 => ?_)
  · refine x_iconst h dX7_byteAt_17 ?_
    exact x_iret (ret := none) h he dX7_byteAt_18 rfl (by first | rw [if_pos (by omega)] | rw [if_neg (by omega)]) rfl
  · refine x_aload_n h dX7_byteAt_8 rfl ?_
    refine x_getr (j := 15) (q := 9) h dX7_byteAt_9 (sM0 hm) rfl in_X7 rfl (by decide) m_fl_X7_34 ?_
    refine x_iload_n h dX7_byteAt_12 rfl ?_
    refine x_iaload h dX7_byteAt_13 (sM9 hm) (by omega) (fun r13 => ?_)
    refine x_goto h dX7_byteAt_14 (tgt := 18) (by decide) ?_
    exact x_iret (ret := none) h he dX7_byteAt_18 rfl (by first | rw [if_pos (by omega)] | rw [if_neg (by omega)]) rfl

theorem dX7_feed_0 : decode cX7_feed 0 = .ok (.iload_n 2, 1) := by decide +kernel
theorem dX7_feed_1 : decode cX7_feed 1 = .ok (.iconst 1, 1) := by decide +kernel
theorem dX7_feed_2 : decode cX7_feed 2 = .ok (.iconst 4, 1) := by decide +kernel
theorem dX7_feed_3 : decode cX7_feed 3 = .ok (.invokestatic 81, 3) := by decide +kernel
theorem dX7_feed_6 : decode cX7_feed 6 = .ok (.ifCond .ne 10, 3) := by decide +kernel
theorem dX7_feed_9 : decode cX7_feed 9 = .ok (.aload_n 0, 1) := by decide +kernel
theorem dX7_feed_10 : decode cX7_feed 10 = .ok (.ldc 76, 2) := by decide +kernel
theorem dX7_feed_12 : decode cX7_feed 12 = .ok (.invokevirtual 101, 3) := by decide +kernel
theorem dX7_feed_15 : decode cX7_feed 15 = .ok (.ireturn, 1) := by decide +kernel
theorem dX7_feed_16 : decode cX7_feed 16 = .ok (.aload_n 0, 1) := by decide +kernel
theorem dX7_feed_17 : decode cX7_feed 17 = .ok (.getfield 295, 3) := by decide +kernel
theorem dX7_feed_20 : decode cX7_feed 20 = .ok (.iload_n 2, 1) := by decide +kernel
theorem dX7_feed_21 : decode cX7_feed 21 = .ok (.iadd, 1) := by decide +kernel
theorem dX7_feed_22 : decode cX7_feed 22 = .ok (.bipush 120, 2) := by decide +kernel
theorem dX7_feed_24 : decode cX7_feed 24 = .ok (.if_icmp .le 10, 3) := by decide +kernel
theorem dX7_feed_27 : decode cX7_feed 27 = .ok (.aload_n 0, 1) := by decide +kernel
theorem dX7_feed_28 : decode cX7_feed 28 = .ok (.ldc 125, 2) := by decide +kernel
theorem dX7_feed_30 : decode cX7_feed 30 = .ok (.invokevirtual 101, 3) := by decide +kernel
theorem dX7_feed_33 : decode cX7_feed 33 = .ok (.ireturn, 1) := by decide +kernel
theorem dX7_feed_34 : decode cX7_feed 34 = .ok (.iload_n 2, 1) := by decide +kernel
theorem dX7_feed_35 : decode cX7_feed 35 = .ok (.iconst 1, 1) := by decide +kernel
theorem dX7_feed_36 : decode cX7_feed 36 = .ok (.isub, 1) := by decide +kernel
theorem dX7_feed_37 : decode cX7_feed 37 = .ok (.istore_n 3, 1) := by decide +kernel
theorem dX7_feed_38 : decode cX7_feed 38 = .ok (.iload_n 3, 1) := by decide +kernel
theorem dX7_feed_39 : decode cX7_feed 39 = .ok (.ifCond .lt 38, 3) := by decide +kernel
theorem dX7_feed_42 : decode cX7_feed 42 = .ok (.aload_n 0, 1) := by decide +kernel
theorem dX7_feed_43 : decode cX7_feed 43 = .ok (.getfield 34, 3) := by decide +kernel
theorem dX7_feed_46 : decode cX7_feed 46 = .ok (.aload_n 0, 1) := by decide +kernel
theorem dX7_feed_47 : decode cX7_feed 47 = .ok (.getfield 295, 3) := by decide +kernel
theorem dX7_feed_50 : decode cX7_feed 50 = .ok (.iload_n 1, 1) := by decide +kernel
theorem dX7_feed_51 : decode cX7_feed 51 = .ok (.bipush 8, 2) := by decide +kernel
theorem dX7_feed_53 : decode cX7_feed 53 = .ok (.iload_n 3, 1) := by decide +kernel
theorem dX7_feed_54 : decode cX7_feed 54 = .ok (.imul, 1) := by decide +kernel
theorem dX7_feed_55 : decode cX7_feed 55 = .ok (.ishr, 1) := by decide +kernel
theorem dX7_feed_56 : decode cX7_feed 56 = .ok (.sipush 255, 3) := by decide +kernel
theorem dX7_feed_59 : decode cX7_feed 59 = .ok (.iand, 1) := by decide +kernel
theorem dX7_feed_60 : decode cX7_feed 60 = .ok (.iastore, 1) := by decide +kernel
theorem dX7_feed_61 : decode cX7_feed 61 = .ok (.aload_n 0, 1) := by decide +kernel
theorem dX7_feed_62 : decode cX7_feed 62 = .ok (.dup, 1) := by decide +kernel
theorem dX7_feed_63 : decode cX7_feed 63 = .ok (.getfield 295, 3) := by decide +kernel
theorem dX7_feed_66 : decode cX7_feed 66 = .ok (.iconst 1, 1) := by decide +kernel
theorem dX7_feed_67 : decode cX7_feed 67 = .ok (.iadd, 1) := by decide +kernel
theorem dX7_feed_68 : decode cX7_feed 68 = .ok (.putfield 295, 3) := by decide +kernel
theorem dX7_feed_71 : decode cX7_feed 71 = .ok (.iinc 3 (-1), 3) := by decide +kernel
theorem dX7_feed_74 : decode cX7_feed 74 = .ok (.goto (-36), 3) := by decide +kernel
theorem dX7_feed_77 : decode cX7_feed 77 = .ok (.aload_n 0, 1) := by decide +kernel
theorem dX7_feed_78 : decode cX7_feed 78 = .ok (.getfield 295, 3) := by decide +kernel
theorem dX7_feed_81 : decode cX7_feed 81 = .ok (.ireturn, 1) := by decide +kernel
set_option maxHeartbeats 800000 in
set_option maxRecDepth 100000 in
theorem c_X7_feed {l : Launch} {ω : xO} {ks : Nat → Option Nat} (hm : xsh ω = mdS ks) {x n : Int} {M : xMem} (ht : 0 ≤ M 0 16 ∧ M 0 16 ≤ 120) (hx : inR x) (hn : inR n) : Ct l ω yX7_feed ({ frames := 1, cells := 0, slots := 0, locals := 22 } : Room) 4 2 [.ref (xad ω 0), .int (iI x), .int (iI n)] M (some (.int (iI (nfdR M n)))) (nfdM M x n) := by
  refine Ct.of (bytes := cX7_feed) (ret := (some .int)) (lv0 := [some (.ref (xad ω 0)), some (.int (iI x)), some (.int (iI n)), none]) m_cd_X7_feed m_in_X7 (by decide +kernel) (by decide +kernel) rfl rfl rfl rfl (fun hR => by unfold nfdM; (repeat' split) <;> first | exact fnM_R hR | exact fdC_R hR ht _ (by omega)) ?_
  intro κ h he hR
  refine x_iload_n h dX7_feed_0 rfl ?_
  refine x_iconst h dX7_feed_1 ?_
  refine x_iconst h dX7_feed_2 ?_
  refine x_S3i h dX7_feed_3 m_ml_X7_81 m_st_X7_within (by decide) rfl (c_X7_within hm (by omega) (by omega) (by omega)) ?_
  refine x_ifneB h dX7_feed_6 (tgt := 16) (by decide) (fun q6 => ?_) (fun q6 => ?_)
  · refine x_aload_n h dX7_feed_16 rfl ?_
    refine x_geti (j := 16) 16 h dX7_feed_17 (sM0 hm) rfl in_X7 rfl (by decide) m_fl_X7_295 rfl (fun r17 => ?_)
    refine x_iload_n h dX7_feed_20 rfl ?_
    refine x_iadd h dX7_feed_21 ?_
    refine x_bipush h dX7_feed_22 (by decide) ?_
    refine x_icmp_le h dX7_feed_24 (tgt := 34) (by decide) (by omega) (by omega) (fun q24 => ?_) (fun q24 => ?_)
    · refine x_iload_n h dX7_feed_34 rfl ?_
      refine x_iconst h dX7_feed_35 ?_
      refine x_isub h dX7_feed_36 ?_
      refine x_istore_n h dX7_feed_37 rfl rfl ?_
      dsimp only [xset]
      refine x_same (lv' := [some (.ref (xad ω 0)), some (.int (iI x)), some (.int (iI n)), some (.int (iI (n - 1 - ((0 : Nat) : Int))))]) (st' := []) (M' := fdC x n M 0) ?_ (by rw [show n - 1 - ((0 : Nat) : Int) = n - 1 by omega]) rfl rfl
      refine loop_up (fun k => X ω κ 38 [some (.ref (xad ω 0)), some (.int (iI x)), some (.int (iI n)), some (.int (iI (n - 1 - (k : Int))))] [] (fdC x n M k)) (n.toNat) ?_ ?_
      · show X ω κ 38 [some (.ref (xad ω 0)), some (.int (iI x)), some (.int (iI n)), some (.int (iI (n - 1 - ((n.toNat : Nat) : Int))))] [] (fdC x n M (n.toNat))
        have e0 := fdC_t x n M n.toNat
        have g0 : ((n.toNat : Nat) : Int) = n := by omega
        refine x_iload_n h dX7_feed_38 rfl ?_
        refine x_if_lt h dX7_feed_39 (tgt := 77) (by decide) (by omega) (fun q39 => ?_) (fun q39 => ?_)
        · refine x_aload_n h dX7_feed_77 rfl ?_
          refine x_geti (j := 16) 16 h dX7_feed_78 (sM0 hm) rfl in_X7 rfl (by decide) m_fl_X7_295 rfl (fun r78 => ?_)
          rw [e0, g0]
          exact x_iret (ret := none) h he dX7_feed_81 rfl (by unfold nfdR; rw [if_pos (by omega), if_neg (by omega)]) (by unfold nfdM; rw [if_pos (by omega), if_neg (by omega)])
        · exfalso; omega
      · intro k hk ihk
        replace ihk : X ω κ 38 [some (.ref (xad ω 0)), some (.int (iI x)), some (.int (iI n)), some (.int (iI (n - 1 - ((k + 1 : Nat) : Int))))] [] (fdC x n M (k + 1)) := ihk
        show X ω κ 38 [some (.ref (xad ω 0)), some (.int (iI x)), some (.int (iI n)), some (.int (iI (n - 1 - (k : Int))))] [] (fdC x n M k)
        have e0 := fdC_t x n M k
        refine x_iload_n h dX7_feed_38 rfl ?_
        refine x_if_lt h dX7_feed_39 (tgt := 77) (by decide) (by omega) (fun q39 => ?_) (fun q39 => ?_)
        · exfalso; omega
        · refine x_aload_n h dX7_feed_42 rfl ?_
          refine x_getr (j := 15) (q := 9) h dX7_feed_43 (sM0 hm) rfl in_X7 rfl (by decide) m_fl_X7_34 ?_
          refine x_aload_n h dX7_feed_46 rfl ?_
          refine x_geti (j := 16) 16 h dX7_feed_47 (sM0 hm) rfl in_X7 rfl (by decide) m_fl_X7_295 rfl (fun r47 => ?_)
          refine x_iload_n h dX7_feed_50 rfl ?_
          refine x_bipush h dX7_feed_51 (by decide) ?_
          refine x_iload_n h dX7_feed_53 rfl ?_
          refine x_imul h dX7_feed_54 ?_
          refine x_ishr h dX7_feed_55 (fun r55 => ?_)
          refine x_sipush h dX7_feed_56 (by decide) ?_
          refine x_iand h dX7_feed_59 (fun r59 => ?_)
          refine x_iastore h dX7_feed_60 (sM9 hm) (by omega) (by omega) ?_
          refine x_aload_n h dX7_feed_61 rfl ?_
          have e9 : up (fdC x n M k) 9 (fdC x n M k 0 16) (bytF x (n - 1 - (k : Int))) 0 = fdC x n M k 0 := rfl
          refine x_dup h dX7_feed_62 rfl ?_
          refine x_geti (j := 16) 16 h dX7_feed_63 (sM0 hm) rfl in_X7 rfl (by decide) m_fl_X7_295 rfl (fun r63 => ?_)
          try rw [up_n (by decide)]
          refine x_iconst h dX7_feed_66 ?_
          refine x_iadd h dX7_feed_67 ?_
          refine x_puti (j := 16) 16 h dX7_feed_68 (sM0 hm) rfl in_X7 rfl (by decide) m_fl_X7_295 tyX7_ok nmX7 rfl (tyX7_ok 16 (by decide)) rfl rfl (by omega) rfl ?_
          refine x_iinc h dX7_feed_71 rfl rfl rfl ?_
          dsimp only [xset]
          refine x_goto h dX7_feed_74 (tgt := 38) (by decide) ?_
          exact x_same ihk (by rw [show n - 1 - ((k + 1 : Nat) : Int) = n - 1 - (k : Int) + -1 by omega]) rfl (by rw [fdC_s]; rfl)
    · refine x_aload_n h dX7_feed_27 rfl ?_
      refine x_ldc h m_k_X7_125 dX7_feed_28 ?_
      refine x_V1i h dX7_feed_30 m_ml_X7_101 m_im_X7_finding m_se_X7_finding (sM0 hm) rfl (by decide) rfl (c_X7_finding hm (by omega)) ?_
      exact x_iret (ret := none) h he dX7_feed_33 rfl (by unfold nfdR; first | rw [if_neg (by omega)] | rw [if_pos (by omega), if_pos (by omega)]) (by unfold nfdM; first | rw [if_neg (by omega)] | rw [if_pos (by omega), if_pos (by omega)])
  · refine x_aload_n h dX7_feed_9 rfl ?_
    refine x_ldc h m_k_X7_76 dX7_feed_10 ?_
    refine x_V1i h dX7_feed_12 m_ml_X7_101 m_im_X7_finding m_se_X7_finding (sM0 hm) rfl (by decide) rfl (c_X7_finding hm (by omega)) ?_
    exact x_iret (ret := none) h he dX7_feed_15 rfl (by unfold nfdR; first | rw [if_neg (by omega)] | rw [if_pos (by omega), if_pos (by omega)]) (by unfold nfdM; first | rw [if_neg (by omega)] | rw [if_pos (by omega), if_pos (by omega)])
