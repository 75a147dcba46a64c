/-! the reference: little methods -/
theorem inS_1 {p s : Int} : inS p s ↔ band (bshr s p) 1 = 1 := by
  unfold inS
  rcases band_01 (bshr s p) with h | h <;> rw [h] <;> simp
def fnM (N : xMem) (v : Int) : xMem := up (up N 4 (-1000001 - v + 1) (wr (N 4 (-1000001 - v + 1) + 1))) 4 0 (wr (N 4 0 + 1))
theorem fnM_R {N : xMem} {v : Int} (h : xR N) : xR (fnM N v) := up_R (up_R h (wr_R _)) (wr_R _)
theorem dX7_finding_0 : decode cX7_finding 0 = .ok (.aload_n 0, 1) := by decide +kernel
theorem dX7_finding_1 : decode cX7_finding 1 = .ok (.getfield 19, 3) := by decide +kernel
theorem dX7_finding_4 : decode cX7_finding 4 = .ok (.ldc 76, 2) := by decide +kernel
theorem dX7_finding_6 : decode cX7_finding 6 = .ok (.iload_n 1, 1) := by decide +kernel
theorem dX7_finding_7 : decode cX7_finding 7 = .ok (.isub, 1) := by decide +kernel
theorem dX7_finding_8 : decode cX7_finding 8 = .ok (.iconst 1, 1) := by decide +kernel
theorem dX7_finding_9 : decode cX7_finding 9 = .ok (.iadd, 1) := by decide +kernel
theorem dX7_finding_10 : decode cX7_finding 10 = .ok (.dup2, 1) := by decide +kernel
theorem dX7_finding_11 : decode cX7_finding 11 = .ok (.iaload, 1) := by decide +kernel
theorem dX7_finding_12 : decode cX7_finding 12 = .ok (.iconst 1, 1) := by decide +kernel
theorem dX7_finding_13 : decode cX7_finding 13 = .ok (.iadd, 1) := by decide +kernel
theorem dX7_finding_14 : decode cX7_finding 14 = .ok (.iastore, 1) := by decide +kernel
theorem dX7_finding_15 : decode cX7_finding 15 = .ok (.aload_n 0, 1) := by decide +kernel
theorem dX7_finding_16 : decode cX7_finding 16 = .ok (.getfield 19, 3) := by decide +kernel
theorem dX7_finding_19 : decode cX7_finding 19 = .ok (.iconst 0, 1) := by decide +kernel
theorem dX7_finding_20 : decode cX7_finding 20 = .ok (.dup2, 1) := by decide +kernel
theorem dX7_finding_21 : decode cX7_finding 21 = .ok (.iaload, 1) := by decide +kernel
theorem dX7_finding_22 : decode cX7_finding 22 = .ok (.iconst 1, 1) := by decide +kernel
theorem dX7_finding_23 : decode cX7_finding 23 = .ok (.iadd, 1) := by decide +kernel
theorem dX7_finding_24 : decode cX7_finding 24 = .ok (.iastore, 1) := by decide +kernel
theorem dX7_finding_25 : decode cX7_finding 25 = .ok (.iload_n 1, 1) := by decide +kernel
theorem dX7_finding_26 : decode cX7_finding 26 = .ok (.ireturn, 1) := by decide +kernel
set_option maxHeartbeats 800000 in
set_option maxRecDepth 100000 in
theorem c_X7_finding {l : Launch} {ω : xO} {ks : Nat → Option Nat} (hm : xsh ω = mdS ks) {v : Int} {M : xMem} (hv : -1000007 ≤ v ∧ v ≤ -1000001) : Ct l ω yX7_finding ({ frames := 0, cells := 0, slots := 0, locals := 0 } : Room) 2 1 [.ref (xad ω 0), .int (iI v)] M (some (.int (iI v))) (fnM M v) := by
  refine Ct.of (bytes := cX7_finding) (ret := (some .int)) (lv0 := [some (.ref (xad ω 0)), some (.int (iI v))]) m_cd_X7_finding m_in_X7 (by decide +kernel) (by decide +kernel) rfl rfl rfl rfl fnM_R ?_
  intro κ h he hR
  have e0 : ∀ z, up M 4 (-1000001 - v + 1) z 4 0 = M 4 0 := fun z => up_nn (by omega)
  refine x_aload_n h dX7_finding_0 rfl ?_
  refine x_getr (j := 4) (q := 4) h dX7_finding_1 (sM0 hm) rfl in_X7 rfl (by decide) m_fl_X7_19 ?_
  refine x_ldc h m_k_X7_76 dX7_finding_4 ?_
  refine x_iload_n h dX7_finding_6 rfl ?_
  refine x_isub h dX7_finding_7 ?_
  refine x_iconst h dX7_finding_8 ?_
  refine x_iadd h dX7_finding_9 ?_
  refine x_dup2 h dX7_finding_10 rfl rfl ?_
  refine x_iaload h dX7_finding_11 (sM4 hm) (by omega) (fun r11 => ?_)
  refine x_iconst h dX7_finding_12 ?_
  refine x_iadd h dX7_finding_13 ?_
  refine x_wr (fun r14 => ?_)
  refine x_iastore h dX7_finding_14 (sM4 hm) (by omega) (by omega) ?_
  refine x_aload_n h dX7_finding_15 rfl ?_
  refine x_getr (j := 4) (q := 4) h dX7_finding_16 (sM0 hm) rfl in_X7 rfl (by decide) m_fl_X7_19 ?_
  refine x_iconst h dX7_finding_19 ?_
  refine x_dup2 h dX7_finding_20 rfl rfl ?_
  refine x_iaload h dX7_finding_21 (sM4 hm) (by omega) (fun r21 => ?_)
  rw [e0]
  refine x_iconst h dX7_finding_22 ?_
  refine x_iadd h dX7_finding_23 ?_
  refine x_wr (fun r24 => ?_)
  refine x_iastore h dX7_finding_24 (sM4 hm) (by omega) (by omega) ?_
  refine x_iload_n h dX7_finding_25 rfl ?_
  exact x_iret (ret := none) h he dX7_finding_26 rfl rfl rfl

theorem dX7_within_0 : decode cX7_within 0 = .ok (.iload_n 0, 1) := by decide +kernel
theorem dX7_within_1 : decode cX7_within 1 = .ok (.iload_n 1, 1) := by decide +kernel
theorem dX7_within_2 : decode cX7_within 2 = .ok (.if_icmp .lt 12, 3) := by decide +kernel
theorem dX7_within_5 : decode cX7_within 5 = .ok (.iload_n 0, 1) := by decide +kernel
theorem dX7_within_6 : decode cX7_within 6 = .ok (.iload_n 2, 1) := by decide +kernel
theorem dX7_within_7 : decode cX7_within 7 = .ok (.if_icmp .gt 7, 3) := by decide +kernel
theorem dX7_within_10 : decode cX7_within 10 = .ok (.iconst 1, 1) := by decide +kernel
theorem dX7_within_11 : decode cX7_within 11 = .ok (.goto 4, 3) := by decide +kernel
theorem dX7_within_14 : decode cX7_within 14 = .ok (.iconst 0, 1) := by decide +kernel
theorem dX7_within_15 : decode cX7_within 15 = .ok (.ireturn, 1) := by decide +kernel
set_option maxHeartbeats 800000 in
set_option maxRecDepth 100000 in
theorem c_X7_within {l : Launch} {ω : xO} {ks : Nat → Option Nat} (hm : xsh ω = mdS ks) {v a c : Int} {M : xMem} (hv : inR v) (ha : inR a) (hc : inR c) : Ct l ω yX7_within ({ frames := 0, cells := 0, slots := 0, locals := 0 } : Room) 3 3 [.int (iI v), .int (iI a), .int (iI c)] M (some (.int (iI (bI (a ≤ v ∧ v ≤ c))))) M := by
  refine Ct.of (bytes := cX7_within) (ret := (some .boolean)) (lv0 := [some (.int (iI v)), some (.int (iI a)), some (.int (iI c))]) m_cd_X7_within m_in_X7 (by decide +kernel) (by decide +kernel) rfl rfl rfl rfl (fun hR => hR) ?_
  intro κ h he hR
  refine x_iload_n h dX7_within_0 rfl ?_
  refine x_iload_n h dX7_within_1 rfl ?_
  refine x_icmp_lt h dX7_within_2 (tgt := 14) (by decide) (by omega) (by omega) (fun q2 => ?_) (fun q2 => ?_)
  · refine x_iconst h dX7_within_14 ?_
    exact x_zret h he dX7_within_15 (by first | exact Or.inl rfl | exact Or.inr rfl | exact bI_01 _ | omega) rfl (by first | rfl | omega | exact (bI_t (by omega)).symm | exact (bI_f (by omega)).symm) rfl
  · refine x_iload_n h dX7_within_5 rfl ?_
    refine x_iload_n h dX7_within_6 rfl ?_
    refine x_icmp_gt h dX7_within_7 (tgt := 14) (by decide) (by omega) (by omega) (fun q7 => ?_) (fun q7 => ?_)
    · refine x_iconst h dX7_within_14 ?_
      exact x_zret h he dX7_within_15 (by first | exact Or.inl rfl | exact Or.inr rfl | exact bI_01 _ | omega) rfl (by first | rfl | omega | exact (bI_t (by omega)).symm | exact (bI_f (by omega)).symm) rfl
    · refine x_iconst h dX7_within_10 ?_
      refine x_goto h dX7_within_11 (tgt := 15) (by decide) ?_
      exact x_zret h he dX7_within_15 (by first | exact Or.inl rfl | exact Or.inr rfl | exact bI_01 _ | omega) rfl (by first | rfl | omega | exact (bI_t (by omega)).symm | exact (bI_f (by omega)).symm) rfl

theorem dX7_become_0 : decode cX7_become 0 = .ok (.aload_n 0, 1) := by decide +kernel
theorem dX7_become_1 : decode cX7_become 1 = .ok (.getfield 9, 3) := by decide +kernel
theorem dX7_become_4 : decode cX7_become 4 = .ok (.iload_n 1, 1) := by decide +kernel
theorem dX7_become_5 : decode cX7_become 5 = .ok (.iaload, 1) := by decide +kernel
theorem dX7_become_6 : decode cX7_become 6 = .ok (.istore_n 3, 1) := by decide +kernel
theorem dX7_become_7 : decode cX7_become 7 = .ok (.aload_n 0, 1) := by decide +kernel
theorem dX7_become_8 : decode cX7_become 8 = .ok (.getfield 9, 3) := by decide +kernel
theorem dX7_become_11 : decode cX7_become 11 = .ok (.iload_n 1, 1) := by decide +kernel
theorem dX7_become_12 : decode cX7_become 12 = .ok (.iload_n 2, 1) := by decide +kernel
theorem dX7_become_13 : decode cX7_become 13 = .ok (.iastore, 1) := by decide +kernel
theorem dX7_become_14 : decode cX7_become 14 = .ok (.iload_n 3, 1) := by decide +kernel
theorem dX7_become_15 : decode cX7_become 15 = .ok (.ireturn, 1) := by decide +kernel
set_option maxHeartbeats 800000 in
set_option maxRecDepth 100000 in
theorem c_X7_become {l : Launch} {ω : xO} {ks : Nat → Option Nat} (hm : xsh ω = mdS ks) {a v : Int} {M : xMem} (ha : 0 ≤ a ∧ a < 177) (hv : inR v) : Ct l ω yX7_become ({ frames := 0, cells := 0, slots := 0, locals := 0 } : Room) 4 2 [.ref (xad ω 0), .int (iI a), .int (iI v)] M (some (.int (iI (M 1 a)))) (up M 1 a v) := by
  refine Ct.of (bytes := cX7_become) (ret := (some .int)) (lv0 := [some (.ref (xad ω 0)), some (.int (iI a)), some (.int (iI v)), none]) m_cd_X7_become m_in_X7 (by decide +kernel) (by decide +kernel) rfl rfl rfl rfl (fun hR => up_R hR hv) ?_
  intro κ h he hR
  refine x_aload_n h dX7_become_0 rfl ?_
  refine x_getr (j := 0) (q := 1) h dX7_become_1 (sM0 hm) rfl in_X7 rfl (by decide) m_fl_X7_9 ?_
  refine x_iload_n h dX7_become_4 rfl ?_
  refine x_iaload h dX7_become_5 (sM1 hm) (by omega) (fun r5 => ?_)
  refine x_istore_n h dX7_become_6 rfl rfl ?_
  dsimp only [xset]
  refine x_aload_n h dX7_become_7 rfl ?_
  refine x_getr (j := 0) (q := 1) h dX7_become_8 (sM0 hm) rfl in_X7 rfl (by decide) m_fl_X7_9 ?_
  refine x_iload_n h dX7_become_11 rfl ?_
  refine x_iload_n h dX7_become_12 rfl ?_
  refine x_iastore h dX7_become_13 (sM1 hm) (by omega) (by omega) ?_
  refine x_iload_n h dX7_become_14 rfl ?_
  exact x_iret (ret := none) h he dX7_become_15 rfl (by first | rfl | omega | exact (bI_t (by omega)).symm | exact (bI_f (by omega)).symm) rfl

def cyM (M : xMem) (k j : Nat) : xMem := upr M j (fiC (M k) 177 (M j))
theorem cyM_R {M : xMem} {k j : Nat} (h : xR M) : xR (cyM M k j) := upr_R h (fiC_R (fun i _ _ => h k i) (h j))
theorem dX7_copyRow_0 : decode cX7_copyRow 0 = .ok (.iconst 0, 1) := by decide +kernel
theorem dX7_copyRow_1 : decode cX7_copyRow 1 = .ok (.istore_n 2, 1) := by decide +kernel
theorem dX7_copyRow_2 : decode cX7_copyRow 2 = .ok (.iload_n 2, 1) := by decide +kernel
theorem dX7_copyRow_3 : decode cX7_copyRow 3 = .ok (.sipush 177, 3) := by decide +kernel
theorem dX7_copyRow_6 : decode cX7_copyRow 6 = .ok (.if_icmp .ge 15, 3) := by decide +kernel
theorem dX7_copyRow_9 : decode cX7_copyRow 9 = .ok (.aload_n 1, 1) := by decide +kernel
theorem dX7_copyRow_10 : decode cX7_copyRow 10 = .ok (.iload_n 2, 1) := by decide +kernel
theorem dX7_copyRow_11 : decode cX7_copyRow 11 = .ok (.aload_n 0, 1) := by decide +kernel
theorem dX7_copyRow_12 : decode cX7_copyRow 12 = .ok (.iload_n 2, 1) := by decide +kernel
theorem dX7_copyRow_13 : decode cX7_copyRow 13 = .ok (.iaload, 1) := by decide +kernel
theorem dX7_copyRow_14 : decode cX7_copyRow 14 = .ok (.iastore, 1) := by decide +kernel
theorem dX7_copyRow_15 : decode cX7_copyRow 15 = .ok (.iinc 2 1, 3) := by decide +kernel
theorem dX7_copyRow_18 : decode cX7_copyRow 18 = .ok (.goto (-16), 3) := by decide +kernel
theorem dX7_copyRow_21 : decode cX7_copyRow 21 = .ok (.return_, 1) := by decide +kernel
set_option maxHeartbeats 800000 in
set_option maxRecDepth 100000 in
theorem c_X7_copyRow {l : Launch} {ω : xO} {ks : Nat → Option Nat} (hm : xsh ω = mdS ks) {k0 j0 : Nat} {M : xMem} (hs0 : (xsh ω)[k0]? = some (.inl 177)) (hs1 : (xsh ω)[j0]? = some (.inl 177)) (hkj : k0 ≠ j0) : Ct l ω yX7_copyRow ({ frames := 0, cells := 0, slots := 0, locals := 0 } : Room) 3 2 [.ref (xad ω k0), .ref (xad ω j0)] M none (cyM M k0 j0) := by
  refine Ct.of (bytes := cX7_copyRow) (ret := none) (lv0 := [some (.ref (xad ω k0)), some (.ref (xad ω j0)), none]) m_cd_X7_copyRow m_in_X7 (by decide +kernel) (by decide +kernel) rfl rfl rfl rfl cyM_R ?_
  intro κ h he hR
  refine x_iconst h dX7_copyRow_0 ?_
  refine x_istore_n h dX7_copyRow_1 rfl rfl ?_
  dsimp only [xset]
  refine x_same (lv' := [some (.ref (xad ω k0)), some (.ref (xad ω j0)), some (.int (iI ((0 : Nat) : Int)))]) (st' := []) (M' := upr M j0 (fiC (M k0) (0 : Nat) (M j0))) ?_ rfl rfl (by rw [show ((0 : Nat) : Int) = 0 from rfl, fiC_0, upr_self])
  refine loop_up (fun k => X ω κ 2 [some (.ref (xad ω k0)), some (.ref (xad ω j0)), some (.int (iI (k : Int)))] [] (upr M j0 (fiC (M k0) (k : Nat) (M j0)))) 177 ?_ ?_
  · show X ω κ 2 [some (.ref (xad ω k0)), some (.ref (xad ω j0)), some (.int (iI ((177 : Nat) : Int)))] [] (upr M j0 (fiC (M k0) (177 : Nat) (M j0)))
    refine x_iload_n h dX7_copyRow_2 rfl ?_
    refine x_sipush h dX7_copyRow_3 (by decide) ?_
    refine x_icmp_ge h dX7_copyRow_6 (tgt := 21) (by decide) (by omega) (by omega) (fun q6 => ?_) (fun q6 => ?_)
    · exact x_vret h he dX7_copyRow_21 rfl
    · exfalso; omega
  · intro k hk ihk
    replace ihk : X ω κ 2 [some (.ref (xad ω k0)), some (.ref (xad ω j0)), some (.int (iI ((k + 1 : Nat) : Int)))] [] (upr M j0 (fiC (M k0) ((k + 1) : Nat) (M j0))) := ihk
    show X ω κ 2 [some (.ref (xad ω k0)), some (.ref (xad ω j0)), some (.int (iI (k : Int)))] [] (upr M j0 (fiC (M k0) (k : Nat) (M j0)))
    have ek : upr M j0 (fiC (M k0) (k : Nat) (M j0)) k0 = M k0 := upr_n hkj
    refine x_iload_n h dX7_copyRow_2 rfl ?_
    refine x_sipush h dX7_copyRow_3 (by decide) ?_
    refine x_icmp_ge h dX7_copyRow_6 (tgt := 21) (by decide) (by omega) (by omega) (fun q6 => ?_) (fun q6 => ?_)
    · exfalso; omega
    · refine x_aload_n h dX7_copyRow_9 rfl ?_
      refine x_iload_n h dX7_copyRow_10 rfl ?_
      refine x_aload_n h dX7_copyRow_11 rfl ?_
      refine x_iload_n h dX7_copyRow_12 rfl ?_
      refine x_iaload h dX7_copyRow_13 hs0 (by omega) (fun r13 => ?_)
      rw [ek]
      refine x_iastore h dX7_copyRow_14 hs1 (by first | omega | exact hR _ _) (by first | omega | exact hR _ _) ?_
      refine x_iinc h dX7_copyRow_15 rfl rfl rfl ?_
      dsimp only [xset]
      refine x_goto h dX7_copyRow_18 (tgt := 2) (by decide) ?_
      exact x_same ihk rfl rfl (by rw [up_upr, fiC_s (by omega)]; rfl)

theorem dX7_putBack_0 : decode cX7_putBack 0 = .ok (.aload_n 0, 1) := by decide +kernel
theorem dX7_putBack_1 : decode cX7_putBack 1 = .ok (.getfield 16, 3) := by decide +kernel
theorem dX7_putBack_4 : decode cX7_putBack 4 = .ok (.aload_n 0, 1) := by decide +kernel
theorem dX7_putBack_5 : decode cX7_putBack 5 = .ok (.getfield 9, 3) := by decide +kernel
theorem dX7_putBack_8 : decode cX7_putBack 8 = .ok (.invokestatic 77, 3) := by decide +kernel
theorem dX7_putBack_11 : decode cX7_putBack 11 = .ok (.iload_n 1, 1) := by decide +kernel
theorem dX7_putBack_12 : decode cX7_putBack 12 = .ok (.ireturn, 1) := by decide +kernel
set_option maxHeartbeats 800000 in
set_option maxRecDepth 100000 in
theorem c_X7_putBack {l : Launch} {ω : xO} {ks : Nat → Option Nat} (hm : xsh ω = mdS ks) {v : Int} {M : xMem}  : Ct l ω yX7_putBack ({ frames := 1, cells := 0, slots := 0, locals := 22 } : Room) 2 1 [.ref (xad ω 0), .int (iI v)] M (some (.int (iI v))) (cyM M 3 1) := by
  refine Ct.of (bytes := cX7_putBack) (ret := (some .int)) (lv0 := [some (.ref (xad ω 0)), some (.int (iI v))]) m_cd_X7_putBack m_in_X7 (by decide +kernel) (by decide +kernel) rfl rfl rfl rfl cyM_R ?_
  intro κ h he hR
  refine x_aload_n h dX7_putBack_0 rfl ?_
  refine x_getr (j := 2) (q := 3) h dX7_putBack_1 (sM0 hm) rfl in_X7 rfl (by decide) m_fl_X7_16 ?_
  refine x_aload_n h dX7_putBack_4 rfl ?_
  refine x_getr (j := 0) (q := 1) h dX7_putBack_5 (sM0 hm) rfl in_X7 rfl (by decide) m_fl_X7_9 ?_
  refine x_S2v h dX7_putBack_8 m_ml_X7_77 m_st_X7_copyRow (by decide) rfl (c_X7_copyRow hm (sM3 hm) (sM1 hm) (by decide)) ?_
  refine x_iload_n h dX7_putBack_11 rfl ?_
  exact x_iret (ret := none) h he dX7_putBack_12 rfl (by first | rfl | omega | exact (bI_t (by omega)).symm | exact (bI_f (by omega)).symm) rfl

theorem dX7_has_0 : decode cX7_has 0 = .ok (.iload_n 0, 1) := by decide +kernel
theorem dX7_has_1 : decode cX7_has 1 = .ok (.iload_n 1, 1) := by decide +kernel
theorem dX7_has_2 : decode cX7_has 2 = .ok (.ishr, 1) := by decide +kernel
theorem dX7_has_3 : decode cX7_has 3 = .ok (.iconst 1, 1) := by decide +kernel
theorem dX7_has_4 : decode cX7_has 4 = .ok (.iand, 1) := by decide +kernel
theorem dX7_has_5 : decode cX7_has 5 = .ok (.iconst 1, 1) := by decide +kernel
theorem dX7_has_6 : decode cX7_has 6 = .ok (.if_icmp .ne 7, 3) := by decide +kernel
theorem dX7_has_9 : decode cX7_has 9 = .ok (.iconst 1, 1) := by decide +kernel
theorem dX7_has_10 : decode cX7_has 10 = .ok (.goto 4, 3) := by decide +kernel
theorem dX7_has_13 : decode cX7_has 13 = .ok (.iconst 0, 1) := by decide +kernel
theorem dX7_has_14 : decode cX7_has 14 = .ok (.ireturn, 1) := by decide +kernel
set_option maxHeartbeats 800000 in
set_option maxRecDepth 100000 in
theorem c_X7_has {l : Launch} {ω : xO} {ks : Nat → Option Nat} (hm : xsh ω = mdS ks) {s p : Int} {M : xMem}  : Ct l ω yX7_has ({ frames := 0, cells := 0, slots := 0, locals := 0 } : Room) 2 2 [.int (iI s), .int (iI p)] M (some (.int (iI (bI (inS p s))))) M := by
  refine Ct.of (bytes := cX7_has) (ret := (some .boolean)) (lv0 := [some (.int (iI s)), some (.int (iI p))]) m_cd_X7_has m_in_X7 (by decide +kernel) (by decide +kernel) rfl rfl rfl rfl (fun hR => hR) ?_
  intro κ h he hR
  refine x_iload_n h dX7_has_0 rfl ?_
  refine x_iload_n h dX7_has_1 rfl ?_
  refine x_ishr h dX7_has_2 (fun r2 => ?_)
  refine x_iconst h dX7_has_3 ?_
  refine x_iand h dX7_has_4 (fun r4 => ?_)
  refine x_iconst h dX7_has_5 ?_
  refine x_icmp_ne h dX7_has_6 (tgt := 13) (by decide) (by omega) (by omega) (fun q6 => ?_) (fun q6 => ?_)
  · refine x_iconst h dX7_has_13 ?_
    exact x_zret h he dX7_has_14 (by first | exact Or.inl rfl | exact Or.inr rfl | exact bI_01 _ | omega) rfl (by first | exact (bI_t (inS_1.mpr q6)).symm | exact (bI_f (fun z => q6 (inS_1.mp z))).symm) rfl
  · refine x_iconst h dX7_has_9 ?_
    refine x_goto h dX7_has_10 (tgt := 14) (by decide) ?_
    exact x_zret h he dX7_has_14 (by first | exact Or.inl rfl | exact Or.inr rfl | exact bI_01 _ | omega) rfl (by first | exact (bI_t (inS_1.mpr q6)).symm | exact (bI_f (fun z => q6 (inS_1.mp z))).symm) rfl

def pcN (m : Nat) : Nat := m % 2 + m / 2 % 2 + m / 4 % 2 + m / 8 % 2 + m / 16 % 2 + m / 32 % 2 + m / 64 % 2 + m / 128 % 2
theorem pc8_N (m : Nat) : pc8 (m : Int) = (pcN m : Int) := by unfold pc8 pcN; omega
theorem kern_n : ∀ n, n < 255 → pcN ((n + 1) &&& n) + 1 = pcN (n + 1) := by
  have : (List.range 255).all (fun n => pcN ((n + 1) &&& n) + 1 == pcN (n + 1)) = true := by decide +kernel
  intro n hn
  have h := List.all_eq_true.mp this n (List.mem_range.mpr hn)
  exact eq_of_beq h
theorem kern {a : Int} (h : 0 ≤ a ∧ a < 256) (h0 : a ≠ 0) : pc8 (band a (a - 1)) = pc8 a - 1 ∧ 0 ≤ band a (a - 1) ∧ band a (a - 1) < 256 := by
  obtain ⟨n, rfl⟩ : ∃ n : Nat, a = ((n + 1 : Nat) : Int) := ⟨(a - 1).toNat, by omega⟩
  have e : ((n + 1 : Nat) : Int) - 1 = (n : Int) := by omega
  rw [e]
  refine ⟨?_, band_255 h _⟩
  rw [band_nat (n + 1) n (by omega) (by omega), pc8_N, pc8_N]
  have := kern_n n (by omega)
  omega
theorem pcN_0 : ∀ n, n < 256 → pcN n = 0 → n = 0 := by
  have : (List.range 256).all (fun n => (n == 0) || !(pcN n == 0)) = true := by decide +kernel
  intro n hn h0
  have h := List.all_eq_true.mp this n (List.mem_range.mpr hn)
  rw [h0] at h
  simpa using h
theorem pc8_0 {a : Int} (h : 0 ≤ a ∧ a < 256) (h0 : pc8 a = 0) : a = 0 := by
  obtain ⟨n, rfl⟩ : ∃ n : Nat, a = (n : Int) := ⟨a.toNat, by omega⟩
  rw [pc8_N] at h0
  have := pcN_0 n (by omega) (by omega)
  omega
theorem dX7_bits_0 : decode cX7_bits 0 = .ok (.iconst 0, 1) := by decide +kernel
theorem dX7_bits_1 : decode cX7_bits 1 = .ok (.istore_n 1, 1) := by decide +kernel
theorem dX7_bits_2 : decode cX7_bits 2 = .ok (.iload_n 0, 1) := by decide +kernel
theorem dX7_bits_3 : decode cX7_bits 3 = .ok (.istore_n 2, 1) := by decide +kernel
theorem dX7_bits_4 : decode cX7_bits 4 = .ok (.iload_n 2, 1) := by decide +kernel
theorem dX7_bits_5 : decode cX7_bits 5 = .ok (.ifCond .eq 15, 3) := by decide +kernel
theorem dX7_bits_8 : decode cX7_bits 8 = .ok (.iinc 1 1, 3) := by decide +kernel
theorem dX7_bits_11 : decode cX7_bits 11 = .ok (.iload_n 2, 1) := by decide +kernel
theorem dX7_bits_12 : decode cX7_bits 12 = .ok (.iload_n 2, 1) := by decide +kernel
theorem dX7_bits_13 : decode cX7_bits 13 = .ok (.iconst 1, 1) := by decide +kernel
theorem dX7_bits_14 : decode cX7_bits 14 = .ok (.isub, 1) := by decide +kernel
theorem dX7_bits_15 : decode cX7_bits 15 = .ok (.iand, 1) := by decide +kernel
theorem dX7_bits_16 : decode cX7_bits 16 = .ok (.istore_n 2, 1) := by decide +kernel
theorem dX7_bits_17 : decode cX7_bits 17 = .ok (.goto (-13), 3) := by decide +kernel
theorem dX7_bits_20 : decode cX7_bits 20 = .ok (.iload_n 1, 1) := by decide +kernel
theorem dX7_bits_21 : decode cX7_bits 21 = .ok (.ireturn, 1) := by decide +kernel
set_option maxHeartbeats 800000 in
set_option maxRecDepth 100000 in
theorem c_X7_bits {l : Launch} {ω : xO} {ks : Nat → Option Nat} (hm : xsh ω = mdS ks) {s : Int} {M : xMem} (hs : 0 ≤ s ∧ s < 256) : Ct l ω yX7_bits ({ frames := 0, cells := 0, slots := 0, locals := 0 } : Room) 3 1 [.int (iI s)] M (some (.int (iI (pc8 s)))) M := by
  refine Ct.of (bytes := cX7_bits) (ret := (some .int)) (lv0 := [some (.int (iI s)), none, none]) m_cd_X7_bits m_in_X7 (by decide +kernel) (by decide +kernel) rfl rfl rfl rfl (fun hR => hR) ?_
  intro κ h he hR
  refine x_iconst h dX7_bits_0 ?_
  refine x_istore_n h dX7_bits_1 rfl rfl ?_
  dsimp only [xset]
  refine x_iload_n h dX7_bits_2 rfl ?_
  refine x_istore_n h dX7_bits_3 rfl rfl ?_
  dsimp only [xset]
  have H : ∀ (d : Nat) (n a : Int), 0 ≤ a ∧ a < 256 → pc8 a = d → 0 ≤ n → n + d = pc8 s → X ω κ 4 [some (.int (iI s)), some (.int (iI n)), some (.int (iI a))] [] M := by
    intro d
    induction d with
    | zero =>
      intro n a ha hp hn e
      have ha0 := pc8_0 ha (by omega)
      refine x_iload_n h dX7_bits_4 rfl ?_
      refine x_if_eq h dX7_bits_5 (tgt := 20) (by decide) (by omega) (fun q5 => ?_) (fun q5 => ?_)
      · refine x_iload_n h dX7_bits_20 rfl ?_
        exact x_iret (ret := none) h he dX7_bits_21 rfl (by omega) rfl
      · exfalso; omega
    | succ d ih =>
      intro n a ha hp hn e
      have h0 : a ≠ 0 := fun z => by rw [z, show pc8 0 = 0 from by decide] at hp; omega
      have hk := kern ha h0
      refine x_iload_n h dX7_bits_4 rfl ?_
      refine x_if_eq h dX7_bits_5 (tgt := 20) (by decide) (by omega) (fun q5 => ?_) (fun q5 => ?_)
      · exfalso; omega
      · refine x_iinc h dX7_bits_8 rfl rfl rfl ?_
        dsimp only [xset]
        refine x_iload_n h dX7_bits_11 rfl ?_
        refine x_iload_n h dX7_bits_12 rfl ?_
        refine x_iconst h dX7_bits_13 ?_
        refine x_isub h dX7_bits_14 ?_
        refine x_iand h dX7_bits_15 (fun r15 => ?_)
        refine x_istore_n h dX7_bits_16 rfl rfl ?_
        dsimp only [xset]
        refine x_goto h dX7_bits_17 (tgt := 4) (by decide) ?_
        exact ih (n + 1) _ hk.2 (by omega) (by omega) (by omega)
  have hp8 := pc8_R (a := s)
  exact H (pc8 s).toNat 0 s hs (by omega) (by omega) (by omega)

theorem dX7_isPlace_0 : decode cX7_isPlace 0 = .ok (.iload_n 0, 1) := by decide +kernel
theorem dX7_isPlace_1 : decode cX7_isPlace 1 = .ok (.iconst 0, 1) := by decide +kernel
theorem dX7_isPlace_2 : decode cX7_isPlace 2 = .ok (.bipush 9, 2) := by decide +kernel
theorem dX7_isPlace_4 : decode cX7_isPlace 4 = .ok (.invokestatic 81, 3) := by decide +kernel
theorem dX7_isPlace_7 : decode cX7_isPlace 7 = .ok (.ireturn, 1) := by decide +kernel
set_option maxHeartbeats 800000 in
set_option maxRecDepth 100000 in
theorem c_X7_isPlace {l : Launch} {ω : xO} {ks : Nat → Option Nat} (hm : xsh ω = mdS ks) {a : Int} {M : xMem} (ha : inR a) : Ct l ω yX7_isPlace ({ frames := 1, cells := 0, slots := 0, locals := 22 } : Room) 1 1 [.int (iI a)] M (some (.int (iI (bI (0 ≤ a ∧ a ≤ 9))))) M := by
  refine Ct.of (bytes := cX7_isPlace) (ret := (some .boolean)) (lv0 := [some (.int (iI a))]) m_cd_X7_isPlace m_in_X7 (by decide +kernel) (by decide +kernel) rfl rfl rfl rfl (fun hR => hR) ?_
  intro κ h he hR
  refine x_iload_n h dX7_isPlace_0 rfl ?_
  refine x_iconst h dX7_isPlace_1 ?_
  refine x_bipush h dX7_isPlace_2 (by decide) ?_
  refine x_S3i h dX7_isPlace_4 m_ml_X7_81 m_st_X7_within (by decide) rfl (c_X7_within hm (by omega) (by omega) (by omega)) ?_
  exact x_zret h he dX7_isPlace_7 (by first | exact Or.inl rfl | exact Or.inr rfl | exact bI_01 _ | omega) rfl rfl rfl

theorem dX7_isKind_0 : decode cX7_isKind 0 = .ok (.iload_n 0, 1) := by decide +kernel
theorem dX7_isKind_1 : decode cX7_isKind 1 = .ok (.iconst 0, 1) := by decide +kernel
theorem dX7_isKind_2 : decode cX7_isKind 2 = .ok (.bipush 6, 2) := by decide +kernel
theorem dX7_isKind_4 : decode cX7_isKind 4 = .ok (.invokestatic 81, 3) := by decide +kernel
theorem dX7_isKind_7 : decode cX7_isKind 7 = .ok (.ireturn, 1) := by decide +kernel
set_option maxHeartbeats 800000 in
set_option maxRecDepth 100000 in
theorem c_X7_isKind {l : Launch} {ω : xO} {ks : Nat → Option Nat} (hm : xsh ω = mdS ks) {a : Int} {M : xMem} (ha : inR a) : Ct l ω yX7_isKind ({ frames := 1, cells := 0, slots := 0, locals := 22 } : Room) 1 1 [.int (iI a)] M (some (.int (iI (bI (0 ≤ a ∧ a ≤ 6))))) M := by
  refine Ct.of (bytes := cX7_isKind) (ret := (some .boolean)) (lv0 := [some (.int (iI a))]) m_cd_X7_isKind m_in_X7 (by decide +kernel) (by decide +kernel) rfl rfl rfl rfl (fun hR => hR) ?_
  intro κ h he hR
  refine x_iload_n h dX7_isKind_0 rfl ?_
  refine x_iconst h dX7_isKind_1 ?_
  refine x_bipush h dX7_isKind_2 (by decide) ?_
  refine x_S3i h dX7_isKind_4 m_ml_X7_81 m_st_X7_within (by decide) rfl (c_X7_within hm (by omega) (by omega) (by omega)) ?_
  exact x_zret h he dX7_isKind_7 (by first | exact Or.inl rfl | exact Or.inr rfl | exact bI_01 _ | omega) rfl rfl rfl

theorem dX7_isSpot_0 : decode cX7_isSpot 0 = .ok (.iload_n 0, 1) := by decide +kernel
theorem dX7_isSpot_1 : decode cX7_isSpot 1 = .ok (.iconst 0, 1) := by decide +kernel
theorem dX7_isSpot_2 : decode cX7_isSpot 2 = .ok (.bipush 9, 2) := by decide +kernel
theorem dX7_isSpot_4 : decode cX7_isSpot 4 = .ok (.invokestatic 81, 3) := by decide +kernel
theorem dX7_isSpot_7 : decode cX7_isSpot 7 = .ok (.ireturn, 1) := by decide +kernel
set_option maxHeartbeats 800000 in
set_option maxRecDepth 100000 in
theorem c_X7_isSpot {l : Launch} {ω : xO} {ks : Nat → Option Nat} (hm : xsh ω = mdS ks) {a : Int} {M : xMem} (ha : inR a) : Ct l ω yX7_isSpot ({ frames := 1, cells := 0, slots := 0, locals := 22 } : Room) 1 1 [.int (iI a)] M (some (.int (iI (bI (0 ≤ a ∧ a ≤ 9))))) M := by
  refine Ct.of (bytes := cX7_isSpot) (ret := (some .boolean)) (lv0 := [some (.int (iI a))]) m_cd_X7_isSpot m_in_X7 (by decide +kernel) (by decide +kernel) rfl rfl rfl rfl (fun hR => hR) ?_
  intro κ h he hR
  refine x_iload_n h dX7_isSpot_0 rfl ?_
  refine x_iconst h dX7_isSpot_1 ?_
  refine x_bipush h dX7_isSpot_2 (by decide) ?_
  refine x_S3i h dX7_isSpot_4 m_ml_X7_81 m_st_X7_within (by decide) rfl (c_X7_within hm (by omega) (by omega) (by omega)) ?_
  exact x_zret h he dX7_isSpot_7 (by first | exact Or.inl rfl | exact Or.inr rfl | exact bI_01 _ | omega) rfl rfl rfl

theorem dX7_isSheet_0 : decode cX7_isSheet 0 = .ok (.iload_n 0, 1) := by decide +kernel
theorem dX7_isSheet_1 : decode cX7_isSheet 1 = .ok (.iconst 0, 1) := by decide +kernel
theorem dX7_isSheet_2 : decode cX7_isSheet 2 = .ok (.iconst 3, 1) := by decide +kernel
theorem dX7_isSheet_3 : decode cX7_isSheet 3 = .ok (.invokestatic 81, 3) := by decide +kernel
theorem dX7_isSheet_6 : decode cX7_isSheet 6 = .ok (.ireturn, 1) := by decide +kernel
set_option maxHeartbeats 800000 in
set_option maxRecDepth 100000 in
theorem c_X7_isSheet {l : Launch} {ω : xO} {ks : Nat → Option Nat} (hm : xsh ω = mdS ks) {a : Int} {M : xMem} (ha : inR a) : Ct l ω yX7_isSheet ({ frames := 1, cells := 0, slots := 0, locals := 22 } : Room) 1 1 [.int (iI a)] M (some (.int (iI (bI (0 ≤ a ∧ a ≤ 3))))) M := by
  refine Ct.of (bytes := cX7_isSheet) (ret := (some .boolean)) (lv0 := [some (.int (iI a))]) m_cd_X7_isSheet m_in_X7 (by decide +kernel) (by decide +kernel) rfl rfl rfl rfl (fun hR => hR) ?_
  intro κ h he hR
  refine x_iload_n h dX7_isSheet_0 rfl ?_
  refine x_iconst h dX7_isSheet_1 ?_
  refine x_iconst h dX7_isSheet_2 ?_
  refine x_S3i h dX7_isSheet_3 m_ml_X7_81 m_st_X7_within (by decide) rfl (c_X7_within hm (by omega) (by omega) (by omega)) ?_
  exact x_zret h he dX7_isSheet_6 (by first | exact Or.inl rfl | exact Or.inr rfl | exact bI_01 _ | omega) rfl rfl rfl

theorem dX7_wayOf_0 : decode cX7_wayOf 0 = .ok (.aload_n 0, 1) := by decide +kernel
theorem dX7_wayOf_1 : decode cX7_wayOf 1 = .ok (.getfield 9, 3) := by decide +kernel
theorem dX7_wayOf_4 : decode cX7_wayOf 4 = .ok (.bipush 13, 2) := by decide +kernel
theorem dX7_wayOf_6 : decode cX7_wayOf 6 = .ok (.bipush 10, 2) := by decide +kernel
theorem dX7_wayOf_8 : decode cX7_wayOf 8 = .ok (.iload_n 1, 1) := by decide +kernel
theorem dX7_wayOf_9 : decode cX7_wayOf 9 = .ok (.imul, 1) := by decide +kernel
theorem dX7_wayOf_10 : decode cX7_wayOf 10 = .ok (.iadd, 1) := by decide +kernel
theorem dX7_wayOf_11 : decode cX7_wayOf 11 = .ok (.iload_n 2, 1) := by decide +kernel
theorem dX7_wayOf_12 : decode cX7_wayOf 12 = .ok (.iadd, 1) := by decide +kernel
theorem dX7_wayOf_13 : decode cX7_wayOf 13 = .ok (.iaload, 1) := by decide +kernel
theorem dX7_wayOf_14 : decode cX7_wayOf 14 = .ok (.ireturn, 1) := by decide +kernel
set_option maxHeartbeats 800000 in
set_option maxRecDepth 100000 in
theorem c_X7_wayOf {l : Launch} {ω : xO} {ks : Nat → Option Nat} (hm : xsh ω = mdS ks) {a c : Int} {M : xMem} (ha : plc a) (hc : plc c) : Ct l ω yX7_wayOf ({ frames := 0, cells := 0, slots := 0, locals := 0 } : Room) 3 2 [.ref (xad ω 0), .int (iI a), .int (iI c)] M (some (.int (iI (M 1 (13 + 10 * a + c))))) M := by
  refine Ct.of (bytes := cX7_wayOf) (ret := (some .int)) (lv0 := [some (.ref (xad ω 0)), some (.int (iI a)), some (.int (iI c))]) m_cd_X7_wayOf m_in_X7 (by decide +kernel) (by decide +kernel) rfl rfl rfl rfl (fun hR => hR) ?_
  intro κ h he hR
  refine x_aload_n h dX7_wayOf_0 rfl ?_
  refine x_getr (j := 0) (q := 1) h dX7_wayOf_1 (sM0 hm) rfl in_X7 rfl (by decide) m_fl_X7_9 ?_
  refine x_bipush h dX7_wayOf_4 (by decide) ?_
  refine x_bipush h dX7_wayOf_6 (by decide) ?_
  refine x_iload_n h dX7_wayOf_8 rfl ?_
  refine x_imul h dX7_wayOf_9 ?_
  refine x_iadd h dX7_wayOf_10 ?_
  refine x_iload_n h dX7_wayOf_11 rfl ?_
  refine x_iadd h dX7_wayOf_12 ?_
  refine x_iaload h dX7_wayOf_13 (sM1 hm) (by omega) (fun r13 => ?_)
  exact x_iret (ret := none) h he dX7_wayOf_14 rfl (by first | rfl | omega | exact (bI_t (by omega)).symm | exact (bI_f (by omega)).symm) rfl

def lyM (M : xMem) (a c v : Int) : xMem := up (up (up M 0 6 0) 1 (13 + 10 * a + c) v) 1 (13 + 10 * c + a) v
theorem dX7_lays_0 : decode cX7_lays 0 = .ok (.aload_n 0, 1) := by decide +kernel
theorem dX7_lays_1 : decode cX7_lays 1 = .ok (.iconst 0, 1) := by decide +kernel
theorem dX7_lays_2 : decode cX7_lays 2 = .ok (.putfield 85, 3) := by decide +kernel
theorem dX7_lays_5 : decode cX7_lays 5 = .ok (.aload_n 0, 1) := by decide +kernel
theorem dX7_lays_6 : decode cX7_lays 6 = .ok (.getfield 9, 3) := by decide +kernel
theorem dX7_lays_9 : decode cX7_lays 9 = .ok (.bipush 13, 2) := by decide +kernel
theorem dX7_lays_11 : decode cX7_lays 11 = .ok (.bipush 10, 2) := by decide +kernel
theorem dX7_lays_13 : decode cX7_lays 13 = .ok (.iload_n 1, 1) := by decide +kernel
theorem dX7_lays_14 : decode cX7_lays 14 = .ok (.imul, 1) := by decide +kernel
theorem dX7_lays_15 : decode cX7_lays 15 = .ok (.iadd, 1) := by decide +kernel
theorem dX7_lays_16 : decode cX7_lays 16 = .ok (.iload_n 2, 1) := by decide +kernel
theorem dX7_lays_17 : decode cX7_lays 17 = .ok (.iadd, 1) := by decide +kernel
theorem dX7_lays_18 : decode cX7_lays 18 = .ok (.iload_n 3, 1) := by decide +kernel
theorem dX7_lays_19 : decode cX7_lays 19 = .ok (.iastore, 1) := by decide +kernel
theorem dX7_lays_20 : decode cX7_lays 20 = .ok (.aload_n 0, 1) := by decide +kernel
theorem dX7_lays_21 : decode cX7_lays 21 = .ok (.bipush 13, 2) := by decide +kernel
theorem dX7_lays_23 : decode cX7_lays 23 = .ok (.bipush 10, 2) := by decide +kernel
theorem dX7_lays_25 : decode cX7_lays 25 = .ok (.iload_n 2, 1) := by decide +kernel
theorem dX7_lays_26 : decode cX7_lays 26 = .ok (.imul, 1) := by decide +kernel
theorem dX7_lays_27 : decode cX7_lays 27 = .ok (.iadd, 1) := by decide +kernel
theorem dX7_lays_28 : decode cX7_lays 28 = .ok (.iload_n 1, 1) := by decide +kernel
theorem dX7_lays_29 : decode cX7_lays 29 = .ok (.iadd, 1) := by decide +kernel
theorem dX7_lays_30 : decode cX7_lays 30 = .ok (.iload_n 3, 1) := by decide +kernel
theorem dX7_lays_31 : decode cX7_lays 31 = .ok (.invokevirtual 89, 3) := by decide +kernel
theorem dX7_lays_34 : decode cX7_lays 34 = .ok (.ireturn, 1) := by decide +kernel
set_option maxHeartbeats 800000 in
set_option maxRecDepth 100000 in
theorem c_X7_lays {l : Launch} {ω : xO} {ks : Nat → Option Nat} (hm : xsh ω = mdS ks) {a c v : Int} {M : xMem} (ha : plc a) (hc : plc c) (hv : inR v) : Ct l ω yX7_lays ({ frames := 1, cells := 0, slots := 0, locals := 23 } : Room) 4 3 [.ref (xad ω 0), .int (iI a), .int (iI c), .int (iI v)] M (some (.int (iI (ur (M 1) (13 + 10 * a + c) v (13 + 10 * c + a))))) (lyM M a c v) := by
  refine Ct.of (bytes := cX7_lays) (ret := (some .int)) (lv0 := [some (.ref (xad ω 0)), some (.int (iI a)), some (.int (iI c)), some (.int (iI v))]) m_cd_X7_lays m_in_X7 (by decide +kernel) (by decide +kernel) rfl rfl rfl rfl (fun hR => up_R (up_R (up_R hR (by decide)) hv) hv) ?_
  intro κ h he hR
  refine x_aload_n h dX7_lays_0 rfl ?_
  refine x_iconst h dX7_lays_1 ?_
  refine x_puti (j := 6) 6 h dX7_lays_2 (sM0 hm) rfl in_X7 rfl (by decide) m_fl_X7_85 tyX7_ok nmX7 rfl (tyX7_ok 6 (by decide)) rfl rfl (by omega) rfl ?_
  refine x_aload_n h dX7_lays_5 rfl ?_
  refine x_getr (j := 0) (q := 1) h dX7_lays_6 (sM0 hm) rfl in_X7 rfl (by decide) m_fl_X7_9 ?_
  refine x_bipush h dX7_lays_9 (by decide) ?_
  refine x_bipush h dX7_lays_11 (by decide) ?_
  refine x_iload_n h dX7_lays_13 rfl ?_
  refine x_imul h dX7_lays_14 ?_
  refine x_iadd h dX7_lays_15 ?_
  refine x_iload_n h dX7_lays_16 rfl ?_
  refine x_iadd h dX7_lays_17 ?_
  refine x_iload_n h dX7_lays_18 rfl ?_
  refine x_iastore h dX7_lays_19 (sM1 hm) (by omega) (by omega) ?_
  refine x_aload_n h dX7_lays_20 rfl ?_
  refine x_bipush h dX7_lays_21 (by decide) ?_
  refine x_bipush h dX7_lays_23 (by decide) ?_
  refine x_iload_n h dX7_lays_25 rfl ?_
  refine x_imul h dX7_lays_26 ?_
  refine x_iadd h dX7_lays_27 ?_
  refine x_iload_n h dX7_lays_28 rfl ?_
  refine x_iadd h dX7_lays_29 ?_
  refine x_iload_n h dX7_lays_30 rfl ?_
  refine x_V2i h dX7_lays_31 m_ml_X7_89 m_im_X7_become m_se_X7_become (sM0 hm) rfl (by decide) rfl (c_X7_become hm (by omega) (by omega)) ?_
  exact x_iret (ret := none) h he dX7_lays_34 rfl (by rw [up_s, up_n (by decide)]) rfl

theorem dX7_areTwoPlaces_0 : decode cX7_areTwoPlaces 0 = .ok (.iload_n 0, 1) := by decide +kernel
theorem dX7_areTwoPlaces_1 : decode cX7_areTwoPlaces 1 = .ok (.invokestatic 93, 3) := by decide +kernel
theorem dX7_areTwoPlaces_4 : decode cX7_areTwoPlaces 4 = .ok (.ifCond .eq 19, 3) := by decide +kernel
theorem dX7_areTwoPlaces_7 : decode cX7_areTwoPlaces 7 = .ok (.iload_n 1, 1) := by decide +kernel
theorem dX7_areTwoPlaces_8 : decode cX7_areTwoPlaces 8 = .ok (.invokestatic 93, 3) := by decide +kernel
theorem dX7_areTwoPlaces_11 : decode cX7_areTwoPlaces 11 = .ok (.ifCond .eq 12, 3) := by decide +kernel
theorem dX7_areTwoPlaces_14 : decode cX7_areTwoPlaces 14 = .ok (.iload_n 0, 1) := by decide +kernel
theorem dX7_areTwoPlaces_15 : decode cX7_areTwoPlaces 15 = .ok (.iload_n 1, 1) := by decide +kernel
theorem dX7_areTwoPlaces_16 : decode cX7_areTwoPlaces 16 = .ok (.if_icmp .eq 7, 3) := by decide +kernel
theorem dX7_areTwoPlaces_19 : decode cX7_areTwoPlaces 19 = .ok (.iconst 1, 1) := by decide +kernel
theorem dX7_areTwoPlaces_20 : decode cX7_areTwoPlaces 20 = .ok (.goto 4, 3) := by decide +kernel
theorem dX7_areTwoPlaces_23 : decode cX7_areTwoPlaces 23 = .ok (.iconst 0, 1) := by decide +kernel
theorem dX7_areTwoPlaces_24 : decode cX7_areTwoPlaces 24 = .ok (.ireturn, 1) := by decide +kernel
set_option maxHeartbeats 800000 in
set_option maxRecDepth 100000 in
theorem c_X7_areTwoPlaces {l : Launch} {ω : xO} {ks : Nat → Option Nat} (hm : xsh ω = mdS ks) {a c : Int} {M : xMem} (ha : inR a) (hc : inR c) : Ct l ω yX7_areTwoPlaces ({ frames := 2, cells := 0, slots := 0, locals := 42 } : Room) 2 2 [.int (iI a), .int (iI c)] M (some (.int (iI (bI (plc a ∧ plc c ∧ a ≠ c))))) M := by
  refine Ct.of (bytes := cX7_areTwoPlaces) (ret := (some .boolean)) (lv0 := [some (.int (iI a)), some (.int (iI c))]) m_cd_X7_areTwoPlaces m_in_X7 (by decide +kernel) (by decide +kernel) rfl rfl rfl rfl (fun hR => hR) ?_
  intro κ h he hR
  refine x_iload_n h dX7_areTwoPlaces_0 rfl ?_
  refine x_S1i h dX7_areTwoPlaces_1 m_ml_X7_93 m_st_X7_isPlace (by decide) rfl (c_X7_isPlace hm (by omega)) ?_
  refine x_ifeqB h dX7_areTwoPlaces_4 (tgt := 23) (by decide) (fun q4 => ?_) (fun q4 => ?_)
  · refine x_iconst h dX7_areTwoPlaces_23 ?_
    exact x_zret h he dX7_areTwoPlaces_24 (by first | exact Or.inl rfl | exact Or.inr rfl | exact bI_01 _ | omega) rfl (by first | rfl | omega | exact (bI_t (by omega)).symm | exact (bI_f (by omega)).symm) rfl
  · refine x_iload_n h dX7_areTwoPlaces_7 rfl ?_
    refine x_S1i h dX7_areTwoPlaces_8 m_ml_X7_93 m_st_X7_isPlace (by decide) rfl (c_X7_isPlace hm (by omega)) ?_
    refine x_ifeqB h dX7_areTwoPlaces_11 (tgt := 23) (by decide) (fun q11 => ?_) (fun q11 => ?_)
    · refine x_iconst h dX7_areTwoPlaces_23 ?_
      exact x_zret h he dX7_areTwoPlaces_24 (by first | exact Or.inl rfl | exact Or.inr rfl | exact bI_01 _ | omega) rfl (by first | rfl | omega | exact (bI_t (by omega)).symm | exact (bI_f (by omega)).symm) rfl
    · refine x_iload_n h dX7_areTwoPlaces_14 rfl ?_
      refine x_iload_n h dX7_areTwoPlaces_15 rfl ?_
      refine x_icmp_eq h dX7_areTwoPlaces_16 (tgt := 23) (by decide) (by omega) (by omega) (fun q16 => ?_) (fun q16 => ?_)
      · refine x_iconst h dX7_areTwoPlaces_23 ?_
        exact x_zret h he dX7_areTwoPlaces_24 (by first | exact Or.inl rfl | exact Or.inr rfl | exact bI_01 _ | omega) rfl (by first | rfl | omega | exact (bI_t (by omega)).symm | exact (bI_f (by omega)).symm) rfl
      · refine x_iconst h dX7_areTwoPlaces_19 ?_
        refine x_goto h dX7_areTwoPlaces_20 (tgt := 24) (by decide) ?_
        exact x_zret h he dX7_areTwoPlaces_24 (by first | exact Or.inl rfl | exact Or.inr rfl | exact bI_01 _ | omega) rfl (by first | rfl | omega | exact (bI_t (by omega)).symm | exact (bI_f (by omega)).symm) rfl

theorem dX7_at_0 : decode cX7_at 0 = .ok (.bipush 113, 2) := by decide +kernel
theorem dX7_at_2 : decode cX7_at 2 = .ok (.bipush 8, 2) := by decide +kernel
theorem dX7_at_4 : decode cX7_at 4 = .ok (.iload_n 0, 1) := by decide +kernel
theorem dX7_at_5 : decode cX7_at 5 = .ok (.imul, 1) := by decide +kernel
theorem dX7_at_6 : decode cX7_at 6 = .ok (.iadd, 1) := by decide +kernel
theorem dX7_at_7 : decode cX7_at 7 = .ok (.iload_n 1, 1) := by decide +kernel
theorem dX7_at_8 : decode cX7_at 8 = .ok (.iadd, 1) := by decide +kernel
theorem dX7_at_9 : decode cX7_at 9 = .ok (.ireturn, 1) := by decide +kernel
set_option maxHeartbeats 800000 in
set_option maxRecDepth 100000 in
theorem c_X7_at {l : Launch} {ω : xO} {ks : Nat → Option Nat} (hm : xsh ω = mdS ks) {p f : Int} {M : xMem}  : Ct l ω yX7_at ({ frames := 0, cells := 0, slots := 0, locals := 0 } : Room) 2 2 [.int (iI p), .int (iI f)] M (some (.int (iI (113 + 8 * p + f)))) M := by
  refine Ct.of (bytes := cX7_at) (ret := (some .int)) (lv0 := [some (.int (iI p)), some (.int (iI f))]) m_cd_X7_at m_in_X7 (by decide +kernel) (by decide +kernel) rfl rfl rfl rfl (fun hR => hR) ?_
  intro κ h he hR
  refine x_bipush h dX7_at_0 (by decide) ?_
  refine x_bipush h dX7_at_2 (by decide) ?_
  refine x_iload_n h dX7_at_4 rfl ?_
  refine x_imul h dX7_at_5 ?_
  refine x_iadd h dX7_at_6 ?_
  refine x_iload_n h dX7_at_7 rfl ?_
  refine x_iadd h dX7_at_8 ?_
  exact x_iret (ret := none) h he dX7_at_9 rfl rfl rfl

theorem dX7_personIs_0 : decode cX7_personIs 0 = .ok (.aload_n 0, 1) := by decide +kernel
theorem dX7_personIs_1 : decode cX7_personIs 1 = .ok (.getfield 9, 3) := by decide +kernel
theorem dX7_personIs_4 : decode cX7_personIs 4 = .ok (.iload_n 1, 1) := by decide +kernel
theorem dX7_personIs_5 : decode cX7_personIs 5 = .ok (.iload_n 2, 1) := by decide +kernel
theorem dX7_personIs_6 : decode cX7_personIs 6 = .ok (.invokestatic 119, 3) := by decide +kernel
theorem dX7_personIs_9 : decode cX7_personIs 9 = .ok (.iaload, 1) := by decide +kernel
theorem dX7_personIs_10 : decode cX7_personIs 10 = .ok (.ireturn, 1) := by decide +kernel
set_option maxHeartbeats 800000 in
set_option maxRecDepth 100000 in
theorem c_X7_personIs {l : Launch} {ω : xO} {ks : Nat → Option Nat} (hm : xsh ω = mdS ks) {p f : Int} {M : xMem} (hp : 0 ≤ p ∧ p < 8) (hf : 0 ≤ f ∧ f < 8) : Ct l ω yX7_personIs ({ frames := 1, cells := 0, slots := 0, locals := 21 } : Room) 3 2 [.ref (xad ω 0), .int (iI p), .int (iI f)] M (some (.int (iI (M 1 (113 + 8 * p + f))))) M := by
  refine Ct.of (bytes := cX7_personIs) (ret := (some .int)) (lv0 := [some (.ref (xad ω 0)), some (.int (iI p)), some (.int (iI f))]) m_cd_X7_personIs m_in_X7 (by decide +kernel) (by decide +kernel) rfl rfl rfl rfl (fun hR => hR) ?_
  intro κ h he hR
  refine x_aload_n h dX7_personIs_0 rfl ?_
  refine x_getr (j := 0) (q := 1) h dX7_personIs_1 (sM0 hm) rfl in_X7 rfl (by decide) m_fl_X7_9 ?_
  refine x_iload_n h dX7_personIs_4 rfl ?_
  refine x_iload_n h dX7_personIs_5 rfl ?_
  refine x_S2i h dX7_personIs_6 m_ml_X7_119 m_st_X7_at (by decide) rfl (c_X7_at hm) ?_
  refine x_iaload h dX7_personIs_9 (sM1 hm) (by omega) (fun r9 => ?_)
  exact x_iret (ret := none) h he dX7_personIs_10 rfl (by first | rfl | omega | exact (bI_t (by omega)).symm | exact (bI_f (by omega)).symm) rfl

theorem dX7_isPerson_0 : decode cX7_isPerson 0 = .ok (.iload_n 1, 1) := by decide +kernel
theorem dX7_isPerson_1 : decode cX7_isPerson 1 = .ok (.iconst 0, 1) := by decide +kernel
theorem dX7_isPerson_2 : decode cX7_isPerson 2 = .ok (.aload_n 0, 1) := by decide +kernel
theorem dX7_isPerson_3 : decode cX7_isPerson 3 = .ok (.getfield 9, 3) := by decide +kernel
theorem dX7_isPerson_6 : decode cX7_isPerson 6 = .ok (.iconst 1, 1) := by decide +kernel
theorem dX7_isPerson_7 : decode cX7_isPerson 7 = .ok (.iaload, 1) := by decide +kernel
theorem dX7_isPerson_8 : decode cX7_isPerson 8 = .ok (.iconst 1, 1) := by decide +kernel
theorem dX7_isPerson_9 : decode cX7_isPerson 9 = .ok (.isub, 1) := by decide +kernel
theorem dX7_isPerson_10 : decode cX7_isPerson 10 = .ok (.invokestatic 81, 3) := by decide +kernel
theorem dX7_isPerson_13 : decode cX7_isPerson 13 = .ok (.ireturn, 1) := by decide +kernel
set_option maxHeartbeats 800000 in
set_option maxRecDepth 100000 in
theorem c_X7_isPerson {l : Launch} {ω : xO} {ks : Nat → Option Nat} (hm : xsh ω = mdS ks) {p : Int} {M : xMem} (hp : inR p) (hn : 0 ≤ M 1 1 ∧ M 1 1 ≤ 8) : Ct l ω yX7_isPerson ({ frames := 1, cells := 0, slots := 0, locals := 22 } : Room) 2 1 [.ref (xad ω 0), .int (iI p)] M (some (.int (iI (bI (0 ≤ p ∧ p < M 1 1))))) M := by
  refine Ct.of (bytes := cX7_isPerson) (ret := (some .boolean)) (lv0 := [some (.ref (xad ω 0)), some (.int (iI p))]) m_cd_X7_isPerson m_in_X7 (by decide +kernel) (by decide +kernel) rfl rfl rfl rfl (fun hR => hR) ?_
  intro κ h he hR
  refine x_iload_n h dX7_isPerson_0 rfl ?_
  refine x_iconst h dX7_isPerson_1 ?_
  refine x_aload_n h dX7_isPerson_2 rfl ?_
  refine x_getr (j := 0) (q := 1) h dX7_isPerson_3 (sM0 hm) rfl in_X7 rfl (by decide) m_fl_X7_9 ?_
  refine x_iconst h dX7_isPerson_6 ?_
  refine x_iaload h dX7_isPerson_7 (sM1 hm) (by omega) (fun r7 => ?_)
  refine x_iconst h dX7_isPerson_8 ?_
  refine x_isub h dX7_isPerson_9 ?_
  refine x_S3i h dX7_isPerson_10 m_ml_X7_81 m_st_X7_within (by decide) rfl (c_X7_within hm (by omega) (by omega) (by omega)) ?_
  exact x_zret h he dX7_isPerson_13 (by first | exact Or.inl rfl | exact Or.inr rfl | exact bI_01 _ | omega) rfl (bI_eq (by omega)) rfl

def coM (M : xMem) (k a e s : Int) : xMem := up (up (up (up (up (up (up (up (up M 1 (113 + 8 * M 1 1 + 0) k) 1 (113 + 8 * M 1 1 + 1) a) 1 (113 + 8 * M 1 1 + 2) e) 1 (113 + 8 * M 1 1 + 3) (-1)) 1 (113 + 8 * M 1 1 + 4) s) 1 (113 + 8 * M 1 1 + 5) 0) 1 (113 + 8 * M 1 1 + 6) 0) 1 (113 + 8 * M 1 1 + 7) 0) 1 1 (M 1 1 + 1)
theorem dX7_comes_0 : decode cX7_comes 0 = .ok (.aload_n 0, 1) := by decide +kernel
theorem dX7_comes_1 : decode cX7_comes 1 = .ok (.getfield 9, 3) := by decide +kernel
theorem dX7_comes_4 : decode cX7_comes 4 = .ok (.iconst 1, 1) := by decide +kernel
theorem dX7_comes_5 : decode cX7_comes 5 = .ok (.iaload, 1) := by decide +kernel
theorem dX7_comes_6 : decode cX7_comes 6 = .ok (.istore 5, 2) := by decide +kernel
theorem dX7_comes_8 : decode cX7_comes 8 = .ok (.aload_n 0, 1) := by decide +kernel
theorem dX7_comes_9 : decode cX7_comes 9 = .ok (.getfield 9, 3) := by decide +kernel
theorem dX7_comes_12 : decode cX7_comes 12 = .ok (.iload 5, 2) := by decide +kernel
theorem dX7_comes_14 : decode cX7_comes 14 = .ok (.iconst 0, 1) := by decide +kernel
theorem dX7_comes_15 : decode cX7_comes 15 = .ok (.invokestatic 119, 3) := by decide +kernel
theorem dX7_comes_18 : decode cX7_comes 18 = .ok (.iload_n 1, 1) := by decide +kernel
theorem dX7_comes_19 : decode cX7_comes 19 = .ok (.iastore, 1) := by decide +kernel
theorem dX7_comes_20 : decode cX7_comes 20 = .ok (.aload_n 0, 1) := by decide +kernel
theorem dX7_comes_21 : decode cX7_comes 21 = .ok (.getfield 9, 3) := by decide +kernel
theorem dX7_comes_24 : decode cX7_comes 24 = .ok (.iload 5, 2) := by decide +kernel
theorem dX7_comes_26 : decode cX7_comes 26 = .ok (.iconst 1, 1) := by decide +kernel
theorem dX7_comes_27 : decode cX7_comes 27 = .ok (.invokestatic 119, 3) := by decide +kernel
theorem dX7_comes_30 : decode cX7_comes 30 = .ok (.iload_n 2, 1) := by decide +kernel
theorem dX7_comes_31 : decode cX7_comes 31 = .ok (.iastore, 1) := by decide +kernel
theorem dX7_comes_32 : decode cX7_comes 32 = .ok (.aload_n 0, 1) := by decide +kernel
theorem dX7_comes_33 : decode cX7_comes 33 = .ok (.getfield 9, 3) := by decide +kernel
theorem dX7_comes_36 : decode cX7_comes 36 = .ok (.iload 5, 2) := by decide +kernel
theorem dX7_comes_38 : decode cX7_comes 38 = .ok (.iconst 2, 1) := by decide +kernel
theorem dX7_comes_39 : decode cX7_comes 39 = .ok (.invokestatic 119, 3) := by decide +kernel
theorem dX7_comes_42 : decode cX7_comes 42 = .ok (.iload_n 3, 1) := by decide +kernel
theorem dX7_comes_43 : decode cX7_comes 43 = .ok (.iastore, 1) := by decide +kernel
theorem dX7_comes_44 : decode cX7_comes 44 = .ok (.aload_n 0, 1) := by decide +kernel
theorem dX7_comes_45 : decode cX7_comes 45 = .ok (.getfield 9, 3) := by decide +kernel
theorem dX7_comes_48 : decode cX7_comes 48 = .ok (.iload 5, 2) := by decide +kernel
theorem dX7_comes_50 : decode cX7_comes 50 = .ok (.iconst 3, 1) := by decide +kernel
theorem dX7_comes_51 : decode cX7_comes 51 = .ok (.invokestatic 119, 3) := by decide +kernel
theorem dX7_comes_54 : decode cX7_comes 54 = .ok (.iconst (-1), 1) := by decide +kernel
theorem dX7_comes_55 : decode cX7_comes 55 = .ok (.iastore, 1) := by decide +kernel
theorem dX7_comes_56 : decode cX7_comes 56 = .ok (.aload_n 0, 1) := by decide +kernel
theorem dX7_comes_57 : decode cX7_comes 57 = .ok (.getfield 9, 3) := by decide +kernel
theorem dX7_comes_60 : decode cX7_comes 60 = .ok (.iload 5, 2) := by decide +kernel
theorem dX7_comes_62 : decode cX7_comes 62 = .ok (.iconst 4, 1) := by decide +kernel
theorem dX7_comes_63 : decode cX7_comes 63 = .ok (.invokestatic 119, 3) := by decide +kernel
theorem dX7_comes_66 : decode cX7_comes 66 = .ok (.iload 4, 2) := by decide +kernel
theorem dX7_comes_68 : decode cX7_comes 68 = .ok (.iastore, 1) := by decide +kernel
theorem dX7_comes_69 : decode cX7_comes 69 = .ok (.aload_n 0, 1) := by decide +kernel
theorem dX7_comes_70 : decode cX7_comes 70 = .ok (.getfield 9, 3) := by decide +kernel
theorem dX7_comes_73 : decode cX7_comes 73 = .ok (.iload 5, 2) := by decide +kernel
theorem dX7_comes_75 : decode cX7_comes 75 = .ok (.iconst 5, 1) := by decide +kernel
theorem dX7_comes_76 : decode cX7_comes 76 = .ok (.invokestatic 119, 3) := by decide +kernel
theorem dX7_comes_79 : decode cX7_comes 79 = .ok (.iconst 0, 1) := by decide +kernel
theorem dX7_comes_80 : decode cX7_comes 80 = .ok (.iastore, 1) := by decide +kernel
theorem dX7_comes_81 : decode cX7_comes 81 = .ok (.aload_n 0, 1) := by decide +kernel
theorem dX7_comes_82 : decode cX7_comes 82 = .ok (.getfield 9, 3) := by decide +kernel
theorem dX7_comes_85 : decode cX7_comes 85 = .ok (.iload 5, 2) := by decide +kernel
theorem dX7_comes_87 : decode cX7_comes 87 = .ok (.bipush 6, 2) := by decide +kernel
theorem dX7_comes_89 : decode cX7_comes 89 = .ok (.invokestatic 119, 3) := by decide +kernel
theorem dX7_comes_92 : decode cX7_comes 92 = .ok (.iconst 0, 1) := by decide +kernel
theorem dX7_comes_93 : decode cX7_comes 93 = .ok (.iastore, 1) := by decide +kernel
theorem dX7_comes_94 : decode cX7_comes 94 = .ok (.aload_n 0, 1) := by decide +kernel
theorem dX7_comes_95 : decode cX7_comes 95 = .ok (.getfield 9, 3) := by decide +kernel
theorem dX7_comes_98 : decode cX7_comes 98 = .ok (.iload 5, 2) := by decide +kernel
theorem dX7_comes_100 : decode cX7_comes 100 = .ok (.bipush 7, 2) := by decide +kernel
theorem dX7_comes_102 : decode cX7_comes 102 = .ok (.invokestatic 119, 3) := by decide +kernel
theorem dX7_comes_105 : decode cX7_comes 105 = .ok (.iconst 0, 1) := by decide +kernel
theorem dX7_comes_106 : decode cX7_comes 106 = .ok (.iastore, 1) := by decide +kernel
theorem dX7_comes_107 : decode cX7_comes 107 = .ok (.aload_n 0, 1) := by decide +kernel
theorem dX7_comes_108 : decode cX7_comes 108 = .ok (.getfield 9, 3) := by decide +kernel
theorem dX7_comes_111 : decode cX7_comes 111 = .ok (.iconst 1, 1) := by decide +kernel
theorem dX7_comes_112 : decode cX7_comes 112 = .ok (.dup2, 1) := by decide +kernel
theorem dX7_comes_113 : decode cX7_comes 113 = .ok (.iaload, 1) := by decide +kernel
theorem dX7_comes_114 : decode cX7_comes 114 = .ok (.iconst 1, 1) := by decide +kernel
theorem dX7_comes_115 : decode cX7_comes 115 = .ok (.iadd, 1) := by decide +kernel
theorem dX7_comes_116 : decode cX7_comes 116 = .ok (.iastore, 1) := by decide +kernel
theorem dX7_comes_117 : decode cX7_comes 117 = .ok (.iload 5, 2) := by decide +kernel
theorem dX7_comes_119 : decode cX7_comes 119 = .ok (.ireturn, 1) := by decide +kernel
set_option maxHeartbeats 800000 in
set_option maxRecDepth 100000 in
theorem c_X7_comes {l : Launch} {ω : xO} {ks : Nat → Option Nat} (hm : xsh ω = mdS ks) {k a e s : Int} {M : xMem} (hn : 0 ≤ M 1 1 ∧ M 1 1 < 8) (hk : inR k) (ha : inR a) (he1 : inR e) (hs1 : inR s) : Ct l ω yX7_comes ({ frames := 1, cells := 0, slots := 0, locals := 21 } : Room) 6 4 [.ref (xad ω 0), .int (iI k), .int (iI a), .int (iI e), .int (iI s)] M (some (.int (iI (M 1 1)))) (coM M k a e s) := by
  refine Ct.of (bytes := cX7_comes) (ret := (some .int)) (lv0 := [some (.ref (xad ω 0)), some (.int (iI k)), some (.int (iI a)), some (.int (iI e)), some (.int (iI s)), none]) m_cd_X7_comes m_in_X7 (by decide +kernel) (by decide +kernel) rfl rfl rfl rfl (fun hR => by unfold coM; exact up_R (up_R (up_R (up_R (up_R (up_R (up_R (up_R (up_R hR hk) ha) he1) (by decide)) hs1) (by decide)) (by decide)) (by decide)) (by omega)) ?_
  intro κ h he hR
  refine x_aload_n h dX7_comes_0 rfl ?_
  refine x_getr (j := 0) (q := 1) h dX7_comes_1 (sM0 hm) rfl in_X7 rfl (by decide) m_fl_X7_9 ?_
  refine x_iconst h dX7_comes_4 ?_
  refine x_iaload h dX7_comes_5 (sM1 hm) (by omega) (fun r5 => ?_)
  refine x_istore h dX7_comes_6 rfl rfl ?_
  dsimp only [xset]
  refine x_aload_n h dX7_comes_8 rfl ?_
  refine x_getr (j := 0) (q := 1) h dX7_comes_9 (sM0 hm) rfl in_X7 rfl (by decide) m_fl_X7_9 ?_
  refine x_iload h dX7_comes_12 rfl ?_
  refine x_iconst h dX7_comes_14 ?_
  refine x_S2i h dX7_comes_15 m_ml_X7_119 m_st_X7_at (by decide) rfl (c_X7_at hm) ?_
  refine x_iload_n h dX7_comes_18 rfl ?_
  refine x_iastore h dX7_comes_19 (sM1 hm) (by omega) (by omega) ?_
  refine x_aload_n h dX7_comes_20 rfl ?_
  refine x_getr (j := 0) (q := 1) h dX7_comes_21 (sM0 hm) rfl in_X7 rfl (by decide) m_fl_X7_9 ?_
  refine x_iload h dX7_comes_24 rfl ?_
  refine x_iconst h dX7_comes_26 ?_
  refine x_S2i h dX7_comes_27 m_ml_X7_119 m_st_X7_at (by decide) rfl (c_X7_at hm) ?_
  refine x_iload_n h dX7_comes_30 rfl ?_
  refine x_iastore h dX7_comes_31 (sM1 hm) (by omega) (by omega) ?_
  refine x_aload_n h dX7_comes_32 rfl ?_
  refine x_getr (j := 0) (q := 1) h dX7_comes_33 (sM0 hm) rfl in_X7 rfl (by decide) m_fl_X7_9 ?_
  refine x_iload h dX7_comes_36 rfl ?_
  refine x_iconst h dX7_comes_38 ?_
  refine x_S2i h dX7_comes_39 m_ml_X7_119 m_st_X7_at (by decide) rfl (c_X7_at hm) ?_
  refine x_iload_n h dX7_comes_42 rfl ?_
  refine x_iastore h dX7_comes_43 (sM1 hm) (by omega) (by omega) ?_
  refine x_aload_n h dX7_comes_44 rfl ?_
  refine x_getr (j := 0) (q := 1) h dX7_comes_45 (sM0 hm) rfl in_X7 rfl (by decide) m_fl_X7_9 ?_
  refine x_iload h dX7_comes_48 rfl ?_
  refine x_iconst h dX7_comes_50 ?_
  refine x_S2i h dX7_comes_51 m_ml_X7_119 m_st_X7_at (by decide) rfl (c_X7_at hm) ?_
  refine x_iconst h dX7_comes_54 ?_
  refine x_iastore h dX7_comes_55 (sM1 hm) (by omega) (by omega) ?_
  refine x_aload_n h dX7_comes_56 rfl ?_
  refine x_getr (j := 0) (q := 1) h dX7_comes_57 (sM0 hm) rfl in_X7 rfl (by decide) m_fl_X7_9 ?_
  refine x_iload h dX7_comes_60 rfl ?_
  refine x_iconst h dX7_comes_62 ?_
  refine x_S2i h dX7_comes_63 m_ml_X7_119 m_st_X7_at (by decide) rfl (c_X7_at hm) ?_
  refine x_iload h dX7_comes_66 rfl ?_
  refine x_iastore h dX7_comes_68 (sM1 hm) (by omega) (by omega) ?_
  refine x_aload_n h dX7_comes_69 rfl ?_
  refine x_getr (j := 0) (q := 1) h dX7_comes_70 (sM0 hm) rfl in_X7 rfl (by decide) m_fl_X7_9 ?_
  refine x_iload h dX7_comes_73 rfl ?_
  refine x_iconst h dX7_comes_75 ?_
  refine x_S2i h dX7_comes_76 m_ml_X7_119 m_st_X7_at (by decide) rfl (c_X7_at hm) ?_
  refine x_iconst h dX7_comes_79 ?_
  refine x_iastore h dX7_comes_80 (sM1 hm) (by omega) (by omega) ?_
  refine x_aload_n h dX7_comes_81 rfl ?_
  refine x_getr (j := 0) (q := 1) h dX7_comes_82 (sM0 hm) rfl in_X7 rfl (by decide) m_fl_X7_9 ?_
  refine x_iload h dX7_comes_85 rfl ?_
  refine x_bipush h dX7_comes_87 (by decide) ?_
  refine x_S2i h dX7_comes_89 m_ml_X7_119 m_st_X7_at (by decide) rfl (c_X7_at hm) ?_
  refine x_iconst h dX7_comes_92 ?_
  refine x_iastore h dX7_comes_93 (sM1 hm) (by omega) (by omega) ?_
  refine x_aload_n h dX7_comes_94 rfl ?_
  refine x_getr (j := 0) (q := 1) h dX7_comes_95 (sM0 hm) rfl in_X7 rfl (by decide) m_fl_X7_9 ?_
  refine x_iload h dX7_comes_98 rfl ?_
  refine x_bipush h dX7_comes_100 (by decide) ?_
  refine x_S2i h dX7_comes_102 m_ml_X7_119 m_st_X7_at (by decide) rfl (c_X7_at hm) ?_
  refine x_iconst h dX7_comes_105 ?_
  refine x_iastore h dX7_comes_106 (sM1 hm) (by omega) (by omega) ?_
  refine x_aload_n h dX7_comes_107 rfl ?_
  refine x_getr (j := 0) (q := 1) h dX7_comes_108 (sM0 hm) rfl in_X7 rfl (by decide) m_fl_X7_9 ?_
  refine x_iconst h dX7_comes_111 ?_
  refine x_dup2 h dX7_comes_112 rfl rfl ?_
  refine x_iaload h dX7_comes_113 (sM1 hm) (by omega) (fun r113 => ?_)
  rw [show up (up (up (up (up (up (up (up M 1 (113 + 8 * M 1 1 + 0) k) 1 (113 + 8 * M 1 1 + 1) a) 1 (113 + 8 * M 1 1 + 2) e) 1 (113 + 8 * M 1 1 + 3) (-1)) 1 (113 + 8 * M 1 1 + 4) s) 1 (113 + 8 * M 1 1 + 5) 0) 1 (113 + 8 * M 1 1 + 6) 0) 1 (113 + 8 * M 1 1 + 7) 0 1 1 = M 1 1 by rw [up_nn (by omega), up_nn (by omega), up_nn (by omega), up_nn (by omega), up_nn (by omega), up_nn (by omega), up_nn (by omega), up_nn (by omega)]]
  refine x_iconst h dX7_comes_114 ?_
  refine x_iadd h dX7_comes_115 ?_
  refine x_iastore h dX7_comes_116 (sM1 hm) (by omega) (by omega) ?_
  refine x_iload h dX7_comes_117 rfl ?_
  exact x_iret (ret := none) h he dX7_comes_119 rfl rfl rfl

theorem dX7_above_0 : decode cX7_above 0 = .ok (.iload_n 0, 1) := by decide +kernel
theorem dX7_above_1 : decode cX7_above 1 = .ok (.ifCond .ne 7, 3) := by decide +kernel
theorem dX7_above_4 : decode cX7_above 4 = .ok (.iconst (-1), 1) := by decide +kernel
theorem dX7_above_5 : decode cX7_above 5 = .ok (.goto 32, 3) := by decide +kernel
theorem dX7_above_8 : decode cX7_above 8 = .ok (.iload_n 0, 1) := by decide +kernel
theorem dX7_above_9 : decode cX7_above 9 = .ok (.iconst 3, 1) := by decide +kernel
theorem dX7_above_10 : decode cX7_above 10 = .ok (.if_icmp .ne 7, 3) := by decide +kernel
theorem dX7_above_13 : decode cX7_above 13 = .ok (.iconst 2, 1) := by decide +kernel
theorem dX7_above_14 : decode cX7_above 14 = .ok (.goto 23, 3) := by decide +kernel
theorem dX7_above_17 : decode cX7_above 17 = .ok (.iload_n 0, 1) := by decide +kernel
theorem dX7_above_18 : decode cX7_above 18 = .ok (.iconst 4, 1) := by decide +kernel
theorem dX7_above_19 : decode cX7_above 19 = .ok (.if_icmp .ne 7, 3) := by decide +kernel
theorem dX7_above_22 : decode cX7_above 22 = .ok (.iconst 3, 1) := by decide +kernel
theorem dX7_above_23 : decode cX7_above 23 = .ok (.goto 14, 3) := by decide +kernel
theorem dX7_above_26 : decode cX7_above 26 = .ok (.iload_n 0, 1) := by decide +kernel
theorem dX7_above_27 : decode cX7_above 27 = .ok (.bipush 6, 2) := by decide +kernel
theorem dX7_above_29 : decode cX7_above 29 = .ok (.if_icmp .ne 7, 3) := by decide +kernel
theorem dX7_above_32 : decode cX7_above 32 = .ok (.iconst 1, 1) := by decide +kernel
theorem dX7_above_33 : decode cX7_above 33 = .ok (.goto 4, 3) := by decide +kernel
theorem dX7_above_36 : decode cX7_above 36 = .ok (.iconst 0, 1) := by decide +kernel
theorem dX7_above_37 : decode cX7_above 37 = .ok (.ireturn, 1) := by decide +kernel
set_option maxHeartbeats 800000 in
set_option maxRecDepth 100000 in
theorem c_X7_above {l : Launch} {ω : xO} {ks : Nat → Option Nat} (hm : xsh ω = mdS ks) {k : Int} {M : xMem} (hk : 0 ≤ k ∧ k ≤ 6) : Ct l ω yX7_above ({ frames := 0, cells := 0, slots := 0, locals := 0 } : Room) 1 1 [.int (iI k)] M (some (.int (iI (kaF k)))) M := by
  refine Ct.of (bytes := cX7_above) (ret := (some .int)) (lv0 := [some (.int (iI k))]) m_cd_X7_above m_in_X7 (by decide +kernel) (by decide +kernel) rfl rfl rfl rfl (fun hR => hR) ?_
  intro κ h he hR
  refine x_iload_n h dX7_above_0 rfl ?_
  refine x_if_ne h dX7_above_1 (tgt := 8) (by decide) (by omega) (fun q1 => ?_) (fun q1 => ?_)
  · refine x_iload_n h dX7_above_8 rfl ?_
    refine x_iconst h dX7_above_9 ?_
    refine x_icmp_ne h dX7_above_10 (tgt := 17) (by decide) (by omega) (by omega) (fun q10 => ?_) (fun q10 => ?_)
    · refine x_iload_n h dX7_above_17 rfl ?_
      refine x_iconst h dX7_above_18 ?_
      refine x_icmp_ne h dX7_above_19 (tgt := 26) (by decide) (by omega) (by omega) (fun q19 => ?_) (fun q19 => ?_)
      · refine x_iload_n h dX7_above_26 rfl ?_
        refine x_bipush h dX7_above_27 (by decide) ?_
        refine x_icmp_ne h dX7_above_29 (tgt := 36) (by decide) (by omega) (by omega) (fun q29 => ?_) (fun q29 => ?_)
        · refine x_iconst h dX7_above_36 ?_
          exact x_iret (ret := none) h he dX7_above_37 rfl (by unfold kaF; (repeat' split) <;> first | rfl | omega) rfl
        · refine x_iconst h dX7_above_32 ?_
          refine x_goto h dX7_above_33 (tgt := 37) (by decide) ?_
          exact x_iret (ret := none) h he dX7_above_37 rfl (by unfold kaF; (repeat' split) <;> first | rfl | omega) rfl
      · refine x_iconst h dX7_above_22 ?_
        refine x_goto h dX7_above_23 (tgt := 37) (by decide) ?_
        exact x_iret (ret := none) h he dX7_above_37 rfl (by unfold kaF; (repeat' split) <;> first | rfl | omega) rfl
    · refine x_iconst h dX7_above_13 ?_
      refine x_goto h dX7_above_14 (tgt := 37) (by decide) ?_
      exact x_iret (ret := none) h he dX7_above_37 rfl (by unfold kaF; (repeat' split) <;> first | rfl | omega) rfl
  · refine x_iconst h dX7_above_4 ?_
    refine x_goto h dX7_above_5 (tgt := 37) (by decide) ?_
    exact x_iret (ret := none) h he dX7_above_37 rfl (by unfold kaF; (repeat' split) <;> first | rfl | omega) rfl
