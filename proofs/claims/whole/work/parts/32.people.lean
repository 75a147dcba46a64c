/-! the reference: what people are, what they want -/
theorem dN_ca {N : xMem} {f : Int} {d : Int → Int} : dN (ca N f d) = dN N := rfl
theorem wyM_ca {N : xMem} {f : Int} {d : Int → Int} : wyM (ca N f d) = wyM N := rfl
/-- what stands of a country in the reference -/
def MInv (M : xMem) : Prop := (0 ≤ M 1 1 ∧ M 1 1 ≤ 8) ∧ 0 ≤ M 1 0 ∧ LB (wyM M) ∧ ∀ p, 0 ≤ p → p < M 1 1 → ((0 ≤ M 1 (113 + 8 * p + 0) ∧ M 1 (113 + 8 * p + 0) ≤ 6) ∧ (0 ≤ M 1 (113 + 8 * p + 1) ∧ M 1 (113 + 8 * p + 1) < 10) ∧ (0 ≤ M 1 (113 + 8 * p + 2) ∧ M 1 (113 + 8 * p + 2) < 10) ∧ (-1 ≤ M 1 (113 + 8 * p + 3) ∧ M 1 (113 + 8 * p + 3) < M 1 1) ∧ (0 ≤ M 1 (113 + 8 * p + 4) ∧ M 1 (113 + 8 * p + 4) ≤ 9) ∧ (0 ≤ M 1 (113 + 8 * p + 5) ∧ M 1 (113 + 8 * p + 5) ≤ 999) ∧ (0 ≤ M 1 (113 + 8 * p + 6) ∧ M 1 (113 + 8 * p + 6) ≤ 9999) ∧ (0 ≤ M 1 (113 + 8 * p + 7) ∧ M 1 (113 + 8 * p + 7) ≤ 9999))
def plN (M : xMem) (p : Int) : Int := pullsF (M 1 (113 + 8 * p + 0)) (M 1 (113 + 8 * p + 4)) (M 1 0)
theorem plN_ca {N : xMem} {f : Int} {d : Int → Int} {p : Int} : plN (ca N f d) p = plN N p := rfl
def rpN (M : xMem) (p : Int) : Int := M 1 (113 + 8 * p + 5) + slk (M 1 (113 + 8 * p + 0)) + slk (M 1 (113 + 8 * M 1 (113 + 8 * p + 3) + 0))
theorem rpN_ca {N : xMem} {f : Int} {d : Int → Int} {p : Int} : rpN (ca N f d) p = rpN N p := rfl
def ltN (M : xMem) (p a m : Int) : Prop := M 1 (113 + 8 * p + 3) < 0 ∨ dN M (10 * a + m) ≤ rpN M p
theorem ltN_ca {N : xMem} {f : Int} {d : Int → Int} {p a m : Int} : ltN (ca N f d) p a m = ltN N p a m := rfl
def pmN (M : xMem) (p : Int) : Int := if 0 ≤ M 1 (113 + 8 * p + 3) then M 1 (113 + 8 * M 1 (113 + 8 * p + 3) + 1) else 0
theorem pmN_ca {N : xMem} {f : Int} {d : Int → Int} {p : Int} : pmN (ca N f d) p = pmN N p := rfl
noncomputable def wnN (M : xMem) (p : Int) : Int := nxF (wyM M) (dN M) (M 1 (113 + 8 * p + 1)) (M 1 (113 + 8 * p + 2))
theorem wnN_ca {N : xMem} {f : Int} {d : Int → Int} {p : Int} : wnN (ca N f d) p = wnN N p := rfl
def nbD (L D : Int → Int) (a c : Int) : Nat → Int → Int
  | 0, acc => acc
  | k + 1, acc => nbD L D a c k (if 0 < L (a * 10 + (k : Int)) ∧ (acc < 0 ∨ D ((k : Int) * 10 + c) ≤ D (acc * 10 + c)) then (k : Int) else acc)
def nbN (M : xMem) (a c : Int) : Int := nbD (wyM M) (dN M) a c 10 (-1)
theorem nbN_ca {N : xMem} {f : Int} {d : Int → Int} {a c : Int} : nbN (ca N f d) a c = nbN N a c := rfl
theorem nxF_x {L D : Int → Int} {a c x : Int} (h1 : a ≠ c) (h2 : D (a * 10 + c) ≠ 999) (hx : 0 ≤ x ∧ x < 10) (hP : nxP L D a c x) (hn : ∀ y, 0 ≤ y → y < x → ¬ nxP L D a c y) : nxF L D a c = x := by
  unfold nxF
  rw [tI_n (by omega)]
  exact fsF_first 10 0 a x hx.1 (by omega) hP hn
theorem nxF_e {L D : Int → Int} {a c : Int} (h : a = c ∨ D (a * 10 + c) = 999) : nxF L D a c = a := by
  unfold nxF
  rw [tI_p h]
theorem dX7_pullsOf_0 : decode cX7_pullsOf 0 = .ok (.aload_n 0, 1) := by decide +kernel
theorem dX7_pullsOf_1 : decode cX7_pullsOf 1 = .ok (.iload_n 1, 1) := by decide +kernel
theorem dX7_pullsOf_2 : decode cX7_pullsOf 2 = .ok (.iconst 4, 1) := by decide +kernel
theorem dX7_pullsOf_3 : decode cX7_pullsOf 3 = .ok (.invokevirtual 133, 3) := by decide +kernel
theorem dX7_pullsOf_6 : decode cX7_pullsOf 6 = .ok (.istore_n 2, 1) := by decide +kernel
theorem dX7_pullsOf_7 : decode cX7_pullsOf 7 = .ok (.iconst 0, 1) := by decide +kernel
theorem dX7_pullsOf_8 : decode cX7_pullsOf 8 = .ok (.iload_n 2, 1) := by decide +kernel
theorem dX7_pullsOf_9 : decode cX7_pullsOf 9 = .ok (.iconst 1, 1) := by decide +kernel
theorem dX7_pullsOf_10 : decode cX7_pullsOf 10 = .ok (.isub, 1) := by decide +kernel
theorem dX7_pullsOf_11 : decode cX7_pullsOf 11 = .ok (.invokestatic 136, 3) := by decide +kernel
theorem dX7_pullsOf_14 : decode cX7_pullsOf 14 = .ok (.istore_n 3, 1) := by decide +kernel
theorem dX7_pullsOf_15 : decode cX7_pullsOf 15 = .ok (.iload_n 3, 1) := by decide +kernel
theorem dX7_pullsOf_16 : decode cX7_pullsOf 16 = .ok (.aload_n 0, 1) := by decide +kernel
theorem dX7_pullsOf_17 : decode cX7_pullsOf 17 = .ok (.getfield 9, 3) := by decide +kernel
theorem dX7_pullsOf_20 : decode cX7_pullsOf 20 = .ok (.iconst 0, 1) := by decide +kernel
theorem dX7_pullsOf_21 : decode cX7_pullsOf 21 = .ok (.iaload, 1) := by decide +kernel
theorem dX7_pullsOf_22 : decode cX7_pullsOf 22 = .ok (.iconst 2, 1) := by decide +kernel
theorem dX7_pullsOf_23 : decode cX7_pullsOf 23 = .ok (.irem, 1) := by decide +kernel
theorem dX7_pullsOf_24 : decode cX7_pullsOf 24 = .ok (.ifCond .ne 7, 3) := by decide +kernel
theorem dX7_pullsOf_27 : decode cX7_pullsOf 27 = .ok (.iconst 2, 1) := by decide +kernel
theorem dX7_pullsOf_28 : decode cX7_pullsOf 28 = .ok (.goto 4, 3) := by decide +kernel
theorem dX7_pullsOf_31 : decode cX7_pullsOf 31 = .ok (.iconst 0, 1) := by decide +kernel
theorem dX7_pullsOf_32 : decode cX7_pullsOf 32 = .ok (.iadd, 1) := by decide +kernel
theorem dX7_pullsOf_33 : decode cX7_pullsOf 33 = .ok (.istore 4, 2) := by decide +kernel
theorem dX7_pullsOf_35 : decode cX7_pullsOf 35 = .ok (.aload_n 0, 1) := by decide +kernel
theorem dX7_pullsOf_36 : decode cX7_pullsOf 36 = .ok (.iload_n 1, 1) := by decide +kernel
theorem dX7_pullsOf_37 : decode cX7_pullsOf 37 = .ok (.iconst 0, 1) := by decide +kernel
theorem dX7_pullsOf_38 : decode cX7_pullsOf 38 = .ok (.invokevirtual 133, 3) := by decide +kernel
theorem dX7_pullsOf_41 : decode cX7_pullsOf 41 = .ok (.tableswitch 59 1 6 #[39, 43, 45, 48, 59, 53], 39) := by decide +kernel
theorem dX7_pullsOf_80 : decode cX7_pullsOf 80 = .ok (.iload_n 2, 1) := by decide +kernel
theorem dX7_pullsOf_81 : decode cX7_pullsOf 81 = .ok (.iconst 5, 1) := by decide +kernel
theorem dX7_pullsOf_82 : decode cX7_pullsOf 82 = .ok (.iadd, 1) := by decide +kernel
theorem dX7_pullsOf_83 : decode cX7_pullsOf 83 = .ok (.ireturn, 1) := by decide +kernel
theorem dX7_pullsOf_84 : decode cX7_pullsOf 84 = .ok (.iload_n 3, 1) := by decide +kernel
theorem dX7_pullsOf_85 : decode cX7_pullsOf 85 = .ok (.ireturn, 1) := by decide +kernel
theorem dX7_pullsOf_86 : decode cX7_pullsOf 86 = .ok (.iload 4, 2) := by decide +kernel
theorem dX7_pullsOf_88 : decode cX7_pullsOf 88 = .ok (.ireturn, 1) := by decide +kernel
theorem dX7_pullsOf_89 : decode cX7_pullsOf 89 = .ok (.iload 4, 2) := by decide +kernel
theorem dX7_pullsOf_91 : decode cX7_pullsOf 91 = .ok (.iconst 2, 1) := by decide +kernel
theorem dX7_pullsOf_92 : decode cX7_pullsOf 92 = .ok (.idiv, 1) := by decide +kernel
theorem dX7_pullsOf_93 : decode cX7_pullsOf 93 = .ok (.ireturn, 1) := by decide +kernel
theorem dX7_pullsOf_94 : decode cX7_pullsOf 94 = .ok (.iconst 2, 1) := by decide +kernel
theorem dX7_pullsOf_95 : decode cX7_pullsOf 95 = .ok (.iload_n 2, 1) := by decide +kernel
theorem dX7_pullsOf_96 : decode cX7_pullsOf 96 = .ok (.iconst 5, 1) := by decide +kernel
theorem dX7_pullsOf_97 : decode cX7_pullsOf 97 = .ok (.iadd, 1) := by decide +kernel
theorem dX7_pullsOf_98 : decode cX7_pullsOf 98 = .ok (.imul, 1) := by decide +kernel
theorem dX7_pullsOf_99 : decode cX7_pullsOf 99 = .ok (.ireturn, 1) := by decide +kernel
theorem dX7_pullsOf_100 : decode cX7_pullsOf 100 = .ok (.iload_n 2, 1) := by decide +kernel
theorem dX7_pullsOf_101 : decode cX7_pullsOf 101 = .ok (.ireturn, 1) := by decide +kernel
set_option maxHeartbeats 800000 in
set_option maxRecDepth 100000 in
theorem c_X7_pullsOf {l : Launch} {ω : xO} {ks : Nat → Option Nat} (hm : xsh ω = mdS ks) {p : Int} {M : xMem} (hI : MInv M) (hp : 0 ≤ p ∧ p < M 1 1) : Ct l ω yX7_pullsOf ({ frames := 2, cells := 0, slots := 0, locals := 43 } : Room) 5 1 [.ref (xad ω 0), .int (iI p)] M (some (.int (iI (plN M p)))) M := by
  refine Ct.of (bytes := cX7_pullsOf) (ret := (some .int)) (lv0 := [some (.ref (xad ω 0)), some (.int (iI p)), none, none, none]) m_cd_X7_pullsOf m_in_X7 (by decide +kernel) (by decide +kernel) rfl rfl rfl rfl (fun hR => hR) ?_
  intro κ h he hR
  have hn := hI.1
  have hk := hI.2.1
  have hL := hI.2.2.1
  have ip := hI.2.2.2 p hp.1 hp.2
  have hr := hR 1 0
  have e1 : brem (M 1 0) 2 = M 1 0 % 2 := brem_p (by omega) (by decide)
  have e2 : ∀ x : Int, 0 ≤ x → x ≤ 100 → bdiv x 2 = x / 2 := fun x h1 h2 => bdiv_p ⟨h1, by omega⟩ (by decide)
  refine x_aload_n h dX7_pullsOf_0 rfl ?_
  refine x_iload_n h dX7_pullsOf_1 rfl ?_
  refine x_iconst h dX7_pullsOf_2 ?_
  refine x_V2i h dX7_pullsOf_3 m_ml_X7_133 m_im_X7_personIs m_se_X7_personIs (sM0 hm) rfl (by decide) rfl (c_X7_personIs hm (by omega) (by omega)) ?_
  refine x_istore_n h dX7_pullsOf_6 rfl rfl ?_
  dsimp only [xset]
  refine x_iconst h dX7_pullsOf_7 ?_
  refine x_iload_n h dX7_pullsOf_8 rfl ?_
  refine x_iconst h dX7_pullsOf_9 ?_
  refine x_isub h dX7_pullsOf_10 ?_
  refine x_max h dX7_pullsOf_11 m_ml_X7_136 rfl (by decide) (by omega) (by omega) ?_
  refine x_istore_n h dX7_pullsOf_14 rfl rfl ?_
  dsimp only [xset]
  rw [show max 0 (M 1 (113 + 8 * p + 4) - 1) = rnF (M 1 (113 + 8 * p + 4)) by unfold rnF; split <;> omega]
  refine x_iload_n h dX7_pullsOf_15 rfl ?_
  refine x_aload_n h dX7_pullsOf_16 rfl ?_
  refine x_getr (j := 0) (q := 1) h dX7_pullsOf_17 (sM0 hm) rfl in_X7 rfl (by decide) m_fl_X7_9 ?_
  refine x_iconst h dX7_pullsOf_20 ?_
  refine x_iaload h dX7_pullsOf_21 (sM1 hm) (by omega) (fun r21 => ?_)
  refine x_iconst h dX7_pullsOf_22 ?_
  refine x_irem h dX7_pullsOf_23 (by omega) (fun r23 => ?_)
  rw [e1]
  refine x_if_ne h dX7_pullsOf_24 (tgt := 31) (by decide) (by omega) (fun q24 => ?_) (fun q24 => ?_)
  · refine x_iconst h dX7_pullsOf_31 ?_
    refine x_iadd h dX7_pullsOf_32 ?_
    refine x_istore h dX7_pullsOf_33 rfl rfl ?_
    dsimp only [xset]
    refine x_aload_n h dX7_pullsOf_35 rfl ?_
    refine x_iload_n h dX7_pullsOf_36 rfl ?_
    refine x_iconst h dX7_pullsOf_37 ?_
    refine x_V2i h dX7_pullsOf_38 m_ml_X7_133 m_im_X7_personIs m_se_X7_personIs (sM0 hm) rfl (by decide) rfl (c_X7_personIs hm (by omega) (by omega)) ?_
    by_cases sw41 : M 1 (113 + 8 * p + 0) < 1 ∨ 6 < M 1 (113 + 8 * p + 0)
    · refine x_tsOut h dX7_pullsOf_41 (by omega) sw41 (tgt := 100) (by decide) ?_
      refine x_iload_n h dX7_pullsOf_100 rfl ?_
      exact x_iret (ret := none) h he dX7_pullsOf_101 rfl (by unfold plN pullsF dnF rnF; (repeat' split) <;> first | rfl | omega) rfl
    rcases (show M 1 (113 + 8 * p + 0) = 1 ∨ M 1 (113 + 8 * p + 0) = 2 ∨ M 1 (113 + 8 * p + 0) = 3 ∨ M 1 (113 + 8 * p + 0) = 4 ∨ M 1 (113 + 8 * p + 0) = 5 ∨ M 1 (113 + 8 * p + 0) = 6 by omega) with q41 | q41 | q41 | q41 | q41 | q41
    · refine x_tsIn 1 h dX7_pullsOf_41 q41 (by decide) rfl (tgt := 80) (by decide) ?_
      refine x_iload_n h dX7_pullsOf_80 rfl ?_
      refine x_iconst h dX7_pullsOf_81 ?_
      refine x_iadd h dX7_pullsOf_82 ?_
      exact x_iret (ret := none) h he dX7_pullsOf_83 rfl (by unfold plN pullsF dnF rnF; (repeat' split) <;> first | rfl | omega) rfl
    · refine x_tsIn 2 h dX7_pullsOf_41 q41 (by decide) rfl (tgt := 84) (by decide) ?_
      refine x_iload_n h dX7_pullsOf_84 rfl ?_
      exact x_iret (ret := none) h he dX7_pullsOf_85 rfl (by unfold plN pullsF dnF rnF; (repeat' split) <;> first | rfl | omega) rfl
    · refine x_tsIn 3 h dX7_pullsOf_41 q41 (by decide) rfl (tgt := 86) (by decide) ?_
      refine x_iload h dX7_pullsOf_86 rfl ?_
      exact x_iret (ret := none) h he dX7_pullsOf_88 rfl (by unfold plN pullsF dnF rnF; (repeat' split) <;> first | rfl | omega) rfl
    · refine x_tsIn 4 h dX7_pullsOf_41 q41 (by decide) rfl (tgt := 89) (by decide) ?_
      refine x_iload h dX7_pullsOf_89 rfl ?_
      refine x_iconst h dX7_pullsOf_91 ?_
      refine x_idiv h dX7_pullsOf_92 (by omega) (fun r92 => ?_)
      try rw [e2 _ (by unfold rnF; (repeat' split) <;> omega) (by unfold rnF; (repeat' split) <;> omega)]
      exact x_iret (ret := none) h he dX7_pullsOf_93 rfl (by unfold plN pullsF dnF rnF; (repeat' split) <;> first | rfl | omega) rfl
    · refine x_tsIn 5 h dX7_pullsOf_41 q41 (by decide) rfl (tgt := 100) (by decide) ?_
      refine x_iload_n h dX7_pullsOf_100 rfl ?_
      exact x_iret (ret := none) h he dX7_pullsOf_101 rfl (by unfold plN pullsF dnF rnF; (repeat' split) <;> first | rfl | omega) rfl
    · refine x_tsIn 6 h dX7_pullsOf_41 q41 (by decide) rfl (tgt := 94) (by decide) ?_
      refine x_iconst h dX7_pullsOf_94 ?_
      refine x_iload_n h dX7_pullsOf_95 rfl ?_
      refine x_iconst h dX7_pullsOf_96 ?_
      refine x_iadd h dX7_pullsOf_97 ?_
      refine x_imul h dX7_pullsOf_98 ?_
      exact x_iret (ret := none) h he dX7_pullsOf_99 rfl (by unfold plN pullsF dnF rnF; (repeat' split) <;> first | rfl | omega) rfl
  · refine x_iconst h dX7_pullsOf_27 ?_
    refine x_goto h dX7_pullsOf_28 (tgt := 32) (by decide) ?_
    refine x_iadd h dX7_pullsOf_32 ?_
    refine x_istore h dX7_pullsOf_33 rfl rfl ?_
    dsimp only [xset]
    refine x_aload_n h dX7_pullsOf_35 rfl ?_
    refine x_iload_n h dX7_pullsOf_36 rfl ?_
    refine x_iconst h dX7_pullsOf_37 ?_
    refine x_V2i h dX7_pullsOf_38 m_ml_X7_133 m_im_X7_personIs m_se_X7_personIs (sM0 hm) rfl (by decide) rfl (c_X7_personIs hm (by omega) (by omega)) ?_
    by_cases sw41 : M 1 (113 + 8 * p + 0) < 1 ∨ 6 < M 1 (113 + 8 * p + 0)
    · refine x_tsOut h dX7_pullsOf_41 (by omega) sw41 (tgt := 100) (by decide) ?_
      refine x_iload_n h dX7_pullsOf_100 rfl ?_
      exact x_iret (ret := none) h he dX7_pullsOf_101 rfl (by unfold plN pullsF dnF rnF; (repeat' split) <;> first | rfl | omega) rfl
    rcases (show M 1 (113 + 8 * p + 0) = 1 ∨ M 1 (113 + 8 * p + 0) = 2 ∨ M 1 (113 + 8 * p + 0) = 3 ∨ M 1 (113 + 8 * p + 0) = 4 ∨ M 1 (113 + 8 * p + 0) = 5 ∨ M 1 (113 + 8 * p + 0) = 6 by omega) with q41 | q41 | q41 | q41 | q41 | q41
    · refine x_tsIn 1 h dX7_pullsOf_41 q41 (by decide) rfl (tgt := 80) (by decide) ?_
      refine x_iload_n h dX7_pullsOf_80 rfl ?_
      refine x_iconst h dX7_pullsOf_81 ?_
      refine x_iadd h dX7_pullsOf_82 ?_
      exact x_iret (ret := none) h he dX7_pullsOf_83 rfl (by unfold plN pullsF dnF rnF; (repeat' split) <;> first | rfl | omega) rfl
    · refine x_tsIn 2 h dX7_pullsOf_41 q41 (by decide) rfl (tgt := 84) (by decide) ?_
      refine x_iload_n h dX7_pullsOf_84 rfl ?_
      exact x_iret (ret := none) h he dX7_pullsOf_85 rfl (by unfold plN pullsF dnF rnF; (repeat' split) <;> first | rfl | omega) rfl
    · refine x_tsIn 3 h dX7_pullsOf_41 q41 (by decide) rfl (tgt := 86) (by decide) ?_
      refine x_iload h dX7_pullsOf_86 rfl ?_
      exact x_iret (ret := none) h he dX7_pullsOf_88 rfl (by unfold plN pullsF dnF rnF; (repeat' split) <;> first | rfl | omega) rfl
    · refine x_tsIn 4 h dX7_pullsOf_41 q41 (by decide) rfl (tgt := 89) (by decide) ?_
      refine x_iload h dX7_pullsOf_89 rfl ?_
      refine x_iconst h dX7_pullsOf_91 ?_
      refine x_idiv h dX7_pullsOf_92 (by omega) (fun r92 => ?_)
      try rw [e2 _ (by unfold rnF; (repeat' split) <;> omega) (by unfold rnF; (repeat' split) <;> omega)]
      exact x_iret (ret := none) h he dX7_pullsOf_93 rfl (by unfold plN pullsF dnF rnF; (repeat' split) <;> first | rfl | omega) rfl
    · refine x_tsIn 5 h dX7_pullsOf_41 q41 (by decide) rfl (tgt := 100) (by decide) ?_
      refine x_iload_n h dX7_pullsOf_100 rfl ?_
      exact x_iret (ret := none) h he dX7_pullsOf_101 rfl (by unfold plN pullsF dnF rnF; (repeat' split) <;> first | rfl | omega) rfl
    · refine x_tsIn 6 h dX7_pullsOf_41 q41 (by decide) rfl (tgt := 94) (by decide) ?_
      refine x_iconst h dX7_pullsOf_94 ?_
      refine x_iload_n h dX7_pullsOf_95 rfl ?_
      refine x_iconst h dX7_pullsOf_96 ?_
      refine x_iadd h dX7_pullsOf_97 ?_
      refine x_imul h dX7_pullsOf_98 ?_
      exact x_iret (ret := none) h he dX7_pullsOf_99 rfl (by unfold plN pullsF dnF rnF; (repeat' split) <;> first | rfl | omega) rfl

theorem dX7_goesOf_0 : decode cX7_goesOf 0 = .ok (.aload_n 0, 1) := by decide +kernel
theorem dX7_goesOf_1 : decode cX7_goesOf 1 = .ok (.iload_n 1, 1) := by decide +kernel
theorem dX7_goesOf_2 : decode cX7_goesOf 2 = .ok (.iconst 0, 1) := by decide +kernel
theorem dX7_goesOf_3 : decode cX7_goesOf 3 = .ok (.invokevirtual 133, 3) := by decide +kernel
theorem dX7_goesOf_6 : decode cX7_goesOf 6 = .ok (.tableswitch 40 2 6 #[34, 34, 36, 40, 38], 34) := by decide +kernel
theorem dX7_goesOf_40 : decode cX7_goesOf 40 = .ok (.iconst 2, 1) := by decide +kernel
theorem dX7_goesOf_41 : decode cX7_goesOf 41 = .ok (.ireturn, 1) := by decide +kernel
theorem dX7_goesOf_42 : decode cX7_goesOf 42 = .ok (.iconst 3, 1) := by decide +kernel
theorem dX7_goesOf_43 : decode cX7_goesOf 43 = .ok (.ireturn, 1) := by decide +kernel
theorem dX7_goesOf_44 : decode cX7_goesOf 44 = .ok (.iconst 0, 1) := by decide +kernel
theorem dX7_goesOf_45 : decode cX7_goesOf 45 = .ok (.ireturn, 1) := by decide +kernel
theorem dX7_goesOf_46 : decode cX7_goesOf 46 = .ok (.iconst 1, 1) := by decide +kernel
theorem dX7_goesOf_47 : decode cX7_goesOf 47 = .ok (.ireturn, 1) := by decide +kernel
set_option maxHeartbeats 800000 in
set_option maxRecDepth 100000 in
theorem c_X7_goesOf {l : Launch} {ω : xO} {ks : Nat → Option Nat} (hm : xsh ω = mdS ks) {p : Int} {M : xMem} (hI : MInv M) (hp : 0 ≤ p ∧ p < M 1 1) : Ct l ω yX7_goesOf ({ frames := 2, cells := 0, slots := 0, locals := 43 } : Room) 2 1 [.ref (xad ω 0), .int (iI p)] M (some (.int (iI (goF (M 1 (113 + 8 * p + 0)))))) M := by
  refine Ct.of (bytes := cX7_goesOf) (ret := (some .int)) (lv0 := [some (.ref (xad ω 0)), some (.int (iI p))]) m_cd_X7_goesOf m_in_X7 (by decide +kernel) (by decide +kernel) rfl rfl rfl rfl (fun hR => hR) ?_
  intro κ h he hR
  have hn := hI.1
  have hk := hI.2.1
  have hL := hI.2.2.1
  have ip := hI.2.2.2 p hp.1 hp.2
  refine x_aload_n h dX7_goesOf_0 rfl ?_
  refine x_iload_n h dX7_goesOf_1 rfl ?_
  refine x_iconst h dX7_goesOf_2 ?_
  refine x_V2i h dX7_goesOf_3 m_ml_X7_133 m_im_X7_personIs m_se_X7_personIs (sM0 hm) rfl (by decide) rfl (c_X7_personIs hm (by omega) (by omega)) ?_
  by_cases sw6 : M 1 (113 + 8 * p + 0) < 2 ∨ 6 < M 1 (113 + 8 * p + 0)
  · refine x_tsOut h dX7_goesOf_6 (by omega) sw6 (tgt := 46) (by decide) ?_
    refine x_iconst h dX7_goesOf_46 ?_
    exact x_iret (ret := none) h he dX7_goesOf_47 rfl (by unfold goF; (repeat' split) <;> first | rfl | omega) rfl
  rcases (show M 1 (113 + 8 * p + 0) = 2 ∨ M 1 (113 + 8 * p + 0) = 3 ∨ M 1 (113 + 8 * p + 0) = 4 ∨ M 1 (113 + 8 * p + 0) = 5 ∨ M 1 (113 + 8 * p + 0) = 6 by omega) with q6 | q6 | q6 | q6 | q6
  · refine x_tsIn 2 h dX7_goesOf_6 q6 (by decide) rfl (tgt := 40) (by decide) ?_
    refine x_iconst h dX7_goesOf_40 ?_
    exact x_iret (ret := none) h he dX7_goesOf_41 rfl (by unfold goF; (repeat' split) <;> first | rfl | omega) rfl
  · refine x_tsIn 3 h dX7_goesOf_6 q6 (by decide) rfl (tgt := 40) (by decide) ?_
    refine x_iconst h dX7_goesOf_40 ?_
    exact x_iret (ret := none) h he dX7_goesOf_41 rfl (by unfold goF; (repeat' split) <;> first | rfl | omega) rfl
  · refine x_tsIn 4 h dX7_goesOf_6 q6 (by decide) rfl (tgt := 42) (by decide) ?_
    refine x_iconst h dX7_goesOf_42 ?_
    exact x_iret (ret := none) h he dX7_goesOf_43 rfl (by unfold goF; (repeat' split) <;> first | rfl | omega) rfl
  · refine x_tsIn 5 h dX7_goesOf_6 q6 (by decide) rfl (tgt := 46) (by decide) ?_
    refine x_iconst h dX7_goesOf_46 ?_
    exact x_iret (ret := none) h he dX7_goesOf_47 rfl (by unfold goF; (repeat' split) <;> first | rfl | omega) rfl
  · refine x_tsIn 6 h dX7_goesOf_6 q6 (by decide) rfl (tgt := 44) (by decide) ?_
    refine x_iconst h dX7_goesOf_44 ?_
    exact x_iret (ret := none) h he dX7_goesOf_45 rfl (by unfold goF; (repeat' split) <;> first | rfl | omega) rfl

theorem dX7_slackOf_0 : decode cX7_slackOf 0 = .ok (.aload_n 0, 1) := by decide +kernel
theorem dX7_slackOf_1 : decode cX7_slackOf 1 = .ok (.iload_n 1, 1) := by decide +kernel
theorem dX7_slackOf_2 : decode cX7_slackOf 2 = .ok (.iconst 0, 1) := by decide +kernel
theorem dX7_slackOf_3 : decode cX7_slackOf 3 = .ok (.invokevirtual 133, 3) := by decide +kernel
theorem dX7_slackOf_6 : decode cX7_slackOf 6 = .ok (.iconst 5, 1) := by decide +kernel
theorem dX7_slackOf_7 : decode cX7_slackOf 7 = .ok (.if_icmp .ne 7, 3) := by decide +kernel
theorem dX7_slackOf_10 : decode cX7_slackOf 10 = .ok (.iconst 3, 1) := by decide +kernel
theorem dX7_slackOf_11 : decode cX7_slackOf 11 = .ok (.goto 4, 3) := by decide +kernel
theorem dX7_slackOf_14 : decode cX7_slackOf 14 = .ok (.iconst 0, 1) := by decide +kernel
theorem dX7_slackOf_15 : decode cX7_slackOf 15 = .ok (.ireturn, 1) := by decide +kernel
set_option maxHeartbeats 800000 in
set_option maxRecDepth 100000 in
theorem c_X7_slackOf {l : Launch} {ω : xO} {ks : Nat → Option Nat} (hm : xsh ω = mdS ks) {p : Int} {M : xMem} (hI : MInv M) (hp : 0 ≤ p ∧ p < M 1 1) : Ct l ω yX7_slackOf ({ frames := 2, cells := 0, slots := 0, locals := 43 } : Room) 2 1 [.ref (xad ω 0), .int (iI p)] M (some (.int (iI (slk (M 1 (113 + 8 * p + 0)))))) M := by
  refine Ct.of (bytes := cX7_slackOf) (ret := (some .int)) (lv0 := [some (.ref (xad ω 0)), some (.int (iI p))]) m_cd_X7_slackOf m_in_X7 (by decide +kernel) (by decide +kernel) rfl rfl rfl rfl (fun hR => hR) ?_
  intro κ h he hR
  have hn := hI.1
  have hk := hI.2.1
  have hL := hI.2.2.1
  have ip := hI.2.2.2 p hp.1 hp.2
  refine x_aload_n h dX7_slackOf_0 rfl ?_
  refine x_iload_n h dX7_slackOf_1 rfl ?_
  refine x_iconst h dX7_slackOf_2 ?_
  refine x_V2i h dX7_slackOf_3 m_ml_X7_133 m_im_X7_personIs m_se_X7_personIs (sM0 hm) rfl (by decide) rfl (c_X7_personIs hm (by omega) (by omega)) ?_
  refine x_iconst h dX7_slackOf_6 ?_
  refine x_icmp_ne h dX7_slackOf_7 (tgt := 14) (by decide) (by omega) (by omega) (fun q7 => ?_) (fun q7 => ?_)
  · refine x_iconst h dX7_slackOf_14 ?_
    exact x_iret (ret := none) h he dX7_slackOf_15 rfl (by unfold slk; (repeat' split) <;> first | rfl | omega) rfl
  · refine x_iconst h dX7_slackOf_10 ?_
    refine x_goto h dX7_slackOf_11 (tgt := 15) (by decide) ?_
    exact x_iret (ret := none) h he dX7_slackOf_15 rfl (by unfold slk; (repeat' split) <;> first | rfl | omega) rfl

theorem dX7_hasMate_0 : decode cX7_hasMate 0 = .ok (.aload_n 0, 1) := by decide +kernel
theorem dX7_hasMate_1 : decode cX7_hasMate 1 = .ok (.iload_n 1, 1) := by decide +kernel
theorem dX7_hasMate_2 : decode cX7_hasMate 2 = .ok (.iconst 3, 1) := by decide +kernel
theorem dX7_hasMate_3 : decode cX7_hasMate 3 = .ok (.invokevirtual 133, 3) := by decide +kernel
theorem dX7_hasMate_6 : decode cX7_hasMate 6 = .ok (.ifCond .lt 7, 3) := by decide +kernel
theorem dX7_hasMate_9 : decode cX7_hasMate 9 = .ok (.iconst 1, 1) := by decide +kernel
theorem dX7_hasMate_10 : decode cX7_hasMate 10 = .ok (.goto 4, 3) := by decide +kernel
theorem dX7_hasMate_13 : decode cX7_hasMate 13 = .ok (.iconst 0, 1) := by decide +kernel
theorem dX7_hasMate_14 : decode cX7_hasMate 14 = .ok (.ireturn, 1) := by decide +kernel
set_option maxHeartbeats 800000 in
set_option maxRecDepth 100000 in
theorem c_X7_hasMate {l : Launch} {ω : xO} {ks : Nat → Option Nat} (hm : xsh ω = mdS ks) {p : Int} {M : xMem} (hI : MInv M) (hp : 0 ≤ p ∧ p < M 1 1) : Ct l ω yX7_hasMate ({ frames := 2, cells := 0, slots := 0, locals := 43 } : Room) 2 1 [.ref (xad ω 0), .int (iI p)] M (some (.int (iI (bI (0 ≤ M 1 (113 + 8 * p + 3)))))) M := by
  refine Ct.of (bytes := cX7_hasMate) (ret := (some .boolean)) (lv0 := [some (.ref (xad ω 0)), some (.int (iI p))]) m_cd_X7_hasMate m_in_X7 (by decide +kernel) (by decide +kernel) rfl rfl rfl rfl (fun hR => hR) ?_
  intro κ h he hR
  have hn := hI.1
  have hk := hI.2.1
  have hL := hI.2.2.1
  have ip := hI.2.2.2 p hp.1 hp.2
  refine x_aload_n h dX7_hasMate_0 rfl ?_
  refine x_iload_n h dX7_hasMate_1 rfl ?_
  refine x_iconst h dX7_hasMate_2 ?_
  refine x_V2i h dX7_hasMate_3 m_ml_X7_133 m_im_X7_personIs m_se_X7_personIs (sM0 hm) rfl (by decide) rfl (c_X7_personIs hm (by omega) (by omega)) ?_
  refine x_if_lt h dX7_hasMate_6 (tgt := 13) (by decide) (by omega) (fun q6 => ?_) (fun q6 => ?_)
  · refine x_iconst h dX7_hasMate_13 ?_
    exact x_zret h he dX7_hasMate_14 (by first | exact Or.inl rfl | exact Or.inr rfl | exact bI_01 _ | omega) rfl (by first | rfl | omega | exact (bI_t (by omega)).symm | exact (bI_f (by omega)).symm) rfl
  · refine x_iconst h dX7_hasMate_9 ?_
    refine x_goto h dX7_hasMate_10 (tgt := 14) (by decide) ?_
    exact x_zret h he dX7_hasMate_14 (by first | exact Or.inl rfl | exact Or.inr rfl | exact bI_01 _ | omega) rfl (by first | rfl | omega | exact (bI_t (by omega)).symm | exact (bI_f (by omega)).symm) rfl

theorem dX7_ropeOf_0 : decode cX7_ropeOf 0 = .ok (.aload_n 0, 1) := by decide +kernel
theorem dX7_ropeOf_1 : decode cX7_ropeOf 1 = .ok (.iload_n 1, 1) := by decide +kernel
theorem dX7_ropeOf_2 : decode cX7_ropeOf 2 = .ok (.iconst 5, 1) := by decide +kernel
theorem dX7_ropeOf_3 : decode cX7_ropeOf 3 = .ok (.invokevirtual 133, 3) := by decide +kernel
theorem dX7_ropeOf_6 : decode cX7_ropeOf 6 = .ok (.aload_n 0, 1) := by decide +kernel
theorem dX7_ropeOf_7 : decode cX7_ropeOf 7 = .ok (.iload_n 1, 1) := by decide +kernel
theorem dX7_ropeOf_8 : decode cX7_ropeOf 8 = .ok (.invokevirtual 139, 3) := by decide +kernel
theorem dX7_ropeOf_11 : decode cX7_ropeOf 11 = .ok (.iadd, 1) := by decide +kernel
theorem dX7_ropeOf_12 : decode cX7_ropeOf 12 = .ok (.aload_n 0, 1) := by decide +kernel
theorem dX7_ropeOf_13 : decode cX7_ropeOf 13 = .ok (.aload_n 0, 1) := by decide +kernel
theorem dX7_ropeOf_14 : decode cX7_ropeOf 14 = .ok (.iload_n 1, 1) := by decide +kernel
theorem dX7_ropeOf_15 : decode cX7_ropeOf 15 = .ok (.iconst 3, 1) := by decide +kernel
theorem dX7_ropeOf_16 : decode cX7_ropeOf 16 = .ok (.invokevirtual 133, 3) := by decide +kernel
theorem dX7_ropeOf_19 : decode cX7_ropeOf 19 = .ok (.invokevirtual 139, 3) := by decide +kernel
theorem dX7_ropeOf_22 : decode cX7_ropeOf 22 = .ok (.iadd, 1) := by decide +kernel
theorem dX7_ropeOf_23 : decode cX7_ropeOf 23 = .ok (.ireturn, 1) := by decide +kernel
set_option maxHeartbeats 800000 in
set_option maxRecDepth 100000 in
theorem c_X7_ropeOf {l : Launch} {ω : xO} {ks : Nat → Option Nat} (hm : xsh ω = mdS ks) {p : Int} {M : xMem} (hI : MInv M) (hp : 0 ≤ p ∧ p < M 1 1) (hq : 0 ≤ M 1 (113 + 8 * p + 3)) : Ct l ω yX7_ropeOf ({ frames := 3, cells := 0, slots := 0, locals := 64 } : Room) 2 1 [.ref (xad ω 0), .int (iI p)] M (some (.int (iI (rpN M p)))) M := by
  refine Ct.of (bytes := cX7_ropeOf) (ret := (some .int)) (lv0 := [some (.ref (xad ω 0)), some (.int (iI p))]) m_cd_X7_ropeOf m_in_X7 (by decide +kernel) (by decide +kernel) rfl rfl rfl rfl (fun hR => hR) ?_
  intro κ h he hR
  have hn := hI.1
  have hk := hI.2.1
  have hL := hI.2.2.1
  have ip := hI.2.2.2 p hp.1 hp.2
  refine x_aload_n h dX7_ropeOf_0 rfl ?_
  refine x_iload_n h dX7_ropeOf_1 rfl ?_
  refine x_iconst h dX7_ropeOf_2 ?_
  refine x_V2i h dX7_ropeOf_3 m_ml_X7_133 m_im_X7_personIs m_se_X7_personIs (sM0 hm) rfl (by decide) rfl (c_X7_personIs hm (by omega) (by omega)) ?_
  refine x_aload_n h dX7_ropeOf_6 rfl ?_
  refine x_iload_n h dX7_ropeOf_7 rfl ?_
  refine x_V1i h dX7_ropeOf_8 m_ml_X7_139 m_im_X7_slackOf m_se_X7_slackOf (sM0 hm) rfl (by decide) rfl (c_X7_slackOf hm (by exact hI) (by first | omega | (simp only [ca_1]; omega))) ?_
  refine x_iadd h dX7_ropeOf_11 ?_
  refine x_aload_n h dX7_ropeOf_12 rfl ?_
  refine x_aload_n h dX7_ropeOf_13 rfl ?_
  refine x_iload_n h dX7_ropeOf_14 rfl ?_
  refine x_iconst h dX7_ropeOf_15 ?_
  refine x_V2i h dX7_ropeOf_16 m_ml_X7_133 m_im_X7_personIs m_se_X7_personIs (sM0 hm) rfl (by decide) rfl (c_X7_personIs hm (by omega) (by omega)) ?_
  refine x_V1i h dX7_ropeOf_19 m_ml_X7_139 m_im_X7_slackOf m_se_X7_slackOf (sM0 hm) rfl (by decide) rfl (c_X7_slackOf hm (by exact hI) (by first | omega | (simp only [ca_1]; omega))) ?_
  refine x_iadd h dX7_ropeOf_22 ?_
  exact x_iret (ret := none) h he dX7_ropeOf_23 rfl rfl rfl

theorem dX7_placeOfMate_0 : decode cX7_placeOfMate 0 = .ok (.aload_n 0, 1) := by decide +kernel
theorem dX7_placeOfMate_1 : decode cX7_placeOfMate 1 = .ok (.iload_n 1, 1) := by decide +kernel
theorem dX7_placeOfMate_2 : decode cX7_placeOfMate 2 = .ok (.invokevirtual 142, 3) := by decide +kernel
theorem dX7_placeOfMate_5 : decode cX7_placeOfMate 5 = .ok (.ifCond .eq 17, 3) := by decide +kernel
theorem dX7_placeOfMate_8 : decode cX7_placeOfMate 8 = .ok (.aload_n 0, 1) := by decide +kernel
theorem dX7_placeOfMate_9 : decode cX7_placeOfMate 9 = .ok (.aload_n 0, 1) := by decide +kernel
theorem dX7_placeOfMate_10 : decode cX7_placeOfMate 10 = .ok (.iload_n 1, 1) := by decide +kernel
theorem dX7_placeOfMate_11 : decode cX7_placeOfMate 11 = .ok (.iconst 3, 1) := by decide +kernel
theorem dX7_placeOfMate_12 : decode cX7_placeOfMate 12 = .ok (.invokevirtual 133, 3) := by decide +kernel
theorem dX7_placeOfMate_15 : decode cX7_placeOfMate 15 = .ok (.iconst 1, 1) := by decide +kernel
theorem dX7_placeOfMate_16 : decode cX7_placeOfMate 16 = .ok (.invokevirtual 133, 3) := by decide +kernel
theorem dX7_placeOfMate_19 : decode cX7_placeOfMate 19 = .ok (.goto 4, 3) := by decide +kernel
theorem dX7_placeOfMate_22 : decode cX7_placeOfMate 22 = .ok (.iconst 0, 1) := by decide +kernel
theorem dX7_placeOfMate_23 : decode cX7_placeOfMate 23 = .ok (.ireturn, 1) := by decide +kernel
set_option maxHeartbeats 800000 in
set_option maxRecDepth 100000 in
theorem c_X7_placeOfMate {l : Launch} {ω : xO} {ks : Nat → Option Nat} (hm : xsh ω = mdS ks) {p : Int} {M : xMem} (hI : MInv M) (hp : 0 ≤ p ∧ p < M 1 1) : Ct l ω yX7_placeOfMate ({ frames := 3, cells := 0, slots := 0, locals := 64 } : Room) 2 1 [.ref (xad ω 0), .int (iI p)] M (some (.int (iI (pmN M p)))) M := by
  refine Ct.of (bytes := cX7_placeOfMate) (ret := (some .int)) (lv0 := [some (.ref (xad ω 0)), some (.int (iI p))]) m_cd_X7_placeOfMate m_in_X7 (by decide +kernel) (by decide +kernel) rfl rfl rfl rfl (fun hR => hR) ?_
  intro κ h he hR
  have hn := hI.1
  have hk := hI.2.1
  have hL := hI.2.2.1
  have ip := hI.2.2.2 p hp.1 hp.2
  refine x_aload_n h dX7_placeOfMate_0 rfl ?_
  refine x_iload_n h dX7_placeOfMate_1 rfl ?_
  refine x_V1i h dX7_placeOfMate_2 m_ml_X7_142 m_im_X7_hasMate m_se_X7_hasMate (sM0 hm) rfl (by decide) rfl (c_X7_hasMate hm (by exact hI) (by first | omega | (simp only [ca_1]; omega))) ?_
  refine x_ifeqB h dX7_placeOfMate_5 (tgt := 22) (by decide) (fun q5 => ?_) (fun q5 => ?_)
  · refine x_iconst h dX7_placeOfMate_22 ?_
    exact x_iret (ret := none) h he dX7_placeOfMate_23 rfl (by unfold pmN; first | rw [if_pos (by omega)] | rw [if_neg (by omega)]) rfl
  · refine x_aload_n h dX7_placeOfMate_8 rfl ?_
    refine x_aload_n h dX7_placeOfMate_9 rfl ?_
    refine x_iload_n h dX7_placeOfMate_10 rfl ?_
    refine x_iconst h dX7_placeOfMate_11 ?_
    refine x_V2i h dX7_placeOfMate_12 m_ml_X7_133 m_im_X7_personIs m_se_X7_personIs (sM0 hm) rfl (by decide) rfl (c_X7_personIs hm (by omega) (by omega)) ?_
    refine x_iconst h dX7_placeOfMate_15 ?_
    refine x_V2i h dX7_placeOfMate_16 m_ml_X7_133 m_im_X7_personIs m_se_X7_personIs (sM0 hm) rfl (by decide) rfl (c_X7_personIs hm (by omega) (by omega)) ?_
    refine x_goto h dX7_placeOfMate_19 (tgt := 23) (by decide) ?_
    exact x_iret (ret := none) h he dX7_placeOfMate_23 rfl (by unfold pmN; first | rw [if_pos (by omega)] | rw [if_neg (by omega)]) rfl

theorem rpN_R {M : xMem} {p : Int} (hI : MInv M) (hp : 0 ≤ p ∧ p < M 1 1) : 0 ≤ rpN M p ∧ rpN M p ≤ 1005 := by
  have ip := hI.2.2.2 p hp.1 hp.2
  have g4 := slk_R (M 1 (113 + 8 * p + 0))
  have g5 := slk_R (M 1 (113 + 8 * M 1 (113 + 8 * p + 3) + 0))
  unfold rpN
  omega
theorem pmN_R {M : xMem} {p : Int} (hI : MInv M) (hp : 0 ≤ p ∧ p < M 1 1) : 0 ≤ pmN M p ∧ pmN M p < 10 := by
  have ip := hI.2.2.2 p hp.1 hp.2
  unfold pmN
  split
  · have := hI.2.2.2 (M 1 (113 + 8 * p + 3)) (by omega) (by omega)
    omega
  · omega
theorem dX7_lets_0 : decode cX7_lets 0 = .ok (.aload_n 0, 1) := by decide +kernel
theorem dX7_lets_1 : decode cX7_lets 1 = .ok (.iload_n 1, 1) := by decide +kernel
theorem dX7_lets_2 : decode cX7_lets 2 = .ok (.invokevirtual 142, 3) := by decide +kernel
theorem dX7_lets_5 : decode cX7_lets 5 = .ok (.ifCond .eq 17, 3) := by decide +kernel
theorem dX7_lets_8 : decode cX7_lets 8 = .ok (.aload_n 0, 1) := by decide +kernel
theorem dX7_lets_9 : decode cX7_lets 9 = .ok (.iload_n 2, 1) := by decide +kernel
theorem dX7_lets_10 : decode cX7_lets 10 = .ok (.iload_n 3, 1) := by decide +kernel
theorem dX7_lets_11 : decode cX7_lets 11 = .ok (.invokevirtual 116, 3) := by decide +kernel
theorem dX7_lets_14 : decode cX7_lets 14 = .ok (.aload_n 0, 1) := by decide +kernel
theorem dX7_lets_15 : decode cX7_lets 15 = .ok (.iload_n 1, 1) := by decide +kernel
theorem dX7_lets_16 : decode cX7_lets 16 = .ok (.invokevirtual 145, 3) := by decide +kernel
theorem dX7_lets_19 : decode cX7_lets 19 = .ok (.if_icmp .gt 7, 3) := by decide +kernel
theorem dX7_lets_22 : decode cX7_lets 22 = .ok (.iconst 1, 1) := by decide +kernel
theorem dX7_lets_23 : decode cX7_lets 23 = .ok (.goto 4, 3) := by decide +kernel
theorem dX7_lets_26 : decode cX7_lets 26 = .ok (.iconst 0, 1) := by decide +kernel
theorem dX7_lets_27 : decode cX7_lets 27 = .ok (.ireturn, 1) := by decide +kernel
set_option maxHeartbeats 800000 in
set_option maxRecDepth 100000 in
theorem c_X7_lets {l : Launch} {ω : xO} {ks : Nat → Option Nat} (hm : xsh ω = mdS ks) {p a m : Int} {M : xMem} (hI : MInv M) (hf : Fc M) (hp : 0 ≤ p ∧ p < M 1 1) (ha : plc a) (hmm : plc m) : Cq l ω yX7_lets ({ frames := 4, cells := 0, slots := 0, locals := 85 } : Room) 4 3 [.ref (xad ω 0), .int (iI p), .int (iI a), .int (iI m)] M (pI1 (fun r N' => r = bI (ltN M p a m) ∧ CaE M N')) := by
  refine Cq.of (bytes := cX7_lets) (ret := (some .boolean)) (lv0 := [some (.ref (xad ω 0)), some (.int (iI p)), some (.int (iI a)), some (.int (iI m))]) m_cd_X7_lets m_in_X7 (by decide +kernel) (by decide +kernel) rfl rfl rfl rfl ?_
  intro κ h he hR
  have hn := hI.1
  have hk := hI.2.1
  have hL := hI.2.2.1
  have ip := hI.2.2.2 p hp.1 hp.2
  have hd := dN_B hL (10 * a + m) (by omega) (by omega)
  have hr := rpN_R hI hp
  refine x_aload_n h dX7_lets_0 rfl ?_
  refine x_iload_n h dX7_lets_1 rfl ?_
  refine x_V1i h dX7_lets_2 m_ml_X7_142 m_im_X7_hasMate m_se_X7_hasMate (sM0 hm) rfl (by decide) rfl (c_X7_hasMate hm (by exact hI) (by first | omega | (simp only [ca_1]; omega))) ?_
  refine x_ifeqB h dX7_lets_5 (tgt := 22) (by decide) (fun q5 => ?_) (fun q5 => ?_)
  · refine x_iconst h dX7_lets_22 ?_
    refine x_goto h dX7_lets_23 (tgt := 27) (by decide) ?_
    exact x_zretq h he dX7_lets_27 (by decide) ⟨by unfold ltN; first | exact (bI_t (by omega)).symm | exact (bI_f (by omega)).symm, (by first | exact CaE.of (by assumption) | exact CaE.rf (by assumption))⟩
  · refine x_aload_n h dX7_lets_8 rfl ?_
    refine x_iload_n h dX7_lets_9 rfl ?_
    refine x_iload_n h dX7_lets_10 rfl ?_
    refine x_Q2i h dX7_lets_11 m_ml_X7_116 m_im_X7_farFrom m_se_X7_farFrom (sM0 hm) rfl (by decide) rfl (c_X7_farFrom hm (by exact hL) (by assumption) (by first | omega | (simp only [ca_1]; omega)) (by first | omega | (simp only [ca_1]; omega))) (fun r11 N11 h11 => ?_)
    obtain ⟨rfl, f11, d11, rfl, c11⟩ := h11
    try simp only [ca_ca, ca_1, dN_ca, wyM_ca, plN_ca, rpN_ca, ltN_ca, pmN_ca, wnN_ca, nbN_ca] at c11 ⊢
    refine x_aload_n h dX7_lets_14 rfl ?_
    refine x_iload_n h dX7_lets_15 rfl ?_
    refine x_V1i h dX7_lets_16 m_ml_X7_145 m_im_X7_ropeOf m_se_X7_ropeOf (sM0 hm) rfl (by decide) rfl (c_X7_ropeOf hm (by exact hI) (by first | omega | (simp only [ca_1]; omega)) (by first | omega | (simp only [ca_1]; omega))) ?_
    try simp only [ca_ca, ca_1, dN_ca, wyM_ca, plN_ca, rpN_ca, ltN_ca, pmN_ca, wnN_ca, nbN_ca]
    refine x_icmp_gt h dX7_lets_19 (tgt := 26) (by decide) (by omega) (by omega) (fun q19 => ?_) (fun q19 => ?_)
    · refine x_iconst h dX7_lets_26 ?_
      exact x_zretq h he dX7_lets_27 (by decide) ⟨by unfold ltN; first | exact (bI_t (by omega)).symm | exact (bI_f (by omega)).symm, (by first | exact CaE.of (by assumption) | exact CaE.rf (by assumption))⟩
    · refine x_iconst h dX7_lets_22 ?_
      refine x_goto h dX7_lets_23 (tgt := 27) (by decide) ?_
      exact x_zretq h he dX7_lets_27 (by decide) ⟨by unfold ltN; first | exact (bI_t (by omega)).symm | exact (bI_f (by omega)).symm, (by first | exact CaE.of (by assumption) | exact CaE.rf (by assumption))⟩

theorem dX7_wants_0 : decode cX7_wants 0 = .ok (.aload_n 0, 1) := by decide +kernel
theorem dX7_wants_1 : decode cX7_wants 1 = .ok (.iload_n 1, 1) := by decide +kernel
theorem dX7_wants_2 : decode cX7_wants 2 = .ok (.iconst 1, 1) := by decide +kernel
theorem dX7_wants_3 : decode cX7_wants 3 = .ok (.invokevirtual 133, 3) := by decide +kernel
theorem dX7_wants_6 : decode cX7_wants 6 = .ok (.istore_n 2, 1) := by decide +kernel
theorem dX7_wants_7 : decode cX7_wants 7 = .ok (.aload_n 0, 1) := by decide +kernel
theorem dX7_wants_8 : decode cX7_wants 8 = .ok (.iload_n 1, 1) := by decide +kernel
theorem dX7_wants_9 : decode cX7_wants 9 = .ok (.iconst 2, 1) := by decide +kernel
theorem dX7_wants_10 : decode cX7_wants 10 = .ok (.invokevirtual 133, 3) := by decide +kernel
theorem dX7_wants_13 : decode cX7_wants 13 = .ok (.istore_n 3, 1) := by decide +kernel
theorem dX7_wants_14 : decode cX7_wants 14 = .ok (.iload_n 2, 1) := by decide +kernel
theorem dX7_wants_15 : decode cX7_wants 15 = .ok (.iload_n 3, 1) := by decide +kernel
theorem dX7_wants_16 : decode cX7_wants 16 = .ok (.if_icmp .eq 15, 3) := by decide +kernel
theorem dX7_wants_19 : decode cX7_wants 19 = .ok (.aload_n 0, 1) := by decide +kernel
theorem dX7_wants_20 : decode cX7_wants 20 = .ok (.iload_n 2, 1) := by decide +kernel
theorem dX7_wants_21 : decode cX7_wants 21 = .ok (.iload_n 3, 1) := by decide +kernel
theorem dX7_wants_22 : decode cX7_wants 22 = .ok (.invokevirtual 116, 3) := by decide +kernel
theorem dX7_wants_25 : decode cX7_wants 25 = .ok (.sipush 999, 3) := by decide +kernel
theorem dX7_wants_28 : decode cX7_wants 28 = .ok (.if_icmp .ne 5, 3) := by decide +kernel
theorem dX7_wants_31 : decode cX7_wants 31 = .ok (.iload_n 2, 1) := by decide +kernel
theorem dX7_wants_32 : decode cX7_wants 32 = .ok (.ireturn, 1) := by decide +kernel
theorem dX7_wants_33 : decode cX7_wants 33 = .ok (.iconst 0, 1) := by decide +kernel
theorem dX7_wants_34 : decode cX7_wants 34 = .ok (.istore 4, 2) := by decide +kernel
theorem dX7_wants_36 : decode cX7_wants 36 = .ok (.aload_n 0, 1) := by decide +kernel
theorem dX7_wants_37 : decode cX7_wants 37 = .ok (.iload_n 2, 1) := by decide +kernel
theorem dX7_wants_38 : decode cX7_wants 38 = .ok (.iload 4, 2) := by decide +kernel
theorem dX7_wants_40 : decode cX7_wants 40 = .ok (.invokevirtual 105, 3) := by decide +kernel
theorem dX7_wants_43 : decode cX7_wants 43 = .ok (.ifCond .eq 27, 3) := by decide +kernel
theorem dX7_wants_46 : decode cX7_wants 46 = .ok (.aload_n 0, 1) := by decide +kernel
theorem dX7_wants_47 : decode cX7_wants 47 = .ok (.iload_n 2, 1) := by decide +kernel
theorem dX7_wants_48 : decode cX7_wants 48 = .ok (.iload 4, 2) := by decide +kernel
theorem dX7_wants_50 : decode cX7_wants 50 = .ok (.invokevirtual 105, 3) := by decide +kernel
theorem dX7_wants_53 : decode cX7_wants 53 = .ok (.aload_n 0, 1) := by decide +kernel
theorem dX7_wants_54 : decode cX7_wants 54 = .ok (.iload 4, 2) := by decide +kernel
theorem dX7_wants_56 : decode cX7_wants 56 = .ok (.iload_n 3, 1) := by decide +kernel
theorem dX7_wants_57 : decode cX7_wants 57 = .ok (.invokevirtual 116, 3) := by decide +kernel
theorem dX7_wants_60 : decode cX7_wants 60 = .ok (.iadd, 1) := by decide +kernel
theorem dX7_wants_61 : decode cX7_wants 61 = .ok (.aload_n 0, 1) := by decide +kernel
theorem dX7_wants_62 : decode cX7_wants 62 = .ok (.iload_n 2, 1) := by decide +kernel
theorem dX7_wants_63 : decode cX7_wants 63 = .ok (.iload_n 3, 1) := by decide +kernel
theorem dX7_wants_64 : decode cX7_wants 64 = .ok (.invokevirtual 116, 3) := by decide +kernel
theorem dX7_wants_67 : decode cX7_wants 67 = .ok (.if_icmp .eq 9, 3) := by decide +kernel
theorem dX7_wants_70 : decode cX7_wants 70 = .ok (.iinc 4 1, 3) := by decide +kernel
theorem dX7_wants_73 : decode cX7_wants 73 = .ok (.goto (-37), 3) := by decide +kernel
theorem dX7_wants_76 : decode cX7_wants 76 = .ok (.iload 4, 2) := by decide +kernel
theorem dX7_wants_78 : decode cX7_wants 78 = .ok (.ireturn, 1) := by decide +kernel
set_option maxHeartbeats 800000 in
set_option maxRecDepth 100000 in
theorem c_X7_wants {l : Launch} {ω : xO} {ks : Nat → Option Nat} (hm : xsh ω = mdS ks) {p : Int} {M : xMem} (hI : MInv M) (hf : Fc M) (hp : 0 ≤ p ∧ p < M 1 1) : Cq l ω yX7_wants ({ frames := 3, cells := 0, slots := 0, locals := 67 } : Room) 5 1 [.ref (xad ω 0), .int (iI p)] M (pI1 (fun r N' => r = wnN M p ∧ CaE M N')) := by
  refine Cq.of (bytes := cX7_wants) (ret := (some .int)) (lv0 := [some (.ref (xad ω 0)), some (.int (iI p)), none, none, none]) m_cd_X7_wants m_in_X7 (by decide +kernel) (by decide +kernel) rfl rfl rfl rfl ?_
  intro κ h he hR
  have hn := hI.1
  have hk := hI.2.1
  have hL := hI.2.2.1
  have ip := hI.2.2.2 p hp.1 hp.2
  have hd9 := dN_B hL (10 * M 1 (113 + 8 * p + 1) + M 1 (113 + 8 * p + 2)) (by omega) (by omega)
  refine x_aload_n h dX7_wants_0 rfl ?_
  refine x_iload_n h dX7_wants_1 rfl ?_
  refine x_iconst h dX7_wants_2 ?_
  refine x_V2i h dX7_wants_3 m_ml_X7_133 m_im_X7_personIs m_se_X7_personIs (sM0 hm) rfl (by decide) rfl (c_X7_personIs hm (by omega) (by omega)) ?_
  refine x_istore_n h dX7_wants_6 rfl rfl ?_
  dsimp only [xset]
  refine x_aload_n h dX7_wants_7 rfl ?_
  refine x_iload_n h dX7_wants_8 rfl ?_
  refine x_iconst h dX7_wants_9 ?_
  refine x_V2i h dX7_wants_10 m_ml_X7_133 m_im_X7_personIs m_se_X7_personIs (sM0 hm) rfl (by decide) rfl (c_X7_personIs hm (by omega) (by omega)) ?_
  refine x_istore_n h dX7_wants_13 rfl rfl ?_
  dsimp only [xset]
  refine x_iload_n h dX7_wants_14 rfl ?_
  refine x_iload_n h dX7_wants_15 rfl ?_
  refine x_icmp_eq h dX7_wants_16 (tgt := 31) (by decide) (by omega) (by omega) (fun q16 => ?_) (fun q16 => ?_)
  · refine x_iload_n h dX7_wants_31 rfl ?_
    exact x_iretq h he dX7_wants_32 ⟨by unfold wnN; rw [nxF_e (by first | exact Or.inl (by assumption) | (right; rw [show M 1 (113 + 8 * p + 1) * 10 + M 1 (113 + 8 * p + 2) = 10 * M 1 (113 + 8 * p + 1) + M 1 (113 + 8 * p + 2) by omega]; assumption))], (by first | exact CaE.of (by assumption) | exact CaE.rf (by assumption))⟩
  · refine x_aload_n h dX7_wants_19 rfl ?_
    refine x_iload_n h dX7_wants_20 rfl ?_
    refine x_iload_n h dX7_wants_21 rfl ?_
    refine x_Q2i h dX7_wants_22 m_ml_X7_116 m_im_X7_farFrom m_se_X7_farFrom (sM0 hm) rfl (by decide) rfl (c_X7_farFrom hm (by exact hL) (by assumption) (by first | omega | (simp only [ca_1]; omega)) (by first | omega | (simp only [ca_1]; omega))) (fun r22 N22 h22 => ?_)
    obtain ⟨rfl, f22, d22, rfl, c22⟩ := h22
    try simp only [ca_ca, ca_1, dN_ca, wyM_ca, plN_ca, rpN_ca, ltN_ca, pmN_ca, wnN_ca, nbN_ca] at c22 ⊢
    refine x_sipush h dX7_wants_25 (by decide) ?_
    refine x_icmp_ne h dX7_wants_28 (tgt := 33) (by decide) (by omega) (by omega) (fun q28 => ?_) (fun q28 => ?_)
    · refine x_iconst h dX7_wants_33 ?_
      refine x_istore h dX7_wants_34 rfl rfl ?_
      dsimp only [xset]
      have hB := dN_B hL
      have c1 : 10 * M 1 (113 + 8 * p + 1) + M 1 (113 + 8 * p + 2) = M 1 (113 + 8 * p + 1) * 10 + M 1 (113 + 8 * p + 2) := by omega
      obtain ⟨x0, hx0, hP0⟩ := wnt_x (r := fun _ => 0) hL (a := M 1 (113 + 8 * p + 1)) (c := M 1 (113 + 8 * p + 2)) (by omega) (by omega) q16 (by rw [← c1]; exact q28)
      have key : ∀ i, 0 ≤ i → i < 10 → (nxP (wyM M) (dN M) (M 1 (113 + 8 * p + 1)) (M 1 (113 + 8 * p + 2)) i ↔ (0 < M 1 (13 + 10 * M 1 (113 + 8 * p + 1) + i) ∧ M 1 (13 + 10 * M 1 (113 + 8 * p + 1) + i) + dN M (10 * i + M 1 (113 + 8 * p + 2)) = dN M (10 * M 1 (113 + 8 * p + 1) + M 1 (113 + 8 * p + 2)))) := by
        intro i i1 i2
        unfold nxP
        rw [c1, show 10 * i + M 1 (113 + 8 * p + 2) = i * 10 + M 1 (113 + 8 * p + 2) by omega, show M 1 (13 + 10 * M 1 (113 + 8 * p + 1) + i) = wyM M (M 1 (113 + 8 * p + 1) * 10 + i) from wyM_i (by omega) (by omega)]
        constructor
        · intro z; exact ⟨z.1, z.2.symm⟩
        · intro z; exact ⟨z.1, z.2.symm⟩
      have mn : ∃ x, (0 ≤ x ∧ x < 10) ∧ nxP (wyM M) (dN M) (M 1 (113 + 8 * p + 1)) (M 1 (113 + 8 * p + 2)) x ∧ ∀ y, 0 ≤ y → y < x → ¬ nxP (wyM M) (dN M) (M 1 (113 + 8 * p + 1)) (M 1 (113 + 8 * p + 2)) y := by
        rcases first_or (fun j => nxP (wyM M) (dN M) (M 1 (113 + 8 * p + 1)) (M 1 (113 + 8 * p + 2)) (j : Int)) 10 with ⟨j, j1, j2, j3⟩ | hno
        · exact ⟨(j : Int), ⟨by omega, by omega⟩, j2, fun y y1 y2 => by have := j3 y.toNat (by omega); rwa [show ((y.toNat : Nat) : Int) = y by omega] at this⟩
        · have := hno x0.toNat (by omega); rw [show ((x0.toNat : Nat) : Int) = x0 by omega] at this; exact absurd hP0 this
      obtain ⟨x, hx, hPx, hNx⟩ := mn
      have hPx2 := (key x hx.1 hx.2).mp hPx
      have hres : wnN M p = x := by unfold wnN; exact nxF_x q16 (by rw [← c1]; exact q28) hx hPx hNx
      have hd0 := hB (10 * M 1 (113 + 8 * p + 1) + M 1 (113 + 8 * p + 2)) (by omega) (by omega)
      have HH : ∀ (k : Nat) (i f : Int) (d : Int → Int), Fc (ca M f d) → 0 ≤ i → i + k = x → X ω κ 36 [some (.ref (xad ω 0)), some (.int (iI p)), some (.int (iI (M 1 (113 + 8 * p + 1)))), some (.int (iI (M 1 (113 + 8 * p + 2)))), some (.int (iI i))] [] (ca M f d) := by
        intro k
        induction k with
        | zero =>
          intro i f d hc i1 i2
          have ix : i = x := by omega
          subst ix
          have hw := hL (M 1 (113 + 8 * p + 1) * 10 + i) (by omega) (by omega)
          have hwe : M 1 (13 + 10 * M 1 (113 + 8 * p + 1) + i) = wyM M (M 1 (113 + 8 * p + 1) * 10 + i) := wyM_i (by omega) (by omega)
          have hd1 := hB (10 * i + M 1 (113 + 8 * p + 2)) (by omega) (by omega)
          refine x_aload_n h dX7_wants_36 rfl ?_
          refine x_iload_n h dX7_wants_37 rfl ?_
          refine x_iload h dX7_wants_38 rfl ?_
          refine x_V2i h dX7_wants_40 m_ml_X7_105 m_im_X7_wayOf m_se_X7_wayOf (sM0 hm) rfl (by decide) rfl (c_X7_wayOf hm (by omega) (by omega)) ?_
          try simp only [ca_1]
          refine x_if_eq h dX7_wants_43 (tgt := 70) (by decide) (by omega) (fun q43 => ?_) (fun q43 => ?_)
          · exfalso; omega
          · refine x_aload_n h dX7_wants_46 rfl ?_
            refine x_iload_n h dX7_wants_47 rfl ?_
            refine x_iload h dX7_wants_48 rfl ?_
            refine x_V2i h dX7_wants_50 m_ml_X7_105 m_im_X7_wayOf m_se_X7_wayOf (sM0 hm) rfl (by decide) rfl (c_X7_wayOf hm (by omega) (by omega)) ?_
            refine x_aload_n h dX7_wants_53 rfl ?_
            refine x_iload h dX7_wants_54 rfl ?_
            refine x_iload_n h dX7_wants_56 rfl ?_
            refine x_Q2i h dX7_wants_57 m_ml_X7_116 m_im_X7_farFrom m_se_X7_farFrom (sM0 hm) rfl (by decide) rfl (c_X7_farFrom hm (by exact hL) (by assumption) (by first | omega | (simp only [ca_1]; omega)) (by first | omega | (simp only [ca_1]; omega))) (fun r57 N57 h57 => ?_)
            obtain ⟨rfl, f57, d57, rfl, c57⟩ := h57
            try simp only [ca_ca, ca_1, dN_ca, wyM_ca, plN_ca, rpN_ca, ltN_ca, pmN_ca, wnN_ca, nbN_ca] at c57 ⊢
            refine x_iadd h dX7_wants_60 ?_
            refine x_aload_n h dX7_wants_61 rfl ?_
            refine x_iload_n h dX7_wants_62 rfl ?_
            refine x_iload_n h dX7_wants_63 rfl ?_
            refine x_Q2i h dX7_wants_64 m_ml_X7_116 m_im_X7_farFrom m_se_X7_farFrom (sM0 hm) rfl (by decide) rfl (c_X7_farFrom hm (by exact hL) (by assumption) (by first | omega | (simp only [ca_1]; omega)) (by first | omega | (simp only [ca_1]; omega))) (fun r64 N64 h64 => ?_)
            obtain ⟨rfl, f64, d64, rfl, c64⟩ := h64
            try simp only [ca_ca, ca_1, dN_ca, wyM_ca, plN_ca, rpN_ca, ltN_ca, pmN_ca, wnN_ca, nbN_ca] at c64 ⊢
            try simp only [ca_ca, ca_1, dN_ca, wyM_ca, plN_ca, rpN_ca, ltN_ca, pmN_ca, wnN_ca, nbN_ca]
            refine x_icmp_eq h dX7_wants_67 (tgt := 76) (by decide) (by omega) (by omega) (fun q67 => ?_) (fun q67 => ?_)
            · refine x_iload h dX7_wants_76 rfl ?_
              exact x_iretq h he dX7_wants_78 ⟨hres.symm, CaE.of (by assumption)⟩
            · exfalso; omega
        | succ k ih =>
          intro i f d hc i1 i2
          have hNi := hNx i i1 (by omega)
          rw [key i i1 (by omega)] at hNi
          have hw := hL (M 1 (113 + 8 * p + 1) * 10 + i) (by omega) (by omega)
          have hwe : M 1 (13 + 10 * M 1 (113 + 8 * p + 1) + i) = wyM M (M 1 (113 + 8 * p + 1) * 10 + i) := wyM_i (by omega) (by omega)
          have hd1 := hB (10 * i + M 1 (113 + 8 * p + 2)) (by omega) (by omega)
          refine x_aload_n h dX7_wants_36 rfl ?_
          refine x_iload_n h dX7_wants_37 rfl ?_
          refine x_iload h dX7_wants_38 rfl ?_
          refine x_V2i h dX7_wants_40 m_ml_X7_105 m_im_X7_wayOf m_se_X7_wayOf (sM0 hm) rfl (by decide) rfl (c_X7_wayOf hm (by omega) (by omega)) ?_
          try simp only [ca_1]
          refine x_if_eq h dX7_wants_43 (tgt := 70) (by decide) (by omega) (fun q43 => ?_) (fun q43 => ?_)
          · refine x_iinc h dX7_wants_70 rfl rfl rfl ?_
            dsimp only [xset]
            refine x_goto h dX7_wants_73 (tgt := 36) (by decide) ?_
            exact ih (i + 1) _ _ (by assumption) (by omega) (by omega)
          · refine x_aload_n h dX7_wants_46 rfl ?_
            refine x_iload_n h dX7_wants_47 rfl ?_
            refine x_iload h dX7_wants_48 rfl ?_
            refine x_V2i h dX7_wants_50 m_ml_X7_105 m_im_X7_wayOf m_se_X7_wayOf (sM0 hm) rfl (by decide) rfl (c_X7_wayOf hm (by omega) (by omega)) ?_
            refine x_aload_n h dX7_wants_53 rfl ?_
            refine x_iload h dX7_wants_54 rfl ?_
            refine x_iload_n h dX7_wants_56 rfl ?_
            refine x_Q2i h dX7_wants_57 m_ml_X7_116 m_im_X7_farFrom m_se_X7_farFrom (sM0 hm) rfl (by decide) rfl (c_X7_farFrom hm (by exact hL) (by assumption) (by first | omega | (simp only [ca_1]; omega)) (by first | omega | (simp only [ca_1]; omega))) (fun r57 N57 h57 => ?_)
            obtain ⟨rfl, f57, d57, rfl, c57⟩ := h57
            try simp only [ca_ca, ca_1, dN_ca, wyM_ca, plN_ca, rpN_ca, ltN_ca, pmN_ca, wnN_ca, nbN_ca] at c57 ⊢
            refine x_iadd h dX7_wants_60 ?_
            refine x_aload_n h dX7_wants_61 rfl ?_
            refine x_iload_n h dX7_wants_62 rfl ?_
            refine x_iload_n h dX7_wants_63 rfl ?_
            refine x_Q2i h dX7_wants_64 m_ml_X7_116 m_im_X7_farFrom m_se_X7_farFrom (sM0 hm) rfl (by decide) rfl (c_X7_farFrom hm (by exact hL) (by assumption) (by first | omega | (simp only [ca_1]; omega)) (by first | omega | (simp only [ca_1]; omega))) (fun r64 N64 h64 => ?_)
            obtain ⟨rfl, f64, d64, rfl, c64⟩ := h64
            try simp only [ca_ca, ca_1, dN_ca, wyM_ca, plN_ca, rpN_ca, ltN_ca, pmN_ca, wnN_ca, nbN_ca] at c64 ⊢
            try simp only [ca_ca, ca_1, dN_ca, wyM_ca, plN_ca, rpN_ca, ltN_ca, pmN_ca, wnN_ca, nbN_ca]
            refine x_icmp_eq h dX7_wants_67 (tgt := 76) (by decide) (by omega) (by omega) (fun q67 => ?_) (fun q67 => ?_)
            · exfalso; exact hNi ⟨by omega, by omega⟩
            · refine x_iinc h dX7_wants_70 rfl rfl rfl ?_
              dsimp only [xset]
              refine x_goto h dX7_wants_73 (tgt := 36) (by decide) ?_
              exact ih (i + 1) _ _ (by assumption) (by omega) (by omega)
      exact HH x.toNat 0 _ _ (by assumption) (by omega) (by omega)
    · refine x_iload_n h dX7_wants_31 rfl ?_
      exact x_iretq h he dX7_wants_32 ⟨by unfold wnN; rw [nxF_e (by first | exact Or.inl (by assumption) | (right; rw [show M 1 (113 + 8 * p + 1) * 10 + M 1 (113 + 8 * p + 2) = 10 * M 1 (113 + 8 * p + 1) + M 1 (113 + 8 * p + 2) by omega]; assumption))], (by first | exact CaE.of (by assumption) | exact CaE.rf (by assumption))⟩

theorem dX7_nearestBeside_0 : decode cX7_nearestBeside 0 = .ok (.iconst (-1), 1) := by decide +kernel
theorem dX7_nearestBeside_1 : decode cX7_nearestBeside 1 = .ok (.istore_n 3, 1) := by decide +kernel
theorem dX7_nearestBeside_2 : decode cX7_nearestBeside 2 = .ok (.bipush 9, 2) := by decide +kernel
theorem dX7_nearestBeside_4 : decode cX7_nearestBeside 4 = .ok (.istore 4, 2) := by decide +kernel
theorem dX7_nearestBeside_6 : decode cX7_nearestBeside 6 = .ok (.iload 4, 2) := by decide +kernel
theorem dX7_nearestBeside_8 : decode cX7_nearestBeside 8 = .ok (.ifCond .lt 46, 3) := by decide +kernel
theorem dX7_nearestBeside_11 : decode cX7_nearestBeside 11 = .ok (.aload_n 0, 1) := by decide +kernel
theorem dX7_nearestBeside_12 : decode cX7_nearestBeside 12 = .ok (.iload_n 1, 1) := by decide +kernel
theorem dX7_nearestBeside_13 : decode cX7_nearestBeside 13 = .ok (.iload 4, 2) := by decide +kernel
theorem dX7_nearestBeside_15 : decode cX7_nearestBeside 15 = .ok (.invokevirtual 105, 3) := by decide +kernel
theorem dX7_nearestBeside_18 : decode cX7_nearestBeside 18 = .ok (.ifCond .le 28, 3) := by decide +kernel
theorem dX7_nearestBeside_21 : decode cX7_nearestBeside 21 = .ok (.iload_n 3, 1) := by decide +kernel
theorem dX7_nearestBeside_22 : decode cX7_nearestBeside 22 = .ok (.ifCond .lt 19, 3) := by decide +kernel
theorem dX7_nearestBeside_25 : decode cX7_nearestBeside 25 = .ok (.aload_n 0, 1) := by decide +kernel
theorem dX7_nearestBeside_26 : decode cX7_nearestBeside 26 = .ok (.iload 4, 2) := by decide +kernel
theorem dX7_nearestBeside_28 : decode cX7_nearestBeside 28 = .ok (.iload_n 2, 1) := by decide +kernel
theorem dX7_nearestBeside_29 : decode cX7_nearestBeside 29 = .ok (.invokevirtual 116, 3) := by decide +kernel
theorem dX7_nearestBeside_32 : decode cX7_nearestBeside 32 = .ok (.aload_n 0, 1) := by decide +kernel
theorem dX7_nearestBeside_33 : decode cX7_nearestBeside 33 = .ok (.iload_n 3, 1) := by decide +kernel
theorem dX7_nearestBeside_34 : decode cX7_nearestBeside 34 = .ok (.iload_n 2, 1) := by decide +kernel
theorem dX7_nearestBeside_35 : decode cX7_nearestBeside 35 = .ok (.invokevirtual 116, 3) := by decide +kernel
theorem dX7_nearestBeside_38 : decode cX7_nearestBeside 38 = .ok (.if_icmp .gt 8, 3) := by decide +kernel
theorem dX7_nearestBeside_41 : decode cX7_nearestBeside 41 = .ok (.iload 4, 2) := by decide +kernel
theorem dX7_nearestBeside_43 : decode cX7_nearestBeside 43 = .ok (.goto 4, 3) := by decide +kernel
theorem dX7_nearestBeside_46 : decode cX7_nearestBeside 46 = .ok (.iload_n 3, 1) := by decide +kernel
theorem dX7_nearestBeside_47 : decode cX7_nearestBeside 47 = .ok (.istore_n 3, 1) := by decide +kernel
theorem dX7_nearestBeside_48 : decode cX7_nearestBeside 48 = .ok (.iinc 4 (-1), 3) := by decide +kernel
theorem dX7_nearestBeside_51 : decode cX7_nearestBeside 51 = .ok (.goto (-45), 3) := by decide +kernel
theorem dX7_nearestBeside_54 : decode cX7_nearestBeside 54 = .ok (.iload_n 3, 1) := by decide +kernel
theorem dX7_nearestBeside_55 : decode cX7_nearestBeside 55 = .ok (.ireturn, 1) := by decide +kernel
set_option maxHeartbeats 800000 in
set_option maxRecDepth 100000 in
theorem c_X7_nearestBeside {l : Launch} {ω : xO} {ks : Nat → Option Nat} (hm : xsh ω = mdS ks) {a c : Int} {M : xMem} (hI : MInv M) (hf : Fc M) (ha : plc a) (hc : plc c) : Cq l ω yX7_nearestBeside ({ frames := 3, cells := 0, slots := 0, locals := 67 } : Room) 5 2 [.ref (xad ω 0), .int (iI a), .int (iI c)] M (pI1 (fun r N' => r = nbN M a c ∧ CaE M N')) := by
  refine Cq.of (bytes := cX7_nearestBeside) (ret := (some .int)) (lv0 := [some (.ref (xad ω 0)), some (.int (iI a)), some (.int (iI c)), none, none]) m_cd_X7_nearestBeside m_in_X7 (by decide +kernel) (by decide +kernel) rfl rfl rfl rfl ?_
  intro κ h he hR
  have hn := hI.1
  have hL := hI.2.2.1
  refine x_iconst h dX7_nearestBeside_0 ?_
  refine x_istore_n h dX7_nearestBeside_1 rfl rfl ?_
  dsimp only [xset]
  refine x_bipush h dX7_nearestBeside_2 (by decide) ?_
  refine x_istore h dX7_nearestBeside_4 rfl rfl ?_
  dsimp only [xset]
  have hB := dN_B hL
  have HH : ∀ (k : Nat) (acc f : Int) (d : Int → Int), k ≤ 10 → Fc (ca M f d) → -1 ≤ acc ∧ acc < 10 → nbD (wyM M) (dN M) a c k acc = nbN M a c → X ω κ 6 [some (.ref (xad ω 0)), some (.int (iI a)), some (.int (iI c)), some (.int (iI acc)), some (.int (iI ((k : Int) - 1)))] [] (ca M f d) := by
    intro k
    induction k with
    | zero =>
      intro acc f d hk hc ha1 he1
      refine x_iload h dX7_nearestBeside_6 rfl ?_
      refine x_if_lt h dX7_nearestBeside_8 (tgt := 54) (by decide) (by omega) (fun q8 => ?_) (fun q8 => ?_)
      · refine x_iload_n h dX7_nearestBeside_54 rfl ?_
        exact x_iretq h he dX7_nearestBeside_55 ⟨he1, CaE.of (by assumption)⟩
      · exfalso; omega
    | succ k ih =>
      intro acc f d hk hc ha1 he1
      rw [show (((k + 1 : Nat) : Int) - 1) = (k : Int) by omega]
      have hw := hL (a * 10 + (k : Int)) (by omega) (by omega)
      have hwe : M 1 (13 + 10 * a + (k : Int)) = wyM M (a * 10 + (k : Int)) := wyM_i (by omega) (by omega)
      have hd1 := hB (10 * (k : Int) + c) (by omega) (by omega)
      have hd2 : 0 ≤ acc → 0 ≤ dN M (10 * acc + c) ∧ dN M (10 * acc + c) ≤ 999 := fun z => hB (10 * acc + c) (by omega) (by omega)
      rw [nbD, show (k : Int) * 10 + c = 10 * (k : Int) + c by omega, show acc * 10 + c = 10 * acc + c by omega] at he1
      refine x_iload h dX7_nearestBeside_6 rfl ?_
      refine x_if_lt h dX7_nearestBeside_8 (tgt := 54) (by decide) (by omega) (fun q8 => ?_) (fun q8 => ?_)
      · exfalso; omega
      · refine x_aload_n h dX7_nearestBeside_11 rfl ?_
        refine x_iload_n h dX7_nearestBeside_12 rfl ?_
        refine x_iload h dX7_nearestBeside_13 rfl ?_
        refine x_V2i h dX7_nearestBeside_15 m_ml_X7_105 m_im_X7_wayOf m_se_X7_wayOf (sM0 hm) rfl (by decide) rfl (c_X7_wayOf hm (by omega) (by omega)) ?_
        try simp only [ca_1]
        refine x_if_le h dX7_nearestBeside_18 (tgt := 46) (by decide) (by omega) (fun q18 => ?_) (fun q18 => ?_)
        · refine x_iload_n h dX7_nearestBeside_46 rfl ?_
          refine x_istore_n h dX7_nearestBeside_47 rfl rfl ?_
          dsimp only [xset]
          refine x_iinc h dX7_nearestBeside_48 rfl rfl rfl ?_
          dsimp only [xset]
          refine x_goto h dX7_nearestBeside_51 (tgt := 6) (by decide) ?_
          first
            | (rw [if_pos (by omega)] at he1; exact ih (k : Int) _ _ (by omega) (by assumption) (by omega) he1)
            | (rw [if_neg (by omega)] at he1; exact ih acc _ _ (by omega) (by assumption) (by omega) he1)
        · refine x_iload_n h dX7_nearestBeside_21 rfl ?_
          refine x_if_lt h dX7_nearestBeside_22 (tgt := 41) (by decide) (by omega) (fun q22 => ?_) (fun q22 => ?_)
          · refine x_iload h dX7_nearestBeside_41 rfl ?_
            refine x_goto h dX7_nearestBeside_43 (tgt := 47) (by decide) ?_
            refine x_istore_n h dX7_nearestBeside_47 rfl rfl ?_
            dsimp only [xset]
            refine x_iinc h dX7_nearestBeside_48 rfl rfl rfl ?_
            dsimp only [xset]
            refine x_goto h dX7_nearestBeside_51 (tgt := 6) (by decide) ?_
            first
              | (rw [if_pos (by omega)] at he1; exact ih (k : Int) _ _ (by omega) (by assumption) (by omega) he1)
              | (rw [if_neg (by omega)] at he1; exact ih acc _ _ (by omega) (by assumption) (by omega) he1)
          · refine x_aload_n h dX7_nearestBeside_25 rfl ?_
            refine x_iload h dX7_nearestBeside_26 rfl ?_
            refine x_iload_n h dX7_nearestBeside_28 rfl ?_
            refine x_Q2i h dX7_nearestBeside_29 m_ml_X7_116 m_im_X7_farFrom m_se_X7_farFrom (sM0 hm) rfl (by decide) rfl (c_X7_farFrom hm (by exact hL) (by assumption) (by first | omega | (simp only [ca_1]; omega)) (by first | omega | (simp only [ca_1]; omega))) (fun r29 N29 h29 => ?_)
            obtain ⟨rfl, f29, d29, rfl, c29⟩ := h29
            try simp only [ca_ca, ca_1, dN_ca, wyM_ca, plN_ca, rpN_ca, ltN_ca, pmN_ca, wnN_ca, nbN_ca] at c29 ⊢
            refine x_aload_n h dX7_nearestBeside_32 rfl ?_
            refine x_iload_n h dX7_nearestBeside_33 rfl ?_
            refine x_iload_n h dX7_nearestBeside_34 rfl ?_
            refine x_Q2i h dX7_nearestBeside_35 m_ml_X7_116 m_im_X7_farFrom m_se_X7_farFrom (sM0 hm) rfl (by decide) rfl (c_X7_farFrom hm (by exact hL) (by assumption) (by first | omega | (simp only [ca_1]; omega)) (by first | omega | (simp only [ca_1]; omega))) (fun r35 N35 h35 => ?_)
            obtain ⟨rfl, f35, d35, rfl, c35⟩ := h35
            try simp only [ca_ca, ca_1, dN_ca, wyM_ca, plN_ca, rpN_ca, ltN_ca, pmN_ca, wnN_ca, nbN_ca] at c35 ⊢
            try simp only [ca_ca, ca_1, dN_ca, wyM_ca, plN_ca, rpN_ca, ltN_ca, pmN_ca, wnN_ca, nbN_ca]
            refine x_icmp_gt h dX7_nearestBeside_38 (tgt := 46) (by decide) (by omega) (by omega) (fun q38 => ?_) (fun q38 => ?_)
            · refine x_iload_n h dX7_nearestBeside_46 rfl ?_
              refine x_istore_n h dX7_nearestBeside_47 rfl rfl ?_
              dsimp only [xset]
              refine x_iinc h dX7_nearestBeside_48 rfl rfl rfl ?_
              dsimp only [xset]
              refine x_goto h dX7_nearestBeside_51 (tgt := 6) (by decide) ?_
              first
                | (rw [if_pos (by omega)] at he1; exact ih (k : Int) _ _ (by omega) (by assumption) (by omega) he1)
                | (rw [if_neg (by omega)] at he1; exact ih acc _ _ (by omega) (by assumption) (by omega) he1)
            · refine x_iload h dX7_nearestBeside_41 rfl ?_
              refine x_goto h dX7_nearestBeside_43 (tgt := 47) (by decide) ?_
              refine x_istore_n h dX7_nearestBeside_47 rfl rfl ?_
              dsimp only [xset]
              refine x_iinc h dX7_nearestBeside_48 rfl rfl rfl ?_
              dsimp only [xset]
              refine x_goto h dX7_nearestBeside_51 (tgt := 6) (by decide) ?_
              first
                | (rw [if_pos (by omega)] at he1; exact ih (k : Int) _ _ (by omega) (by assumption) (by omega) he1)
                | (rw [if_neg (by omega)] at he1; exact ih acc _ _ (by omega) (by assumption) (by omega) he1)
  refine x_mem (ca_self M).symm ?_
  exact HH 10 (-1) _ _ (by omega) (by rw [ca_self]; exact hf) (by omega) rfl

theorem dX7_counts_0 : decode cX7_counts 0 = .ok (.aload_n 0, 1) := by decide +kernel
theorem dX7_counts_1 : decode cX7_counts 1 = .ok (.getfield 9, 3) := by decide +kernel
theorem dX7_counts_4 : decode cX7_counts 4 = .ok (.iload_n 1, 1) := by decide +kernel
theorem dX7_counts_5 : decode cX7_counts 5 = .ok (.sipush 9999, 3) := by decide +kernel
theorem dX7_counts_8 : decode cX7_counts 8 = .ok (.aload_n 0, 1) := by decide +kernel
theorem dX7_counts_9 : decode cX7_counts 9 = .ok (.getfield 9, 3) := by decide +kernel
theorem dX7_counts_12 : decode cX7_counts 12 = .ok (.iload_n 1, 1) := by decide +kernel
theorem dX7_counts_13 : decode cX7_counts 13 = .ok (.iaload, 1) := by decide +kernel
theorem dX7_counts_14 : decode cX7_counts 14 = .ok (.iconst 1, 1) := by decide +kernel
theorem dX7_counts_15 : decode cX7_counts 15 = .ok (.iadd, 1) := by decide +kernel
theorem dX7_counts_16 : decode cX7_counts 16 = .ok (.invokestatic 108, 3) := by decide +kernel
theorem dX7_counts_19 : decode cX7_counts 19 = .ok (.iastore, 1) := by decide +kernel
theorem dX7_counts_20 : decode cX7_counts 20 = .ok (.return_, 1) := by decide +kernel
set_option maxHeartbeats 800000 in
set_option maxRecDepth 100000 in
theorem c_X7_counts {l : Launch} {ω : xO} {ks : Nat → Option Nat} (hm : xsh ω = mdS ks) {i : Int} {M : xMem} (hi : 0 ≤ i ∧ i < 177) (hv : 0 ≤ M 1 i ∧ M 1 i ≤ 9999) : Ct l ω yX7_counts ({ frames := 1, cells := 0, slots := 0, locals := 21 } : Room) 2 1 [.ref (xad ω 0), .int (iI i)] M none (up M 1 i (min 9999 (M 1 i + 1))) := by
  refine Ct.of (bytes := cX7_counts) (ret := none) (lv0 := [some (.ref (xad ω 0)), some (.int (iI i))]) m_cd_X7_counts m_in_X7 (by decide +kernel) (by decide +kernel) rfl rfl rfl rfl (fun hR => up_R hR (by omega)) ?_
  intro κ h he hR
  refine x_aload_n h dX7_counts_0 rfl ?_
  refine x_getr (j := 0) (q := 1) h dX7_counts_1 (sM0 hm) rfl in_X7 rfl (by decide) m_fl_X7_9 ?_
  refine x_iload_n h dX7_counts_4 rfl ?_
  refine x_sipush h dX7_counts_5 (by decide) ?_
  refine x_aload_n h dX7_counts_8 rfl ?_
  refine x_getr (j := 0) (q := 1) h dX7_counts_9 (sM0 hm) rfl in_X7 rfl (by decide) m_fl_X7_9 ?_
  refine x_iload_n h dX7_counts_12 rfl ?_
  refine x_iaload h dX7_counts_13 (sM1 hm) (by omega) (fun r13 => ?_)
  refine x_iconst h dX7_counts_14 ?_
  refine x_iadd h dX7_counts_15 ?_
  refine x_min h dX7_counts_16 m_ml_X7_108 rfl (by decide) (by omega) (by omega) ?_
  refine x_iastore h dX7_counts_19 (sM1 hm) (by omega) (by omega) ?_
  exact x_vret h he dX7_counts_20 rfl
