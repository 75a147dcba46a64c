/-! the class: Pairings.reckon -/
def gaF (n : Int) (A : Int → Int → Int) (a j : Int) (r : Int → Int) : Int → Int := fun i => if (0 ≤ i / 8 ∧ i / 8 < a ∧ i % 8 < n) ∨ (i / 8 = a ∧ i % 8 < j) then A (i / 8) (i % 8) else r i
theorem gaF_s {n : Int} {A : Int → Int → Int} {a j : Int} {r : Int → Int} (hj : 0 ≤ j ∧ j < 8) (ha : 0 ≤ a) : ur (gaF n A a j r) (a * 8 + j) (A a j) = gaF n A a (j + 1) r := by
  funext i
  unfold ur gaF
  by_cases h : i = a * 8 + j
  · rw [if_pos h, if_pos (by omega), show i / 8 = a by omega, show i % 8 = j by omega]
  · rw [if_neg h]
    by_cases g : (0 ≤ i / 8 ∧ i / 8 < a ∧ i % 8 < n) ∨ (i / 8 = a ∧ i % 8 < j)
    · rw [if_pos g, if_pos (by omega)]
    · rw [if_neg g, if_neg (by omega)]
theorem gaF_n {n : Int} {A : Int → Int → Int} {a : Int} {r : Int → Int} (hn : 0 ≤ n) (ha : 0 ≤ a) : gaF n A a n r = gaF n A (a + 1) 0 r := by
  funext i
  unfold gaF
  by_cases g : (0 ≤ i / 8 ∧ i / 8 < a ∧ i % 8 < n) ∨ (i / 8 = a ∧ i % 8 < n)
  · rw [if_pos g, if_pos (by omega)]
  · rw [if_neg g, if_neg (by omega)]
theorem gaF_0 {n : Int} {A : Int → Int → Int} {r : Int → Int} : gaF n A 0 0 r = r := by
  funext i
  unfold gaF
  rw [if_neg (by omega)]
abbrev aptC (M : xMem) (p s : Int) : Int := max (M (1 + 2) (M (11 + 2) p * 10 + M (11 + 2) s)) (M (1 + 2) (M (11 + 3) p * 10 + M (11 + 3) s))
def rcN (M : xMem) : xMem := up M 43 3 (min (M 11 1) 8)
def rcG (M : xMem) : xMem := upr (rcN M) 46 (gaF (M 11 1) (aptC M) (M 11 1) 0 (M 46))
def rcH (M : xMem) : xMem := up (up (rcG M) 44 0 0) 45 0 1
noncomputable def rcK (M : xMem) (n : Nat) : xMem := xfo (fun k M' => rkC M' (k + 1)) (rcH M) n
theorem rcK_s (M : xMem) (n : Nat) : rcK M (n + 1) = rkC (rcK M n) ((n : Int) + 1) := by
  unfold rcK
  rw [xfo_s (fun k M' => rkC M' (k + 1)) (rcH M) n]
noncomputable def rcC (M : xMem) : xMem := rcK M (evF (M 11 1)).toNat
theorem gaF_R {n : Int} {A : Int → Int → Int} {a j : Int} {r : Int → Int} (hA : ∀ i k, inR (A i k)) (hr : ∀ i, inR (r i)) (i : Int) : inR (gaF n A a j r i) := by
  unfold gaF
  split
  · exact hA _ _
  · exact hr i
theorem aptC_R {M : xMem} (hR : xR M) (p s : Int) : inR (aptC M p s) := by
  have h1 := hR (1 + 2) (M (11 + 2) p * 10 + M (11 + 2) s)
  have h2 := hR (1 + 2) (M (11 + 3) p * 10 + M (11 + 3) s)
  show inR (max _ _)
  omega
theorem rcH_R {M : xMem} (hR : xR M) (hn : 0 ≤ M 11 1 ∧ M 11 1 ≤ 8) : xR (rcH M) :=
  up_R (up_R (upr_R (up_R hR (by omega)) (gaF_R (aptC_R hR) (hR 46))) (by decide)) (by decide)
theorem rcK_R {M : xMem} (hR : xR M) (hn : 0 ≤ M 11 1 ∧ M 11 1 ≤ 8) : ∀ n : Nat, xR (rcK M n) ∧ ∀ k, k ≠ 44 → k ≠ 45 → rcK M n k = rcH M k := by
  intro n
  induction n with
  | zero => exact ⟨rcH_R hR hn, fun _ _ _ => rfl⟩
  | succ n ih =>
    rw [rcK_s]
    refine ⟨up_R (up_R ih.1 (rsF_R (ih.1 45) _).1) (rsF_R (ih.1 45) _).2, fun k h1 h2 => ?_⟩
    unfold rkC
    rw [up_n h2, up_n h1]
    exact ih.2 k h1 h2
theorem rcH_3 {M : xMem} (hn : 0 ≤ M 11 1 ∧ M 11 1 ≤ 8) : rcH M 43 3 = M 11 1 := by
  unfold rcH rcG rcN
  rw [up_n (by decide), up_n (by decide), upr_n (by decide), up_ss]
  omega
theorem rcH_n {M : xMem} {k : Nat} (h : k < 43 ∨ 46 < k) : rcH M k = M k := by
  unfold rcH rcG rcN
  rw [up_n (by omega), up_n (by omega), upr_n (by omega), up_n (by omega)]

theorem dX0_reckon_0 : decode cX0_reckon 0 = .ok (.aload_n 0, 1) := by decide +kernel
theorem dX0_reckon_1 : decode cX0_reckon 1 = .ok (.aload_n 1, 1) := by decide +kernel
theorem dX0_reckon_2 : decode cX0_reckon 2 = .ok (.invokevirtual 25, 3) := by decide +kernel
theorem dX0_reckon_5 : decode cX0_reckon 5 = .ok (.bipush 8, 2) := by decide +kernel
theorem dX0_reckon_7 : decode cX0_reckon 7 = .ok (.invokestatic 30, 3) := by decide +kernel
theorem dX0_reckon_10 : decode cX0_reckon 10 = .ok (.putfield 21, 3) := by decide +kernel
theorem dX0_reckon_13 : decode cX0_reckon 13 = .ok (.iconst 0, 1) := by decide +kernel
theorem dX0_reckon_14 : decode cX0_reckon 14 = .ok (.istore_n 2, 1) := by decide +kernel
theorem dX0_reckon_15 : decode cX0_reckon 15 = .ok (.iload_n 2, 1) := by decide +kernel
theorem dX0_reckon_16 : decode cX0_reckon 16 = .ok (.aload_n 0, 1) := by decide +kernel
theorem dX0_reckon_17 : decode cX0_reckon 17 = .ok (.getfield 21, 3) := by decide +kernel
theorem dX0_reckon_20 : decode cX0_reckon 20 = .ok (.if_icmp .ge 42, 3) := by decide +kernel
theorem dX0_reckon_23 : decode cX0_reckon 23 = .ok (.iconst 0, 1) := by decide +kernel
theorem dX0_reckon_24 : decode cX0_reckon 24 = .ok (.istore_n 3, 1) := by decide +kernel
theorem dX0_reckon_25 : decode cX0_reckon 25 = .ok (.iload_n 3, 1) := by decide +kernel
theorem dX0_reckon_26 : decode cX0_reckon 26 = .ok (.aload_n 0, 1) := by decide +kernel
theorem dX0_reckon_27 : decode cX0_reckon 27 = .ok (.getfield 21, 3) := by decide +kernel
theorem dX0_reckon_30 : decode cX0_reckon 30 = .ok (.if_icmp .ge 26, 3) := by decide +kernel
theorem dX0_reckon_33 : decode cX0_reckon 33 = .ok (.aload_n 0, 1) := by decide +kernel
theorem dX0_reckon_34 : decode cX0_reckon 34 = .ok (.getfield 18, 3) := by decide +kernel
theorem dX0_reckon_37 : decode cX0_reckon 37 = .ok (.iload_n 2, 1) := by decide +kernel
theorem dX0_reckon_38 : decode cX0_reckon 38 = .ok (.bipush 8, 2) := by decide +kernel
theorem dX0_reckon_40 : decode cX0_reckon 40 = .ok (.imul, 1) := by decide +kernel
theorem dX0_reckon_41 : decode cX0_reckon 41 = .ok (.iload_n 3, 1) := by decide +kernel
theorem dX0_reckon_42 : decode cX0_reckon 42 = .ok (.iadd, 1) := by decide +kernel
theorem dX0_reckon_43 : decode cX0_reckon 43 = .ok (.aload_n 1, 1) := by decide +kernel
theorem dX0_reckon_44 : decode cX0_reckon 44 = .ok (.iload_n 2, 1) := by decide +kernel
theorem dX0_reckon_45 : decode cX0_reckon 45 = .ok (.iload_n 3, 1) := by decide +kernel
theorem dX0_reckon_46 : decode cX0_reckon 46 = .ok (.invokevirtual 36, 3) := by decide +kernel
theorem dX0_reckon_49 : decode cX0_reckon 49 = .ok (.iastore, 1) := by decide +kernel
theorem dX0_reckon_50 : decode cX0_reckon 50 = .ok (.iinc 3 1, 3) := by decide +kernel
theorem dX0_reckon_53 : decode cX0_reckon 53 = .ok (.goto (-28), 3) := by decide +kernel
theorem dX0_reckon_56 : decode cX0_reckon 56 = .ok (.iinc 2 1, 3) := by decide +kernel
theorem dX0_reckon_59 : decode cX0_reckon 59 = .ok (.goto (-44), 3) := by decide +kernel
theorem dX0_reckon_62 : decode cX0_reckon 62 = .ok (.aload_n 0, 1) := by decide +kernel
theorem dX0_reckon_63 : decode cX0_reckon 63 = .ok (.getfield 9, 3) := by decide +kernel
theorem dX0_reckon_66 : decode cX0_reckon 66 = .ok (.iconst 0, 1) := by decide +kernel
theorem dX0_reckon_67 : decode cX0_reckon 67 = .ok (.iconst 0, 1) := by decide +kernel
theorem dX0_reckon_68 : decode cX0_reckon 68 = .ok (.iastore, 1) := by decide +kernel
theorem dX0_reckon_69 : decode cX0_reckon 69 = .ok (.aload_n 0, 1) := by decide +kernel
theorem dX0_reckon_70 : decode cX0_reckon 70 = .ok (.getfield 15, 3) := by decide +kernel
theorem dX0_reckon_73 : decode cX0_reckon 73 = .ok (.iconst 0, 1) := by decide +kernel
theorem dX0_reckon_74 : decode cX0_reckon 74 = .ok (.iconst 1, 1) := by decide +kernel
theorem dX0_reckon_75 : decode cX0_reckon 75 = .ok (.iastore, 1) := by decide +kernel
theorem dX0_reckon_76 : decode cX0_reckon 76 = .ok (.iconst 1, 1) := by decide +kernel
theorem dX0_reckon_77 : decode cX0_reckon 77 = .ok (.istore_n 2, 1) := by decide +kernel
theorem dX0_reckon_78 : decode cX0_reckon 78 = .ok (.iload_n 2, 1) := by decide +kernel
theorem dX0_reckon_79 : decode cX0_reckon 79 = .ok (.aload_n 0, 1) := by decide +kernel
theorem dX0_reckon_80 : decode cX0_reckon 80 = .ok (.invokevirtual 39, 3) := by decide +kernel
theorem dX0_reckon_83 : decode cX0_reckon 83 = .ok (.if_icmp .gt 14, 3) := by decide +kernel
theorem dX0_reckon_86 : decode cX0_reckon 86 = .ok (.aload_n 0, 1) := by decide +kernel
theorem dX0_reckon_87 : decode cX0_reckon 87 = .ok (.iload_n 2, 1) := by decide +kernel
theorem dX0_reckon_88 : decode cX0_reckon 88 = .ok (.invokevirtual 42, 3) := by decide +kernel
theorem dX0_reckon_91 : decode cX0_reckon 91 = .ok (.iinc 2 1, 3) := by decide +kernel
theorem dX0_reckon_94 : decode cX0_reckon 94 = .ok (.goto (-16), 3) := by decide +kernel
theorem dX0_reckon_97 : decode cX0_reckon 97 = .ok (.return_, 1) := by decide +kernel
set_option maxHeartbeats 4000000 in
set_option maxRecDepth 100000 in
theorem c_X0_reckon {l : Launch} {ω : xO} (hc : xsh ω = clS)  {M : xMem} (hI : PeInv M 11) : Ct l ω yX0_reckon ({ frames := 3, cells := 0, slots := 0, locals := 73 } : Room) 4 1 [.ref (xad ω 43), .ref (xad ω 11)] M none (rcC M) := by
  refine Ct.of (bytes := cX0_reckon) (ret := none) (lv0 := [some (.ref (xad ω 43)), some (.ref (xad ω 11)), none, none]) m_cd_X0_reckon m_in_X0 (by decide +kernel) (by decide +kernel) rfl rfl rfl rfl (fun hR => (rcK_R hR hI.1 _).1) ?_
  intro κ h he hR
  have hn := hI.1
  refine x_aload_n h dX0_reckon_0 rfl ?_
  refine x_aload_n h dX0_reckon_1 rfl ?_
  refine x_V0i h dX0_reckon_2 m_ml_X0_25 m_im_X1_number m_se_X1_number (sPe hc ((Or.inl ⟨rfl, rfl⟩))) rfl (by decide) rfl (c_X1_number hc (Or.inl ⟨rfl, rfl⟩)) ?_
  refine x_bipush h dX0_reckon_5 (by decide) ?_
  refine x_min h dX0_reckon_7 m_ml_X0_30 rfl (by decide) (by omega) (by omega) ?_
  refine x_puti (j := 3) 3 h dX0_reckon_10 (sC43 hc) rfl in_X0 rfl (by decide) m_fl_X0_21 tyX0_ok nmX0 rfl (tyX0_ok 3 (by decide)) rfl rfl (by omega) rfl ?_
  refine x_iconst h dX0_reckon_13 ?_
  refine x_istore_n h dX0_reckon_14 rfl rfl ?_
  dsimp only [xset]
  refine x_mem (M' := upr (rcN M) 46 (gaF (M 11 1) (aptC M) ((0 : Nat) : Int) 0 (M 46))) (by rw [show ((0 : Nat) : Int) = 0 from rfl, gaF_0]; exact (upr_id (by (first | rw [up_n (by decide)] | (unfold rcN; rw [up_n (by decide)])))).symm) ?_
  refine loop_up (fun a => X ω κ 15 [some (.ref (xad ω 43)), some (.ref (xad ω 11)), some (.int (iI (a : Int))), none] [] (upr (rcN M) 46 (gaF (M 11 1) (aptC M) (a : Int) 0 (M 46)))) ((M 11 1).toNat) ?_ ?_
  · show X ω κ 15 [some (.ref (xad ω 43)), some (.ref (xad ω 11)), some (.int (iI (((M 11 1).toNat : Nat) : Int))), none] [] (upr (rcN M) 46 (gaF (M 11 1) (aptC M) (((M 11 1).toNat : Nat) : Int) 0 (M 46)))
    have e43 : upr (rcN M) 46 (gaF (M 11 1) (aptC M) (((M 11 1).toNat : Nat) : Int) 0 (M 46)) 43 3 = M 11 1 := by rw [upr_n (by decide)]; unfold rcN; rw [up_ss]; omega
    refine x_iload_n h dX0_reckon_15 rfl ?_
    refine x_aload_n h dX0_reckon_16 rfl ?_
    refine x_geti (j := 3) 3 h dX0_reckon_17 (sC43 hc) rfl in_X0 rfl (by decide) m_fl_X0_21 rfl (fun r17 => ?_)
    refine x_icmp_ge h dX0_reckon_20 (tgt := 62) (by decide) (by omega) (by omega) (fun q20 => ?_) (fun q20 => ?_)
    · refine x_aload_n h dX0_reckon_62 rfl ?_
      refine x_getr (j := 0) (q := 44) h dX0_reckon_63 (sC43 hc) rfl in_X0 rfl (by decide) m_fl_X0_9 ?_
      refine x_iconst h dX0_reckon_66 ?_
      refine x_iconst h dX0_reckon_67 ?_
      refine x_iastore h dX0_reckon_68 (sC44 hc) (by omega) (by omega) ?_
      refine x_aload_n h dX0_reckon_69 rfl ?_
      refine x_getr (j := 1) (q := 45) h dX0_reckon_70 (sC43 hc) rfl in_X0 rfl (by decide) m_fl_X0_15 ?_
      refine x_iconst h dX0_reckon_73 ?_
      refine x_iconst h dX0_reckon_74 ?_
      refine x_iastore h dX0_reckon_75 (sC45 hc) (by omega) (by omega) ?_
      refine x_iconst h dX0_reckon_76 ?_
      refine x_istore_n h dX0_reckon_77 rfl rfl ?_
      dsimp only [xset]
      refine x_same (lv' := [some (.ref (xad ω 43)), some (.ref (xad ω 11)), some (.int (iI (((0 : Nat) : Int) + 1))), none]) (st' := []) (M' := rcK M 0) ?_ rfl rfl (by show _ = rcH M; unfold rcH rcG; rw [show (((M 11 1).toNat : Nat) : Int) = M 11 1 by omega])
      refine loop_up (fun k => X ω κ 78 [some (.ref (xad ω 43)), some (.ref (xad ω 11)), some (.int (iI ((k : Int) + 1))), none] [] (rcK M k)) ((evF (M 11 1)).toNat) ?_ ?_
      · show X ω κ 78 [some (.ref (xad ω 43)), some (.ref (xad ω 11)), some (.int (iI ((((evF (M 11 1)).toNat : Nat) : Int) + 1))), none] [] (rcK M ((evF (M 11 1)).toNat))
        have hK := rcK_R hR hI.1 (evF (M 11 1)).toNat
        have e3 : rcK M (evF (M 11 1)).toNat 43 3 = M 11 1 := by rw [hK.2 43 (by decide) (by decide)]; exact rcH_3 hI.1
        have hev := evF_R hI.1
        refine x_iload_n h dX0_reckon_78 rfl ?_
        refine x_aload_n h dX0_reckon_79 rfl ?_
        refine x_V0i h dX0_reckon_80 m_ml_X0_39 m_im_X0_everybody m_se_X0_everybody (sC43 hc) rfl (by decide) rfl (c_X0_everybody hc) ?_
        rw [e3]
        refine x_icmp_gt h dX0_reckon_83 (tgt := 97) (by decide) (by omega) (by omega) (fun q83 => ?_) (fun q83 => ?_)
        · exact x_vret h he dX0_reckon_97 rfl
        · exfalso; omega
      · intro k hk ihk
        replace ihk : X ω κ 78 [some (.ref (xad ω 43)), some (.ref (xad ω 11)), some (.int (iI (((k + 1 : Nat) : Int) + 1))), none] [] (rcK M (k + 1)) := ihk
        show X ω κ 78 [some (.ref (xad ω 43)), some (.ref (xad ω 11)), some (.int (iI ((k : Int) + 1))), none] [] (rcK M k)
        have hK := rcK_R hR hI.1 k
        have e3 : rcK M k 43 3 = M 11 1 := by rw [hK.2 43 (by decide) (by decide)]; exact rcH_3 hI.1
        have hev := evF_R hI.1
        refine x_iload_n h dX0_reckon_78 rfl ?_
        refine x_aload_n h dX0_reckon_79 rfl ?_
        refine x_V0i h dX0_reckon_80 m_ml_X0_39 m_im_X0_everybody m_se_X0_everybody (sC43 hc) rfl (by decide) rfl (c_X0_everybody hc) ?_
        rw [e3]
        refine x_icmp_gt h dX0_reckon_83 (tgt := 97) (by decide) (by omega) (by omega) (fun q83 => ?_) (fun q83 => ?_)
        · exfalso; omega
        · refine x_aload_n h dX0_reckon_86 rfl ?_
          refine x_iload_n h dX0_reckon_87 rfl ?_
          refine x_V1v h dX0_reckon_88 m_ml_X0_42 m_im_X0_reckonSet m_se_X0_reckonSet (sC43 hc) rfl (by decide) rfl (c_X0_reckonSet hc (by omega) (by omega)) ?_
          refine x_iinc h dX0_reckon_91 rfl rfl rfl ?_
          dsimp only [xset]
          refine x_goto h dX0_reckon_94 (tgt := 78) (by decide) ?_
          exact x_same ihk rfl rfl (by rw [rcK_s])
    · exfalso; omega
  · intro a ha iha
    replace iha : X ω κ 15 [some (.ref (xad ω 43)), some (.ref (xad ω 11)), some (.int (iI ((a + 1 : Nat) : Int))), none] [] (upr (rcN M) 46 (gaF (M 11 1) (aptC M) ((a + 1 : Nat) : Int) 0 (M 46))) := iha
    show X ω κ 15 [some (.ref (xad ω 43)), some (.ref (xad ω 11)), some (.int (iI (a : Int))), none] [] (upr (rcN M) 46 (gaF (M 11 1) (aptC M) (a : Int) 0 (M 46)))
    have e43 : upr (rcN M) 46 (gaF (M 11 1) (aptC M) (a : Int) 0 (M 46)) 43 3 = M 11 1 := by rw [upr_n (by decide)]; unfold rcN; rw [up_ss]; omega
    refine x_iload_n h dX0_reckon_15 rfl ?_
    refine x_aload_n h dX0_reckon_16 rfl ?_
    refine x_geti (j := 3) 3 h dX0_reckon_17 (sC43 hc) rfl in_X0 rfl (by decide) m_fl_X0_21 rfl (fun r17 => ?_)
    refine x_icmp_ge h dX0_reckon_20 (tgt := 62) (by decide) (by omega) (by omega) (fun q20 => ?_) (fun q20 => ?_)
    · exfalso; omega
    · refine x_iconst h dX0_reckon_23 ?_
      refine x_istore_n h dX0_reckon_24 rfl rfl ?_
      dsimp only [xset]
      refine x_mem (M' := upr (rcN M) 46 (gaF (M 11 1) (aptC M) (a : Int) ((0 : Nat) : Int) (M 46))) rfl ?_
      refine loop_up (fun j => X ω κ 25 [some (.ref (xad ω 43)), some (.ref (xad ω 11)), some (.int (iI (a : Int))), some (.int (iI (j : Int)))] [] (upr (rcN M) 46 (gaF (M 11 1) (aptC M) (a : Int) (j : Int) (M 46)))) ((M 11 1).toNat) ?_ ?_
      · show X ω κ 25 [some (.ref (xad ω 43)), some (.ref (xad ω 11)), some (.int (iI (a : Int))), some (.int (iI (((M 11 1).toNat : Nat) : Int)))] [] (upr (rcN M) 46 (gaF (M 11 1) (aptC M) (a : Int) (((M 11 1).toNat : Nat) : Int) (M 46)))
        have e43 : upr (rcN M) 46 (gaF (M 11 1) (aptC M) (a : Int) (((M 11 1).toNat : Nat) : Int) (M 46)) 43 3 = M 11 1 := by rw [upr_n (by decide)]; unfold rcN; rw [up_ss]; omega
        refine x_iload_n h dX0_reckon_25 rfl ?_
        refine x_aload_n h dX0_reckon_26 rfl ?_
        refine x_geti (j := 3) 3 h dX0_reckon_27 (sC43 hc) rfl in_X0 rfl (by decide) m_fl_X0_21 rfl (fun r27 => ?_)
        refine x_icmp_ge h dX0_reckon_30 (tgt := 56) (by decide) (by omega) (by omega) (fun q30 => ?_) (fun q30 => ?_)
        · refine x_iinc h dX0_reckon_56 rfl rfl rfl ?_
          dsimp only [xset]
          refine x_goto h dX0_reckon_59 (tgt := 15) (by decide) ?_
          refine x_drop 3 ?_
          dsimp only [xclr]
          exact x_same iha rfl rfl (by rw [show (((M 11 1).toNat : Nat) : Int) = M 11 1 by omega, gaF_n (by omega) (by omega)]; rfl)
        · exfalso; omega
      · intro j hj ihj
        replace ihj : X ω κ 25 [some (.ref (xad ω 43)), some (.ref (xad ω 11)), some (.int (iI (a : Int))), some (.int (iI ((j + 1 : Nat) : Int)))] [] (upr (rcN M) 46 (gaF (M 11 1) (aptC M) (a : Int) ((j + 1 : Nat) : Int) (M 46))) := ihj
        show X ω κ 25 [some (.ref (xad ω 43)), some (.ref (xad ω 11)), some (.int (iI (a : Int))), some (.int (iI (j : Int)))] [] (upr (rcN M) 46 (gaF (M 11 1) (aptC M) (a : Int) (j : Int) (M 46)))
        have e43 : upr (rcN M) 46 (gaF (M 11 1) (aptC M) (a : Int) (j : Int) (M 46)) 43 3 = M 11 1 := by rw [upr_n (by decide)]; unfold rcN; rw [up_ss]; omega
        have ek : ∀ k, k < 43 → upr (rcN M) 46 (gaF (M 11 1) (aptC M) (a : Int) (j : Int) (M 46)) k = M k := fun k hk => by rw [upr_n (by omega)]; unfold rcN; rw [up_n (by omega)]
        have hI2 : PeInv (upr (rcN M) 46 (gaF (M 11 1) (aptC M) (a : Int) (j : Int) (M 46))) 11 := by unfold PeInv; rw [ek 11 (by omega), ek (11 + 1) (by omega), ek (11 + 2) (by omega), ek (11 + 3) (by omega), ek (11 + 4) (by omega), ek (11 + 5) (by omega), ek (11 + 6) (by omega), ek (11 + 7) (by omega), ek (11 + 8) (by omega)]; exact hI
        have hp2 : clHas (upr (rcN M) 46 (gaF (M 11 1) (aptC M) (a : Int) (j : Int) (M 46))) 11 (a : Int) := by unfold clHas; rw [ek 11 (by omega)]; omega
        have hs2 : clHas (upr (rcN M) 46 (gaF (M 11 1) (aptC M) (a : Int) (j : Int) (M 46))) 11 (j : Int) := by unfold clHas; rw [ek 11 (by omega)]; omega
        have ea : max (upr (rcN M) 46 (gaF (M 11 1) (aptC M) (a : Int) (j : Int) (M 46)) (1 + 2) (upr (rcN M) 46 (gaF (M 11 1) (aptC M) (a : Int) (j : Int) (M 46)) (11 + 2) (a : Int) * 10 + upr (rcN M) 46 (gaF (M 11 1) (aptC M) (a : Int) (j : Int) (M 46)) (11 + 2) (j : Int))) (upr (rcN M) 46 (gaF (M 11 1) (aptC M) (a : Int) (j : Int) (M 46)) (1 + 2) (upr (rcN M) 46 (gaF (M 11 1) (aptC M) (a : Int) (j : Int) (M 46)) (11 + 3) (a : Int) * 10 + upr (rcN M) 46 (gaF (M 11 1) (aptC M) (a : Int) (j : Int) (M 46)) (11 + 3) (j : Int))) = aptC M (a : Int) (j : Int) := by rw [ek (1 + 2) (by omega), ek (11 + 2) (by omega), ek (11 + 3) (by omega)]
        have har := aptC_R hR (a : Int) (j : Int)
        refine x_iload_n h dX0_reckon_25 rfl ?_
        refine x_aload_n h dX0_reckon_26 rfl ?_
        refine x_geti (j := 3) 3 h dX0_reckon_27 (sC43 hc) rfl in_X0 rfl (by decide) m_fl_X0_21 rfl (fun r27 => ?_)
        refine x_icmp_ge h dX0_reckon_30 (tgt := 56) (by decide) (by omega) (by omega) (fun q30 => ?_) (fun q30 => ?_)
        · exfalso; omega
        · refine x_aload_n h dX0_reckon_33 rfl ?_
          refine x_getr (j := 2) (q := 46) h dX0_reckon_34 (sC43 hc) rfl in_X0 rfl (by decide) m_fl_X0_18 ?_
          refine x_iload_n h dX0_reckon_37 rfl ?_
          refine x_bipush h dX0_reckon_38 (by decide) ?_
          refine x_imul h dX0_reckon_40 ?_
          refine x_iload_n h dX0_reckon_41 rfl ?_
          refine x_iadd h dX0_reckon_42 ?_
          refine x_aload_n h dX0_reckon_43 rfl ?_
          refine x_iload_n h dX0_reckon_44 rfl ?_
          refine x_iload_n h dX0_reckon_45 rfl ?_
          refine x_V2i h dX0_reckon_46 m_ml_X0_36 m_im_X1_apartness m_se_X1_apartness (sPe hc ((Or.inl ⟨rfl, rfl⟩))) rfl (by decide) rfl (c_X1_apartness hc (Or.inl ⟨rfl, rfl⟩) hI2 hp2 hs2) ?_
          rw [ea]
          refine x_iastore h dX0_reckon_49 (sC46 hc) (by omega) (by omega) ?_
          refine x_mem (M' := upr (rcN M) 46 (gaF (M 11 1) (aptC M) (a : Int) ((j + 1 : Nat) : Int) (M 46))) (by rw [up_upr, gaF_s (by omega) (by omega)]; rfl) ?_
          refine x_iinc h dX0_reckon_50 rfl rfl rfl ?_
          dsimp only [xset]
          refine x_goto h dX0_reckon_53 (tgt := 25) (by decide) ?_
          exact ihj
