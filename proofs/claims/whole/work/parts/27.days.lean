/-! the class: its own methods, six: days, load, judge, knots -/
theorem drN_R {M : xMem} : 0 ≤ drN M ∧ drN M < 16777216 := by
  unfold drN bushr
  have e : ((iI 8).toUInt32 &&& Int32.toUInt32 31).toBitVec % 32 = 8#32 := by decide +kernel
  have h := pk_ushr (iI (wr (M 0 3 * 1103515245 + 12345))) (iI 8) 8 (by rw [e]; rfl)
  generalize ((iI (wr (M 0 3 * 1103515245 + 12345))).toUInt32 >>> ((iI 8).toUInt32 &&& Int32.toUInt32 31)).toInt32 = z at h ⊢
  have hlt : (iI (wr (M 0 3 * 1103515245 + 12345))).toBitVec.toNat < 2 ^ 32 := (iI (wr (M 0 3 * 1103515245 + 12345))).toBitVec.isLt
  have hz : z.toBitVec.toNat < 16777216 := by rw [h]; omega
  have : z.toInt = (z.toBitVec.toNat : Int) := by
    show z.toBitVec.toInt = _
    rw [BitVec.toInt_eq_toNat_of_lt (by omega)]
  omega
/-- one day's draws -/
def ddG (p : Int) (M : xMem) : xMem := up (drM M) (11 + 3) p (drN M % 10)
def ddF (M : xMem) (n : Nat) : xMem := xfo ddG M n
theorem ddF_s (M : xMem) (n : Nat) : ddF M (n + 1) = ddG (n : Int) (ddF M n) := by
  unfold ddF
  rw [xfo_s ddG M n]
theorem ddF_o {M : xMem} (hR : xR M) (hI : PeInv M 11) : ∀ n : Nat, xR (ddF M n) ∧ PeInv (ddF M n) 11 ∧ ∀ k, k ≠ 0 → k ≠ 11 + 3 → ddF M n k = M k := by
  intro n
  induction n with
  | zero => exact ⟨hR, hI, fun _ _ _ => rfl⟩
  | succ n ih =>
    obtain ⟨h1, h2, h3⟩ := ih
    rw [ddF_s]
    have hd := drN_R (M := ddF M n)
    have e : ∀ k, k ≠ 0 → drM (ddF M n) k = ddF M n k := fun k hk => by unfold drM; exact up_n hk
    have hI2 : PeInv (drM (ddF M n)) 11 := by
      unfold PeInv
      rw [e 11 (by omega), e (11 + 1) (by omega), e (11 + 2) (by omega), e (11 + 3) (by omega), e (11 + 4) (by omega), e (11 + 5) (by omega), e (11 + 6) (by omega), e (11 + 7) (by omega), e (11 + 8) (by omega)]
      exact h2
    refine ⟨up_R (up_R h1 (wr_R _)) (by omega), PeInv_up hI2 (by omega), fun k a1 a2 => ?_⟩
    unfold ddG
    rw [up_n a2, e k a1]
    exact h3 k a1 a2
noncomputable def dyG (_ : Int) (st : Int × xMem) : Int × xMem := (st.1 + pc8 (thS (tkC 11 1 (ddF st.2 (st.2 11 1).toNat) 10) 11), tkC 11 1 (ddF st.2 (st.2 11 1).toNat) 10)
noncomputable def dyF (M : xMem) (n : Nat) : Int × xMem := xfo dyG (0, M) n
theorem dyF_s (M : xMem) (n : Nat) : dyF M (n + 1) = dyG (n : Int) (dyF M n) := by
  unfold dyF
  rw [xfo_s dyG (0, M) n]
theorem ddF_in {M : xMem} (h : PIn M 11 1) (n : Nat) : PIn (ddF M n) 11 1 := by
  have g := ddF_o h.1 h.2.1 n
  exact ⟨g.1, g.2.1, RdInv_of h.2.2 (fun k h1 h2 => g.2.2 k (by omega) (by omega))⟩
theorem dyF_o {M : xMem} (h : PIn M 11 1) : ∀ n : Nat, PIn (dyF M n).2 11 1 ∧ (dyF M n).2 11 1 = M 11 1 := by
  intro n
  induction n with
  | zero => exact ⟨h, rfl⟩
  | succ n ih =>
    rw [dyF_s]
    generalize dyF M n = st at ih ⊢
    have h2 := ddF_in ih.1 (st.2 11 1).toNat
    have h3 := tkC_in H11 h2 10
    refine ⟨h3, ?_⟩
    unfold dyG
    dsimp only
    rw [(tkC_r H11 h2 10).2 1 (by omega) (by omega) (by omega), (ddF_o ih.1.1 ih.1.2.1 _).2.2 11 (by omega) (by omega)]
    exact ih.2
noncomputable def daysR (M : xMem) (n : Int) : Int := if 1 ≤ n ∧ n ≤ 10 then (if M 11 2 + n * 10 ≤ 99999 then (dyF M n.toNat).1 else -1000005) else -1000001
noncomputable def daysM (M : xMem) (n : Int) : xMem := if 1 ≤ n ∧ n ≤ 10 then (if M 11 2 + n * 10 ≤ 99999 then (dyF M n.toNat).2 else fndC M 4) else fndC M 0
theorem dX6_days_0 : decode cX6_days 0 = .ok (.iload_n 1, 1) := by decide +kernel
theorem dX6_days_1 : decode cX6_days 1 = .ok (.iconst 1, 1) := by decide +kernel
theorem dX6_days_2 : decode cX6_days 2 = .ok (.if_icmp .lt 9, 3) := by decide +kernel
theorem dX6_days_5 : decode cX6_days 5 = .ok (.iload_n 1, 1) := by decide +kernel
theorem dX6_days_6 : decode cX6_days 6 = .ok (.bipush 10, 2) := by decide +kernel
theorem dX6_days_8 : decode cX6_days 8 = .ok (.if_icmp .le 9, 3) := by decide +kernel
theorem dX6_days_11 : decode cX6_days 11 = .ok (.aload_n 0, 1) := by decide +kernel
theorem dX6_days_12 : decode cX6_days 12 = .ok (.iconst 0, 1) := by decide +kernel
theorem dX6_days_13 : decode cX6_days 13 = .ok (.invokevirtual 95, 3) := by decide +kernel
theorem dX6_days_16 : decode cX6_days 16 = .ok (.ireturn, 1) := by decide +kernel
theorem dX6_days_17 : decode cX6_days 17 = .ok (.aload_n 0, 1) := by decide +kernel
theorem dX6_days_18 : decode cX6_days 18 = .ok (.getfield 21, 3) := by decide +kernel
theorem dX6_days_21 : decode cX6_days 21 = .ok (.invokevirtual 182, 3) := by decide +kernel
theorem dX6_days_24 : decode cX6_days 24 = .ok (.iload_n 1, 1) := by decide +kernel
theorem dX6_days_25 : decode cX6_days 25 = .ok (.bipush 10, 2) := by decide +kernel
theorem dX6_days_27 : decode cX6_days 27 = .ok (.imul, 1) := by decide +kernel
theorem dX6_days_28 : decode cX6_days 28 = .ok (.iadd, 1) := by decide +kernel
theorem dX6_days_29 : decode cX6_days 29 = .ok (.ldc 185, 2) := by decide +kernel
theorem dX6_days_31 : decode cX6_days 31 = .ok (.if_icmp .le 9, 3) := by decide +kernel
theorem dX6_days_34 : decode cX6_days 34 = .ok (.aload_n 0, 1) := by decide +kernel
theorem dX6_days_35 : decode cX6_days 35 = .ok (.iconst 4, 1) := by decide +kernel
theorem dX6_days_36 : decode cX6_days 36 = .ok (.invokevirtual 95, 3) := by decide +kernel
theorem dX6_days_39 : decode cX6_days 39 = .ok (.ireturn, 1) := by decide +kernel
theorem dX6_days_40 : decode cX6_days 40 = .ok (.iconst 0, 1) := by decide +kernel
theorem dX6_days_41 : decode cX6_days 41 = .ok (.istore_n 2, 1) := by decide +kernel
theorem dX6_days_42 : decode cX6_days 42 = .ok (.iconst 0, 1) := by decide +kernel
theorem dX6_days_43 : decode cX6_days 43 = .ok (.istore_n 3, 1) := by decide +kernel
theorem dX6_days_44 : decode cX6_days 44 = .ok (.iload_n 3, 1) := by decide +kernel
theorem dX6_days_45 : decode cX6_days 45 = .ok (.iload_n 1, 1) := by decide +kernel
theorem dX6_days_46 : decode cX6_days 46 = .ok (.if_icmp .ge 69, 3) := by decide +kernel
theorem dX6_days_49 : decode cX6_days 49 = .ok (.iconst 0, 1) := by decide +kernel
theorem dX6_days_50 : decode cX6_days 50 = .ok (.istore 4, 2) := by decide +kernel
theorem dX6_days_52 : decode cX6_days 52 = .ok (.iload 4, 2) := by decide +kernel
theorem dX6_days_54 : decode cX6_days 54 = .ok (.aload_n 0, 1) := by decide +kernel
theorem dX6_days_55 : decode cX6_days 55 = .ok (.getfield 21, 3) := by decide +kernel
theorem dX6_days_58 : decode cX6_days 58 = .ok (.invokevirtual 113, 3) := by decide +kernel
theorem dX6_days_61 : decode cX6_days 61 = .ok (.if_icmp .ge 26, 3) := by decide +kernel
theorem dX6_days_64 : decode cX6_days 64 = .ok (.aload_n 0, 1) := by decide +kernel
theorem dX6_days_65 : decode cX6_days 65 = .ok (.getfield 21, 3) := by decide +kernel
theorem dX6_days_68 : decode cX6_days 68 = .ok (.iload 4, 2) := by decide +kernel
theorem dX6_days_70 : decode cX6_days 70 = .ok (.aload_n 0, 1) := by decide +kernel
theorem dX6_days_71 : decode cX6_days 71 = .ok (.invokevirtual 278, 3) := by decide +kernel
theorem dX6_days_74 : decode cX6_days 74 = .ok (.bipush 10, 2) := by decide +kernel
theorem dX6_days_76 : decode cX6_days 76 = .ok (.irem, 1) := by decide +kernel
theorem dX6_days_77 : decode cX6_days 77 = .ok (.invokevirtual 156, 3) := by decide +kernel
theorem dX6_days_80 : decode cX6_days 80 = .ok (.pop, 1) := by decide +kernel
theorem dX6_days_81 : decode cX6_days 81 = .ok (.iinc 4 1, 3) := by decide +kernel
theorem dX6_days_84 : decode cX6_days 84 = .ok (.goto (-32), 3) := by decide +kernel
theorem dX6_days_87 : decode cX6_days 87 = .ok (.aload_n 0, 1) := by decide +kernel
theorem dX6_days_88 : decode cX6_days 88 = .ok (.getfield 21, 3) := by decide +kernel
theorem dX6_days_91 : decode cX6_days 91 = .ok (.bipush 10, 2) := by decide +kernel
theorem dX6_days_93 : decode cX6_days 93 = .ok (.invokevirtual 186, 3) := by decide +kernel
theorem dX6_days_96 : decode cX6_days 96 = .ok (.iload_n 2, 1) := by decide +kernel
theorem dX6_days_97 : decode cX6_days 97 = .ok (.aload_n 0, 1) := by decide +kernel
theorem dX6_days_98 : decode cX6_days 98 = .ok (.getfield 21, 3) := by decide +kernel
theorem dX6_days_101 : decode cX6_days 101 = .ok (.invokevirtual 189, 3) := by decide +kernel
theorem dX6_days_104 : decode cX6_days 104 = .ok (.invokestatic 223, 3) := by decide +kernel
theorem dX6_days_107 : decode cX6_days 107 = .ok (.iadd, 1) := by decide +kernel
theorem dX6_days_108 : decode cX6_days 108 = .ok (.istore_n 2, 1) := by decide +kernel
theorem dX6_days_109 : decode cX6_days 109 = .ok (.iinc 3 1, 3) := by decide +kernel
theorem dX6_days_112 : decode cX6_days 112 = .ok (.goto (-68), 3) := by decide +kernel
theorem dX6_days_115 : decode cX6_days 115 = .ok (.iload_n 2, 1) := by decide +kernel
theorem dX6_days_116 : decode cX6_days 116 = .ok (.ireturn, 1) := by decide +kernel
set_option maxHeartbeats 4000000 in
set_option maxRecDepth 100000 in
theorem c_X6_days {l : Launch} {ω : xO} (hc : xsh ω = clS) {n : Int} {M : xMem} (hJ : CInv M) (h_n : inR n) : Ct l ω yX6_days ({ frames := 5, cells := 0, slots := 0, locals := 118 } : Room) 5 1 [.ref (xad ω 0), .int (iI n)] M (some (.int (iI (daysR M n)))) (daysM M n) := by
  refine Ct.of (bytes := cX6_days) (ret := (some .int)) (lv0 := [some (.ref (xad ω 0)), some (.int (iI n)), none, none, none]) m_cd_X6_days m_in_X6 (by decide +kernel) (by decide +kernel) rfl rfl rfl rfl (fun hR => by unfold daysM; (repeat' split) <;> first | exact fndC_R hR | exact (dyF_o ⟨hR, hJ.1, hJ.2.1⟩ n.toNat).1.1) ?_
  intro κ h he hR
  have hI := hJ.1
  have hD := hJ.2.1
  have hL := hJ.2.2.1
  have hn := hI.1
  have hck := hI.2.1
  have hin : PIn M 11 1 := ⟨hR, hI, hD⟩
  refine x_iload_n h dX6_days_0 rfl ?_
  refine x_iconst h dX6_days_1 ?_
  refine x_icmp_lt h dX6_days_2 (tgt := 11) (by decide) (by omega) (by omega) (fun q2 => ?_) (fun q2 => ?_)
  · refine x_aload_n h dX6_days_11 rfl ?_
    refine x_iconst h dX6_days_12 ?_
    refine x_V1i h dX6_days_13 m_ml_X6_95 m_im_X6_found m_se_X6_found (sC0 hc) rfl (by decide) rfl (c_X6_found hc (by omega)) ?_
    exact x_iret (ret := none) h he dX6_days_16 rfl (by unfold daysR; (repeat (first | rw [if_pos (by first | assumption | omega)] | rw [if_neg (by first | assumption | omega)])) <;> first | rfl | omega) (by unfold daysM; (repeat (first | rw [if_pos (by first | assumption | omega)] | rw [if_neg (by first | assumption | omega)])) <;> first | rfl | omega)
  · refine x_iload_n h dX6_days_5 rfl ?_
    refine x_bipush h dX6_days_6 (by decide) ?_
    refine x_icmp_le h dX6_days_8 (tgt := 17) (by decide) (by omega) (by omega) (fun q8 => ?_) (fun q8 => ?_)
    · refine x_aload_n h dX6_days_17 rfl ?_
      refine x_getr (j := 1) (q := 11) h dX6_days_18 (sC0 hc) rfl in_X6 rfl (by decide) m_fl_X6_21 ?_
      refine x_V0i h dX6_days_21 m_ml_X6_182 m_im_X1_clock m_se_X1_clock (sPe hc ((Or.inl ⟨rfl, rfl⟩))) rfl (by decide) rfl (c_X1_clock hc (Or.inl ⟨rfl, rfl⟩)) ?_
      refine x_iload_n h dX6_days_24 rfl ?_
      refine x_bipush h dX6_days_25 (by decide) ?_
      refine x_imul h dX6_days_27 ?_
      refine x_iadd h dX6_days_28 ?_
      refine x_ldc h m_k_X6_185 dX6_days_29 ?_
      refine x_icmp_le h dX6_days_31 (tgt := 40) (by decide) (by omega) (by omega) (fun q31 => ?_) (fun q31 => ?_)
      · refine x_iconst h dX6_days_40 ?_
        refine x_istore_n h dX6_days_41 rfl rfl ?_
        dsimp only [xset]
        refine x_iconst h dX6_days_42 ?_
        refine x_istore_n h dX6_days_43 rfl rfl ?_
        dsimp only [xset]
        refine x_same (lv' := [some (.ref (xad ω 0)), some (.int (iI n)), some (.int (iI (dyF M 0).1)), some (.int (iI ((0 : Nat) : Int))), none]) (st' := []) (M' := (dyF M 0).2) ?_ rfl rfl rfl
        refine loop_up (fun k => X ω κ 44 [some (.ref (xad ω 0)), some (.int (iI n)), some (.int (iI (dyF M k).1)), some (.int (iI (k : Int))), none] [] ((dyF M k).2)) (n.toNat) ?_ ?_
        · show X ω κ 44 [some (.ref (xad ω 0)), some (.int (iI n)), some (.int (iI (dyF M n.toNat).1)), some (.int (iI ((n.toNat : Nat) : Int))), none] [] ((dyF M (n.toNat)).2)
          refine x_iload_n h dX6_days_44 rfl ?_
          refine x_iload_n h dX6_days_45 rfl ?_
          refine x_icmp_ge h dX6_days_46 (tgt := 115) (by decide) (by omega) (by omega) (fun q46 => ?_) (fun q46 => ?_)
          · refine x_iload_n h dX6_days_115 rfl ?_
            exact x_iret (ret := none) h he dX6_days_116 rfl (by unfold daysR; rw [if_pos (by omega), if_pos (by omega)]) (by unfold daysM; rw [if_pos (by omega), if_pos (by omega)])
          · exfalso; omega
        · intro k hk ihk
          replace ihk : X ω κ 44 [some (.ref (xad ω 0)), some (.int (iI n)), some (.int (iI (dyF M (k + 1)).1)), some (.int (iI ((k + 1 : Nat) : Int))), none] [] ((dyF M (k + 1)).2) := ihk
          show X ω κ 44 [some (.ref (xad ω 0)), some (.int (iI n)), some (.int (iI (dyF M k).1)), some (.int (iI (k : Int))), none] [] ((dyF M k).2)
          have ho := dyF_o hin k
          revert ihk
          rw [dyF_s]
          generalize dyF M k = st at ho ⊢
          intro ihk
          refine x_iload_n h dX6_days_44 rfl ?_
          refine x_iload_n h dX6_days_45 rfl ?_
          refine x_icmp_ge h dX6_days_46 (tgt := 115) (by decide) (by omega) (by omega) (fun q46 => ?_) (fun q46 => ?_)
          · exfalso; omega
          · refine x_iconst h dX6_days_49 ?_
            refine x_istore h dX6_days_50 rfl rfl ?_
            dsimp only [xset]
            refine x_mem (M' := ddF st.2 0) rfl ?_
            refine loop_up (fun j => X ω κ 52 [some (.ref (xad ω 0)), some (.int (iI n)), some (.int (iI st.1)), some (.int (iI (k : Int))), some (.int (iI (j : Int)))] [] (ddF st.2 j)) ((st.2 11 1).toNat) ?_ ?_
            · show X ω κ 52 [some (.ref (xad ω 0)), some (.int (iI n)), some (.int (iI st.1)), some (.int (iI (k : Int))), some (.int (iI (((st.2 11 1).toNat : Nat) : Int)))] [] (ddF st.2 ((st.2 11 1).toNat))
              have hdo := ddF_o ho.1.1 ho.1.2.1 (st.2 11 1).toNat
              have e1 : ddF st.2 (st.2 11 1).toNat 11 1 = st.2 11 1 := by rw [hdo.2.2 11 (by omega) (by omega)]
              have hdi := ddF_in ho.1 (st.2 11 1).toNat
              have hti := tkC_in H11 hdi 10
              have hth := thS_R (M := tkC 11 1 (ddF st.2 (st.2 11 1).toNat) 10) (b := 11) hti.2.1.1
              have hst := (ho.1).2.1.1
              refine x_iload h dX6_days_52 rfl ?_
              refine x_aload_n h dX6_days_54 rfl ?_
              refine x_getr (j := 1) (q := 11) h dX6_days_55 (sC0 hc) rfl in_X6 rfl (by decide) m_fl_X6_21 ?_
              refine x_V0i h dX6_days_58 m_ml_X6_113 m_im_X1_number m_se_X1_number (sPe hc ((Or.inl ⟨rfl, rfl⟩))) rfl (by decide) rfl (c_X1_number hc (Or.inl ⟨rfl, rfl⟩)) ?_
              refine x_icmp_ge h dX6_days_61 (tgt := 87) (by decide) (by omega) (by omega) (fun q61 => ?_) (fun q61 => ?_)
              · refine x_aload_n h dX6_days_87 rfl ?_
                refine x_getr (j := 1) (q := 11) h dX6_days_88 (sC0 hc) rfl in_X6 rfl (by decide) m_fl_X6_21 ?_
                refine x_bipush h dX6_days_91 (by decide) ?_
                refine x_V1v h dX6_days_93 m_ml_X6_186 m_im_X1_takeSteps m_se_X1_takeSteps (sPe hc ((Or.inl ⟨rfl, rfl⟩))) rfl (by decide) rfl (c_X1_takeSteps hc H11 hdi (by decide)) ?_
                refine x_iload_n h dX6_days_96 rfl ?_
                refine x_aload_n h dX6_days_97 rfl ?_
                refine x_getr (j := 1) (q := 11) h dX6_days_98 (sC0 hc) rfl in_X6 rfl (by decide) m_fl_X6_21 ?_
                refine x_V0i h dX6_days_101 m_ml_X6_189 m_im_X1_thereSet m_se_X1_thereSet (sPe hc ((Or.inl ⟨rfl, rfl⟩))) rfl (by decide) rfl (c_X1_thereSet hc H11 hti.2.1) ?_
                refine x_S1i h dX6_days_104 m_ml_X6_223 m_st_J6_bitCount_0f7a4 (by decide) rfl (c_J6_bitCount_0f7a4 hth) ?_
                refine x_iadd h dX6_days_107 ?_
                refine x_istore_n h dX6_days_108 rfl rfl ?_
                dsimp only [xset]
                refine x_iinc h dX6_days_109 rfl rfl rfl ?_
                dsimp only [xset]
                refine x_goto h dX6_days_112 (tgt := 44) (by decide) ?_
                refine x_drop 4 ?_
                dsimp only [xclr]
                exact x_same ihk rfl rfl rfl
              · exfalso; omega
            · intro j hj ihj
              replace ihj : X ω κ 52 [some (.ref (xad ω 0)), some (.int (iI n)), some (.int (iI st.1)), some (.int (iI (k : Int))), some (.int (iI ((j + 1 : Nat) : Int)))] [] (ddF st.2 (j + 1)) := ihj
              show X ω κ 52 [some (.ref (xad ω 0)), some (.int (iI n)), some (.int (iI st.1)), some (.int (iI (k : Int))), some (.int (iI (j : Int)))] [] (ddF st.2 j)
              have hdo := ddF_o ho.1.1 ho.1.2.1 j
              have e1 : ddF st.2 j 11 1 = st.2 11 1 := by rw [hdo.2.2 11 (by omega) (by omega)]
              have hd := drN_R (M := ddF st.2 j)
              have hst := (ho.1).2.1.1
              have hpd : clHas (drM (ddF st.2 j)) 11 (j : Int) := by unfold clHas drM; rw [up_n (by omega), e1]; omega
              refine x_iload h dX6_days_52 rfl ?_
              refine x_aload_n h dX6_days_54 rfl ?_
              refine x_getr (j := 1) (q := 11) h dX6_days_55 (sC0 hc) rfl in_X6 rfl (by decide) m_fl_X6_21 ?_
              refine x_V0i h dX6_days_58 m_ml_X6_113 m_im_X1_number m_se_X1_number (sPe hc ((Or.inl ⟨rfl, rfl⟩))) rfl (by decide) rfl (c_X1_number hc (Or.inl ⟨rfl, rfl⟩)) ?_
              refine x_icmp_ge h dX6_days_61 (tgt := 87) (by decide) (by omega) (by omega) (fun q61 => ?_) (fun q61 => ?_)
              · exfalso; omega
              · refine x_aload_n h dX6_days_64 rfl ?_
                refine x_getr (j := 1) (q := 11) h dX6_days_65 (sC0 hc) rfl in_X6 rfl (by decide) m_fl_X6_21 ?_
                refine x_iload h dX6_days_68 rfl ?_
                refine x_aload_n h dX6_days_70 rfl ?_
                refine x_V0i h dX6_days_71 m_ml_X6_278 m_im_X6_drawn m_se_X6_drawn (sC0 hc) rfl (by decide) rfl (c_X6_drawn hc) ?_
                refine x_bipush h dX6_days_74 (by decide) ?_
                refine x_irem h dX6_days_76 (by omega) (fun r76 => ?_)
                rw [brem_p (by omega) (by decide)]
                refine x_V2i h dX6_days_77 m_ml_X6_156 m_im_X1_setErrand m_se_X1_setErrand (sPe hc ((Or.inl ⟨rfl, rfl⟩))) rfl (by decide) rfl (c_X1_setErrand hc H11 hpd (by omega)) ?_
                refine x_pop h dX6_days_80 rfl ?_
                refine x_iinc h dX6_days_81 rfl rfl rfl ?_
                dsimp only [xset]
                refine x_goto h dX6_days_84 (tgt := 52) (by decide) ?_
                exact x_same ihj rfl rfl (by rw [ddF_s]; rfl)
      · refine x_aload_n h dX6_days_34 rfl ?_
        refine x_iconst h dX6_days_35 ?_
        refine x_V1i h dX6_days_36 m_ml_X6_95 m_im_X6_found m_se_X6_found (sC0 hc) rfl (by decide) rfl (c_X6_found hc (by omega)) ?_
        exact x_iret (ret := none) h he dX6_days_39 rfl (by unfold daysR; (repeat (first | rw [if_pos (by first | assumption | omega)] | rw [if_neg (by first | assumption | omega)])) <;> first | rfl | omega) (by unfold daysM; (repeat (first | rw [if_pos (by first | assumption | omega)] | rw [if_neg (by first | assumption | omega)])) <;> first | rfl | omega)
    · refine x_aload_n h dX6_days_11 rfl ?_
      refine x_iconst h dX6_days_12 ?_
      refine x_V1i h dX6_days_13 m_ml_X6_95 m_im_X6_found m_se_X6_found (sC0 hc) rfl (by decide) rfl (c_X6_found hc (by omega)) ?_
      exact x_iret (ret := none) h he dX6_days_16 rfl (by unfold daysR; (repeat (first | rw [if_pos (by first | assumption | omega)] | rw [if_neg (by first | assumption | omega)])) <;> first | rfl | omega) (by unfold daysM; (repeat (first | rw [if_pos (by first | assumption | omega)] | rw [if_neg (by first | assumption | omega)])) <;> first | rfl | omega)

def ldN (s most : Int) : Nat → Int → xMem → Int
  | 0, _, _ => most
  | d + 1, i, M => if plc (M 54 (s * 40 + i)) then ldN s most d (i + 1) (up M (11 + 3) i (M 54 (s * 40 + i))) else i
def ldM (s : Int) : Nat → Int → xMem → xMem
  | 0, _, M => M
  | d + 1, i, M => if plc (M 54 (s * 40 + i)) then ldM s d (i + 1) (up M (11 + 3) i (M 54 (s * 40 + i))) else M
theorem ldM_R {s : Int} : ∀ (d : Nat) (i : Int) (M : xMem), xR M → xR (ldM s d i M) := by
  intro d
  induction d with
  | zero => intro i M h; exact h
  | succ d ih =>
    intro i M h
    unfold ldM
    split
    · exact ih _ _ (up_R h (h _ _))
    · exact h
abbrev ldT (M : xMem) (s : Int) : Int := min (M 53 s) (M 11 1)
noncomputable def loadR (M : xMem) (s : Int) : Int := if shI s then (if M 52 s = 0 then -1000006 else ldN s (ldT M s) (ldT M s).toNat 0 M) else -1000001
noncomputable def loadM (M : xMem) (s : Int) : xMem := if shI s then (if M 52 s = 0 then fndC M 5 else ldM s (ldT M s).toNat 0 M) else fndC M 0
theorem dX6_load_0 : decode cX6_load 0 = .ok (.iload_n 1, 1) := by decide +kernel
theorem dX6_load_1 : decode cX6_load 1 = .ok (.invokestatic 256, 3) := by decide +kernel
theorem dX6_load_4 : decode cX6_load 4 = .ok (.ifCond .ne 9, 3) := by decide +kernel
theorem dX6_load_7 : decode cX6_load 7 = .ok (.aload_n 0, 1) := by decide +kernel
theorem dX6_load_8 : decode cX6_load 8 = .ok (.iconst 0, 1) := by decide +kernel
theorem dX6_load_9 : decode cX6_load 9 = .ok (.invokevirtual 95, 3) := by decide +kernel
theorem dX6_load_12 : decode cX6_load 12 = .ok (.ireturn, 1) := by decide +kernel
theorem dX6_load_13 : decode cX6_load 13 = .ok (.aload_n 0, 1) := by decide +kernel
theorem dX6_load_14 : decode cX6_load 14 = .ok (.getfield 78, 3) := by decide +kernel
theorem dX6_load_17 : decode cX6_load 17 = .ok (.iload_n 1, 1) := by decide +kernel
theorem dX6_load_18 : decode cX6_load 18 = .ok (.invokevirtual 259, 3) := by decide +kernel
theorem dX6_load_21 : decode cX6_load 21 = .ok (.ifCond .eq 9, 3) := by decide +kernel
theorem dX6_load_24 : decode cX6_load 24 = .ok (.aload_n 0, 1) := by decide +kernel
theorem dX6_load_25 : decode cX6_load 25 = .ok (.iconst 5, 1) := by decide +kernel
theorem dX6_load_26 : decode cX6_load 26 = .ok (.invokevirtual 95, 3) := by decide +kernel
theorem dX6_load_29 : decode cX6_load 29 = .ok (.ireturn, 1) := by decide +kernel
theorem dX6_load_30 : decode cX6_load 30 = .ok (.aload_n 0, 1) := by decide +kernel
theorem dX6_load_31 : decode cX6_load 31 = .ok (.getfield 78, 3) := by decide +kernel
theorem dX6_load_34 : decode cX6_load 34 = .ok (.iload_n 1, 1) := by decide +kernel
theorem dX6_load_35 : decode cX6_load 35 = .ok (.invokevirtual 266, 3) := by decide +kernel
theorem dX6_load_38 : decode cX6_load 38 = .ok (.aload_n 0, 1) := by decide +kernel
theorem dX6_load_39 : decode cX6_load 39 = .ok (.getfield 21, 3) := by decide +kernel
theorem dX6_load_42 : decode cX6_load 42 = .ok (.invokevirtual 113, 3) := by decide +kernel
theorem dX6_load_45 : decode cX6_load 45 = .ok (.invokestatic 324, 3) := by decide +kernel
theorem dX6_load_48 : decode cX6_load 48 = .ok (.istore_n 2, 1) := by decide +kernel
theorem dX6_load_49 : decode cX6_load 49 = .ok (.iconst 0, 1) := by decide +kernel
theorem dX6_load_50 : decode cX6_load 50 = .ok (.istore_n 3, 1) := by decide +kernel
theorem dX6_load_51 : decode cX6_load 51 = .ok (.iload_n 3, 1) := by decide +kernel
theorem dX6_load_52 : decode cX6_load 52 = .ok (.iload_n 2, 1) := by decide +kernel
theorem dX6_load_53 : decode cX6_load 53 = .ok (.if_icmp .ge 41, 3) := by decide +kernel
theorem dX6_load_56 : decode cX6_load 56 = .ok (.aload_n 0, 1) := by decide +kernel
theorem dX6_load_57 : decode cX6_load 57 = .ok (.getfield 78, 3) := by decide +kernel
theorem dX6_load_60 : decode cX6_load 60 = .ok (.iload_n 1, 1) := by decide +kernel
theorem dX6_load_61 : decode cX6_load 61 = .ok (.iload_n 3, 1) := by decide +kernel
theorem dX6_load_62 : decode cX6_load 62 = .ok (.invokevirtual 272, 3) := by decide +kernel
theorem dX6_load_65 : decode cX6_load 65 = .ok (.istore 4, 2) := by decide +kernel
theorem dX6_load_67 : decode cX6_load 67 = .ok (.iload 4, 2) := by decide +kernel
theorem dX6_load_69 : decode cX6_load 69 = .ok (.invokestatic 91, 3) := by decide +kernel
theorem dX6_load_72 : decode cX6_load 72 = .ok (.ifCond .ne 5, 3) := by decide +kernel
theorem dX6_load_75 : decode cX6_load 75 = .ok (.iload_n 3, 1) := by decide +kernel
theorem dX6_load_76 : decode cX6_load 76 = .ok (.ireturn, 1) := by decide +kernel
theorem dX6_load_77 : decode cX6_load 77 = .ok (.aload_n 0, 1) := by decide +kernel
theorem dX6_load_78 : decode cX6_load 78 = .ok (.getfield 21, 3) := by decide +kernel
theorem dX6_load_81 : decode cX6_load 81 = .ok (.iload_n 3, 1) := by decide +kernel
theorem dX6_load_82 : decode cX6_load 82 = .ok (.iload 4, 2) := by decide +kernel
theorem dX6_load_84 : decode cX6_load 84 = .ok (.invokevirtual 156, 3) := by decide +kernel
theorem dX6_load_87 : decode cX6_load 87 = .ok (.pop, 1) := by decide +kernel
theorem dX6_load_88 : decode cX6_load 88 = .ok (.iinc 3 1, 3) := by decide +kernel
theorem dX6_load_91 : decode cX6_load 91 = .ok (.goto (-40), 3) := by decide +kernel
theorem dX6_load_94 : decode cX6_load 94 = .ok (.iload_n 2, 1) := by decide +kernel
theorem dX6_load_95 : decode cX6_load 95 = .ok (.ireturn, 1) := by decide +kernel
set_option maxHeartbeats 4000000 in
set_option maxRecDepth 100000 in
theorem c_X6_load {l : Launch} {ω : xO} (hc : xsh ω = clS) {s : Int} {M : xMem} (hJ : CInv M) (h_s : inR s) : Ct l ω yX6_load ({ frames := 4, cells := 0, slots := 0, locals := 86 } : Room) 5 1 [.ref (xad ω 0), .int (iI s)] M (some (.int (iI (loadR M s)))) (loadM M s) := by
  refine Ct.of (bytes := cX6_load) (ret := (some .int)) (lv0 := [some (.ref (xad ω 0)), some (.int (iI s)), none, none, none]) m_cd_X6_load m_in_X6 (by decide +kernel) (by decide +kernel) rfl rfl rfl rfl (fun hR => by unfold loadM; (repeat' split) <;> first | exact fndC_R hR | exact ldM_R _ _ _ hR) ?_
  intro κ h he hR
  have hI := hJ.1
  have hD := hJ.2.1
  have hL := hJ.2.2.1
  have hn := hI.1
  have hck := hI.2.1
  have hz := hJ.2.2.2.2
  have g53 := hR 53 s
  refine x_iload_n h dX6_load_0 rfl ?_
  refine x_S1i h dX6_load_1 m_ml_X6_256 m_st_X6_isSheet (by decide) rfl (c_X6_isSheet hc (by omega)) ?_
  refine x_ifneB h dX6_load_4 (tgt := 13) (by decide) (fun q4 => ?_) (fun q4 => ?_)
  · refine x_aload_n h dX6_load_13 rfl ?_
    refine x_getr (j := 13) (q := 51) h dX6_load_14 (sC0 hc) rfl in_X6 rfl (by decide) m_fl_X6_78 ?_
    refine x_iload_n h dX6_load_17 rfl ?_
    refine x_V1i h dX6_load_18 m_ml_X6_259 m_im_X4_isMissing m_se_X4_isMissing (sC51 hc) rfl (by decide) rfl (c_X4_isMissing hc (by omega)) ?_
    refine x_ifeqB h dX6_load_21 (tgt := 30) (by decide) (fun q21 => ?_) (fun q21 => ?_)
    · refine x_aload_n h dX6_load_30 rfl ?_
      refine x_getr (j := 13) (q := 51) h dX6_load_31 (sC0 hc) rfl in_X6 rfl (by decide) m_fl_X6_78 ?_
      refine x_iload_n h dX6_load_34 rfl ?_
      refine x_V1i h dX6_load_35 m_ml_X6_266 m_im_X4_sizeOf m_se_X4_sizeOf (sC51 hc) rfl (by decide) rfl (c_X4_sizeOf hc (by omega)) ?_
      refine x_aload_n h dX6_load_38 rfl ?_
      refine x_getr (j := 1) (q := 11) h dX6_load_39 (sC0 hc) rfl in_X6 rfl (by decide) m_fl_X6_21 ?_
      refine x_V0i h dX6_load_42 m_ml_X6_113 m_im_X1_number m_se_X1_number (sPe hc ((Or.inl ⟨rfl, rfl⟩))) rfl (by decide) rfl (c_X1_number hc (Or.inl ⟨rfl, rfl⟩)) ?_
      refine x_min h dX6_load_45 m_ml_X6_324 rfl (by decide) (by omega) (by omega) ?_
      refine x_istore_n h dX6_load_48 rfl rfl ?_
      dsimp only [xset]
      refine x_iconst h dX6_load_49 ?_
      refine x_istore_n h dX6_load_50 rfl rfl ?_
      dsimp only [xset]
      have hz1 := hz s (by omega) (by omega)
      have hmt : 0 ≤ ldT M s ∧ ldT M s ≤ 8 ∧ ldT M s ≤ M 53 s ∧ ldT M s ≤ M 11 1 := by show 0 ≤ min _ _ ∧ min _ _ ≤ 8 ∧ min _ _ ≤ M 53 s ∧ min _ _ ≤ M 11 1; omega
      have H : ∀ (d : Nat) (M' : xMem) (i : Int), 0 ≤ i → i + d = ldT M s → xR M' → M' 53 = M 53 → M' 11 = M 11 → ldN s (ldT M s) d i M' = ldN s (ldT M s) (ldT M s).toNat 0 M → ldM s d i M' = ldM s (ldT M s).toNat 0 M → X ω κ 51 [some (.ref (xad ω 0)), some (.int (iI s)), some (.int (iI (ldT M s))), some (.int (iI i)), none] [] M' := by
        intro d
        induction d with
        | zero =>
          intro M' i hi0 hid hR' e53 e11 e e2
          refine x_iload_n h dX6_load_51 rfl ?_
          refine x_iload_n h dX6_load_52 rfl ?_
          refine x_icmp_ge h dX6_load_53 (tgt := 94) (by decide) (by omega) (by omega) (fun q53 => ?_) (fun q53 => ?_)
          · refine x_iload_n h dX6_load_94 rfl ?_
            exact x_iret (ret := none) h he dX6_load_95 rfl (by unfold loadR; rw [if_pos (by omega), if_neg (by assumption)]; rw [← e]; rfl) (by unfold loadM; rw [if_pos (by omega), if_neg (by assumption)]; rw [← e2]; rfl)
          · exfalso; omega
        | succ d ih =>
          intro M' i hi0 hid hR' e53 e11 e e2
          have gg := hR' 54 (s * 40 + i)
          have ez : M' 53 s = M 53 s := by rw [e53]
          have hpp : clHas M' 11 i := by unfold clHas; rw [e11]; omega
          refine x_iload_n h dX6_load_51 rfl ?_
          refine x_iload_n h dX6_load_52 rfl ?_
          refine x_icmp_ge h dX6_load_53 (tgt := 94) (by decide) (by omega) (by omega) (fun q53 => ?_) (fun q53 => ?_)
          · exfalso; omega
          · refine x_aload_n h dX6_load_56 rfl ?_
            refine x_getr (j := 13) (q := 51) h dX6_load_57 (sC0 hc) rfl in_X6 rfl (by decide) m_fl_X6_78 ?_
            refine x_iload_n h dX6_load_60 rfl ?_
            refine x_iload_n h dX6_load_61 rfl ?_
            refine x_V2i h dX6_load_62 m_ml_X6_272 m_im_X4_numberAt m_se_X4_numberAt (sC51 hc) rfl (by decide) rfl (c_X4_numberAt hc (by omega) (by omega)) ?_
            refine x_istore h dX6_load_65 rfl rfl ?_
            dsimp only [xset]
            refine x_iload h dX6_load_67 rfl ?_
            refine x_S1i h dX6_load_69 m_ml_X6_91 m_st_X6_isPlace (by decide) rfl (c_X6_isPlace hc (by omega)) ?_
            refine x_ifneB h dX6_load_72 (tgt := 77) (by decide) (fun q72 => ?_) (fun q72 => ?_)
            · refine x_aload_n h dX6_load_77 rfl ?_
              refine x_getr (j := 1) (q := 11) h dX6_load_78 (sC0 hc) rfl in_X6 rfl (by decide) m_fl_X6_21 ?_
              refine x_iload_n h dX6_load_81 rfl ?_
              refine x_iload h dX6_load_82 rfl ?_
              refine x_V2i h dX6_load_84 m_ml_X6_156 m_im_X1_setErrand m_se_X1_setErrand (sPe hc ((Or.inl ⟨rfl, rfl⟩))) rfl (by decide) rfl (c_X1_setErrand hc H11 hpp (by omega)) ?_
              refine x_pop h dX6_load_87 rfl ?_
              refine x_iinc h dX6_load_88 rfl rfl rfl ?_
              dsimp only [xset]
              refine x_goto h dX6_load_91 (tgt := 51) (by decide) ?_
              refine x_drop 4 ?_
              dsimp only [xclr]
              exact ih _ (i + 1) (by omega) (by omega) (up_R hR' gg) (by rw [up_n (by omega)]; exact e53) (by rw [up_n (by omega)]; exact e11) (by rw [← e, ldN, if_pos q72]) (by rw [← e2, ldM, if_pos q72])
            · refine x_iload_n h dX6_load_75 rfl ?_
              exact x_iret (ret := none) h he dX6_load_76 rfl (by unfold loadR; rw [if_pos (by omega), if_neg (by assumption)]; rw [← e, ldN, if_neg q72]) (by unfold loadM; rw [if_pos (by omega), if_neg (by assumption)]; rw [← e2, ldM, if_neg q72])
      exact H (ldT M s).toNat M 0 (by omega) (by omega) hR rfl rfl rfl rfl
    · refine x_aload_n h dX6_load_24 rfl ?_
      refine x_iconst h dX6_load_25 ?_
      refine x_V1i h dX6_load_26 m_ml_X6_95 m_im_X6_found m_se_X6_found (sC0 hc) rfl (by decide) rfl (c_X6_found hc (by omega)) ?_
      exact x_iret (ret := none) h he dX6_load_29 rfl (by unfold loadR; (repeat (first | rw [if_pos (by first | assumption | omega)] | rw [if_neg (by first | assumption | omega)])) <;> first | rfl | omega) (by unfold loadM; (repeat (first | rw [if_pos (by first | assumption | omega)] | rw [if_neg (by first | assumption | omega)])) <;> first | rfl | omega)
  · refine x_aload_n h dX6_load_7 rfl ?_
    refine x_iconst h dX6_load_8 ?_
    refine x_V1i h dX6_load_9 m_ml_X6_95 m_im_X6_found m_se_X6_found (sC0 hc) rfl (by decide) rfl (c_X6_found hc (by omega)) ?_
    exact x_iret (ret := none) h he dX6_load_12 rfl (by unfold loadR; (repeat (first | rw [if_pos (by first | assumption | omega)] | rw [if_neg (by first | assumption | omega)])) <;> first | rfl | omega) (by unfold loadM; (repeat (first | rw [if_pos (by first | assumption | omega)] | rw [if_neg (by first | assumption | omega)])) <;> first | rfl | omega)

noncomputable def juN (s : Int) : Nat → Int → xMem → Int
  | 0, _, _ => 0
  | d + 1, i, M => tI (clHas (stC 31 1 M) 31 0 ∧ stC 31 1 M (31 + 2) 0 = M 54 (s * 40 + i)) (juN s d (i + 1) (stC 31 1 M)) (1 + i)
noncomputable def juM (s : Int) : Nat → Int → xMem → xMem
  | 0, _, M => M
  | d + 1, i, M => tI (clHas (stC 31 1 M) 31 0 ∧ stC 31 1 M (31 + 2) 0 = M 54 (s * 40 + i)) (juM s d (i + 1) (stC 31 1 M)) (stC 31 1 M)
theorem juM_in {s : Int} : ∀ (d : Nat) (i : Int) (M : xMem), PIn M 31 1 → PIn (juM s d i M) 31 1 := by
  intro d
  induction d with
  | zero => intro i M h; exact h
  | succ d ih =>
    intro i M h
    unfold juM tI
    split
    · exact ih _ _ (stC_in H31 h)
    · exact stC_in H31 h
noncomputable def judgeR (M : xMem) (s : Int) : Int := if shI s then (if M 52 s = 0 then -1000006 else juN s (M 53 s).toNat 0 (bcC M 31 11)) else -1000001
noncomputable def judgeM (M : xMem) (s : Int) : xMem := if shI s then (if M 52 s = 0 then fndC M 5 else juM s (M 53 s).toNat 0 (bcC M 31 11)) else fndC M 0
theorem dX6_judge_0 : decode cX6_judge 0 = .ok (.iload_n 1, 1) := by decide +kernel
theorem dX6_judge_1 : decode cX6_judge 1 = .ok (.invokestatic 256, 3) := by decide +kernel
theorem dX6_judge_4 : decode cX6_judge 4 = .ok (.ifCond .ne 9, 3) := by decide +kernel
theorem dX6_judge_7 : decode cX6_judge 7 = .ok (.aload_n 0, 1) := by decide +kernel
theorem dX6_judge_8 : decode cX6_judge 8 = .ok (.iconst 0, 1) := by decide +kernel
theorem dX6_judge_9 : decode cX6_judge 9 = .ok (.invokevirtual 95, 3) := by decide +kernel
theorem dX6_judge_12 : decode cX6_judge 12 = .ok (.ireturn, 1) := by decide +kernel
theorem dX6_judge_13 : decode cX6_judge 13 = .ok (.aload_n 0, 1) := by decide +kernel
theorem dX6_judge_14 : decode cX6_judge 14 = .ok (.getfield 78, 3) := by decide +kernel
theorem dX6_judge_17 : decode cX6_judge 17 = .ok (.iload_n 1, 1) := by decide +kernel
theorem dX6_judge_18 : decode cX6_judge 18 = .ok (.invokevirtual 259, 3) := by decide +kernel
theorem dX6_judge_21 : decode cX6_judge 21 = .ok (.ifCond .eq 9, 3) := by decide +kernel
theorem dX6_judge_24 : decode cX6_judge 24 = .ok (.aload_n 0, 1) := by decide +kernel
theorem dX6_judge_25 : decode cX6_judge 25 = .ok (.iconst 5, 1) := by decide +kernel
theorem dX6_judge_26 : decode cX6_judge 26 = .ok (.invokevirtual 95, 3) := by decide +kernel
theorem dX6_judge_29 : decode cX6_judge 29 = .ok (.ireturn, 1) := by decide +kernel
theorem dX6_judge_30 : decode cX6_judge 30 = .ok (.aload_n 0, 1) := by decide +kernel
theorem dX6_judge_31 : decode cX6_judge 31 = .ok (.getfield 49, 3) := by decide +kernel
theorem dX6_judge_34 : decode cX6_judge 34 = .ok (.aload_n 0, 1) := by decide +kernel
theorem dX6_judge_35 : decode cX6_judge 35 = .ok (.getfield 21, 3) := by decide +kernel
theorem dX6_judge_38 : decode cX6_judge 38 = .ok (.invokevirtual 204, 3) := by decide +kernel
theorem dX6_judge_41 : decode cX6_judge 41 = .ok (.iconst 0, 1) := by decide +kernel
theorem dX6_judge_42 : decode cX6_judge 42 = .ok (.istore_n 2, 1) := by decide +kernel
theorem dX6_judge_43 : decode cX6_judge 43 = .ok (.iload_n 2, 1) := by decide +kernel
theorem dX6_judge_44 : decode cX6_judge 44 = .ok (.aload_n 0, 1) := by decide +kernel
theorem dX6_judge_45 : decode cX6_judge 45 = .ok (.getfield 78, 3) := by decide +kernel
theorem dX6_judge_48 : decode cX6_judge 48 = .ok (.iload_n 1, 1) := by decide +kernel
theorem dX6_judge_49 : decode cX6_judge 49 = .ok (.invokevirtual 266, 3) := by decide +kernel
theorem dX6_judge_52 : decode cX6_judge 52 = .ok (.if_icmp .ge 52, 3) := by decide +kernel
theorem dX6_judge_55 : decode cX6_judge 55 = .ok (.aload_n 0, 1) := by decide +kernel
theorem dX6_judge_56 : decode cX6_judge 56 = .ok (.getfield 49, 3) := by decide +kernel
theorem dX6_judge_59 : decode cX6_judge 59 = .ok (.iconst 1, 1) := by decide +kernel
theorem dX6_judge_60 : decode cX6_judge 60 = .ok (.invokevirtual 186, 3) := by decide +kernel
theorem dX6_judge_63 : decode cX6_judge 63 = .ok (.aload_n 0, 1) := by decide +kernel
theorem dX6_judge_64 : decode cX6_judge 64 = .ok (.getfield 49, 3) := by decide +kernel
theorem dX6_judge_67 : decode cX6_judge 67 = .ok (.iconst 0, 1) := by decide +kernel
theorem dX6_judge_68 : decode cX6_judge 68 = .ok (.invokevirtual 120, 3) := by decide +kernel
theorem dX6_judge_71 : decode cX6_judge 71 = .ok (.ifCond .eq 23, 3) := by decide +kernel
theorem dX6_judge_74 : decode cX6_judge 74 = .ok (.aload_n 0, 1) := by decide +kernel
theorem dX6_judge_75 : decode cX6_judge 75 = .ok (.getfield 49, 3) := by decide +kernel
theorem dX6_judge_78 : decode cX6_judge 78 = .ok (.iconst 0, 1) := by decide +kernel
theorem dX6_judge_79 : decode cX6_judge 79 = .ok (.invokevirtual 126, 3) := by decide +kernel
theorem dX6_judge_82 : decode cX6_judge 82 = .ok (.aload_n 0, 1) := by decide +kernel
theorem dX6_judge_83 : decode cX6_judge 83 = .ok (.getfield 78, 3) := by decide +kernel
theorem dX6_judge_86 : decode cX6_judge 86 = .ok (.iload_n 1, 1) := by decide +kernel
theorem dX6_judge_87 : decode cX6_judge 87 = .ok (.iload_n 2, 1) := by decide +kernel
theorem dX6_judge_88 : decode cX6_judge 88 = .ok (.invokevirtual 272, 3) := by decide +kernel
theorem dX6_judge_91 : decode cX6_judge 91 = .ok (.if_icmp .eq 7, 3) := by decide +kernel
theorem dX6_judge_94 : decode cX6_judge 94 = .ok (.iconst 1, 1) := by decide +kernel
theorem dX6_judge_95 : decode cX6_judge 95 = .ok (.iload_n 2, 1) := by decide +kernel
theorem dX6_judge_96 : decode cX6_judge 96 = .ok (.iadd, 1) := by decide +kernel
theorem dX6_judge_97 : decode cX6_judge 97 = .ok (.ireturn, 1) := by decide +kernel
theorem dX6_judge_98 : decode cX6_judge 98 = .ok (.iinc 2 1, 3) := by decide +kernel
theorem dX6_judge_101 : decode cX6_judge 101 = .ok (.goto (-58), 3) := by decide +kernel
theorem dX6_judge_104 : decode cX6_judge 104 = .ok (.iconst 0, 1) := by decide +kernel
theorem dX6_judge_105 : decode cX6_judge 105 = .ok (.ireturn, 1) := by decide +kernel
set_option maxHeartbeats 4000000 in
set_option maxRecDepth 100000 in
theorem c_X6_judge {l : Launch} {ω : xO} (hc : xsh ω = clS) {s : Int} {M : xMem} (hJ : CInv M) (h_s : inR s) : Ct l ω yX6_judge ({ frames := 5, cells := 0, slots := 0, locals := 118 } : Room) 3 1 [.ref (xad ω 0), .int (iI s)] M (some (.int (iI (judgeR M s)))) (judgeM M s) := by
  refine Ct.of (bytes := cX6_judge) (ret := (some .int)) (lv0 := [some (.ref (xad ω 0)), some (.int (iI s)), none]) m_cd_X6_judge m_in_X6 (by decide +kernel) (by decide +kernel) rfl rfl rfl rfl (fun hR => by have hT := trC_in hR hJ.1 hJ.2.1; unfold judgeM; (repeat' split) <;> first | exact fndC_R hR | exact (juM_in _ _ _ hT).1) ?_
  intro κ h he hR
  have hI := hJ.1
  have hD := hJ.2.1
  have hL := hJ.2.2.1
  have hn := hI.1
  have hck := hI.2.1
  have hz := hJ.2.2.2.2
  have hT := trC_in hR hI hD
  refine x_iload_n h dX6_judge_0 rfl ?_
  refine x_S1i h dX6_judge_1 m_ml_X6_256 m_st_X6_isSheet (by decide) rfl (c_X6_isSheet hc (by omega)) ?_
  refine x_ifneB h dX6_judge_4 (tgt := 13) (by decide) (fun q4 => ?_) (fun q4 => ?_)
  · refine x_aload_n h dX6_judge_13 rfl ?_
    refine x_getr (j := 13) (q := 51) h dX6_judge_14 (sC0 hc) rfl in_X6 rfl (by decide) m_fl_X6_78 ?_
    refine x_iload_n h dX6_judge_17 rfl ?_
    refine x_V1i h dX6_judge_18 m_ml_X6_259 m_im_X4_isMissing m_se_X4_isMissing (sC51 hc) rfl (by decide) rfl (c_X4_isMissing hc (by omega)) ?_
    refine x_ifeqB h dX6_judge_21 (tgt := 30) (by decide) (fun q21 => ?_) (fun q21 => ?_)
    · refine x_aload_n h dX6_judge_30 rfl ?_
      refine x_getr (j := 9) (q := 31) h dX6_judge_31 (sC0 hc) rfl in_X6 rfl (by decide) m_fl_X6_49 ?_
      refine x_aload_n h dX6_judge_34 rfl ?_
      refine x_getr (j := 1) (q := 11) h dX6_judge_35 (sC0 hc) rfl in_X6 rfl (by decide) m_fl_X6_21 ?_
      refine x_V1v h dX6_judge_38 m_ml_X6_204 m_im_X1_become m_se_X1_become (sPe hc ((Or.inr (Or.inr ⟨rfl, rfl⟩)))) rfl (by decide) rfl (c_X1_become hc ((Or.inr (Or.inr ⟨rfl, rfl⟩))) ((Or.inl ⟨rfl, rfl⟩))) ?_
      refine x_iconst h dX6_judge_41 ?_
      refine x_istore_n h dX6_judge_42 rfl rfl ?_
      dsimp only [xset]
      have hz1 := hz s (by omega) (by omega)
      have H : ∀ (d : Nat) (M' : xMem) (i : Int), 0 ≤ i → i + d = M 53 s → PIn M' 31 1 → TrE M M' → juN s d i M' = juN s (M 53 s).toNat 0 (bcC M 31 11) → juM s d i M' = juM s (M 53 s).toNat 0 (bcC M 31 11) → X ω κ 43 [some (.ref (xad ω 0)), some (.int (iI s)), some (.int (iI i))] [] M' := by
        intro d
        induction d with
        | zero =>
          intro M' i hi0 hid hin' he' e e2
          have ez : M' 53 s = M 53 s := by rw [he' 53 (by omega)]
          refine x_iload_n h dX6_judge_43 rfl ?_
          refine x_aload_n h dX6_judge_44 rfl ?_
          refine x_getr (j := 13) (q := 51) h dX6_judge_45 (sC0 hc) rfl in_X6 rfl (by decide) m_fl_X6_78 ?_
          refine x_iload_n h dX6_judge_48 rfl ?_
          refine x_V1i h dX6_judge_49 m_ml_X6_266 m_im_X4_sizeOf m_se_X4_sizeOf (sC51 hc) rfl (by decide) rfl (c_X4_sizeOf hc (by omega)) ?_
          refine x_icmp_ge h dX6_judge_52 (tgt := 104) (by decide) (by omega) (by omega) (fun q52 => ?_) (fun q52 => ?_)
          · refine x_iconst h dX6_judge_104 ?_
            exact x_iret (ret := none) h he dX6_judge_105 rfl (by unfold judgeR; rw [if_pos (by omega), if_neg (by assumption)]; rw [← e]; rfl) (by unfold judgeM; rw [if_pos (by omega), if_neg (by assumption)]; rw [← e2]; rfl)
          · exfalso; omega
        | succ d ih =>
          intro M' i hi0 hid hin' he' e e2
          have ez : M' 53 s = M 53 s := by rw [he' 53 (by omega)]
          have hst := stC_in H31 hin'
          have hsf := stC_f H31 hin'
          have e54 : stC 31 1 M' 54 = M' 54 := hsf.1 54 (by omega) (by omega) (by omega) (by omega) (by omega)
          have e532 : stC 31 1 M' 53 s = M 53 s := by rw [hsf.1 53 (by omega) (by omega) (by omega) (by omega) (by omega)]; exact ez
          have gg := hst.1 (31 + 2) 0
          have gg2 := hst.1 54 (s * 40 + i)
          refine x_iload_n h dX6_judge_43 rfl ?_
          refine x_aload_n h dX6_judge_44 rfl ?_
          refine x_getr (j := 13) (q := 51) h dX6_judge_45 (sC0 hc) rfl in_X6 rfl (by decide) m_fl_X6_78 ?_
          refine x_iload_n h dX6_judge_48 rfl ?_
          refine x_V1i h dX6_judge_49 m_ml_X6_266 m_im_X4_sizeOf m_se_X4_sizeOf (sC51 hc) rfl (by decide) rfl (c_X4_sizeOf hc (by omega)) ?_
          refine x_icmp_ge h dX6_judge_52 (tgt := 104) (by decide) (by omega) (by omega) (fun q52 => ?_) (fun q52 => ?_)
          · exfalso; omega
          · refine x_aload_n h dX6_judge_55 rfl ?_
            refine x_getr (j := 9) (q := 31) h dX6_judge_56 (sC0 hc) rfl in_X6 rfl (by decide) m_fl_X6_49 ?_
            refine x_iconst h dX6_judge_59 ?_
            refine x_V1v h dX6_judge_60 m_ml_X6_186 m_im_X1_takeSteps m_se_X1_takeSteps (sPe hc ((Or.inr (Or.inr ⟨rfl, rfl⟩)))) rfl (by decide) rfl (c_X1_takeSteps hc H31 hin' (by decide)) ?_
            refine x_mem (M' := stC 31 1 M') rfl ?_
            refine x_aload_n h dX6_judge_63 rfl ?_
            refine x_getr (j := 9) (q := 31) h dX6_judge_64 (sC0 hc) rfl in_X6 rfl (by decide) m_fl_X6_49 ?_
            refine x_iconst h dX6_judge_67 ?_
            refine x_V1i h dX6_judge_68 m_ml_X6_120 m_im_X1_has m_se_X1_has (sPe hc ((Or.inr (Or.inr ⟨rfl, rfl⟩)))) rfl (by decide) rfl (c_X1_has hc H31 (by decide)) ?_
            refine x_ifeqB h dX6_judge_71 (tgt := 94) (by decide) (fun q71 => ?_) (fun q71 => ?_)
            · refine x_iconst h dX6_judge_94 ?_
              refine x_iload_n h dX6_judge_95 rfl ?_
              refine x_iadd h dX6_judge_96 ?_
              exact x_iret (ret := none) h he dX6_judge_97 rfl (by unfold judgeR; rw [if_pos (by omega), if_neg (by assumption)]; rw [← e, juN]; first | rw [tI_n (fun z => q71 z.1)] | rw [tI_n (fun z => q91 (by rw [e54]; exact z.2))]) (by unfold judgeM; rw [if_pos (by omega), if_neg (by assumption)]; rw [← e2, juM]; first | rw [tI_n (fun z => q71 z.1)] | rw [tI_n (fun z => q91 (by rw [e54]; exact z.2))])
            · refine x_aload_n h dX6_judge_74 rfl ?_
              refine x_getr (j := 9) (q := 31) h dX6_judge_75 (sC0 hc) rfl in_X6 rfl (by decide) m_fl_X6_49 ?_
              refine x_iconst h dX6_judge_78 ?_
              refine x_V1i h dX6_judge_79 m_ml_X6_126 m_im_X1_placeOf m_se_X1_placeOf (sPe hc ((Or.inr (Or.inr ⟨rfl, rfl⟩)))) rfl (by decide) rfl (c_X1_placeOf hc H31 q71) ?_
              refine x_aload_n h dX6_judge_82 rfl ?_
              refine x_getr (j := 13) (q := 51) h dX6_judge_83 (sC0 hc) rfl in_X6 rfl (by decide) m_fl_X6_78 ?_
              refine x_iload_n h dX6_judge_86 rfl ?_
              refine x_iload_n h dX6_judge_87 rfl ?_
              refine x_V2i h dX6_judge_88 m_ml_X6_272 m_im_X4_numberAt m_se_X4_numberAt (sC51 hc) rfl (by decide) rfl (c_X4_numberAt hc (by omega) (by omega)) ?_
              refine x_icmp_eq h dX6_judge_91 (tgt := 98) (by decide) (by omega) (by omega) (fun q91 => ?_) (fun q91 => ?_)
              · refine x_iinc h dX6_judge_98 rfl rfl rfl ?_
                dsimp only [xset]
                refine x_goto h dX6_judge_101 (tgt := 43) (by decide) ?_
                have q : stC 31 1 M' (31 + 2) 0 = M' 54 (s * 40 + i) := by rw [← e54]; exact q91
                exact ih (stC 31 1 M') (i + 1) (by omega) (by omega) hst (he'.tr (TrE.of_f hsf)) (by rw [← e, juN, tI_p ⟨q71, q⟩]) (by rw [← e2, juM, tI_p ⟨q71, q⟩])
              · refine x_iconst h dX6_judge_94 ?_
                refine x_iload_n h dX6_judge_95 rfl ?_
                refine x_iadd h dX6_judge_96 ?_
                exact x_iret (ret := none) h he dX6_judge_97 rfl (by unfold judgeR; rw [if_pos (by omega), if_neg (by assumption)]; rw [← e, juN]; first | rw [tI_n (fun z => q71 z.1)] | rw [tI_n (fun z => q91 (by rw [e54]; exact z.2))]) (by unfold judgeM; rw [if_pos (by omega), if_neg (by assumption)]; rw [← e2, juM]; first | rw [tI_n (fun z => q71 z.1)] | rw [tI_n (fun z => q91 (by rw [e54]; exact z.2))])
      exact H (M 53 s).toNat (bcC M 31 11) 0 (by omega) (by omega) hT trC_e rfl rfl
    · refine x_aload_n h dX6_judge_24 rfl ?_
      refine x_iconst h dX6_judge_25 ?_
      refine x_V1i h dX6_judge_26 m_ml_X6_95 m_im_X6_found m_se_X6_found (sC0 hc) rfl (by decide) rfl (c_X6_found hc (by omega)) ?_
      exact x_iret (ret := none) h he dX6_judge_29 rfl (by unfold judgeR; (repeat (first | rw [if_pos (by first | assumption | omega)] | rw [if_neg (by first | assumption | omega)])) <;> first | rfl | omega) (by unfold judgeM; (repeat (first | rw [if_pos (by first | assumption | omega)] | rw [if_neg (by first | assumption | omega)])) <;> first | rfl | omega)
  · refine x_aload_n h dX6_judge_7 rfl ?_
    refine x_iconst h dX6_judge_8 ?_
    refine x_V1i h dX6_judge_9 m_ml_X6_95 m_im_X6_found m_se_X6_found (sC0 hc) rfl (by decide) rfl (c_X6_found hc (by omega)) ?_
    exact x_iret (ret := none) h he dX6_judge_12 rfl (by unfold judgeR; (repeat (first | rw [if_pos (by first | assumption | omega)] | rw [if_neg (by first | assumption | omega)])) <;> first | rfl | omega) (by unfold judgeM; (repeat (first | rw [if_pos (by first | assumption | omega)] | rw [if_neg (by first | assumption | omega)])) <;> first | rfl | omega)
