/-! the class: its own methods, five: tugs that were told, pulls, days, sheets on the way -/
theorem plC_R {M : xMem} {b : Nat} {p : Int} (hI : PeInv M b) (hp : 0 ≤ p ∧ p < M b 1) : 0 ≤ plC M b p ∧ plC M b p ≤ 30 := by
  have ip := hI.2.2 p hp.1 hp.2
  show 0 ≤ pullsF _ _ _ ∧ pullsF _ _ _ ≤ 30
  unfold pullsF dnF rnF
  (repeat' split) <;> omega
noncomputable def psG (M : xMem) (s p acc : Int) : Int := tI (inS p s) (acc + plC M 11 p) acc
noncomputable def psS (M : xMem) (s : Int) (n : Nat) : Int := xfo (psG M s) 0 n
theorem psS_s (M : xMem) (s : Int) (n : Nat) : psS M s (n + 1) = psG M s (n : Int) (psS M s n) := by
  unfold psS
  rw [xfo_s (psG M s) 0 n]
theorem psS_R {M : xMem} {s : Int} (hI : PeInv M 11) : ∀ n : Nat, (n : Int) ≤ M 11 1 → 0 ≤ psS M s n ∧ psS M s n ≤ 30 * n := by
  intro n
  induction n with
  | zero => intro _; show (0 : Int) ≤ 0 ∧ (0 : Int) ≤ _; omega
  | succ n ih =>
    intro hn
    have h := ih (by omega)
    have h2 := plC_R hI (p := (n : Int)) ⟨by omega, by omega⟩
    rw [psS_s]
    unfold psG tI
    split <;> omega
noncomputable def ptG (M : xMem) (s T p acc : Int) : Int := tI (¬ inS p s ∧ plC M 11 p < T) (bor acc (bshl 1 p)) acc
noncomputable def ptS (M : xMem) (s T : Int) (n : Nat) : Int := xfo (ptG M s T) 0 n
theorem ptS_s (M : xMem) (s T : Int) (n : Nat) : ptS M s T (n + 1) = ptG M s T (n : Int) (ptS M s T n) := by
  unfold ptS
  rw [xfo_s (ptG M s T) 0 n]
noncomputable def pullsR (M : xMem) (s : Int) : Int := if 0 ≤ s ∧ s ≤ evF (M 11 1) then ptS M s (psS M s (M 11 1).toNat) (M 11 1).toNat else -1000001
noncomputable def pullsM (M : xMem) (s : Int) : xMem := if 0 ≤ s ∧ s ≤ evF (M 11 1) then M else fndC M 0
theorem dX6_pulls_0 : decode cX6_pulls 0 = .ok (.iload_n 1, 1) := by decide +kernel
theorem dX6_pulls_1 : decode cX6_pulls 1 = .ok (.ifCond .lt 14, 3) := by decide +kernel
theorem dX6_pulls_4 : decode cX6_pulls 4 = .ok (.iload_n 1, 1) := by decide +kernel
theorem dX6_pulls_5 : decode cX6_pulls 5 = .ok (.aload_n 0, 1) := by decide +kernel
theorem dX6_pulls_6 : decode cX6_pulls 6 = .ok (.getfield 21, 3) := by decide +kernel
theorem dX6_pulls_9 : decode cX6_pulls 9 = .ok (.invokevirtual 275, 3) := by decide +kernel
theorem dX6_pulls_12 : decode cX6_pulls 12 = .ok (.if_icmp .le 9, 3) := by decide +kernel
theorem dX6_pulls_15 : decode cX6_pulls 15 = .ok (.aload_n 0, 1) := by decide +kernel
theorem dX6_pulls_16 : decode cX6_pulls 16 = .ok (.iconst 0, 1) := by decide +kernel
theorem dX6_pulls_17 : decode cX6_pulls 17 = .ok (.invokevirtual 95, 3) := by decide +kernel
theorem dX6_pulls_20 : decode cX6_pulls 20 = .ok (.ireturn, 1) := by decide +kernel
theorem dX6_pulls_21 : decode cX6_pulls 21 = .ok (.iconst 0, 1) := by decide +kernel
theorem dX6_pulls_22 : decode cX6_pulls 22 = .ok (.istore_n 2, 1) := by decide +kernel
theorem dX6_pulls_23 : decode cX6_pulls 23 = .ok (.iconst 0, 1) := by decide +kernel
theorem dX6_pulls_24 : decode cX6_pulls 24 = .ok (.istore_n 3, 1) := by decide +kernel
theorem dX6_pulls_25 : decode cX6_pulls 25 = .ok (.iload_n 3, 1) := by decide +kernel
theorem dX6_pulls_26 : decode cX6_pulls 26 = .ok (.aload_n 0, 1) := by decide +kernel
theorem dX6_pulls_27 : decode cX6_pulls 27 = .ok (.getfield 21, 3) := by decide +kernel
theorem dX6_pulls_30 : decode cX6_pulls 30 = .ok (.invokevirtual 113, 3) := by decide +kernel
theorem dX6_pulls_33 : decode cX6_pulls 33 = .ok (.if_icmp .ge 28, 3) := by decide +kernel
theorem dX6_pulls_36 : decode cX6_pulls 36 = .ok (.iload_n 3, 1) := by decide +kernel
theorem dX6_pulls_37 : decode cX6_pulls 37 = .ok (.iload_n 1, 1) := by decide +kernel
theorem dX6_pulls_38 : decode cX6_pulls 38 = .ok (.invokestatic 231, 3) := by decide +kernel
theorem dX6_pulls_41 : decode cX6_pulls 41 = .ok (.ifCond .eq 14, 3) := by decide +kernel
theorem dX6_pulls_44 : decode cX6_pulls 44 = .ok (.iload_n 2, 1) := by decide +kernel
theorem dX6_pulls_45 : decode cX6_pulls 45 = .ok (.aload_n 0, 1) := by decide +kernel
theorem dX6_pulls_46 : decode cX6_pulls 46 = .ok (.getfield 21, 3) := by decide +kernel
theorem dX6_pulls_49 : decode cX6_pulls 49 = .ok (.iload_n 3, 1) := by decide +kernel
theorem dX6_pulls_50 : decode cX6_pulls 50 = .ok (.invokevirtual 138, 3) := by decide +kernel
theorem dX6_pulls_53 : decode cX6_pulls 53 = .ok (.iadd, 1) := by decide +kernel
theorem dX6_pulls_54 : decode cX6_pulls 54 = .ok (.istore_n 2, 1) := by decide +kernel
theorem dX6_pulls_55 : decode cX6_pulls 55 = .ok (.iinc 3 1, 3) := by decide +kernel
theorem dX6_pulls_58 : decode cX6_pulls 58 = .ok (.goto (-33), 3) := by decide +kernel
theorem dX6_pulls_61 : decode cX6_pulls 61 = .ok (.iconst 0, 1) := by decide +kernel
theorem dX6_pulls_62 : decode cX6_pulls 62 = .ok (.istore_n 3, 1) := by decide +kernel
theorem dX6_pulls_63 : decode cX6_pulls 63 = .ok (.iconst 0, 1) := by decide +kernel
theorem dX6_pulls_64 : decode cX6_pulls 64 = .ok (.istore 4, 2) := by decide +kernel
theorem dX6_pulls_66 : decode cX6_pulls 66 = .ok (.iload 4, 2) := by decide +kernel
theorem dX6_pulls_68 : decode cX6_pulls 68 = .ok (.aload_n 0, 1) := by decide +kernel
theorem dX6_pulls_69 : decode cX6_pulls 69 = .ok (.getfield 21, 3) := by decide +kernel
theorem dX6_pulls_72 : decode cX6_pulls 72 = .ok (.invokevirtual 113, 3) := by decide +kernel
theorem dX6_pulls_75 : decode cX6_pulls 75 = .ok (.if_icmp .ge 38, 3) := by decide +kernel
theorem dX6_pulls_78 : decode cX6_pulls 78 = .ok (.iload 4, 2) := by decide +kernel
theorem dX6_pulls_80 : decode cX6_pulls 80 = .ok (.iload_n 1, 1) := by decide +kernel
theorem dX6_pulls_81 : decode cX6_pulls 81 = .ok (.invokestatic 231, 3) := by decide +kernel
theorem dX6_pulls_84 : decode cX6_pulls 84 = .ok (.ifCond .ne 23, 3) := by decide +kernel
theorem dX6_pulls_87 : decode cX6_pulls 87 = .ok (.aload_n 0, 1) := by decide +kernel
theorem dX6_pulls_88 : decode cX6_pulls 88 = .ok (.getfield 21, 3) := by decide +kernel
theorem dX6_pulls_91 : decode cX6_pulls 91 = .ok (.iload 4, 2) := by decide +kernel
theorem dX6_pulls_93 : decode cX6_pulls 93 = .ok (.invokevirtual 138, 3) := by decide +kernel
theorem dX6_pulls_96 : decode cX6_pulls 96 = .ok (.iload_n 2, 1) := by decide +kernel
theorem dX6_pulls_97 : decode cX6_pulls 97 = .ok (.if_icmp .ge 10, 3) := by decide +kernel
theorem dX6_pulls_100 : decode cX6_pulls 100 = .ok (.iload_n 3, 1) := by decide +kernel
theorem dX6_pulls_101 : decode cX6_pulls 101 = .ok (.iconst 1, 1) := by decide +kernel
theorem dX6_pulls_102 : decode cX6_pulls 102 = .ok (.iload 4, 2) := by decide +kernel
theorem dX6_pulls_104 : decode cX6_pulls 104 = .ok (.ishl, 1) := by decide +kernel
theorem dX6_pulls_105 : decode cX6_pulls 105 = .ok (.ior, 1) := by decide +kernel
theorem dX6_pulls_106 : decode cX6_pulls 106 = .ok (.istore_n 3, 1) := by decide +kernel
theorem dX6_pulls_107 : decode cX6_pulls 107 = .ok (.iinc 4 1, 3) := by decide +kernel
theorem dX6_pulls_110 : decode cX6_pulls 110 = .ok (.goto (-44), 3) := by decide +kernel
theorem dX6_pulls_113 : decode cX6_pulls 113 = .ok (.iload_n 3, 1) := by decide +kernel
theorem dX6_pulls_114 : decode cX6_pulls 114 = .ok (.ireturn, 1) := by decide +kernel
set_option maxHeartbeats 4000000 in
set_option maxRecDepth 100000 in
theorem c_X6_pulls {l : Launch} {ω : xO} (hc : xsh ω = clS) {s : Int} {M : xMem} (hJ : CInv M) (h_s : inR s) : Ct l ω yX6_pulls ({ frames := 2, cells := 0, slots := 0, locals := 46 } : Room) 5 1 [.ref (xad ω 0), .int (iI s)] M (some (.int (iI (pullsR M s)))) (pullsM M s) := by
  refine Ct.of (bytes := cX6_pulls) (ret := (some .int)) (lv0 := [some (.ref (xad ω 0)), some (.int (iI s)), none, none, none]) m_cd_X6_pulls m_in_X6 (by decide +kernel) (by decide +kernel) rfl rfl rfl rfl (fun hR => by unfold pullsM; (repeat' split) <;> first | exact hR | exact fndC_R hR | (repeat' (first | exact hR | exact fndC_R hR | (with_reducible apply up_R) | (show inR _; omega)))) ?_
  intro κ h he hR
  have hI := hJ.1
  have hD := hJ.2.1
  have hL := hJ.2.2.1
  have hn := hI.1
  have hck := hI.2.1
  have hev : 0 ≤ bshl 1 (M 11 1) - 1 ∧ bshl 1 (M 11 1) - 1 < 256 := evF_R hn
  refine x_iload_n h dX6_pulls_0 rfl ?_
  refine x_if_lt h dX6_pulls_1 (tgt := 15) (by decide) (by omega) (fun q1 => ?_) (fun q1 => ?_)
  · refine x_aload_n h dX6_pulls_15 rfl ?_
    refine x_iconst h dX6_pulls_16 ?_
    refine x_V1i h dX6_pulls_17 m_ml_X6_95 m_im_X6_found m_se_X6_found (sC0 hc) rfl (by decide) rfl (c_X6_found hc (by omega)) ?_
    exact x_iret (ret := none) h he dX6_pulls_20 rfl (by unfold pullsR; rw [if_neg (fun z => by have := z.2; unfold evF at this; omega)]; rfl) (by unfold pullsM; rw [if_neg (fun z => by have := z.2; unfold evF at this; omega)])
  · refine x_iload_n h dX6_pulls_4 rfl ?_
    refine x_aload_n h dX6_pulls_5 rfl ?_
    refine x_getr (j := 1) (q := 11) h dX6_pulls_6 (sC0 hc) rfl in_X6 rfl (by decide) m_fl_X6_21 ?_
    refine x_V0i h dX6_pulls_9 m_ml_X6_275 m_im_X1_everybody m_se_X1_everybody (sPe hc ((Or.inl ⟨rfl, rfl⟩))) rfl (by decide) rfl (c_X1_everybody hc ((Or.inl ⟨rfl, rfl⟩))) ?_
    refine x_icmp_le h dX6_pulls_12 (tgt := 21) (by decide) (by omega) (by omega) (fun q12 => ?_) (fun q12 => ?_)
    · refine x_iconst h dX6_pulls_21 ?_
      refine x_istore_n h dX6_pulls_22 rfl rfl ?_
      dsimp only [xset]
      refine x_iconst h dX6_pulls_23 ?_
      refine x_istore_n h dX6_pulls_24 rfl rfl ?_
      dsimp only [xset]
      refine x_same (lv' := [some (.ref (xad ω 0)), some (.int (iI s)), some (.int (iI (psS M s 0))), some (.int (iI ((0 : Nat) : Int))), none]) (st' := []) (M' := M) ?_ rfl rfl rfl
      refine loop_up (fun k => X ω κ 25 [some (.ref (xad ω 0)), some (.int (iI s)), some (.int (iI (psS M s k))), some (.int (iI (k : Int))), none] [] M) ((M 11 1).toNat) ?_ ?_
      · show X ω κ 25 [some (.ref (xad ω 0)), some (.int (iI s)), some (.int (iI (psS M s (M 11 1).toNat))), some (.int (iI (((M 11 1).toNat : Nat) : Int))), none] [] M
        have g0 : (((M 11 1).toNat : Nat) : Int) = M 11 1 := by omega
        have hps := psS_R (s := s) hI (M 11 1).toNat (by omega)
        refine x_iload_n h dX6_pulls_25 rfl ?_
        refine x_aload_n h dX6_pulls_26 rfl ?_
        refine x_getr (j := 1) (q := 11) h dX6_pulls_27 (sC0 hc) rfl in_X6 rfl (by decide) m_fl_X6_21 ?_
        refine x_V0i h dX6_pulls_30 m_ml_X6_113 m_im_X1_number m_se_X1_number (sPe hc ((Or.inl ⟨rfl, rfl⟩))) rfl (by decide) rfl (c_X1_number hc (Or.inl ⟨rfl, rfl⟩)) ?_
        refine x_icmp_ge h dX6_pulls_33 (tgt := 61) (by decide) (by omega) (by omega) (fun q33 => ?_) (fun q33 => ?_)
        · refine x_iconst h dX6_pulls_61 ?_
          refine x_istore_n h dX6_pulls_62 rfl rfl ?_
          dsimp only [xset]
          refine x_iconst h dX6_pulls_63 ?_
          refine x_istore h dX6_pulls_64 rfl rfl ?_
          dsimp only [xset]
          refine x_same (lv' := [some (.ref (xad ω 0)), some (.int (iI s)), some (.int (iI (psS M s (M 11 1).toNat))), some (.int (iI (ptS M s (psS M s (M 11 1).toNat) 0))), some (.int (iI ((0 : Nat) : Int)))]) (st' := []) (M' := M) ?_ rfl rfl rfl
          refine loop_up (fun j => X ω κ 66 [some (.ref (xad ω 0)), some (.int (iI s)), some (.int (iI (psS M s (M 11 1).toNat))), some (.int (iI (ptS M s (psS M s (M 11 1).toNat) j))), some (.int (iI (j : Int)))] [] M) ((M 11 1).toNat) ?_ ?_
          · show X ω κ 66 [some (.ref (xad ω 0)), some (.int (iI s)), some (.int (iI (psS M s (M 11 1).toNat))), some (.int (iI (ptS M s (psS M s (M 11 1).toNat) (M 11 1).toNat))), some (.int (iI (((M 11 1).toNat : Nat) : Int)))] [] M
            have g0 : (((M 11 1).toNat : Nat) : Int) = M 11 1 := by omega
            refine x_iload h dX6_pulls_66 rfl ?_
            refine x_aload_n h dX6_pulls_68 rfl ?_
            refine x_getr (j := 1) (q := 11) h dX6_pulls_69 (sC0 hc) rfl in_X6 rfl (by decide) m_fl_X6_21 ?_
            refine x_V0i h dX6_pulls_72 m_ml_X6_113 m_im_X1_number m_se_X1_number (sPe hc ((Or.inl ⟨rfl, rfl⟩))) rfl (by decide) rfl (c_X1_number hc (Or.inl ⟨rfl, rfl⟩)) ?_
            refine x_icmp_ge h dX6_pulls_75 (tgt := 113) (by decide) (by omega) (by omega) (fun q75 => ?_) (fun q75 => ?_)
            · refine x_iload_n h dX6_pulls_113 rfl ?_
              exact x_iret (ret := none) h he dX6_pulls_114 rfl (by unfold pullsR; rw [if_pos ⟨by omega, by show s ≤ evF _; unfold evF; omega⟩]) (by unfold pullsM; rw [if_pos ⟨by omega, by show s ≤ evF _; unfold evF; omega⟩])
            · exfalso; omega
          · intro j hj ihj
            replace ihj : X ω κ 66 [some (.ref (xad ω 0)), some (.int (iI s)), some (.int (iI (psS M s (M 11 1).toNat))), some (.int (iI (ptS M s (psS M s (M 11 1).toNat) (j + 1)))), some (.int (iI ((j + 1 : Nat) : Int)))] [] M := ihj
            show X ω κ 66 [some (.ref (xad ω 0)), some (.int (iI s)), some (.int (iI (psS M s (M 11 1).toNat))), some (.int (iI (ptS M s (psS M s (M 11 1).toNat) j))), some (.int (iI (j : Int)))] [] M
            have hpl := plC_R hI (p := (j : Int)) ⟨by omega, by omega⟩
            refine x_iload h dX6_pulls_66 rfl ?_
            refine x_aload_n h dX6_pulls_68 rfl ?_
            refine x_getr (j := 1) (q := 11) h dX6_pulls_69 (sC0 hc) rfl in_X6 rfl (by decide) m_fl_X6_21 ?_
            refine x_V0i h dX6_pulls_72 m_ml_X6_113 m_im_X1_number m_se_X1_number (sPe hc ((Or.inl ⟨rfl, rfl⟩))) rfl (by decide) rfl (c_X1_number hc (Or.inl ⟨rfl, rfl⟩)) ?_
            refine x_icmp_ge h dX6_pulls_75 (tgt := 113) (by decide) (by omega) (by omega) (fun q75 => ?_) (fun q75 => ?_)
            · exfalso; omega
            · refine x_iload h dX6_pulls_78 rfl ?_
              refine x_iload_n h dX6_pulls_80 rfl ?_
              refine x_S2i h dX6_pulls_81 m_ml_X6_231 m_st_X6_isIn (by decide) rfl (c_X6_isIn hc) ?_
              refine x_ifneB h dX6_pulls_84 (tgt := 107) (by decide) (fun q84 => ?_) (fun q84 => ?_)
              · refine x_iinc h dX6_pulls_107 rfl rfl rfl ?_
                dsimp only [xset]
                refine x_goto h dX6_pulls_110 (tgt := 66) (by decide) ?_
                refine x_same ihj ?_ rfl rfl
                rw [ptS_s, ptG]
                first
                  | (rw [tI_p ⟨q84, Int.not_le.mp q97⟩]; rfl)
                  | (rw [tI_n (fun z => absurd z.2 (Int.not_lt.mpr q97))]; rfl)
                  | (rw [tI_n (fun z => z.1 q84)]; rfl)
              · refine x_aload_n h dX6_pulls_87 rfl ?_
                refine x_getr (j := 1) (q := 11) h dX6_pulls_88 (sC0 hc) rfl in_X6 rfl (by decide) m_fl_X6_21 ?_
                refine x_iload h dX6_pulls_91 rfl ?_
                refine x_V1i h dX6_pulls_93 m_ml_X6_138 m_im_X1_pullsOf m_se_X1_pullsOf (sPe hc ((Or.inl ⟨rfl, rfl⟩))) rfl (by decide) rfl (c_X1_pullsOf hc H11 hI (by omega)) ?_
                refine x_iload_n h dX6_pulls_96 rfl ?_
                refine x_icmp_ge h dX6_pulls_97 (tgt := 107) (by decide) (by omega) (by omega) (fun q97 => ?_) (fun q97 => ?_)
                · refine x_iinc h dX6_pulls_107 rfl rfl rfl ?_
                  dsimp only [xset]
                  refine x_goto h dX6_pulls_110 (tgt := 66) (by decide) ?_
                  refine x_same ihj ?_ rfl rfl
                  rw [ptS_s, ptG]
                  first
                    | (rw [tI_p ⟨q84, Int.not_le.mp q97⟩]; rfl)
                    | (rw [tI_n (fun z => absurd z.2 (Int.not_lt.mpr q97))]; rfl)
                    | (rw [tI_n (fun z => z.1 q84)]; rfl)
                · refine x_iload_n h dX6_pulls_100 rfl ?_
                  refine x_iconst h dX6_pulls_101 ?_
                  refine x_iload h dX6_pulls_102 rfl ?_
                  refine x_ishl h dX6_pulls_104 (fun r104 => ?_)
                  refine x_ior h dX6_pulls_105 (fun r105 => ?_)
                  refine x_istore_n h dX6_pulls_106 rfl rfl ?_
                  dsimp only [xset]
                  refine x_iinc h dX6_pulls_107 rfl rfl rfl ?_
                  dsimp only [xset]
                  refine x_goto h dX6_pulls_110 (tgt := 66) (by decide) ?_
                  refine x_same ihj ?_ rfl rfl
                  rw [ptS_s, ptG]
                  first
                    | (rw [tI_p ⟨q84, Int.not_le.mp q97⟩]; rfl)
                    | (rw [tI_n (fun z => absurd z.2 (Int.not_lt.mpr q97))]; rfl)
                    | (rw [tI_n (fun z => z.1 q84)]; rfl)
        · exfalso; omega
      · intro k hk ihk
        replace ihk : X ω κ 25 [some (.ref (xad ω 0)), some (.int (iI s)), some (.int (iI (psS M s (k + 1)))), some (.int (iI ((k + 1 : Nat) : Int))), none] [] M := ihk
        show X ω κ 25 [some (.ref (xad ω 0)), some (.int (iI s)), some (.int (iI (psS M s k))), some (.int (iI (k : Int))), none] [] M
        refine x_iload_n h dX6_pulls_25 rfl ?_
        refine x_aload_n h dX6_pulls_26 rfl ?_
        refine x_getr (j := 1) (q := 11) h dX6_pulls_27 (sC0 hc) rfl in_X6 rfl (by decide) m_fl_X6_21 ?_
        refine x_V0i h dX6_pulls_30 m_ml_X6_113 m_im_X1_number m_se_X1_number (sPe hc ((Or.inl ⟨rfl, rfl⟩))) rfl (by decide) rfl (c_X1_number hc (Or.inl ⟨rfl, rfl⟩)) ?_
        refine x_icmp_ge h dX6_pulls_33 (tgt := 61) (by decide) (by omega) (by omega) (fun q33 => ?_) (fun q33 => ?_)
        · exfalso; omega
        · refine x_iload_n h dX6_pulls_36 rfl ?_
          refine x_iload_n h dX6_pulls_37 rfl ?_
          refine x_S2i h dX6_pulls_38 m_ml_X6_231 m_st_X6_isIn (by decide) rfl (c_X6_isIn hc) ?_
          refine x_ifeqB h dX6_pulls_41 (tgt := 55) (by decide) (fun q41 => ?_) (fun q41 => ?_)
          · refine x_iinc h dX6_pulls_55 rfl rfl rfl ?_
            dsimp only [xset]
            refine x_goto h dX6_pulls_58 (tgt := 25) (by decide) ?_
            first
              | exact x_same ihk (by rw [psS_s, psG, tI_p q41]; rfl) rfl rfl
              | exact x_same ihk (by rw [psS_s, psG, tI_n q41]; rfl) rfl rfl
          · refine x_iload_n h dX6_pulls_44 rfl ?_
            refine x_aload_n h dX6_pulls_45 rfl ?_
            refine x_getr (j := 1) (q := 11) h dX6_pulls_46 (sC0 hc) rfl in_X6 rfl (by decide) m_fl_X6_21 ?_
            refine x_iload_n h dX6_pulls_49 rfl ?_
            refine x_V1i h dX6_pulls_50 m_ml_X6_138 m_im_X1_pullsOf m_se_X1_pullsOf (sPe hc ((Or.inl ⟨rfl, rfl⟩))) rfl (by decide) rfl (c_X1_pullsOf hc H11 hI (by omega)) ?_
            refine x_iadd h dX6_pulls_53 ?_
            refine x_istore_n h dX6_pulls_54 rfl rfl ?_
            dsimp only [xset]
            refine x_iinc h dX6_pulls_55 rfl rfl rfl ?_
            dsimp only [xset]
            refine x_goto h dX6_pulls_58 (tgt := 25) (by decide) ?_
            first
              | exact x_same ihk (by rw [psS_s, psG, tI_p q41]; rfl) rfl rfl
              | exact x_same ihk (by rw [psS_s, psG, tI_n q41]; rfl) rfl rfl
    · refine x_aload_n h dX6_pulls_15 rfl ?_
      refine x_iconst h dX6_pulls_16 ?_
      refine x_V1i h dX6_pulls_17 m_ml_X6_95 m_im_X6_found m_se_X6_found (sC0 hc) rfl (by decide) rfl (c_X6_found hc (by omega)) ?_
      exact x_iret (ret := none) h he dX6_pulls_20 rfl (by unfold pullsR; rw [if_neg (fun z => by have := z.2; unfold evF at this; omega)]; rfl) (by unfold pullsM; rw [if_neg (fun z => by have := z.2; unfold evF at this; omega)])

noncomputable abbrev itC (M : xMem) (p o v : Int) : xMem := joiC (bcC M 31 11) 31 p o v
noncomputable def itN (s p : Int) : Nat → Int → xMem → Prop
  | 0, _, _ => True
  | d + 1, i, M => stC 31 1 M (31 + 9) p = M 54 (s * 40 + i) ∧ itN s p d (i + 1) (stC 31 1 M)
noncomputable def itM (s p : Int) : Nat → Int → xMem → xMem
  | 0, _, M => M
  | d + 1, i, M => tI (stC 31 1 M (31 + 9) p = M 54 (s * 40 + i)) (itM s p d (i + 1) (stC 31 1 M)) (stC 31 1 M)
theorem itC_in {M : xMem} {p o v : Int} (hR : xR M) (hJ : CInv M) (hp : clHas M 11 p) (hm : clHas M 11 o) (hi : 0 ≤ v ∧ v ≤ 999) : PIn (itC M p o v) 31 1 ∧ TrE M (itC M p o v) ∧ itC M p o v 31 1 = M 11 1 := by
  have hT := trC_in hR hJ.1 hJ.2.1
  refine ⟨PIn_of ?_ (PeInv_joi hT.2.1 (clHas_e trC_1 hp) (clHas_e trC_1 hm) hi) hT (fun k h1 h2 => ?_), TrE.joi trC_e, ?_⟩
  · unfold itC joiC
    exact up_R (up_R (up_R (up_R (prtC_R (prtC_R hT.1)) (by omega)) (by omega)) (by omega)) (by omega)
  · unfold itC joiC
    rw [up_n (by omega), up_n (by omega), up_n (by omega), up_n (by omega), prtC_n (by omega), prtC_n (by omega)]
  · unfold itC joiC
    rw [up_n (by omega), up_n (by omega), up_n (by omega), up_n (by omega), prtC_n (by omega), prtC_n (by omega)]
    exact trC_1
theorem itM_in {s p : Int} : ∀ (d : Nat) (i : Int) (M : xMem), PIn M 31 1 → PIn (itM s p d i M) 31 1 ∧ StF 31 M (itM s p d i M) := by
  intro d
  induction d with
  | zero => intro i M h; exact ⟨h, StF.rf⟩
  | succ d ih =>
    intro i M h
    have h2 := stC_in H31 h
    have h3 := stC_f H31 h
    unfold itM tI
    split
    · obtain ⟨g1, g2⟩ := ih (i + 1) _ h2
      exact ⟨g1, h3.tr g2⟩
    · exact ⟨h2, h3⟩
theorem dX6_isTuggedAsTold_0 : decode cX6_isTuggedAsTold 0 = .ok (.aload_n 0, 1) := by decide +kernel
theorem dX6_isTuggedAsTold_1 : decode cX6_isTuggedAsTold 1 = .ok (.getfield 49, 3) := by decide +kernel
theorem dX6_isTuggedAsTold_4 : decode cX6_isTuggedAsTold 4 = .ok (.aload_n 0, 1) := by decide +kernel
theorem dX6_isTuggedAsTold_5 : decode cX6_isTuggedAsTold 5 = .ok (.getfield 21, 3) := by decide +kernel
theorem dX6_isTuggedAsTold_8 : decode cX6_isTuggedAsTold 8 = .ok (.invokevirtual 204, 3) := by decide +kernel
theorem dX6_isTuggedAsTold_11 : decode cX6_isTuggedAsTold 11 = .ok (.aload_n 0, 1) := by decide +kernel
theorem dX6_isTuggedAsTold_12 : decode cX6_isTuggedAsTold 12 = .ok (.getfield 49, 3) := by decide +kernel
theorem dX6_isTuggedAsTold_15 : decode cX6_isTuggedAsTold 15 = .ok (.iload_n 2, 1) := by decide +kernel
theorem dX6_isTuggedAsTold_16 : decode cX6_isTuggedAsTold 16 = .ok (.iload_n 3, 1) := by decide +kernel
theorem dX6_isTuggedAsTold_17 : decode cX6_isTuggedAsTold 17 = .ok (.iload 4, 2) := by decide +kernel
theorem dX6_isTuggedAsTold_19 : decode cX6_isTuggedAsTold 19 = .ok (.invokevirtual 169, 3) := by decide +kernel
theorem dX6_isTuggedAsTold_22 : decode cX6_isTuggedAsTold 22 = .ok (.iconst 0, 1) := by decide +kernel
theorem dX6_isTuggedAsTold_23 : decode cX6_isTuggedAsTold 23 = .ok (.istore 5, 2) := by decide +kernel
theorem dX6_isTuggedAsTold_25 : decode cX6_isTuggedAsTold 25 = .ok (.iload 5, 2) := by decide +kernel
theorem dX6_isTuggedAsTold_27 : decode cX6_isTuggedAsTold 27 = .ok (.aload_n 0, 1) := by decide +kernel
theorem dX6_isTuggedAsTold_28 : decode cX6_isTuggedAsTold 28 = .ok (.getfield 78, 3) := by decide +kernel
theorem dX6_isTuggedAsTold_31 : decode cX6_isTuggedAsTold 31 = .ok (.iload_n 1, 1) := by decide +kernel
theorem dX6_isTuggedAsTold_32 : decode cX6_isTuggedAsTold 32 = .ok (.invokevirtual 266, 3) := by decide +kernel
theorem dX6_isTuggedAsTold_35 : decode cX6_isTuggedAsTold 35 = .ok (.if_icmp .ge 40, 3) := by decide +kernel
theorem dX6_isTuggedAsTold_38 : decode cX6_isTuggedAsTold 38 = .ok (.aload_n 0, 1) := by decide +kernel
theorem dX6_isTuggedAsTold_39 : decode cX6_isTuggedAsTold 39 = .ok (.getfield 49, 3) := by decide +kernel
theorem dX6_isTuggedAsTold_42 : decode cX6_isTuggedAsTold 42 = .ok (.iconst 1, 1) := by decide +kernel
theorem dX6_isTuggedAsTold_43 : decode cX6_isTuggedAsTold 43 = .ok (.invokevirtual 186, 3) := by decide +kernel
theorem dX6_isTuggedAsTold_46 : decode cX6_isTuggedAsTold 46 = .ok (.aload_n 0, 1) := by decide +kernel
theorem dX6_isTuggedAsTold_47 : decode cX6_isTuggedAsTold 47 = .ok (.getfield 49, 3) := by decide +kernel
theorem dX6_isTuggedAsTold_50 : decode cX6_isTuggedAsTold 50 = .ok (.iload_n 2, 1) := by decide +kernel
theorem dX6_isTuggedAsTold_51 : decode cX6_isTuggedAsTold 51 = .ok (.invokevirtual 269, 3) := by decide +kernel
theorem dX6_isTuggedAsTold_54 : decode cX6_isTuggedAsTold 54 = .ok (.aload_n 0, 1) := by decide +kernel
theorem dX6_isTuggedAsTold_55 : decode cX6_isTuggedAsTold 55 = .ok (.getfield 78, 3) := by decide +kernel
theorem dX6_isTuggedAsTold_58 : decode cX6_isTuggedAsTold 58 = .ok (.iload_n 1, 1) := by decide +kernel
theorem dX6_isTuggedAsTold_59 : decode cX6_isTuggedAsTold 59 = .ok (.iload 5, 2) := by decide +kernel
theorem dX6_isTuggedAsTold_61 : decode cX6_isTuggedAsTold 61 = .ok (.invokevirtual 272, 3) := by decide +kernel
theorem dX6_isTuggedAsTold_64 : decode cX6_isTuggedAsTold 64 = .ok (.if_icmp .eq 5, 3) := by decide +kernel
theorem dX6_isTuggedAsTold_67 : decode cX6_isTuggedAsTold 67 = .ok (.iconst 0, 1) := by decide +kernel
theorem dX6_isTuggedAsTold_68 : decode cX6_isTuggedAsTold 68 = .ok (.ireturn, 1) := by decide +kernel
theorem dX6_isTuggedAsTold_69 : decode cX6_isTuggedAsTold 69 = .ok (.iinc 5 1, 3) := by decide +kernel
theorem dX6_isTuggedAsTold_72 : decode cX6_isTuggedAsTold 72 = .ok (.goto (-47), 3) := by decide +kernel
theorem dX6_isTuggedAsTold_75 : decode cX6_isTuggedAsTold 75 = .ok (.iconst 1, 1) := by decide +kernel
theorem dX6_isTuggedAsTold_76 : decode cX6_isTuggedAsTold 76 = .ok (.ireturn, 1) := by decide +kernel
set_option maxHeartbeats 4000000 in
set_option maxRecDepth 100000 in
theorem c_X6_isTuggedAsTold {l : Launch} {ω : xO} (hc : xsh ω = clS) {s p o v : Int} {M : xMem} (hJ : CInv M) (hs : shI s) (hp : clHas M 11 p) (hm : clHas M 11 o) (hpo : p ≠ o) (hv : 0 ≤ v ∧ v ≤ 99) : Ct l ω yX6_isTuggedAsTold ({ frames := 5, cells := 0, slots := 0, locals := 118 } : Room) 6 4 [.ref (xad ω 0), .int (iI s), .int (iI p), .int (iI o), .int (iI v)] M (some (.int (iI (bI (itN s p (M 53 s).toNat 0 (itC M p o v)))))) (itM s p (M 53 s).toNat 0 (itC M p o v)) := by
  refine Ct.of (bytes := cX6_isTuggedAsTold) (ret := (some .boolean)) (lv0 := [some (.ref (xad ω 0)), some (.int (iI s)), some (.int (iI p)), some (.int (iI o)), some (.int (iI v)), none]) m_cd_X6_isTuggedAsTold m_in_X6 (by decide +kernel) (by decide +kernel) rfl rfl rfl rfl (fun hR => (itM_in _ 0 _ (itC_in hR hJ hp hm (by omega)).1).1.1) ?_
  intro κ h he hR
  have hI := hJ.1
  have hD := hJ.2.1
  have hL := hJ.2.2.1
  have hn := hI.1
  have hck := hI.2.1
  refine x_aload_n h dX6_isTuggedAsTold_0 rfl ?_
  refine x_getr (j := 9) (q := 31) h dX6_isTuggedAsTold_1 (sC0 hc) rfl in_X6 rfl (by decide) m_fl_X6_49 ?_
  refine x_aload_n h dX6_isTuggedAsTold_4 rfl ?_
  refine x_getr (j := 1) (q := 11) h dX6_isTuggedAsTold_5 (sC0 hc) rfl in_X6 rfl (by decide) m_fl_X6_21 ?_
  refine x_V1v h dX6_isTuggedAsTold_8 m_ml_X6_204 m_im_X1_become m_se_X1_become (sPe hc ((Or.inr (Or.inr ⟨rfl, rfl⟩)))) rfl (by decide) rfl (c_X1_become hc ((Or.inr (Or.inr ⟨rfl, rfl⟩))) ((Or.inl ⟨rfl, rfl⟩))) ?_
  refine x_aload_n h dX6_isTuggedAsTold_11 rfl ?_
  refine x_getr (j := 9) (q := 31) h dX6_isTuggedAsTold_12 (sC0 hc) rfl in_X6 rfl (by decide) m_fl_X6_49 ?_
  refine x_iload_n h dX6_isTuggedAsTold_15 rfl ?_
  refine x_iload_n h dX6_isTuggedAsTold_16 rfl ?_
  refine x_iload h dX6_isTuggedAsTold_17 rfl ?_
  refine x_V3v h dX6_isTuggedAsTold_19 m_ml_X6_169 m_im_X1_join m_se_X1_join (sPe hc ((Or.inr (Or.inr ⟨rfl, rfl⟩)))) rfl (by decide) rfl (c_X1_join hc H31 (clHas_e trC_1 hp) (clHas_e trC_1 hm) (show inR v by omega) hpo) ?_
  refine x_iconst h dX6_isTuggedAsTold_22 ?_
  refine x_istore h dX6_isTuggedAsTold_23 rfl rfl ?_
  dsimp only [xset]
  have hT := itC_in (v := v) hR hJ hp hm (by omega)
  have hz := hJ.2.2.2.2 s (by omega) (by omega)
  have H : ∀ (d : Nat) (M' : xMem) (i : Int), 0 ≤ i → i + d = M 53 s → PIn M' 31 1 → TrE M M' → M' 31 1 = M 11 1 → (itN s p d i M' ↔ itN s p (M 53 s).toNat 0 (itC M p o v)) → itM s p d i M' = itM s p (M 53 s).toNat 0 (itC M p o v) → X ω κ 25 [some (.ref (xad ω 0)), some (.int (iI s)), some (.int (iI p)), some (.int (iI o)), some (.int (iI v)), some (.int (iI i))] [] M' := by
    intro d
    induction d with
    | zero =>
      intro M' i hi0 hid hin' he' h1' e e2
      have e53 : M' 53 = M 53 := he' 53 (by omega)
      have ez : M' 53 s = M 53 s := by rw [e53]
      refine x_iload h dX6_isTuggedAsTold_25 rfl ?_
      refine x_aload_n h dX6_isTuggedAsTold_27 rfl ?_
      refine x_getr (j := 13) (q := 51) h dX6_isTuggedAsTold_28 (sC0 hc) rfl in_X6 rfl (by decide) m_fl_X6_78 ?_
      refine x_iload_n h dX6_isTuggedAsTold_31 rfl ?_
      refine x_V1i h dX6_isTuggedAsTold_32 m_ml_X6_266 m_im_X4_sizeOf m_se_X4_sizeOf (sC51 hc) rfl (by decide) rfl (c_X4_sizeOf hc (by omega)) ?_
      refine x_icmp_ge h dX6_isTuggedAsTold_35 (tgt := 75) (by decide) (by omega) (by omega) (fun q35 => ?_) (fun q35 => ?_)
      · refine x_iconst h dX6_isTuggedAsTold_75 ?_
        exact x_zret h he dX6_isTuggedAsTold_76 (by first | exact Or.inl rfl | exact Or.inr rfl | exact bI_01 _ | omega) rfl (bI_t (e.mp trivial)).symm e2
      · exfalso; omega
    | succ d ih =>
      intro M' i hi0 hid hin' he' h1' e e2
      have e53 : M' 53 = M 53 := he' 53 (by omega)
      have ez : M' 53 s = M 53 s := by rw [e53]
      have hst := stC_in H31 hin'
      have hsf := stC_f H31 hin'
      have e54 : stC 31 1 M' 54 = M' 54 := hsf.1 54 (by omega) (by omega) (by omega) (by omega) (by omega)
      have e532 : stC 31 1 M' 53 s = M 53 s := by rw [hsf.1 53 (by omega) (by omega) (by omega) (by omega) (by omega)]; exact ez
      have e11 : stC 31 1 M' 31 1 = M 11 1 := (hsf.2 1 (by omega) (by omega) (by omega)).trans h1'
      have gg := hst.1 (31 + 9) p
      have gg2 := hst.1 54 (s * 40 + i)
      refine x_iload h dX6_isTuggedAsTold_25 rfl ?_
      refine x_aload_n h dX6_isTuggedAsTold_27 rfl ?_
      refine x_getr (j := 13) (q := 51) h dX6_isTuggedAsTold_28 (sC0 hc) rfl in_X6 rfl (by decide) m_fl_X6_78 ?_
      refine x_iload_n h dX6_isTuggedAsTold_31 rfl ?_
      refine x_V1i h dX6_isTuggedAsTold_32 m_ml_X6_266 m_im_X4_sizeOf m_se_X4_sizeOf (sC51 hc) rfl (by decide) rfl (c_X4_sizeOf hc (by omega)) ?_
      refine x_icmp_ge h dX6_isTuggedAsTold_35 (tgt := 75) (by decide) (by omega) (by omega) (fun q35 => ?_) (fun q35 => ?_)
      · exfalso; omega
      · refine x_aload_n h dX6_isTuggedAsTold_38 rfl ?_
        refine x_getr (j := 9) (q := 31) h dX6_isTuggedAsTold_39 (sC0 hc) rfl in_X6 rfl (by decide) m_fl_X6_49 ?_
        refine x_iconst h dX6_isTuggedAsTold_42 ?_
        refine x_V1v h dX6_isTuggedAsTold_43 m_ml_X6_186 m_im_X1_takeSteps m_se_X1_takeSteps (sPe hc ((Or.inr (Or.inr ⟨rfl, rfl⟩)))) rfl (by decide) rfl (c_X1_takeSteps hc H31 hin' (by decide)) ?_
        refine x_mem (M' := stC 31 1 M') rfl ?_
        refine x_aload_n h dX6_isTuggedAsTold_46 rfl ?_
        refine x_getr (j := 9) (q := 31) h dX6_isTuggedAsTold_47 (sC0 hc) rfl in_X6 rfl (by decide) m_fl_X6_49 ?_
        refine x_iload_n h dX6_isTuggedAsTold_50 rfl ?_
        refine x_V1i h dX6_isTuggedAsTold_51 m_ml_X6_269 m_im_X1_tugsInStep m_se_X1_tugsInStep (sPe hc ((Or.inr (Or.inr ⟨rfl, rfl⟩)))) rfl (by decide) rfl (c_X1_tugsInStep hc H31 (clHas_e e11 hp)) ?_
        refine x_aload_n h dX6_isTuggedAsTold_54 rfl ?_
        refine x_getr (j := 13) (q := 51) h dX6_isTuggedAsTold_55 (sC0 hc) rfl in_X6 rfl (by decide) m_fl_X6_78 ?_
        refine x_iload_n h dX6_isTuggedAsTold_58 rfl ?_
        refine x_iload h dX6_isTuggedAsTold_59 rfl ?_
        refine x_V2i h dX6_isTuggedAsTold_61 m_ml_X6_272 m_im_X4_numberAt m_se_X4_numberAt (sC51 hc) rfl (by decide) rfl (c_X4_numberAt hc (by omega) (by omega)) ?_
        refine x_icmp_eq h dX6_isTuggedAsTold_64 (tgt := 69) (by decide) (by omega) (by omega) (fun q64 => ?_) (fun q64 => ?_)
        · refine x_iinc h dX6_isTuggedAsTold_69 rfl rfl rfl ?_
          dsimp only [xset]
          refine x_goto h dX6_isTuggedAsTold_72 (tgt := 25) (by decide) ?_
          have q : stC 31 1 M' (31 + 9) p = M' 54 (s * 40 + i) := by rw [← e54]; exact q64
          refine ih (stC 31 1 M') (i + 1) (by omega) (by omega) hst (he'.tr (TrE.of_f hsf)) e11 ⟨fun z => e.mp ⟨q, z⟩, fun z => (e.mpr z).2⟩ (by rw [← e2, itM, tI_p q])
        · refine x_iconst h dX6_isTuggedAsTold_67 ?_
          exact x_zret h he dX6_isTuggedAsTold_68 (by first | exact Or.inl rfl | exact Or.inr rfl | exact bI_01 _ | omega) rfl (bI_f (fun z => q64 (by have := e.mpr z; unfold itN at this; rw [e54]; exact this.1))).symm (by rw [← e2, itM, tI_n (by rw [← e54]; exact q64)])
  exact H (M 53 s).toNat (itC M p o v) 0 (by omega) (by omega) hT.1 hT.2.1 hT.2.2 Iff.rfl rfl

noncomputable def ftG (s p v : Int) (k : Int) (st : Int × xMem) : Int × xMem := tI (k = p) st (tI (itN s p (st.2 53 s).toNat 0 (itC st.2 p k v)) (bor st.1 (bshl 1 k)) st.1, itM s p (st.2 53 s).toNat 0 (itC st.2 p k v))
noncomputable def ftF (s p v : Int) (M : xMem) (n : Nat) : Int × xMem := xfo (ftG s p v) (0, M) n
theorem ftF_s (s p v : Int) (M : xMem) (n : Nat) : ftF s p v M (n + 1) = ftG s p v (n : Int) (ftF s p v M n) := by
  unfold ftF
  rw [xfo_s (ftG s p v) (0, M) n]
theorem ftF_o {s p v : Int} {M : xMem} (hR : xR M) (hJ : CInv M) (hp : clHas M 11 p) (hv : 0 ≤ v ∧ v ≤ 99) : ∀ n : Nat, (n : Int) ≤ M 11 1 → TrE M (ftF s p v M n).2 ∧ xR (ftF s p v M n).2 ∧ (0 ≤ (ftF s p v M n).1 ∧ (ftF s p v M n).1 < 256) := by
  intro n
  induction n with
  | zero => intro _; exact ⟨TrE.rf, hR, ⟨by show (0 : Int) ≤ 0; decide, by show (0 : Int) < 256; decide⟩⟩
  | succ n ih =>
    intro hn
    have hn1 := hJ.1.1
    obtain ⟨h1, h2, h3⟩ := ih (by omega)
    rw [ftF_s]
    generalize ftF s p v M n = st at h1 h2 h3 ⊢
    by_cases hk : (n : Int) = p
    · unfold ftG
      rw [tI_p hk]
      exact ⟨h1, h2, h3⟩
    · have hJ1 := hJ.e h1
      have e11 := h1 11 (by omega)
      have hT := itC_in (o := (n : Int)) (v := v) h2 hJ1 (clHas_e (by rw [e11]) hp) (by unfold clHas; rw [e11]; omega) (by omega)
      have hM := itM_in (s := s) (p := p) (st.2 53 s).toNat 0 _ hT.1
      unfold ftG
      rw [tI_n hk]
      refine ⟨h1.tr (hT.2.1.tr (TrE.of_f hM.2)), hM.1.1, ?_⟩
      dsimp only
      unfold tI
      split
      · exact (bor_bit h3 (by omega)).1
      · exact h3
theorem dX6_fittingSet_0 : decode cX6_fittingSet 0 = .ok (.iconst 0, 1) := by decide +kernel
theorem dX6_fittingSet_1 : decode cX6_fittingSet 1 = .ok (.istore 4, 2) := by decide +kernel
theorem dX6_fittingSet_3 : decode cX6_fittingSet 3 = .ok (.iconst 0, 1) := by decide +kernel
theorem dX6_fittingSet_4 : decode cX6_fittingSet 4 = .ok (.istore 5, 2) := by decide +kernel
theorem dX6_fittingSet_6 : decode cX6_fittingSet 6 = .ok (.iload 5, 2) := by decide +kernel
theorem dX6_fittingSet_8 : decode cX6_fittingSet 8 = .ok (.aload_n 0, 1) := by decide +kernel
theorem dX6_fittingSet_9 : decode cX6_fittingSet 9 = .ok (.getfield 21, 3) := by decide +kernel
theorem dX6_fittingSet_12 : decode cX6_fittingSet 12 = .ok (.invokevirtual 113, 3) := by decide +kernel
theorem dX6_fittingSet_15 : decode cX6_fittingSet 15 = .ok (.if_icmp .ge 36, 3) := by decide +kernel
theorem dX6_fittingSet_18 : decode cX6_fittingSet 18 = .ok (.iload 5, 2) := by decide +kernel
theorem dX6_fittingSet_20 : decode cX6_fittingSet 20 = .ok (.iload_n 2, 1) := by decide +kernel
theorem dX6_fittingSet_21 : decode cX6_fittingSet 21 = .ok (.if_icmp .eq 24, 3) := by decide +kernel
theorem dX6_fittingSet_24 : decode cX6_fittingSet 24 = .ok (.aload_n 0, 1) := by decide +kernel
theorem dX6_fittingSet_25 : decode cX6_fittingSet 25 = .ok (.iload_n 1, 1) := by decide +kernel
theorem dX6_fittingSet_26 : decode cX6_fittingSet 26 = .ok (.iload_n 2, 1) := by decide +kernel
theorem dX6_fittingSet_27 : decode cX6_fittingSet 27 = .ok (.iload 5, 2) := by decide +kernel
theorem dX6_fittingSet_29 : decode cX6_fittingSet 29 = .ok (.iload_n 3, 1) := by decide +kernel
theorem dX6_fittingSet_30 : decode cX6_fittingSet 30 = .ok (.invokevirtual 262, 3) := by decide +kernel
theorem dX6_fittingSet_33 : decode cX6_fittingSet 33 = .ok (.ifCond .eq 12, 3) := by decide +kernel
theorem dX6_fittingSet_36 : decode cX6_fittingSet 36 = .ok (.iload 4, 2) := by decide +kernel
theorem dX6_fittingSet_38 : decode cX6_fittingSet 38 = .ok (.iconst 1, 1) := by decide +kernel
theorem dX6_fittingSet_39 : decode cX6_fittingSet 39 = .ok (.iload 5, 2) := by decide +kernel
theorem dX6_fittingSet_41 : decode cX6_fittingSet 41 = .ok (.ishl, 1) := by decide +kernel
theorem dX6_fittingSet_42 : decode cX6_fittingSet 42 = .ok (.ior, 1) := by decide +kernel
theorem dX6_fittingSet_43 : decode cX6_fittingSet 43 = .ok (.istore 4, 2) := by decide +kernel
theorem dX6_fittingSet_45 : decode cX6_fittingSet 45 = .ok (.iinc 5 1, 3) := by decide +kernel
theorem dX6_fittingSet_48 : decode cX6_fittingSet 48 = .ok (.goto (-42), 3) := by decide +kernel
theorem dX6_fittingSet_51 : decode cX6_fittingSet 51 = .ok (.iload 4, 2) := by decide +kernel
theorem dX6_fittingSet_53 : decode cX6_fittingSet 53 = .ok (.ireturn, 1) := by decide +kernel
set_option maxHeartbeats 4000000 in
set_option maxRecDepth 100000 in
theorem c_X6_fittingSet {l : Launch} {ω : xO} (hc : xsh ω = clS) {s p v : Int} {M : xMem} (hJ : CInv M) (hs : shI s) (hp : clHas M 11 p) (hv : 0 ≤ v ∧ v ≤ 99) : Ct l ω yX6_fittingSet ({ frames := 6, cells := 0, slots := 0, locals := 143 } : Room) 6 3 [.ref (xad ω 0), .int (iI s), .int (iI p), .int (iI v)] M (some (.int (iI ((ftF s p v M (M 11 1).toNat).1)))) ((ftF s p v M (M 11 1).toNat).2) := by
  refine Ct.of (bytes := cX6_fittingSet) (ret := (some .int)) (lv0 := [some (.ref (xad ω 0)), some (.int (iI s)), some (.int (iI p)), some (.int (iI v)), none, none]) m_cd_X6_fittingSet m_in_X6 (by decide +kernel) (by decide +kernel) rfl rfl rfl rfl (fun hR => (ftF_o (s := s) hR hJ hp hv (M 11 1).toNat (by have := hJ.1.1; omega)).2.1) ?_
  intro κ h he hR
  have hI := hJ.1
  have hD := hJ.2.1
  have hL := hJ.2.2.1
  have hn := hI.1
  have hck := hI.2.1
  refine x_iconst h dX6_fittingSet_0 ?_
  refine x_istore h dX6_fittingSet_1 rfl rfl ?_
  dsimp only [xset]
  refine x_iconst h dX6_fittingSet_3 ?_
  refine x_istore h dX6_fittingSet_4 rfl rfl ?_
  dsimp only [xset]
  refine x_same (lv' := [some (.ref (xad ω 0)), some (.int (iI s)), some (.int (iI p)), some (.int (iI v)), some (.int (iI (ftF s p v M 0).1)), some (.int (iI ((0 : Nat) : Int)))]) (st' := []) (M' := (ftF s p v M 0).2) ?_ rfl rfl rfl
  refine loop_up (fun k => X ω κ 6 [some (.ref (xad ω 0)), some (.int (iI s)), some (.int (iI p)), some (.int (iI v)), some (.int (iI (ftF s p v M k).1)), some (.int (iI (k : Int)))] [] ((ftF s p v M k).2)) ((M 11 1).toNat) ?_ ?_
  · show X ω κ 6 [some (.ref (xad ω 0)), some (.int (iI s)), some (.int (iI p)), some (.int (iI v)), some (.int (iI (ftF s p v M (M 11 1).toNat).1)), some (.int (iI (((M 11 1).toNat : Nat) : Int)))] [] ((ftF s p v M ((M 11 1).toNat)).2)
    have ho := ftF_o (s := s) hR hJ hp hv (M 11 1).toNat (by omega)
    have e1 : (ftF s p v M (M 11 1).toNat).2 11 1 = M 11 1 := by rw [ho.1 11 (by omega)]
    refine x_iload h dX6_fittingSet_6 rfl ?_
    refine x_aload_n h dX6_fittingSet_8 rfl ?_
    refine x_getr (j := 1) (q := 11) h dX6_fittingSet_9 (sC0 hc) rfl in_X6 rfl (by decide) m_fl_X6_21 ?_
    refine x_V0i h dX6_fittingSet_12 m_ml_X6_113 m_im_X1_number m_se_X1_number (sPe hc ((Or.inl ⟨rfl, rfl⟩))) rfl (by decide) rfl (c_X1_number hc (Or.inl ⟨rfl, rfl⟩)) ?_
    refine x_icmp_ge h dX6_fittingSet_15 (tgt := 51) (by decide) (by omega) (by omega) (fun q15 => ?_) (fun q15 => ?_)
    · refine x_iload h dX6_fittingSet_51 rfl ?_
      exact x_iret (ret := none) h he dX6_fittingSet_53 rfl rfl rfl
    · exfalso; omega
  · intro k hk ihk
    replace ihk : X ω κ 6 [some (.ref (xad ω 0)), some (.int (iI s)), some (.int (iI p)), some (.int (iI v)), some (.int (iI (ftF s p v M (k + 1)).1)), some (.int (iI ((k + 1 : Nat) : Int)))] [] ((ftF s p v M (k + 1)).2) := ihk
    show X ω κ 6 [some (.ref (xad ω 0)), some (.int (iI s)), some (.int (iI p)), some (.int (iI v)), some (.int (iI (ftF s p v M k).1)), some (.int (iI (k : Int)))] [] ((ftF s p v M k).2)
    have ho := ftF_o (s := s) hR hJ hp hv k (by omega)
    revert ihk
    rw [ftF_s]
    generalize ftF s p v M k = st at ho ⊢
    intro ihk
    obtain ⟨he1, hR1, hb1⟩ := ho
    have hJ1 := hJ.e he1
    have e1 : st.2 11 1 = M 11 1 := by rw [he1 11 (by omega)]
    have hp1 : clHas st.2 11 p := clHas_e e1 hp
    have hk1 : clHas st.2 11 (k : Int) ↔ (k : Int) < M 11 1 := by unfold clHas; rw [e1]; omega
    refine x_iload h dX6_fittingSet_6 rfl ?_
    refine x_aload_n h dX6_fittingSet_8 rfl ?_
    refine x_getr (j := 1) (q := 11) h dX6_fittingSet_9 (sC0 hc) rfl in_X6 rfl (by decide) m_fl_X6_21 ?_
    refine x_V0i h dX6_fittingSet_12 m_ml_X6_113 m_im_X1_number m_se_X1_number (sPe hc ((Or.inl ⟨rfl, rfl⟩))) rfl (by decide) rfl (c_X1_number hc (Or.inl ⟨rfl, rfl⟩)) ?_
    refine x_icmp_ge h dX6_fittingSet_15 (tgt := 51) (by decide) (by omega) (by omega) (fun q15 => ?_) (fun q15 => ?_)
    · exfalso; omega
    · refine x_iload h dX6_fittingSet_18 rfl ?_
      refine x_iload_n h dX6_fittingSet_20 rfl ?_
      refine x_icmp_eq h dX6_fittingSet_21 (tgt := 45) (by decide) (by omega) (by omega) (fun q21 => ?_) (fun q21 => ?_)
      · refine x_iinc h dX6_fittingSet_45 rfl rfl rfl ?_
        dsimp only [xset]
        refine x_goto h dX6_fittingSet_48 (tgt := 6) (by decide) ?_
        first
          | exact x_same ihk (by unfold ftG; rw [tI_p q21]; rfl) rfl (by unfold ftG; rw [tI_p q21])
          | exact x_same ihk (by unfold ftG; rw [tI_n q21]; dsimp only; rw [tI_p q33]; rfl) rfl (by unfold ftG; rw [tI_n q21])
          | exact x_same ihk (by unfold ftG; rw [tI_n q21]; dsimp only; rw [tI_n q33]; rfl) rfl (by unfold ftG; rw [tI_n q21])
      · refine x_aload_n h dX6_fittingSet_24 rfl ?_
        refine x_iload_n h dX6_fittingSet_25 rfl ?_
        refine x_iload_n h dX6_fittingSet_26 rfl ?_
        refine x_iload h dX6_fittingSet_27 rfl ?_
        refine x_iload_n h dX6_fittingSet_29 rfl ?_
        refine x_V4i h dX6_fittingSet_30 m_ml_X6_262 m_im_X6_isTuggedAsTold m_se_X6_isTuggedAsTold (sC0 hc) rfl (by decide) rfl (c_X6_isTuggedAsTold hc hJ1 hs hp1 (hk1.mpr (by omega)) (fun z => q21 z.symm) hv) ?_
        refine x_ifeqB h dX6_fittingSet_33 (tgt := 45) (by decide) (fun q33 => ?_) (fun q33 => ?_)
        · refine x_iinc h dX6_fittingSet_45 rfl rfl rfl ?_
          dsimp only [xset]
          refine x_goto h dX6_fittingSet_48 (tgt := 6) (by decide) ?_
          first
            | exact x_same ihk (by unfold ftG; rw [tI_p q21]; rfl) rfl (by unfold ftG; rw [tI_p q21])
            | exact x_same ihk (by unfold ftG; rw [tI_n q21]; dsimp only; rw [tI_p q33]; rfl) rfl (by unfold ftG; rw [tI_n q21])
            | exact x_same ihk (by unfold ftG; rw [tI_n q21]; dsimp only; rw [tI_n q33]; rfl) rfl (by unfold ftG; rw [tI_n q21])
        · refine x_iload h dX6_fittingSet_36 rfl ?_
          refine x_iconst h dX6_fittingSet_38 ?_
          refine x_iload h dX6_fittingSet_39 rfl ?_
          refine x_ishl h dX6_fittingSet_41 (fun r41 => ?_)
          refine x_ior h dX6_fittingSet_42 (fun r42 => ?_)
          refine x_istore h dX6_fittingSet_43 rfl rfl ?_
          dsimp only [xset]
          refine x_iinc h dX6_fittingSet_45 rfl rfl rfl ?_
          dsimp only [xset]
          refine x_goto h dX6_fittingSet_48 (tgt := 6) (by decide) ?_
          first
            | exact x_same ihk (by unfold ftG; rw [tI_p q21]; rfl) rfl (by unfold ftG; rw [tI_p q21])
            | exact x_same ihk (by unfold ftG; rw [tI_n q21]; dsimp only; rw [tI_p q33]; rfl) rfl (by unfold ftG; rw [tI_n q21])
            | exact x_same ihk (by unfold ftG; rw [tI_n q21]; dsimp only; rw [tI_n q33]; rfl) rfl (by unfold ftG; rw [tI_n q21])

theorem fotF_m {M : xMem} {s p v : Int} : fotF M s p v = -1 ↔ shI s ∧ M 52 s ≠ 0 ∧ clHas M 11 p ∧ 0 ≤ v ∧ v ≤ 99 := by unfold fotF; (repeat' split) <;> omega
theorem fotF_R {M : xMem} {s p v : Int} : fotF M s p v = -1 ∨ fotF M s p v = 0 ∨ fotF M s p v = 5 := by unfold fotF; (repeat' split) <;> omega
noncomputable def fitsR (M : xMem) (s p v : Int) : Int := if fotF M s p v = -1 then pc8 (ftF s p v M (M 11 1).toNat).1 else -1000001 - fotF M s p v
noncomputable def fitsM (M : xMem) (s p v : Int) : xMem := if fotF M s p v = -1 then (ftF s p v M (M 11 1).toNat).2 else fndC M (fotF M s p v)
theorem dX6_fits_0 : decode cX6_fits 0 = .ok (.aload_n 0, 1) := by decide +kernel
theorem dX6_fits_1 : decode cX6_fits 1 = .ok (.iload_n 1, 1) := by decide +kernel
theorem dX6_fits_2 : decode cX6_fits 2 = .ok (.iload_n 2, 1) := by decide +kernel
theorem dX6_fits_3 : decode cX6_fits 3 = .ok (.iload_n 3, 1) := by decide +kernel
theorem dX6_fits_4 : decode cX6_fits 4 = .ok (.invokevirtual 249, 3) := by decide +kernel
theorem dX6_fits_7 : decode cX6_fits 7 = .ok (.istore 4, 2) := by decide +kernel
theorem dX6_fits_9 : decode cX6_fits 9 = .ok (.iload 4, 2) := by decide +kernel
theorem dX6_fits_11 : decode cX6_fits 11 = .ok (.iconst (-1), 1) := by decide +kernel
theorem dX6_fits_12 : decode cX6_fits 12 = .ok (.if_icmp .ne 16, 3) := by decide +kernel
theorem dX6_fits_15 : decode cX6_fits 15 = .ok (.aload_n 0, 1) := by decide +kernel
theorem dX6_fits_16 : decode cX6_fits 16 = .ok (.iload_n 1, 1) := by decide +kernel
theorem dX6_fits_17 : decode cX6_fits 17 = .ok (.iload_n 2, 1) := by decide +kernel
theorem dX6_fits_18 : decode cX6_fits 18 = .ok (.iload_n 3, 1) := by decide +kernel
theorem dX6_fits_19 : decode cX6_fits 19 = .ok (.invokevirtual 253, 3) := by decide +kernel
theorem dX6_fits_22 : decode cX6_fits 22 = .ok (.invokestatic 223, 3) := by decide +kernel
theorem dX6_fits_25 : decode cX6_fits 25 = .ok (.goto 9, 3) := by decide +kernel
theorem dX6_fits_28 : decode cX6_fits 28 = .ok (.aload_n 0, 1) := by decide +kernel
theorem dX6_fits_29 : decode cX6_fits 29 = .ok (.iload 4, 2) := by decide +kernel
theorem dX6_fits_31 : decode cX6_fits 31 = .ok (.invokevirtual 95, 3) := by decide +kernel
theorem dX6_fits_34 : decode cX6_fits 34 = .ok (.ireturn, 1) := by decide +kernel
set_option maxHeartbeats 4000000 in
set_option maxRecDepth 100000 in
theorem c_X6_fits {l : Launch} {ω : xO} (hc : xsh ω = clS) {s p v : Int} {M : xMem} (hJ : CInv M) (h_s : inR s) (h_p : inR p) (h_v : inR v) : Ct l ω yX6_fits ({ frames := 7, cells := 0, slots := 0, locals := 168 } : Room) 5 3 [.ref (xad ω 0), .int (iI s), .int (iI p), .int (iI v)] M (some (.int (iI (fitsR M s p v)))) (fitsM M s p v) := by
  refine Ct.of (bytes := cX6_fits) (ret := (some .int)) (lv0 := [some (.ref (xad ω 0)), some (.int (iI s)), some (.int (iI p)), some (.int (iI v)), none]) m_cd_X6_fits m_in_X6 (by decide +kernel) (by decide +kernel) rfl rfl rfl rfl (fun hR => by unfold fitsM; split; exact (ftF_o (s := s) hR hJ (fotF_m.mp (by assumption)).2.2.1 (fotF_m.mp (by assumption)).2.2.2 (M 11 1).toNat (by have := hJ.1.1; omega)).2.1; exact fndC_R hR) ?_
  intro κ h he hR
  have hI := hJ.1
  have hD := hJ.2.1
  have hL := hJ.2.2.1
  have hn := hI.1
  have hck := hI.2.1
  have hfr := fotF_R (M := M) (s := s) (p := p) (v := v)
  have hfm := fotF_m (M := M) (s := s) (p := p) (v := v)
  refine x_aload_n h dX6_fits_0 rfl ?_
  refine x_iload_n h dX6_fits_1 rfl ?_
  refine x_iload_n h dX6_fits_2 rfl ?_
  refine x_iload_n h dX6_fits_3 rfl ?_
  refine x_V3i h dX6_fits_4 m_ml_X6_249 m_im_X6_findingOfTold m_se_X6_findingOfTold (sC0 hc) rfl (by decide) rfl (c_X6_findingOfTold hc (by omega) (by omega) (by omega)) ?_
  refine x_istore h dX6_fits_7 rfl rfl ?_
  dsimp only [xset]
  refine x_iload h dX6_fits_9 rfl ?_
  refine x_iconst h dX6_fits_11 ?_
  refine x_icmp_ne h dX6_fits_12 (tgt := 28) (by decide) (by omega) (by omega) (fun q12 => ?_) (fun q12 => ?_)
  · refine x_aload_n h dX6_fits_28 rfl ?_
    refine x_iload h dX6_fits_29 rfl ?_
    refine x_V1i h dX6_fits_31 m_ml_X6_95 m_im_X6_found m_se_X6_found (sC0 hc) rfl (by decide) rfl (c_X6_found hc (by omega)) ?_
    exact x_iret (ret := none) h he dX6_fits_34 rfl (by unfold fitsR; (repeat (first | rw [if_pos (by first | assumption | omega)] | rw [if_neg (by first | assumption | omega)])) <;> first | rfl | omega) (by unfold fitsM; (repeat (first | rw [if_pos (by first | assumption | omega)] | rw [if_neg (by first | assumption | omega)])) <;> first | rfl | omega)
  · have hok := hfm.mp q12
    have hft := ftF_o (s := s) hR hJ hok.2.2.1 hok.2.2.2 (M 11 1).toNat (by omega)
    refine x_aload_n h dX6_fits_15 rfl ?_
    refine x_iload_n h dX6_fits_16 rfl ?_
    refine x_iload_n h dX6_fits_17 rfl ?_
    refine x_iload_n h dX6_fits_18 rfl ?_
    refine x_V3i h dX6_fits_19 m_ml_X6_253 m_im_X6_fittingSet m_se_X6_fittingSet (sC0 hc) rfl (by decide) rfl (c_X6_fittingSet hc hJ hok.1 hok.2.2.1 hok.2.2.2) ?_
    refine x_S1i h dX6_fits_22 m_ml_X6_223 m_st_J6_bitCount_0f7a4 (by decide) rfl (c_J6_bitCount_0f7a4 hft.2.2) ?_
    refine x_goto h dX6_fits_25 (tgt := 34) (by decide) ?_
    exact x_iret (ret := none) h he dX6_fits_34 rfl (by unfold fitsR; (repeat (first | rw [if_pos (by first | assumption | omega)] | rw [if_neg (by first | assumption | omega)])) <;> first | rfl | omega) (by unfold fitsM; (repeat (first | rw [if_pos (by first | assumption | omega)] | rw [if_neg (by first | assumption | omega)])) <;> first | rfl | omega)

noncomputable def whoR (M : xMem) (s p v : Int) : Int := if fotF M s p v = -1 then (ftF s p v M (M 11 1).toNat).1 else -1000001 - fotF M s p v
noncomputable def whoM (M : xMem) (s p v : Int) : xMem := if fotF M s p v = -1 then (ftF s p v M (M 11 1).toNat).2 else fndC M (fotF M s p v)
theorem dX6_who_0 : decode cX6_who 0 = .ok (.aload_n 0, 1) := by decide +kernel
theorem dX6_who_1 : decode cX6_who 1 = .ok (.iload_n 1, 1) := by decide +kernel
theorem dX6_who_2 : decode cX6_who 2 = .ok (.iload_n 2, 1) := by decide +kernel
theorem dX6_who_3 : decode cX6_who 3 = .ok (.iload_n 3, 1) := by decide +kernel
theorem dX6_who_4 : decode cX6_who 4 = .ok (.invokevirtual 249, 3) := by decide +kernel
theorem dX6_who_7 : decode cX6_who 7 = .ok (.istore 4, 2) := by decide +kernel
theorem dX6_who_9 : decode cX6_who 9 = .ok (.iload 4, 2) := by decide +kernel
theorem dX6_who_11 : decode cX6_who 11 = .ok (.iconst (-1), 1) := by decide +kernel
theorem dX6_who_12 : decode cX6_who 12 = .ok (.if_icmp .ne 13, 3) := by decide +kernel
theorem dX6_who_15 : decode cX6_who 15 = .ok (.aload_n 0, 1) := by decide +kernel
theorem dX6_who_16 : decode cX6_who 16 = .ok (.iload_n 1, 1) := by decide +kernel
theorem dX6_who_17 : decode cX6_who 17 = .ok (.iload_n 2, 1) := by decide +kernel
theorem dX6_who_18 : decode cX6_who 18 = .ok (.iload_n 3, 1) := by decide +kernel
theorem dX6_who_19 : decode cX6_who 19 = .ok (.invokevirtual 253, 3) := by decide +kernel
theorem dX6_who_22 : decode cX6_who 22 = .ok (.goto 9, 3) := by decide +kernel
theorem dX6_who_25 : decode cX6_who 25 = .ok (.aload_n 0, 1) := by decide +kernel
theorem dX6_who_26 : decode cX6_who 26 = .ok (.iload 4, 2) := by decide +kernel
theorem dX6_who_28 : decode cX6_who 28 = .ok (.invokevirtual 95, 3) := by decide +kernel
theorem dX6_who_31 : decode cX6_who 31 = .ok (.ireturn, 1) := by decide +kernel
set_option maxHeartbeats 4000000 in
set_option maxRecDepth 100000 in
theorem c_X6_who {l : Launch} {ω : xO} (hc : xsh ω = clS) {s p v : Int} {M : xMem} (hJ : CInv M) (h_s : inR s) (h_p : inR p) (h_v : inR v) : Ct l ω yX6_who ({ frames := 7, cells := 0, slots := 0, locals := 168 } : Room) 5 3 [.ref (xad ω 0), .int (iI s), .int (iI p), .int (iI v)] M (some (.int (iI (whoR M s p v)))) (whoM M s p v) := by
  refine Ct.of (bytes := cX6_who) (ret := (some .int)) (lv0 := [some (.ref (xad ω 0)), some (.int (iI s)), some (.int (iI p)), some (.int (iI v)), none]) m_cd_X6_who m_in_X6 (by decide +kernel) (by decide +kernel) rfl rfl rfl rfl (fun hR => by unfold whoM; split; exact (ftF_o (s := s) hR hJ (fotF_m.mp (by assumption)).2.2.1 (fotF_m.mp (by assumption)).2.2.2 (M 11 1).toNat (by have := hJ.1.1; omega)).2.1; exact fndC_R hR) ?_
  intro κ h he hR
  have hI := hJ.1
  have hD := hJ.2.1
  have hL := hJ.2.2.1
  have hn := hI.1
  have hck := hI.2.1
  have hfr := fotF_R (M := M) (s := s) (p := p) (v := v)
  have hfm := fotF_m (M := M) (s := s) (p := p) (v := v)
  refine x_aload_n h dX6_who_0 rfl ?_
  refine x_iload_n h dX6_who_1 rfl ?_
  refine x_iload_n h dX6_who_2 rfl ?_
  refine x_iload_n h dX6_who_3 rfl ?_
  refine x_V3i h dX6_who_4 m_ml_X6_249 m_im_X6_findingOfTold m_se_X6_findingOfTold (sC0 hc) rfl (by decide) rfl (c_X6_findingOfTold hc (by omega) (by omega) (by omega)) ?_
  refine x_istore h dX6_who_7 rfl rfl ?_
  dsimp only [xset]
  refine x_iload h dX6_who_9 rfl ?_
  refine x_iconst h dX6_who_11 ?_
  refine x_icmp_ne h dX6_who_12 (tgt := 25) (by decide) (by omega) (by omega) (fun q12 => ?_) (fun q12 => ?_)
  · refine x_aload_n h dX6_who_25 rfl ?_
    refine x_iload h dX6_who_26 rfl ?_
    refine x_V1i h dX6_who_28 m_ml_X6_95 m_im_X6_found m_se_X6_found (sC0 hc) rfl (by decide) rfl (c_X6_found hc (by omega)) ?_
    exact x_iret (ret := none) h he dX6_who_31 rfl (by unfold whoR; (repeat (first | rw [if_pos (by first | assumption | omega)] | rw [if_neg (by first | assumption | omega)])) <;> first | rfl | omega) (by unfold whoM; (repeat (first | rw [if_pos (by first | assumption | omega)] | rw [if_neg (by first | assumption | omega)])) <;> first | rfl | omega)
  · have hok := hfm.mp q12
    have hft := ftF_o (s := s) hR hJ hok.2.2.1 hok.2.2.2 (M 11 1).toNat (by omega)
    refine x_aload_n h dX6_who_15 rfl ?_
    refine x_iload_n h dX6_who_16 rfl ?_
    refine x_iload_n h dX6_who_17 rfl ?_
    refine x_iload_n h dX6_who_18 rfl ?_
    refine x_V3i h dX6_who_19 m_ml_X6_253 m_im_X6_fittingSet m_se_X6_fittingSet (sC0 hc) rfl (by decide) rfl (c_X6_fittingSet hc hJ hok.1 hok.2.2.1 hok.2.2.2) ?_
    refine x_goto h dX6_who_22 (tgt := 31) (by decide) ?_
    exact x_iret (ret := none) h he dX6_who_31 rfl (by unfold whoR; (repeat (first | rw [if_pos (by first | assumption | omega)] | rw [if_neg (by first | assumption | omega)])) <;> first | rfl | omega) (by unfold whoM; (repeat (first | rw [if_pos (by first | assumption | omega)] | rw [if_neg (by first | assumption | omega)])) <;> first | rfl | omega)
