/-! the reference: days -/
theorem MInv.lo {M : xMem} {i v : Int} (h : MInv M) (hi : 2 ≤ i ∧ i < 13) : MInv (up M 1 i v) := by
  refine ⟨?_, ?_, ?_, ?_⟩
  · rw [up_nn (by omega)]; exact h.1
  · rw [up_nn (by omega)]; exact h.2.1
  · rw [wyM_up (by omega)]; exact h.2.2.1
  · intro q q0 q1
    rw [up_nn (by omega)] at q1
    have g := h.2.2.2 q q0 q1
    rw [show up M 1 i v 1 1 = M 1 1 from up_nn (by omega)]
    rw [up_nn (by omega), up_nn (by omega), up_nn (by omega), up_nn (by omega), up_nn (by omega), up_nn (by omega), up_nn (by omega), up_nn (by omega)]
    exact g
def neN (N : xMem) : Int := brem (bushr (ndN N) 8) 10
theorem ndN_ca {N : xMem} {f : Int} {d : Int → Int} : ndN (ca N f d) = ndN N := rfl
theorem neN_ca {N : xMem} {f : Int} {d : Int → Int} : neN (ca N f d) = neN N := rfl
def ndG (p : Int) (N : xMem) : xMem := up (up N 1 2 (ndN N)) 1 (113 + 8 * p + 2) (neN N)
def ndF (N : xMem) (k : Nat) : xMem := xfo ndG N k
theorem ndF_s (N : xMem) (k : Nat) : ndF N (k + 1) = ndG (k : Int) (ndF N k) := by
  unfold ndF
  rw [xfo_s ndG N k]
noncomputable def ndD (N : xMem) : xMem := siN (ndF N (N 1 1).toNat) 10
noncomputable def ndI (N : xMem) : Nat → xMem
  | 0 => N
  | k + 1 => ndD (ndI N k)
noncomputable def ndS (N : xMem) : Nat → Int
  | 0 => 0
  | k + 1 => ndS N k + pc8 (thN (ndI N (k + 1)))
theorem neN_R (N : xMem) : 0 ≤ neN N ∧ neN N < 10 := by
  have h := drN_R (M := fun _ _ => N 1 2)
  have h2 : 0 ≤ bushr (ndN N) 8 ∧ bushr (ndN N) 8 < 16777216 := h
  unfold neN
  rw [brem_p (by omega) (by decide)]
  omega
theorem ndF_I {N : xMem} (h : MInv N) : ∀ k : Nat, (k : Int) ≤ N 1 1 → MInv (ndF N k) ∧ ndF N k 1 1 = N 1 1 ∧ ndF N k 1 0 = N 1 0 ∧ wyM (ndF N k) = wyM N := by
  have hn := h.1
  intro k
  induction k with
  | zero => intro _; exact ⟨h, rfl, rfl, rfl⟩
  | succ k ih =>
    intro hk
    obtain ⟨h1, h2, h3, h4⟩ := ih (by omega)
    have hne := neN_R (ndF N k)
    rw [ndF_s]
    unfold ndG
    refine ⟨(h1.lo (by omega)).up1 (by rw [up_nn (by omega), h2]; omega) (by unfold fOk; omega), ?_, ?_, ?_⟩
    · rw [up_nn (by omega), up_nn (by omega), h2]
    · rw [up_nn (by omega), up_nn (by omega), h3]
    · rw [wyM_up (by omega), wyM_up (by omega), h4]
theorem ndI_I {M : xMem} (h : MInv M) : ∀ k : Nat, MInv (ndI M k) ∧ ndI M k 1 1 = M 1 1 ∧ ndI M k 1 0 = M 1 0 + 10 * k := by
  have hn := h.1
  intro k
  induction k with
  | zero => exact ⟨h, rfl, by show M 1 0 = M 1 0 + 10 * ((0 : Nat) : Int); omega⟩
  | succ k ih =>
    obtain ⟨h1, h2, h3⟩ := ih
    have g := ndF_I h1 (ndI M k 1 1).toNat (by rw [h2]; omega)
    have s := siN_I g.1 10
    refine ⟨s.1, ?_, ?_⟩
    · exact s.2.1.n.trans (g.2.1.trans h2)
    · exact (s.2.2.trans (by rw [g.2.2.1, h3])).trans (by omega)
theorem thN_R {M : xMem} (hn : 0 ≤ M 1 1 ∧ M 1 1 ≤ 8) : 0 ≤ thN M ∧ thN M < 256 := (set_fold (P := fun p => M 1 (113 + 8 * p + 1) = M 1 (113 + 8 * p + 2)) (fun _ => inferInstance) (n := (M 1 1).toNat) (by omega)).1
noncomputable def ndyR (M : xMem) (n : Int) : Int := if 1 ≤ n ∧ n ≤ 10 then (if 99999 < M 1 0 + 10 * n then -1000005 else ndS M n.toNat) else -1000001
noncomputable def ndyM (M : xMem) (n : Int) : xMem := if 1 ≤ n ∧ n ≤ 10 then (if 99999 < M 1 0 + 10 * n then fnM M (-1000005) else ndI M n.toNat) else fnM M (-1000001)
theorem dX7_days_0 : decode cX7_days 0 = .ok (.iload_n 1, 1) := by decide +kernel
theorem dX7_days_1 : decode cX7_days 1 = .ok (.iconst 1, 1) := by decide +kernel
theorem dX7_days_2 : decode cX7_days 2 = .ok (.bipush 10, 2) := by decide +kernel
theorem dX7_days_4 : decode cX7_days 4 = .ok (.invokestatic 81, 3) := by decide +kernel
theorem dX7_days_7 : decode cX7_days 7 = .ok (.ifCond .ne 10, 3) := by decide +kernel
theorem dX7_days_10 : decode cX7_days 10 = .ok (.aload_n 0, 1) := by decide +kernel
theorem dX7_days_11 : decode cX7_days 11 = .ok (.ldc 76, 2) := by decide +kernel
theorem dX7_days_13 : decode cX7_days 13 = .ok (.invokevirtual 101, 3) := by decide +kernel
theorem dX7_days_16 : decode cX7_days 16 = .ok (.ireturn, 1) := by decide +kernel
theorem dX7_days_17 : decode cX7_days 17 = .ok (.aload_n 0, 1) := by decide +kernel
theorem dX7_days_18 : decode cX7_days 18 = .ok (.getfield 9, 3) := by decide +kernel
theorem dX7_days_21 : decode cX7_days 21 = .ok (.iconst 0, 1) := by decide +kernel
theorem dX7_days_22 : decode cX7_days 22 = .ok (.iaload, 1) := by decide +kernel
theorem dX7_days_23 : decode cX7_days 23 = .ok (.bipush 10, 2) := by decide +kernel
theorem dX7_days_25 : decode cX7_days 25 = .ok (.iload_n 1, 1) := by decide +kernel
theorem dX7_days_26 : decode cX7_days 26 = .ok (.imul, 1) := by decide +kernel
theorem dX7_days_27 : decode cX7_days 27 = .ok (.iadd, 1) := by decide +kernel
theorem dX7_days_28 : decode cX7_days 28 = .ok (.ldc 207, 2) := by decide +kernel
theorem dX7_days_30 : decode cX7_days 30 = .ok (.if_icmp .le 10, 3) := by decide +kernel
theorem dX7_days_33 : decode cX7_days 33 = .ok (.aload_n 0, 1) := by decide +kernel
theorem dX7_days_34 : decode cX7_days 34 = .ok (.ldc 163, 2) := by decide +kernel
theorem dX7_days_36 : decode cX7_days 36 = .ok (.invokevirtual 101, 3) := by decide +kernel
theorem dX7_days_39 : decode cX7_days 39 = .ok (.ireturn, 1) := by decide +kernel
theorem dX7_days_40 : decode cX7_days 40 = .ok (.iconst 0, 1) := by decide +kernel
theorem dX7_days_41 : decode cX7_days 41 = .ok (.istore_n 2, 1) := by decide +kernel
theorem dX7_days_42 : decode cX7_days 42 = .ok (.iconst 0, 1) := by decide +kernel
theorem dX7_days_43 : decode cX7_days 43 = .ok (.istore_n 3, 1) := by decide +kernel
theorem dX7_days_44 : decode cX7_days 44 = .ok (.iload_n 3, 1) := by decide +kernel
theorem dX7_days_45 : decode cX7_days 45 = .ok (.iload_n 1, 1) := by decide +kernel
theorem dX7_days_46 : decode cX7_days 46 = .ok (.if_icmp .ge 62, 3) := by decide +kernel
theorem dX7_days_49 : decode cX7_days 49 = .ok (.iconst 0, 1) := by decide +kernel
theorem dX7_days_50 : decode cX7_days 50 = .ok (.istore 4, 2) := by decide +kernel
theorem dX7_days_52 : decode cX7_days 52 = .ok (.iload 4, 2) := by decide +kernel
theorem dX7_days_54 : decode cX7_days 54 = .ok (.aload_n 0, 1) := by decide +kernel
theorem dX7_days_55 : decode cX7_days 55 = .ok (.getfield 9, 3) := by decide +kernel
theorem dX7_days_58 : decode cX7_days 58 = .ok (.iconst 1, 1) := by decide +kernel
theorem dX7_days_59 : decode cX7_days 59 = .ok (.iaload, 1) := by decide +kernel
theorem dX7_days_60 : decode cX7_days 60 = .ok (.if_icmp .ge 26, 3) := by decide +kernel
theorem dX7_days_63 : decode cX7_days 63 = .ok (.aload_n 0, 1) := by decide +kernel
theorem dX7_days_64 : decode cX7_days 64 = .ok (.getfield 9, 3) := by decide +kernel
theorem dX7_days_67 : decode cX7_days 67 = .ok (.iload 4, 2) := by decide +kernel
theorem dX7_days_69 : decode cX7_days 69 = .ok (.iconst 2, 1) := by decide +kernel
theorem dX7_days_70 : decode cX7_days 70 = .ok (.invokestatic 119, 3) := by decide +kernel
theorem dX7_days_73 : decode cX7_days 73 = .ok (.aload_n 0, 1) := by decide +kernel
theorem dX7_days_74 : decode cX7_days 74 = .ok (.bipush 10, 2) := by decide +kernel
theorem dX7_days_76 : decode cX7_days 76 = .ok (.invokevirtual 292, 3) := by decide +kernel
theorem dX7_days_79 : decode cX7_days 79 = .ok (.iastore, 1) := by decide +kernel
theorem dX7_days_80 : decode cX7_days 80 = .ok (.iinc 4 1, 3) := by decide +kernel
theorem dX7_days_83 : decode cX7_days 83 = .ok (.goto (-31), 3) := by decide +kernel
theorem dX7_days_86 : decode cX7_days 86 = .ok (.aload_n 0, 1) := by decide +kernel
theorem dX7_days_87 : decode cX7_days 87 = .ok (.bipush 10, 2) := by decide +kernel
theorem dX7_days_89 : decode cX7_days 89 = .ok (.invokevirtual 208, 3) := by decide +kernel
theorem dX7_days_92 : decode cX7_days 92 = .ok (.iload_n 2, 1) := by decide +kernel
theorem dX7_days_93 : decode cX7_days 93 = .ok (.aload_n 0, 1) := by decide +kernel
theorem dX7_days_94 : decode cX7_days 94 = .ok (.invokevirtual 214, 3) := by decide +kernel
theorem dX7_days_97 : decode cX7_days 97 = .ok (.invokestatic 253, 3) := by decide +kernel
theorem dX7_days_100 : decode cX7_days 100 = .ok (.iadd, 1) := by decide +kernel
theorem dX7_days_101 : decode cX7_days 101 = .ok (.istore_n 2, 1) := by decide +kernel
theorem dX7_days_102 : decode cX7_days 102 = .ok (.iinc 3 1, 3) := by decide +kernel
theorem dX7_days_105 : decode cX7_days 105 = .ok (.goto (-61), 3) := by decide +kernel
theorem dX7_days_108 : decode cX7_days 108 = .ok (.iload_n 2, 1) := by decide +kernel
theorem dX7_days_109 : decode cX7_days 109 = .ok (.ireturn, 1) := by decide +kernel
set_option maxHeartbeats 800000 in
set_option maxRecDepth 100000 in
theorem c_X7_days {l : Launch} {ω : xO} {ks : Nat → Option Nat} (hm : xsh ω = mdS ks) {n : Int} {M : xMem} (hI : MInv M) (hf : Fc M) (hn9 : inR n) (hcl : M 1 0 ≤ 1000000) : Cq l ω yX7_days ({ frames := 8, cells := 0, slots := 0, locals := 178 } : Room) 5 1 [.ref (xad ω 0), .int (iI n)] M (pI1 (fun r N' => r = ndyR M n ∧ CaE (ndyM M n) N')) := by
  refine Cq.of (bytes := cX7_days) (ret := (some .int)) (lv0 := [some (.ref (xad ω 0)), some (.int (iI n)), none, none, none]) m_cd_X7_days m_in_X7 (by decide +kernel) (by decide +kernel) rfl rfl rfl rfl ?_
  intro κ h he hR
  have hn := hI.1
  have hk := hI.2.1
  refine x_iload_n h dX7_days_0 rfl ?_
  refine x_iconst h dX7_days_1 ?_
  refine x_bipush h dX7_days_2 (by decide) ?_
  refine x_S3i h dX7_days_4 m_ml_X7_81 m_st_X7_within (by decide) rfl (c_X7_within hm (by omega) (by omega) (by omega)) ?_
  refine x_ifneB h dX7_days_7 (tgt := 17) (by decide) (fun q7 => ?_) (fun q7 => ?_)
  · refine x_aload_n h dX7_days_17 rfl ?_
    refine x_getr (j := 0) (q := 1) h dX7_days_18 (sM0 hm) rfl in_X7 rfl (by decide) m_fl_X7_9 ?_
    refine x_iconst h dX7_days_21 ?_
    refine x_iaload h dX7_days_22 (sM1 hm) (by omega) (fun r22 => ?_)
    refine x_bipush h dX7_days_23 (by decide) ?_
    refine x_iload_n h dX7_days_25 rfl ?_
    refine x_imul h dX7_days_26 ?_
    refine x_iadd h dX7_days_27 ?_
    refine x_ldc h m_k_X7_207 dX7_days_28 ?_
    refine x_icmp_le h dX7_days_30 (tgt := 40) (by decide) (by omega) (by omega) (fun q30 => ?_) (fun q30 => ?_)
    · refine x_iconst h dX7_days_40 ?_
      refine x_istore_n h dX7_days_41 rfl rfl ?_
      dsimp only [xset]
      refine x_iconst h dX7_days_42 ?_
      refine x_istore_n h dX7_days_43 rfl rfl ?_
      dsimp only [xset]
      refine x_mem (M' := ca (ndI M 0) (M 0 6) (M 5)) (ca_self M).symm ?_
      have hf0 : Fc (ca (ndI M 0) (M 0 6) (M 5)) := by rw [ndI, ca_self]; exact hf
      have HH : ∀ (k j : Nat) (f : Int) (d : Int → Int), j + k = n.toNat → Fc (ca (ndI M j) f d) → X ω κ 44 [some (.ref (xad ω 0)), some (.int (iI n)), some (.int (iI (ndS M j))), some (.int (iI (j : Int))), none] [] (ca (ndI M j) f d) := by
        intro k
        induction k with
        | zero =>
          intro j f d e hc
          have ej : j = n.toNat := by omega
          subst ej
          refine x_iload_n h dX7_days_44 rfl ?_
          refine x_iload_n h dX7_days_45 rfl ?_
          refine x_icmp_ge h dX7_days_46 (tgt := 108) (by decide) (by omega) (by omega) (fun q46 => ?_) (fun q46 => ?_)
          · refine x_iload_n h dX7_days_108 rfl ?_
            exact x_iretq h he dX7_days_109 ⟨by unfold ndyR; rw [if_pos (by omega), if_neg (by omega)], by unfold ndyM; rw [if_pos (by omega), if_neg (by omega)]; exact CaE.of hc⟩
          · exfalso; omega
        | succ k ih =>
          intro j f d e hc
          have ihj := ih (j + 1)
          have hi := ndI_I hI j
          rw [show ndS M (j + 1) = ndS M j + pc8 (thN (ndI M (j + 1))) from rfl, show ndI M (j + 1) = siN (ndF (ndI M j) (ndI M j 1 1).toNat) 10 from rfl] at ihj
          generalize ndI M j = N at hc hi ihj ⊢
          obtain ⟨hNI, hn1, hk1⟩ := hi
          rw [hn1] at ihj
          have hFn := ndF_I hNI (M 1 1).toNat (by omega)
          have hsn := siN_I hFn.1 10
          have hth := thN_R (M := siN (ndF N (M 1 1).toNat) 10) (by rw [hsn.2.1.n, hFn.2.1]; omega)
          refine x_iload_n h dX7_days_44 rfl ?_
          refine x_iload_n h dX7_days_45 rfl ?_
          refine x_icmp_ge h dX7_days_46 (tgt := 108) (by decide) (by omega) (by omega) (fun q46 => ?_) (fun q46 => ?_)
          · exfalso; omega
          · refine x_iconst h dX7_days_49 ?_
            refine x_istore h dX7_days_50 rfl rfl ?_
            dsimp only [xset]
            refine x_mem (M' := ca (ndF N 0) f d) rfl ?_
            refine loop_up (fun p => X ω κ 52 [some (.ref (xad ω 0)), some (.int (iI n)), some (.int (iI (ndS M j))), some (.int (iI (j : Int))), some (.int (iI (p : Int)))] [] (ca (ndF N p) f d)) ((M 1 1).toNat) ?_ ?_
            · show X ω κ 52 [some (.ref (xad ω 0)), some (.int (iI n)), some (.int (iI (ndS M j))), some (.int (iI (j : Int))), some (.int (iI (((M 1 1).toNat : Nat) : Int)))] [] (ca (ndF N ((M 1 1).toNat)) f d)
              have g0 : (((M 1 1).toNat : Nat) : Int) = M 1 1 := by omega
              refine x_iload h dX7_days_52 rfl ?_
              refine x_aload_n h dX7_days_54 rfl ?_
              refine x_getr (j := 0) (q := 1) h dX7_days_55 (sM0 hm) rfl in_X7 rfl (by decide) m_fl_X7_9 ?_
              refine x_iconst h dX7_days_58 ?_
              refine x_iaload h dX7_days_59 (sM1 hm) (by omega) (fun r59 => ?_)
              try simp only [up_ca1, up_ca07, up_ca08, up_ca09, up_ca010, up_10, up_01, up_0709, up_0710, ca_ca, ndN_ca, ca_13, ca_14, ca_1, dN_ca, wyM_ca, plN_ca, rpN_ca, ltN_ca, pmN_ca, wnN_ca, nbN_ca, ca_07, ca_08, ca_09, ca_010, beN_ca, ctN_ca, gonN_ca, mvN_ca]
              rw [hFn.2.1, hn1]
              refine x_icmp_ge h dX7_days_60 (tgt := 86) (by decide) (by omega) (by omega) (fun q60 => ?_) (fun q60 => ?_)
              · refine x_aload_n h dX7_days_86 rfl ?_
                refine x_bipush h dX7_days_87 (by decide) ?_
                refine x_Q1v h dX7_days_89 m_ml_X7_208 m_im_X7_steps m_se_X7_steps (sM0 hm) rfl (by decide) rfl (c_X7_steps hm (MInv.ca hFn.1) (Fc_e hFn.2.2.2 hc) (by omega) (by simp only [ca_1]; omega)) (fun N89 h89 => ?_)
                obtain ⟨f89, d89, rfl, c89⟩ := h89
                try simp only [ca_ca, ca_1, dN_ca, wyM_ca, plN_ca, rpN_ca, ltN_ca, pmN_ca, wnN_ca, nbN_ca, ca_07, ca_08, ca_09, ca_010, beN_ca, ctN_ca, gonN_ca, mvN_ca, stN_ca, thN_ca, fnM_ca, tiN_ca, smN_ca, frN_ca, teN_ca, apN_ca, ca_13, ca_14, ca_7, lwN_ca, ndN_ca] at c89 ⊢
                refine x_iload_n h dX7_days_92 rfl ?_
                rw [show (10 : Int).toNat = 10 from rfl] at c89 ⊢
                simp only [siN_ca, ca_ca] at c89 ⊢
                refine x_aload_n h dX7_days_93 rfl ?_
                refine x_V0i h dX7_days_94 m_ml_X7_214 m_im_X7_whoThere m_se_X7_whoThere (sM0 hm) rfl (by decide) rfl (c_X7_whoThere hm (MInv.ca hsn.1)) ?_
                try simp only [ca_ca, ca_1, dN_ca, wyM_ca, plN_ca, rpN_ca, ltN_ca, pmN_ca, wnN_ca, nbN_ca, ca_07, ca_08, ca_09, ca_010, beN_ca, ctN_ca, gonN_ca, mvN_ca, stN_ca, thN_ca, fnM_ca, tiN_ca, smN_ca, frN_ca, teN_ca, apN_ca, ca_13, ca_14, ca_7, lwN_ca, ndN_ca]
                refine x_S1i h dX7_days_97 m_ml_X7_253 m_st_X7_bits (by decide) rfl (c_X7_bits hm hth) ?_
                try simp only [ca_ca, ca_1, dN_ca, wyM_ca, plN_ca, rpN_ca, ltN_ca, pmN_ca, wnN_ca, nbN_ca, ca_07, ca_08, ca_09, ca_010, beN_ca, ctN_ca, gonN_ca, mvN_ca, stN_ca, thN_ca, fnM_ca, tiN_ca, smN_ca, frN_ca, teN_ca, apN_ca, ca_13, ca_14, ca_7, lwN_ca, ndN_ca]
                refine x_iadd h dX7_days_100 ?_
                refine x_istore_n h dX7_days_101 rfl rfl ?_
                dsimp only [xset]
                refine x_iinc h dX7_days_102 rfl rfl rfl ?_
                dsimp only [xset]
                refine x_goto h dX7_days_105 (tgt := 44) (by decide) ?_
                refine x_drop 4 ?_
                dsimp only [xclr]
                exact ihj _ _ (by omega) (by assumption)
              · exfalso; omega
            · intro p hp ihp
              replace ihp : X ω κ 52 [some (.ref (xad ω 0)), some (.int (iI n)), some (.int (iI (ndS M j))), some (.int (iI (j : Int))), some (.int (iI ((p + 1 : Nat) : Int)))] [] (ca (ndF N (p + 1)) f d) := ihp
              show X ω κ 52 [some (.ref (xad ω 0)), some (.int (iI n)), some (.int (iI (ndS M j))), some (.int (iI (j : Int))), some (.int (iI (p : Int)))] [] (ca (ndF N p) f d)
              have g0 : (p : Int) < M 1 1 := by omega
              have hFp := ndF_I hNI p (by omega)
              have hne : 0 ≤ brem (bushr (ndN (ndF N p)) 8) 10 ∧ brem (bushr (ndN (ndF N p)) 8) 10 < 10 := neN_R (ndF N p)
              refine x_iload h dX7_days_52 rfl ?_
              refine x_aload_n h dX7_days_54 rfl ?_
              refine x_getr (j := 0) (q := 1) h dX7_days_55 (sM0 hm) rfl in_X7 rfl (by decide) m_fl_X7_9 ?_
              refine x_iconst h dX7_days_58 ?_
              refine x_iaload h dX7_days_59 (sM1 hm) (by omega) (fun r59 => ?_)
              try simp only [up_ca1, up_ca07, up_ca08, up_ca09, up_ca010, up_10, up_01, up_0709, up_0710, ca_ca, ndN_ca, ca_13, ca_14, ca_1, dN_ca, wyM_ca, plN_ca, rpN_ca, ltN_ca, pmN_ca, wnN_ca, nbN_ca, ca_07, ca_08, ca_09, ca_010, beN_ca, ctN_ca, gonN_ca, mvN_ca]
              rw [hFp.2.1, hn1]
              refine x_icmp_ge h dX7_days_60 (tgt := 86) (by decide) (by omega) (by omega) (fun q60 => ?_) (fun q60 => ?_)
              · exfalso; omega
              · refine x_aload_n h dX7_days_63 rfl ?_
                refine x_getr (j := 0) (q := 1) h dX7_days_64 (sM0 hm) rfl in_X7 rfl (by decide) m_fl_X7_9 ?_
                refine x_iload h dX7_days_67 rfl ?_
                refine x_iconst h dX7_days_69 ?_
                refine x_S2i h dX7_days_70 m_ml_X7_119 m_st_X7_at (by decide) rfl (c_X7_at hm) ?_
                refine x_aload_n h dX7_days_73 rfl ?_
                refine x_bipush h dX7_days_74 (by decide) ?_
                refine x_V1i h dX7_days_76 m_ml_X7_292 m_im_X7_drawn m_se_X7_drawn (sM0 hm) rfl (by decide) rfl (c_X7_drawn hm (by first | omega | (simp only [ca_1]; omega))) ?_
                try simp only [up_ca1, up_ca07, up_ca08, up_ca09, up_ca010, up_10, up_01, up_0709, up_0710, ca_ca, ndN_ca, ca_13, ca_14, ca_1, dN_ca, wyM_ca, plN_ca, rpN_ca, ltN_ca, pmN_ca, wnN_ca, nbN_ca, ca_07, ca_08, ca_09, ca_010, beN_ca, ctN_ca, gonN_ca, mvN_ca]
                refine x_iastore h dX7_days_79 (sM1 hm) (by omega) (by omega) ?_
                refine x_iinc h dX7_days_80 rfl rfl rfl ?_
                dsimp only [xset]
                refine x_goto h dX7_days_83 (tgt := 52) (by decide) ?_
                refine x_mem (M' := ca (ndF N (p + 1)) f d) (by rw [up_ca1, ndF_s]; rfl) ?_
                exact ihp
      exact HH n.toNat 0 _ _ (by omega) hf0
    · refine x_aload_n h dX7_days_33 rfl ?_
      refine x_ldc h m_k_X7_163 dX7_days_34 ?_
      refine x_V1i h dX7_days_36 m_ml_X7_101 m_im_X7_finding m_se_X7_finding (sM0 hm) rfl (by decide) rfl (c_X7_finding hm (by omega)) ?_
      exact x_iretq h he dX7_days_39 ⟨by unfold ndyR; first | rw [if_neg (by omega)] | rw [if_pos (by omega), if_pos (by omega)], by unfold ndyM; first | (rw [if_neg (by omega)]; exact CaE.rf1 fnM_y rfl rfl hf) | (rw [if_pos (by omega), if_pos (by omega)]; exact CaE.rf1 fnM_y rfl rfl hf)⟩
  · refine x_aload_n h dX7_days_10 rfl ?_
    refine x_ldc h m_k_X7_76 dX7_days_11 ?_
    refine x_V1i h dX7_days_13 m_ml_X7_101 m_im_X7_finding m_se_X7_finding (sM0 hm) rfl (by decide) rfl (c_X7_finding hm (by omega)) ?_
    exact x_iretq h he dX7_days_16 ⟨by unfold ndyR; first | rw [if_neg (by omega)] | rw [if_pos (by omega), if_pos (by omega)], by unfold ndyM; first | (rw [if_neg (by omega)]; exact CaE.rf1 fnM_y rfl rfl hf) | (rw [if_pos (by omega), if_pos (by omega)]; exact CaE.rf1 fnM_y rfl rfl hf)⟩

