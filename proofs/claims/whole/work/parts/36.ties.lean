/-! the reference: change, ties, now, next, may, go -/
theorem up_y {N : xMem} {i v : Int} (h : i < 13 ∨ 113 ≤ i) : wyM (up N 1 i v) = wyM N := wyM_up h
section CHG
variable {M : xMem} {p x v : Int}
theorem nch_0 (h : ¬ ((0 ≤ p ∧ p < M 1 1) ∧ chGd x v)) : nchR M p x v = -1000001 ∧ nchM M p x v = fnM M (-1000001) := by unfold nchR nchM; rw [if_neg h, if_neg h]; exact ⟨rfl, rfl⟩
theorem nch_1 (h : (0 ≤ p ∧ p < M 1 1) ∧ chGd x v) (h1 : x = 1) (h2 : ¬ ltN M p v (pmN M p)) : nchR M p x v = -1000005 ∧ nchM M p x v = fnM M (-1000005) := by unfold nchR nchM; rw [if_pos h, if_pos h, tI_p ⟨h1, h2⟩, tI_p ⟨h1, h2⟩]; exact ⟨rfl, rfl⟩
theorem nch_2 (h : (0 ≤ p ∧ p < M 1 1) ∧ chGd x v) (h2 : x = 1 → ltN M p v (pmN M p)) : nchR M p x v = M 1 (113 + 8 * p + x) ∧ nchM M p x v = up M 1 (113 + 8 * p + x) v := by
  unfold nchR nchM
  rw [if_pos h, if_pos h, tI_n (fun z => z.2 (h2 z.1)), tI_n (fun z => z.2 (h2 z.1))]; exact ⟨rfl, rfl⟩
end CHG
theorem dX7_change_0 : decode cX7_change 0 = .ok (.iload_n 2, 1) := by decide +kernel
theorem dX7_change_1 : decode cX7_change 1 = .ok (.ifCond .ne 10, 3) := by decide +kernel
theorem dX7_change_4 : decode cX7_change 4 = .ok (.iload_n 3, 1) := by decide +kernel
theorem dX7_change_5 : decode cX7_change 5 = .ok (.invokestatic 122, 3) := by decide +kernel
theorem dX7_change_8 : decode cX7_change 8 = .ok (.ifCond .ne 35, 3) := by decide +kernel
theorem dX7_change_11 : decode cX7_change 11 = .ok (.iload_n 2, 1) := by decide +kernel
theorem dX7_change_12 : decode cX7_change 12 = .ok (.iconst 1, 1) := by decide +kernel
theorem dX7_change_13 : decode cX7_change 13 = .ok (.if_icmp .eq 8, 3) := by decide +kernel
theorem dX7_change_16 : decode cX7_change 16 = .ok (.iload_n 2, 1) := by decide +kernel
theorem dX7_change_17 : decode cX7_change 17 = .ok (.iconst 2, 1) := by decide +kernel
theorem dX7_change_18 : decode cX7_change 18 = .ok (.if_icmp .ne 10, 3) := by decide +kernel
theorem dX7_change_21 : decode cX7_change 21 = .ok (.iload_n 3, 1) := by decide +kernel
theorem dX7_change_22 : decode cX7_change 22 = .ok (.invokestatic 93, 3) := by decide +kernel
theorem dX7_change_25 : decode cX7_change 25 = .ok (.ifCond .ne 18, 3) := by decide +kernel
theorem dX7_change_28 : decode cX7_change 28 = .ok (.iload_n 2, 1) := by decide +kernel
theorem dX7_change_29 : decode cX7_change 29 = .ok (.iconst 4, 1) := by decide +kernel
theorem dX7_change_30 : decode cX7_change 30 = .ok (.if_icmp .ne 17, 3) := by decide +kernel
theorem dX7_change_33 : decode cX7_change 33 = .ok (.iload_n 3, 1) := by decide +kernel
theorem dX7_change_34 : decode cX7_change 34 = .ok (.iconst 0, 1) := by decide +kernel
theorem dX7_change_35 : decode cX7_change 35 = .ok (.bipush 9, 2) := by decide +kernel
theorem dX7_change_37 : decode cX7_change 37 = .ok (.invokestatic 81, 3) := by decide +kernel
theorem dX7_change_40 : decode cX7_change 40 = .ok (.ifCond .eq 7, 3) := by decide +kernel
theorem dX7_change_43 : decode cX7_change 43 = .ok (.iconst 1, 1) := by decide +kernel
theorem dX7_change_44 : decode cX7_change 44 = .ok (.goto 4, 3) := by decide +kernel
theorem dX7_change_47 : decode cX7_change 47 = .ok (.iconst 0, 1) := by decide +kernel
theorem dX7_change_48 : decode cX7_change 48 = .ok (.istore 4, 2) := by decide +kernel
theorem dX7_change_50 : decode cX7_change 50 = .ok (.aload_n 0, 1) := by decide +kernel
theorem dX7_change_51 : decode cX7_change 51 = .ok (.iload_n 1, 1) := by decide +kernel
theorem dX7_change_52 : decode cX7_change 52 = .ok (.invokevirtual 148, 3) := by decide +kernel
theorem dX7_change_55 : decode cX7_change 55 = .ok (.ifCond .eq 8, 3) := by decide +kernel
theorem dX7_change_58 : decode cX7_change 58 = .ok (.iload 4, 2) := by decide +kernel
theorem dX7_change_60 : decode cX7_change 60 = .ok (.ifCond .ne 10, 3) := by decide +kernel
theorem dX7_change_63 : decode cX7_change 63 = .ok (.aload_n 0, 1) := by decide +kernel
theorem dX7_change_64 : decode cX7_change 64 = .ok (.ldc 76, 2) := by decide +kernel
theorem dX7_change_66 : decode cX7_change 66 = .ok (.invokevirtual 101, 3) := by decide +kernel
theorem dX7_change_69 : decode cX7_change 69 = .ok (.ireturn, 1) := by decide +kernel
theorem dX7_change_70 : decode cX7_change 70 = .ok (.iload_n 2, 1) := by decide +kernel
theorem dX7_change_71 : decode cX7_change 71 = .ok (.iconst 1, 1) := by decide +kernel
theorem dX7_change_72 : decode cX7_change 72 = .ok (.if_icmp .ne 26, 3) := by decide +kernel
theorem dX7_change_75 : decode cX7_change 75 = .ok (.aload_n 0, 1) := by decide +kernel
theorem dX7_change_76 : decode cX7_change 76 = .ok (.iload_n 1, 1) := by decide +kernel
theorem dX7_change_77 : decode cX7_change 77 = .ok (.iload_n 3, 1) := by decide +kernel
theorem dX7_change_78 : decode cX7_change 78 = .ok (.aload_n 0, 1) := by decide +kernel
theorem dX7_change_79 : decode cX7_change 79 = .ok (.iload_n 1, 1) := by decide +kernel
theorem dX7_change_80 : decode cX7_change 80 = .ok (.invokevirtual 157, 3) := by decide +kernel
theorem dX7_change_83 : decode cX7_change 83 = .ok (.invokevirtual 160, 3) := by decide +kernel
theorem dX7_change_86 : decode cX7_change 86 = .ok (.ifCond .ne 12, 3) := by decide +kernel
theorem dX7_change_89 : decode cX7_change 89 = .ok (.aload_n 0, 1) := by decide +kernel
theorem dX7_change_90 : decode cX7_change 90 = .ok (.ldc 163, 2) := by decide +kernel
theorem dX7_change_92 : decode cX7_change 92 = .ok (.invokevirtual 101, 3) := by decide +kernel
theorem dX7_change_95 : decode cX7_change 95 = .ok (.goto 13, 3) := by decide +kernel
theorem dX7_change_98 : decode cX7_change 98 = .ok (.aload_n 0, 1) := by decide +kernel
theorem dX7_change_99 : decode cX7_change 99 = .ok (.iload_n 1, 1) := by decide +kernel
theorem dX7_change_100 : decode cX7_change 100 = .ok (.iload_n 2, 1) := by decide +kernel
theorem dX7_change_101 : decode cX7_change 101 = .ok (.invokestatic 119, 3) := by decide +kernel
theorem dX7_change_104 : decode cX7_change 104 = .ok (.iload_n 3, 1) := by decide +kernel
theorem dX7_change_105 : decode cX7_change 105 = .ok (.invokevirtual 89, 3) := by decide +kernel
theorem dX7_change_108 : decode cX7_change 108 = .ok (.ireturn, 1) := by decide +kernel
set_option maxHeartbeats 800000 in
set_option maxRecDepth 100000 in
theorem c_X7_change {l : Launch} {ω : xO} {ks : Nat → Option Nat} (hm : xsh ω = mdS ks) {p x v : Int} {M : xMem} (hI : MInv M) (hf : Fc M) (hp : inR p) (hx : inR x) (hv : inR v) : Cq l ω yX7_change ({ frames := 5, cells := 0, slots := 0, locals := 108 } : Room) 5 3 [.ref (xad ω 0), .int (iI p), .int (iI x), .int (iI v)] M (pI1 (fun r N' => r = nchR M p x v ∧ CaE (nchM M p x v) N')) := by
  refine Cq.of (bytes := cX7_change) (ret := (some .int)) (lv0 := [some (.ref (xad ω 0)), some (.int (iI p)), some (.int (iI x)), some (.int (iI v)), none]) m_cd_X7_change m_in_X7 (by decide +kernel) (by decide +kernel) rfl rfl rfl rfl ?_
  intro κ h he hR
  have hn := hI.1
  have hL := hI.2.2.1
  refine x_iload_n h dX7_change_0 rfl ?_
  refine x_if_ne h dX7_change_1 (tgt := 11) (by decide) (by omega) (fun q1 => ?_) (fun q1 => ?_)
  · refine x_iload_n h dX7_change_11 rfl ?_
    refine x_iconst h dX7_change_12 ?_
    refine x_icmp_eq h dX7_change_13 (tgt := 21) (by decide) (by omega) (by omega) (fun q13 => ?_) (fun q13 => ?_)
    · refine x_iload_n h dX7_change_21 rfl ?_
      refine x_S1i h dX7_change_22 m_ml_X7_93 m_st_X7_isPlace (by decide) rfl (c_X7_isPlace hm (by omega)) ?_
      refine x_ifneB h dX7_change_25 (tgt := 43) (by decide) (fun q25 => ?_) (fun q25 => ?_)
      · refine x_iconst h dX7_change_43 ?_
        refine x_goto h dX7_change_44 (tgt := 48) (by decide) ?_
        refine x_istore h dX7_change_48 rfl rfl ?_
        dsimp only [xset]
        refine x_aload_n h dX7_change_50 rfl ?_
        refine x_iload_n h dX7_change_51 rfl ?_
        refine x_V1i h dX7_change_52 m_ml_X7_148 m_im_X7_isPerson m_se_X7_isPerson (sM0 hm) rfl (by decide) rfl (c_X7_isPerson hm (by omega) (by omega)) ?_
        refine x_ifeqB h dX7_change_55 (tgt := 63) (by decide) (fun q55 => ?_) (fun q55 => ?_)
        · refine x_aload_n h dX7_change_63 rfl ?_
          refine x_ldc h m_k_X7_76 dX7_change_64 ?_
          have hnc : ¬ ((0 ≤ p ∧ p < M 1 1) ∧ chGd x v) := by unfold chGd; omega
          rw [(nch_0 hnc).1, (nch_0 hnc).2] at he
          refine x_V1i h dX7_change_66 m_ml_X7_101 m_im_X7_finding m_se_X7_finding (sM0 hm) rfl (by decide) rfl (c_X7_finding hm (by omega)) ?_
          exact x_iretq h he dX7_change_69 ⟨rfl, CaE.rf1 fnM_y rfl rfl hf⟩
        · refine x_iload h dX7_change_58 rfl ?_
          refine x_if_ne h dX7_change_60 (tgt := 70) (by decide) (by omega) (fun q60 => ?_) (fun q60 => ?_)
          · have hgd : (0 ≤ p ∧ p < M 1 1) ∧ chGd x v := by unfold chGd; omega
            have hn1 := hI.2.2.2 p (by omega) (by omega)
            have hpm := pmN_R hI (p := p) (by omega)
            refine x_iload_n h dX7_change_70 rfl ?_
            refine x_iconst h dX7_change_71 ?_
            refine x_icmp_ne h dX7_change_72 (tgt := 98) (by decide) (by omega) (by omega) (fun q72 => ?_) (fun q72 => ?_)
            · have hl2 : x = 1 → ltN M p v (pmN M p) := fun z => by first | assumption | omega
              rw [(nch_2 hgd hl2).1, (nch_2 hgd hl2).2] at he
              refine x_aload_n h dX7_change_98 rfl ?_
              refine x_iload_n h dX7_change_99 rfl ?_
              refine x_iload_n h dX7_change_100 rfl ?_
              refine x_S2i h dX7_change_101 m_ml_X7_119 m_st_X7_at (by decide) rfl (c_X7_at hm) ?_
              refine x_iload_n h dX7_change_104 rfl ?_
              refine x_V2i h dX7_change_105 m_ml_X7_89 m_im_X7_become m_se_X7_become (sM0 hm) rfl (by decide) rfl (c_X7_become hm (by omega) (by omega)) ?_
              try simp only [up_ca1, up_ca07, up_ca08, up_ca09, up_ca010, up_10, up_01, up_0709, up_0710, ca_ca, ca_1, dN_ca, wyM_ca, plN_ca, rpN_ca, ltN_ca, pmN_ca, wnN_ca, nbN_ca, ca_07, ca_08, ca_09, ca_010, beN_ca, ctN_ca, gonN_ca, mvN_ca]
              exact x_iretq h he dX7_change_108 ⟨by first | rfl | (rw [ca_1]), by first | exact CaE.rf1 (wyM_up (by omega)) rfl rfl hf | exact CaE.of1 (wyM_up (by omega)) (by assumption) | exact CaE.of1 fnM_y (by assumption)⟩
            · refine x_aload_n h dX7_change_75 rfl ?_
              refine x_iload_n h dX7_change_76 rfl ?_
              refine x_iload_n h dX7_change_77 rfl ?_
              refine x_aload_n h dX7_change_78 rfl ?_
              refine x_iload_n h dX7_change_79 rfl ?_
              refine x_V1i h dX7_change_80 m_ml_X7_157 m_im_X7_placeOfMate m_se_X7_placeOfMate (sM0 hm) rfl (by decide) rfl (c_X7_placeOfMate hm (by exact hI) (by first | omega | (simp only [ca_1]; omega))) ?_
              refine x_Q3i h dX7_change_83 m_ml_X7_160 m_im_X7_lets m_se_X7_lets (sM0 hm) rfl (by decide) rfl (c_X7_lets hm (by exact hI) (by assumption) (by first | omega | (simp only [ca_1]; omega)) (by first | omega | (simp only [ca_1]; omega)) (by first | omega | (simp only [ca_1]; omega))) (fun r83 N83 h83 => ?_)
              obtain ⟨rfl, f83, d83, rfl, c83⟩ := h83
              try simp only [ca_ca, ca_1, dN_ca, wyM_ca, plN_ca, rpN_ca, ltN_ca, pmN_ca, wnN_ca, nbN_ca, ca_07, ca_08, ca_09, ca_010, beN_ca, ctN_ca, gonN_ca, mvN_ca, stN_ca, thN_ca, fnM_ca, tiN_ca, smN_ca] at c83 ⊢
              refine x_ifneB h dX7_change_86 (tgt := 98) (by decide) (fun q86 => ?_) (fun q86 => ?_)
              · have hl2 : x = 1 → ltN M p v (pmN M p) := fun z => by first | assumption | omega
                rw [(nch_2 hgd hl2).1, (nch_2 hgd hl2).2] at he
                refine x_aload_n h dX7_change_98 rfl ?_
                refine x_iload_n h dX7_change_99 rfl ?_
                refine x_iload_n h dX7_change_100 rfl ?_
                refine x_S2i h dX7_change_101 m_ml_X7_119 m_st_X7_at (by decide) rfl (c_X7_at hm) ?_
                try simp only [ca_ca, ca_1, dN_ca, wyM_ca, plN_ca, rpN_ca, ltN_ca, pmN_ca, wnN_ca, nbN_ca, ca_07, ca_08, ca_09, ca_010, beN_ca, ctN_ca, gonN_ca, mvN_ca, stN_ca, thN_ca, fnM_ca, tiN_ca, smN_ca]
                refine x_iload_n h dX7_change_104 rfl ?_
                refine x_V2i h dX7_change_105 m_ml_X7_89 m_im_X7_become m_se_X7_become (sM0 hm) rfl (by decide) rfl (c_X7_become hm (by omega) (by omega)) ?_
                try simp only [ca_ca, ca_1, dN_ca, wyM_ca, plN_ca, rpN_ca, ltN_ca, pmN_ca, wnN_ca, nbN_ca, ca_07, ca_08, ca_09, ca_010, beN_ca, ctN_ca, gonN_ca, mvN_ca, stN_ca, thN_ca, fnM_ca, tiN_ca, smN_ca]
                try simp only [up_ca1, up_ca07, up_ca08, up_ca09, up_ca010, up_10, up_01, up_0709, up_0710, ca_ca, ca_1, dN_ca, wyM_ca, plN_ca, rpN_ca, ltN_ca, pmN_ca, wnN_ca, nbN_ca, ca_07, ca_08, ca_09, ca_010, beN_ca, ctN_ca, gonN_ca, mvN_ca]
                exact x_iretq h he dX7_change_108 ⟨by first | rfl | (rw [ca_1]), by first | exact CaE.rf1 (wyM_up (by omega)) rfl rfl hf | exact CaE.of1 (wyM_up (by omega)) (by assumption) | exact CaE.of1 fnM_y (by assumption)⟩
              · rw [(nch_1 hgd (by omega) q86).1, (nch_1 hgd (by omega) q86).2] at he
                refine x_aload_n h dX7_change_89 rfl ?_
                refine x_ldc h m_k_X7_163 dX7_change_90 ?_
                refine x_V1i h dX7_change_92 m_ml_X7_101 m_im_X7_finding m_se_X7_finding (sM0 hm) rfl (by decide) rfl (c_X7_finding hm (by omega)) ?_
                try simp only [ca_ca, ca_1, dN_ca, wyM_ca, plN_ca, rpN_ca, ltN_ca, pmN_ca, wnN_ca, nbN_ca, ca_07, ca_08, ca_09, ca_010, beN_ca, ctN_ca, gonN_ca, mvN_ca, stN_ca, thN_ca, fnM_ca, tiN_ca, smN_ca]
                refine x_goto h dX7_change_95 (tgt := 108) (by decide) ?_
                try simp only [up_ca1, up_ca07, up_ca08, up_ca09, up_ca010, up_10, up_01, up_0709, up_0710, ca_ca, ca_1, dN_ca, wyM_ca, plN_ca, rpN_ca, ltN_ca, pmN_ca, wnN_ca, nbN_ca, ca_07, ca_08, ca_09, ca_010, beN_ca, ctN_ca, gonN_ca, mvN_ca]
                exact x_iretq h he dX7_change_108 ⟨by first | rfl | (rw [ca_1]), by first | exact CaE.rf1 (wyM_up (by omega)) rfl rfl hf | exact CaE.of1 (wyM_up (by omega)) (by assumption) | exact CaE.of1 fnM_y (by assumption)⟩
          · refine x_aload_n h dX7_change_63 rfl ?_
            refine x_ldc h m_k_X7_76 dX7_change_64 ?_
            have hnc : ¬ ((0 ≤ p ∧ p < M 1 1) ∧ chGd x v) := by unfold chGd; omega
            rw [(nch_0 hnc).1, (nch_0 hnc).2] at he
            refine x_V1i h dX7_change_66 m_ml_X7_101 m_im_X7_finding m_se_X7_finding (sM0 hm) rfl (by decide) rfl (c_X7_finding hm (by omega)) ?_
            try simp only [ca_ca, ca_1, dN_ca, wyM_ca, plN_ca, rpN_ca, ltN_ca, pmN_ca, wnN_ca, nbN_ca, ca_07, ca_08, ca_09, ca_010, beN_ca, ctN_ca, gonN_ca, mvN_ca, stN_ca, thN_ca, fnM_ca, tiN_ca, smN_ca]
            exact x_iretq h he dX7_change_69 ⟨rfl, CaE.rf1 fnM_y rfl rfl hf⟩
      · refine x_iload_n h dX7_change_28 rfl ?_
        refine x_iconst h dX7_change_29 ?_
        refine x_icmp_ne h dX7_change_30 (tgt := 47) (by decide) (by omega) (by omega) (fun q30 => ?_) (fun q30 => ?_)
        · refine x_iconst h dX7_change_47 ?_
          refine x_istore h dX7_change_48 rfl rfl ?_
          dsimp only [xset]
          refine x_aload_n h dX7_change_50 rfl ?_
          refine x_iload_n h dX7_change_51 rfl ?_
          refine x_V1i h dX7_change_52 m_ml_X7_148 m_im_X7_isPerson m_se_X7_isPerson (sM0 hm) rfl (by decide) rfl (c_X7_isPerson hm (by omega) (by omega)) ?_
          try simp only [ca_ca, ca_1, dN_ca, wyM_ca, plN_ca, rpN_ca, ltN_ca, pmN_ca, wnN_ca, nbN_ca, ca_07, ca_08, ca_09, ca_010, beN_ca, ctN_ca, gonN_ca, mvN_ca, stN_ca, thN_ca, fnM_ca, tiN_ca, smN_ca]
          refine x_ifeqB h dX7_change_55 (tgt := 63) (by decide) (fun q55 => ?_) (fun q55 => ?_)
          · refine x_aload_n h dX7_change_63 rfl ?_
            refine x_ldc h m_k_X7_76 dX7_change_64 ?_
            have hnc : ¬ ((0 ≤ p ∧ p < M 1 1) ∧ chGd x v) := by unfold chGd; omega
            rw [(nch_0 hnc).1, (nch_0 hnc).2] at he
            refine x_V1i h dX7_change_66 m_ml_X7_101 m_im_X7_finding m_se_X7_finding (sM0 hm) rfl (by decide) rfl (c_X7_finding hm (by omega)) ?_
            try simp only [ca_ca, ca_1, dN_ca, wyM_ca, plN_ca, rpN_ca, ltN_ca, pmN_ca, wnN_ca, nbN_ca, ca_07, ca_08, ca_09, ca_010, beN_ca, ctN_ca, gonN_ca, mvN_ca, stN_ca, thN_ca, fnM_ca, tiN_ca, smN_ca]
            exact x_iretq h he dX7_change_69 ⟨rfl, CaE.rf1 fnM_y rfl rfl hf⟩
          · refine x_iload h dX7_change_58 rfl ?_
            refine x_if_ne h dX7_change_60 (tgt := 70) (by decide) (by omega) (fun q60 => ?_) (fun q60 => ?_)
            · have hgd : (0 ≤ p ∧ p < M 1 1) ∧ chGd x v := by unfold chGd; omega
              have hn1 := hI.2.2.2 p (by omega) (by omega)
              have hpm := pmN_R hI (p := p) (by omega)
              refine x_iload_n h dX7_change_70 rfl ?_
              refine x_iconst h dX7_change_71 ?_
              refine x_icmp_ne h dX7_change_72 (tgt := 98) (by decide) (by omega) (by omega) (fun q72 => ?_) (fun q72 => ?_)
              · have hl2 : x = 1 → ltN M p v (pmN M p) := fun z => by first | assumption | omega
                rw [(nch_2 hgd hl2).1, (nch_2 hgd hl2).2] at he
                refine x_aload_n h dX7_change_98 rfl ?_
                refine x_iload_n h dX7_change_99 rfl ?_
                refine x_iload_n h dX7_change_100 rfl ?_
                refine x_S2i h dX7_change_101 m_ml_X7_119 m_st_X7_at (by decide) rfl (c_X7_at hm) ?_
                try simp only [ca_ca, ca_1, dN_ca, wyM_ca, plN_ca, rpN_ca, ltN_ca, pmN_ca, wnN_ca, nbN_ca, ca_07, ca_08, ca_09, ca_010, beN_ca, ctN_ca, gonN_ca, mvN_ca, stN_ca, thN_ca, fnM_ca, tiN_ca, smN_ca]
                refine x_iload_n h dX7_change_104 rfl ?_
                refine x_V2i h dX7_change_105 m_ml_X7_89 m_im_X7_become m_se_X7_become (sM0 hm) rfl (by decide) rfl (c_X7_become hm (by omega) (by omega)) ?_
                try simp only [ca_ca, ca_1, dN_ca, wyM_ca, plN_ca, rpN_ca, ltN_ca, pmN_ca, wnN_ca, nbN_ca, ca_07, ca_08, ca_09, ca_010, beN_ca, ctN_ca, gonN_ca, mvN_ca, stN_ca, thN_ca, fnM_ca, tiN_ca, smN_ca]
                try simp only [up_ca1, up_ca07, up_ca08, up_ca09, up_ca010, up_10, up_01, up_0709, up_0710, ca_ca, ca_1, dN_ca, wyM_ca, plN_ca, rpN_ca, ltN_ca, pmN_ca, wnN_ca, nbN_ca, ca_07, ca_08, ca_09, ca_010, beN_ca, ctN_ca, gonN_ca, mvN_ca]
                exact x_iretq h he dX7_change_108 ⟨by first | rfl | (rw [ca_1]), by first | exact CaE.rf1 (wyM_up (by omega)) rfl rfl hf | exact CaE.of1 (wyM_up (by omega)) (by assumption) | exact CaE.of1 fnM_y (by assumption)⟩
              · refine x_aload_n h dX7_change_75 rfl ?_
                refine x_iload_n h dX7_change_76 rfl ?_
                refine x_iload_n h dX7_change_77 rfl ?_
                refine x_aload_n h dX7_change_78 rfl ?_
                refine x_iload_n h dX7_change_79 rfl ?_
                refine x_V1i h dX7_change_80 m_ml_X7_157 m_im_X7_placeOfMate m_se_X7_placeOfMate (sM0 hm) rfl (by decide) rfl (c_X7_placeOfMate hm (by exact hI) (by first | omega | (simp only [ca_1]; omega))) ?_
                try simp only [ca_ca, ca_1, dN_ca, wyM_ca, plN_ca, rpN_ca, ltN_ca, pmN_ca, wnN_ca, nbN_ca, ca_07, ca_08, ca_09, ca_010, beN_ca, ctN_ca, gonN_ca, mvN_ca, stN_ca, thN_ca, fnM_ca, tiN_ca, smN_ca]
                refine x_Q3i h dX7_change_83 m_ml_X7_160 m_im_X7_lets m_se_X7_lets (sM0 hm) rfl (by decide) rfl (c_X7_lets hm (by exact hI) (by assumption) (by first | omega | (simp only [ca_1]; omega)) (by first | omega | (simp only [ca_1]; omega)) (by first | omega | (simp only [ca_1]; omega))) (fun r83 N83 h83 => ?_)
                obtain ⟨rfl, f83, d83, rfl, c83⟩ := h83
                try simp only [ca_ca, ca_1, dN_ca, wyM_ca, plN_ca, rpN_ca, ltN_ca, pmN_ca, wnN_ca, nbN_ca, ca_07, ca_08, ca_09, ca_010, beN_ca, ctN_ca, gonN_ca, mvN_ca, stN_ca, thN_ca, fnM_ca, tiN_ca, smN_ca] at c83 ⊢
                refine x_ifneB h dX7_change_86 (tgt := 98) (by decide) (fun q86 => ?_) (fun q86 => ?_)
                · have hl2 : x = 1 → ltN M p v (pmN M p) := fun z => by first | assumption | omega
                  rw [(nch_2 hgd hl2).1, (nch_2 hgd hl2).2] at he
                  refine x_aload_n h dX7_change_98 rfl ?_
                  refine x_iload_n h dX7_change_99 rfl ?_
                  refine x_iload_n h dX7_change_100 rfl ?_
                  refine x_S2i h dX7_change_101 m_ml_X7_119 m_st_X7_at (by decide) rfl (c_X7_at hm) ?_
                  try simp only [ca_ca, ca_1, dN_ca, wyM_ca, plN_ca, rpN_ca, ltN_ca, pmN_ca, wnN_ca, nbN_ca, ca_07, ca_08, ca_09, ca_010, beN_ca, ctN_ca, gonN_ca, mvN_ca, stN_ca, thN_ca, fnM_ca, tiN_ca, smN_ca]
                  refine x_iload_n h dX7_change_104 rfl ?_
                  refine x_V2i h dX7_change_105 m_ml_X7_89 m_im_X7_become m_se_X7_become (sM0 hm) rfl (by decide) rfl (c_X7_become hm (by omega) (by omega)) ?_
                  try simp only [ca_ca, ca_1, dN_ca, wyM_ca, plN_ca, rpN_ca, ltN_ca, pmN_ca, wnN_ca, nbN_ca, ca_07, ca_08, ca_09, ca_010, beN_ca, ctN_ca, gonN_ca, mvN_ca, stN_ca, thN_ca, fnM_ca, tiN_ca, smN_ca]
                  try simp only [up_ca1, up_ca07, up_ca08, up_ca09, up_ca010, up_10, up_01, up_0709, up_0710, ca_ca, ca_1, dN_ca, wyM_ca, plN_ca, rpN_ca, ltN_ca, pmN_ca, wnN_ca, nbN_ca, ca_07, ca_08, ca_09, ca_010, beN_ca, ctN_ca, gonN_ca, mvN_ca]
                  exact x_iretq h he dX7_change_108 ⟨by first | rfl | (rw [ca_1]), by first | exact CaE.rf1 (wyM_up (by omega)) rfl rfl hf | exact CaE.of1 (wyM_up (by omega)) (by assumption) | exact CaE.of1 fnM_y (by assumption)⟩
                · rw [(nch_1 hgd (by omega) q86).1, (nch_1 hgd (by omega) q86).2] at he
                  refine x_aload_n h dX7_change_89 rfl ?_
                  refine x_ldc h m_k_X7_163 dX7_change_90 ?_
                  refine x_V1i h dX7_change_92 m_ml_X7_101 m_im_X7_finding m_se_X7_finding (sM0 hm) rfl (by decide) rfl (c_X7_finding hm (by omega)) ?_
                  try simp only [ca_ca, ca_1, dN_ca, wyM_ca, plN_ca, rpN_ca, ltN_ca, pmN_ca, wnN_ca, nbN_ca, ca_07, ca_08, ca_09, ca_010, beN_ca, ctN_ca, gonN_ca, mvN_ca, stN_ca, thN_ca, fnM_ca, tiN_ca, smN_ca]
                  refine x_goto h dX7_change_95 (tgt := 108) (by decide) ?_
                  try simp only [up_ca1, up_ca07, up_ca08, up_ca09, up_ca010, up_10, up_01, up_0709, up_0710, ca_ca, ca_1, dN_ca, wyM_ca, plN_ca, rpN_ca, ltN_ca, pmN_ca, wnN_ca, nbN_ca, ca_07, ca_08, ca_09, ca_010, beN_ca, ctN_ca, gonN_ca, mvN_ca]
                  exact x_iretq h he dX7_change_108 ⟨by first | rfl | (rw [ca_1]), by first | exact CaE.rf1 (wyM_up (by omega)) rfl rfl hf | exact CaE.of1 (wyM_up (by omega)) (by assumption) | exact CaE.of1 fnM_y (by assumption)⟩
            · refine x_aload_n h dX7_change_63 rfl ?_
              refine x_ldc h m_k_X7_76 dX7_change_64 ?_
              have hnc : ¬ ((0 ≤ p ∧ p < M 1 1) ∧ chGd x v) := by unfold chGd; omega
              rw [(nch_0 hnc).1, (nch_0 hnc).2] at he
              refine x_V1i h dX7_change_66 m_ml_X7_101 m_im_X7_finding m_se_X7_finding (sM0 hm) rfl (by decide) rfl (c_X7_finding hm (by omega)) ?_
              try simp only [ca_ca, ca_1, dN_ca, wyM_ca, plN_ca, rpN_ca, ltN_ca, pmN_ca, wnN_ca, nbN_ca, ca_07, ca_08, ca_09, ca_010, beN_ca, ctN_ca, gonN_ca, mvN_ca, stN_ca, thN_ca, fnM_ca, tiN_ca, smN_ca]
              exact x_iretq h he dX7_change_69 ⟨rfl, CaE.rf1 fnM_y rfl rfl hf⟩
        · refine x_iload_n h dX7_change_33 rfl ?_
          refine x_iconst h dX7_change_34 ?_
          refine x_bipush h dX7_change_35 (by decide) ?_
          refine x_S3i h dX7_change_37 m_ml_X7_81 m_st_X7_within (by decide) rfl (c_X7_within hm (by omega) (by omega) (by omega)) ?_
          try simp only [ca_ca, ca_1, dN_ca, wyM_ca, plN_ca, rpN_ca, ltN_ca, pmN_ca, wnN_ca, nbN_ca, ca_07, ca_08, ca_09, ca_010, beN_ca, ctN_ca, gonN_ca, mvN_ca, stN_ca, thN_ca, fnM_ca, tiN_ca, smN_ca]
          refine x_ifeqB h dX7_change_40 (tgt := 47) (by decide) (fun q40 => ?_) (fun q40 => ?_)
          · refine x_iconst h dX7_change_47 ?_
            refine x_istore h dX7_change_48 rfl rfl ?_
            dsimp only [xset]
            refine x_aload_n h dX7_change_50 rfl ?_
            refine x_iload_n h dX7_change_51 rfl ?_
            refine x_V1i h dX7_change_52 m_ml_X7_148 m_im_X7_isPerson m_se_X7_isPerson (sM0 hm) rfl (by decide) rfl (c_X7_isPerson hm (by omega) (by omega)) ?_
            try simp only [ca_ca, ca_1, dN_ca, wyM_ca, plN_ca, rpN_ca, ltN_ca, pmN_ca, wnN_ca, nbN_ca, ca_07, ca_08, ca_09, ca_010, beN_ca, ctN_ca, gonN_ca, mvN_ca, stN_ca, thN_ca, fnM_ca, tiN_ca, smN_ca]
            refine x_ifeqB h dX7_change_55 (tgt := 63) (by decide) (fun q55 => ?_) (fun q55 => ?_)
            · refine x_aload_n h dX7_change_63 rfl ?_
              refine x_ldc h m_k_X7_76 dX7_change_64 ?_
              have hnc : ¬ ((0 ≤ p ∧ p < M 1 1) ∧ chGd x v) := by unfold chGd; omega
              rw [(nch_0 hnc).1, (nch_0 hnc).2] at he
              refine x_V1i h dX7_change_66 m_ml_X7_101 m_im_X7_finding m_se_X7_finding (sM0 hm) rfl (by decide) rfl (c_X7_finding hm (by omega)) ?_
              try simp only [ca_ca, ca_1, dN_ca, wyM_ca, plN_ca, rpN_ca, ltN_ca, pmN_ca, wnN_ca, nbN_ca, ca_07, ca_08, ca_09, ca_010, beN_ca, ctN_ca, gonN_ca, mvN_ca, stN_ca, thN_ca, fnM_ca, tiN_ca, smN_ca]
              exact x_iretq h he dX7_change_69 ⟨rfl, CaE.rf1 fnM_y rfl rfl hf⟩
            · refine x_iload h dX7_change_58 rfl ?_
              refine x_if_ne h dX7_change_60 (tgt := 70) (by decide) (by omega) (fun q60 => ?_) (fun q60 => ?_)
              · have hgd : (0 ≤ p ∧ p < M 1 1) ∧ chGd x v := by unfold chGd; omega
                have hn1 := hI.2.2.2 p (by omega) (by omega)
                have hpm := pmN_R hI (p := p) (by omega)
                refine x_iload_n h dX7_change_70 rfl ?_
                refine x_iconst h dX7_change_71 ?_
                refine x_icmp_ne h dX7_change_72 (tgt := 98) (by decide) (by omega) (by omega) (fun q72 => ?_) (fun q72 => ?_)
                · have hl2 : x = 1 → ltN M p v (pmN M p) := fun z => by first | assumption | omega
                  rw [(nch_2 hgd hl2).1, (nch_2 hgd hl2).2] at he
                  refine x_aload_n h dX7_change_98 rfl ?_
                  refine x_iload_n h dX7_change_99 rfl ?_
                  refine x_iload_n h dX7_change_100 rfl ?_
                  refine x_S2i h dX7_change_101 m_ml_X7_119 m_st_X7_at (by decide) rfl (c_X7_at hm) ?_
                  try simp only [ca_ca, ca_1, dN_ca, wyM_ca, plN_ca, rpN_ca, ltN_ca, pmN_ca, wnN_ca, nbN_ca, ca_07, ca_08, ca_09, ca_010, beN_ca, ctN_ca, gonN_ca, mvN_ca, stN_ca, thN_ca, fnM_ca, tiN_ca, smN_ca]
                  refine x_iload_n h dX7_change_104 rfl ?_
                  refine x_V2i h dX7_change_105 m_ml_X7_89 m_im_X7_become m_se_X7_become (sM0 hm) rfl (by decide) rfl (c_X7_become hm (by omega) (by omega)) ?_
                  try simp only [ca_ca, ca_1, dN_ca, wyM_ca, plN_ca, rpN_ca, ltN_ca, pmN_ca, wnN_ca, nbN_ca, ca_07, ca_08, ca_09, ca_010, beN_ca, ctN_ca, gonN_ca, mvN_ca, stN_ca, thN_ca, fnM_ca, tiN_ca, smN_ca]
                  try simp only [up_ca1, up_ca07, up_ca08, up_ca09, up_ca010, up_10, up_01, up_0709, up_0710, ca_ca, ca_1, dN_ca, wyM_ca, plN_ca, rpN_ca, ltN_ca, pmN_ca, wnN_ca, nbN_ca, ca_07, ca_08, ca_09, ca_010, beN_ca, ctN_ca, gonN_ca, mvN_ca]
                  exact x_iretq h he dX7_change_108 ⟨by first | rfl | (rw [ca_1]), by first | exact CaE.rf1 (wyM_up (by omega)) rfl rfl hf | exact CaE.of1 (wyM_up (by omega)) (by assumption) | exact CaE.of1 fnM_y (by assumption)⟩
                · refine x_aload_n h dX7_change_75 rfl ?_
                  refine x_iload_n h dX7_change_76 rfl ?_
                  refine x_iload_n h dX7_change_77 rfl ?_
                  refine x_aload_n h dX7_change_78 rfl ?_
                  refine x_iload_n h dX7_change_79 rfl ?_
                  refine x_V1i h dX7_change_80 m_ml_X7_157 m_im_X7_placeOfMate m_se_X7_placeOfMate (sM0 hm) rfl (by decide) rfl (c_X7_placeOfMate hm (by exact hI) (by first | omega | (simp only [ca_1]; omega))) ?_
                  try simp only [ca_ca, ca_1, dN_ca, wyM_ca, plN_ca, rpN_ca, ltN_ca, pmN_ca, wnN_ca, nbN_ca, ca_07, ca_08, ca_09, ca_010, beN_ca, ctN_ca, gonN_ca, mvN_ca, stN_ca, thN_ca, fnM_ca, tiN_ca, smN_ca]
                  refine x_Q3i h dX7_change_83 m_ml_X7_160 m_im_X7_lets m_se_X7_lets (sM0 hm) rfl (by decide) rfl (c_X7_lets hm (by exact hI) (by assumption) (by first | omega | (simp only [ca_1]; omega)) (by first | omega | (simp only [ca_1]; omega)) (by first | omega | (simp only [ca_1]; omega))) (fun r83 N83 h83 => ?_)
                  obtain ⟨rfl, f83, d83, rfl, c83⟩ := h83
                  try simp only [ca_ca, ca_1, dN_ca, wyM_ca, plN_ca, rpN_ca, ltN_ca, pmN_ca, wnN_ca, nbN_ca, ca_07, ca_08, ca_09, ca_010, beN_ca, ctN_ca, gonN_ca, mvN_ca, stN_ca, thN_ca, fnM_ca, tiN_ca, smN_ca] at c83 ⊢
                  refine x_ifneB h dX7_change_86 (tgt := 98) (by decide) (fun q86 => ?_) (fun q86 => ?_)
                  · have hl2 : x = 1 → ltN M p v (pmN M p) := fun z => by first | assumption | omega
                    rw [(nch_2 hgd hl2).1, (nch_2 hgd hl2).2] at he
                    refine x_aload_n h dX7_change_98 rfl ?_
                    refine x_iload_n h dX7_change_99 rfl ?_
                    refine x_iload_n h dX7_change_100 rfl ?_
                    refine x_S2i h dX7_change_101 m_ml_X7_119 m_st_X7_at (by decide) rfl (c_X7_at hm) ?_
                    try simp only [ca_ca, ca_1, dN_ca, wyM_ca, plN_ca, rpN_ca, ltN_ca, pmN_ca, wnN_ca, nbN_ca, ca_07, ca_08, ca_09, ca_010, beN_ca, ctN_ca, gonN_ca, mvN_ca, stN_ca, thN_ca, fnM_ca, tiN_ca, smN_ca]
                    refine x_iload_n h dX7_change_104 rfl ?_
                    refine x_V2i h dX7_change_105 m_ml_X7_89 m_im_X7_become m_se_X7_become (sM0 hm) rfl (by decide) rfl (c_X7_become hm (by omega) (by omega)) ?_
                    try simp only [ca_ca, ca_1, dN_ca, wyM_ca, plN_ca, rpN_ca, ltN_ca, pmN_ca, wnN_ca, nbN_ca, ca_07, ca_08, ca_09, ca_010, beN_ca, ctN_ca, gonN_ca, mvN_ca, stN_ca, thN_ca, fnM_ca, tiN_ca, smN_ca]
                    try simp only [up_ca1, up_ca07, up_ca08, up_ca09, up_ca010, up_10, up_01, up_0709, up_0710, ca_ca, ca_1, dN_ca, wyM_ca, plN_ca, rpN_ca, ltN_ca, pmN_ca, wnN_ca, nbN_ca, ca_07, ca_08, ca_09, ca_010, beN_ca, ctN_ca, gonN_ca, mvN_ca]
                    exact x_iretq h he dX7_change_108 ⟨by first | rfl | (rw [ca_1]), by first | exact CaE.rf1 (wyM_up (by omega)) rfl rfl hf | exact CaE.of1 (wyM_up (by omega)) (by assumption) | exact CaE.of1 fnM_y (by assumption)⟩
                  · rw [(nch_1 hgd (by omega) q86).1, (nch_1 hgd (by omega) q86).2] at he
                    refine x_aload_n h dX7_change_89 rfl ?_
                    refine x_ldc h m_k_X7_163 dX7_change_90 ?_
                    refine x_V1i h dX7_change_92 m_ml_X7_101 m_im_X7_finding m_se_X7_finding (sM0 hm) rfl (by decide) rfl (c_X7_finding hm (by omega)) ?_
                    try simp only [ca_ca, ca_1, dN_ca, wyM_ca, plN_ca, rpN_ca, ltN_ca, pmN_ca, wnN_ca, nbN_ca, ca_07, ca_08, ca_09, ca_010, beN_ca, ctN_ca, gonN_ca, mvN_ca, stN_ca, thN_ca, fnM_ca, tiN_ca, smN_ca]
                    refine x_goto h dX7_change_95 (tgt := 108) (by decide) ?_
                    try simp only [up_ca1, up_ca07, up_ca08, up_ca09, up_ca010, up_10, up_01, up_0709, up_0710, ca_ca, ca_1, dN_ca, wyM_ca, plN_ca, rpN_ca, ltN_ca, pmN_ca, wnN_ca, nbN_ca, ca_07, ca_08, ca_09, ca_010, beN_ca, ctN_ca, gonN_ca, mvN_ca]
                    exact x_iretq h he dX7_change_108 ⟨by first | rfl | (rw [ca_1]), by first | exact CaE.rf1 (wyM_up (by omega)) rfl rfl hf | exact CaE.of1 (wyM_up (by omega)) (by assumption) | exact CaE.of1 fnM_y (by assumption)⟩
              · refine x_aload_n h dX7_change_63 rfl ?_
                refine x_ldc h m_k_X7_76 dX7_change_64 ?_
                have hnc : ¬ ((0 ≤ p ∧ p < M 1 1) ∧ chGd x v) := by unfold chGd; omega
                rw [(nch_0 hnc).1, (nch_0 hnc).2] at he
                refine x_V1i h dX7_change_66 m_ml_X7_101 m_im_X7_finding m_se_X7_finding (sM0 hm) rfl (by decide) rfl (c_X7_finding hm (by omega)) ?_
                try simp only [ca_ca, ca_1, dN_ca, wyM_ca, plN_ca, rpN_ca, ltN_ca, pmN_ca, wnN_ca, nbN_ca, ca_07, ca_08, ca_09, ca_010, beN_ca, ctN_ca, gonN_ca, mvN_ca, stN_ca, thN_ca, fnM_ca, tiN_ca, smN_ca]
                exact x_iretq h he dX7_change_69 ⟨rfl, CaE.rf1 fnM_y rfl rfl hf⟩
          · refine x_iconst h dX7_change_43 ?_
            refine x_goto h dX7_change_44 (tgt := 48) (by decide) ?_
            refine x_istore h dX7_change_48 rfl rfl ?_
            dsimp only [xset]
            refine x_aload_n h dX7_change_50 rfl ?_
            refine x_iload_n h dX7_change_51 rfl ?_
            refine x_V1i h dX7_change_52 m_ml_X7_148 m_im_X7_isPerson m_se_X7_isPerson (sM0 hm) rfl (by decide) rfl (c_X7_isPerson hm (by omega) (by omega)) ?_
            try simp only [ca_ca, ca_1, dN_ca, wyM_ca, plN_ca, rpN_ca, ltN_ca, pmN_ca, wnN_ca, nbN_ca, ca_07, ca_08, ca_09, ca_010, beN_ca, ctN_ca, gonN_ca, mvN_ca, stN_ca, thN_ca, fnM_ca, tiN_ca, smN_ca]
            refine x_ifeqB h dX7_change_55 (tgt := 63) (by decide) (fun q55 => ?_) (fun q55 => ?_)
            · refine x_aload_n h dX7_change_63 rfl ?_
              refine x_ldc h m_k_X7_76 dX7_change_64 ?_
              have hnc : ¬ ((0 ≤ p ∧ p < M 1 1) ∧ chGd x v) := by unfold chGd; omega
              rw [(nch_0 hnc).1, (nch_0 hnc).2] at he
              refine x_V1i h dX7_change_66 m_ml_X7_101 m_im_X7_finding m_se_X7_finding (sM0 hm) rfl (by decide) rfl (c_X7_finding hm (by omega)) ?_
              try simp only [ca_ca, ca_1, dN_ca, wyM_ca, plN_ca, rpN_ca, ltN_ca, pmN_ca, wnN_ca, nbN_ca, ca_07, ca_08, ca_09, ca_010, beN_ca, ctN_ca, gonN_ca, mvN_ca, stN_ca, thN_ca, fnM_ca, tiN_ca, smN_ca]
              exact x_iretq h he dX7_change_69 ⟨rfl, CaE.rf1 fnM_y rfl rfl hf⟩
            · refine x_iload h dX7_change_58 rfl ?_
              refine x_if_ne h dX7_change_60 (tgt := 70) (by decide) (by omega) (fun q60 => ?_) (fun q60 => ?_)
              · have hgd : (0 ≤ p ∧ p < M 1 1) ∧ chGd x v := by unfold chGd; omega
                have hn1 := hI.2.2.2 p (by omega) (by omega)
                have hpm := pmN_R hI (p := p) (by omega)
                refine x_iload_n h dX7_change_70 rfl ?_
                refine x_iconst h dX7_change_71 ?_
                refine x_icmp_ne h dX7_change_72 (tgt := 98) (by decide) (by omega) (by omega) (fun q72 => ?_) (fun q72 => ?_)
                · have hl2 : x = 1 → ltN M p v (pmN M p) := fun z => by first | assumption | omega
                  rw [(nch_2 hgd hl2).1, (nch_2 hgd hl2).2] at he
                  refine x_aload_n h dX7_change_98 rfl ?_
                  refine x_iload_n h dX7_change_99 rfl ?_
                  refine x_iload_n h dX7_change_100 rfl ?_
                  refine x_S2i h dX7_change_101 m_ml_X7_119 m_st_X7_at (by decide) rfl (c_X7_at hm) ?_
                  try simp only [ca_ca, ca_1, dN_ca, wyM_ca, plN_ca, rpN_ca, ltN_ca, pmN_ca, wnN_ca, nbN_ca, ca_07, ca_08, ca_09, ca_010, beN_ca, ctN_ca, gonN_ca, mvN_ca, stN_ca, thN_ca, fnM_ca, tiN_ca, smN_ca]
                  refine x_iload_n h dX7_change_104 rfl ?_
                  refine x_V2i h dX7_change_105 m_ml_X7_89 m_im_X7_become m_se_X7_become (sM0 hm) rfl (by decide) rfl (c_X7_become hm (by omega) (by omega)) ?_
                  try simp only [ca_ca, ca_1, dN_ca, wyM_ca, plN_ca, rpN_ca, ltN_ca, pmN_ca, wnN_ca, nbN_ca, ca_07, ca_08, ca_09, ca_010, beN_ca, ctN_ca, gonN_ca, mvN_ca, stN_ca, thN_ca, fnM_ca, tiN_ca, smN_ca]
                  try simp only [up_ca1, up_ca07, up_ca08, up_ca09, up_ca010, up_10, up_01, up_0709, up_0710, ca_ca, ca_1, dN_ca, wyM_ca, plN_ca, rpN_ca, ltN_ca, pmN_ca, wnN_ca, nbN_ca, ca_07, ca_08, ca_09, ca_010, beN_ca, ctN_ca, gonN_ca, mvN_ca]
                  exact x_iretq h he dX7_change_108 ⟨by first | rfl | (rw [ca_1]), by first | exact CaE.rf1 (wyM_up (by omega)) rfl rfl hf | exact CaE.of1 (wyM_up (by omega)) (by assumption) | exact CaE.of1 fnM_y (by assumption)⟩
                · refine x_aload_n h dX7_change_75 rfl ?_
                  refine x_iload_n h dX7_change_76 rfl ?_
                  refine x_iload_n h dX7_change_77 rfl ?_
                  refine x_aload_n h dX7_change_78 rfl ?_
                  refine x_iload_n h dX7_change_79 rfl ?_
                  refine x_V1i h dX7_change_80 m_ml_X7_157 m_im_X7_placeOfMate m_se_X7_placeOfMate (sM0 hm) rfl (by decide) rfl (c_X7_placeOfMate hm (by exact hI) (by first | omega | (simp only [ca_1]; omega))) ?_
                  try simp only [ca_ca, ca_1, dN_ca, wyM_ca, plN_ca, rpN_ca, ltN_ca, pmN_ca, wnN_ca, nbN_ca, ca_07, ca_08, ca_09, ca_010, beN_ca, ctN_ca, gonN_ca, mvN_ca, stN_ca, thN_ca, fnM_ca, tiN_ca, smN_ca]
                  refine x_Q3i h dX7_change_83 m_ml_X7_160 m_im_X7_lets m_se_X7_lets (sM0 hm) rfl (by decide) rfl (c_X7_lets hm (by exact hI) (by assumption) (by first | omega | (simp only [ca_1]; omega)) (by first | omega | (simp only [ca_1]; omega)) (by first | omega | (simp only [ca_1]; omega))) (fun r83 N83 h83 => ?_)
                  obtain ⟨rfl, f83, d83, rfl, c83⟩ := h83
                  try simp only [ca_ca, ca_1, dN_ca, wyM_ca, plN_ca, rpN_ca, ltN_ca, pmN_ca, wnN_ca, nbN_ca, ca_07, ca_08, ca_09, ca_010, beN_ca, ctN_ca, gonN_ca, mvN_ca, stN_ca, thN_ca, fnM_ca, tiN_ca, smN_ca] at c83 ⊢
                  refine x_ifneB h dX7_change_86 (tgt := 98) (by decide) (fun q86 => ?_) (fun q86 => ?_)
                  · have hl2 : x = 1 → ltN M p v (pmN M p) := fun z => by first | assumption | omega
                    rw [(nch_2 hgd hl2).1, (nch_2 hgd hl2).2] at he
                    refine x_aload_n h dX7_change_98 rfl ?_
                    refine x_iload_n h dX7_change_99 rfl ?_
                    refine x_iload_n h dX7_change_100 rfl ?_
                    refine x_S2i h dX7_change_101 m_ml_X7_119 m_st_X7_at (by decide) rfl (c_X7_at hm) ?_
                    try simp only [ca_ca, ca_1, dN_ca, wyM_ca, plN_ca, rpN_ca, ltN_ca, pmN_ca, wnN_ca, nbN_ca, ca_07, ca_08, ca_09, ca_010, beN_ca, ctN_ca, gonN_ca, mvN_ca, stN_ca, thN_ca, fnM_ca, tiN_ca, smN_ca]
                    refine x_iload_n h dX7_change_104 rfl ?_
                    refine x_V2i h dX7_change_105 m_ml_X7_89 m_im_X7_become m_se_X7_become (sM0 hm) rfl (by decide) rfl (c_X7_become hm (by omega) (by omega)) ?_
                    try simp only [ca_ca, ca_1, dN_ca, wyM_ca, plN_ca, rpN_ca, ltN_ca, pmN_ca, wnN_ca, nbN_ca, ca_07, ca_08, ca_09, ca_010, beN_ca, ctN_ca, gonN_ca, mvN_ca, stN_ca, thN_ca, fnM_ca, tiN_ca, smN_ca]
                    try simp only [up_ca1, up_ca07, up_ca08, up_ca09, up_ca010, up_10, up_01, up_0709, up_0710, ca_ca, ca_1, dN_ca, wyM_ca, plN_ca, rpN_ca, ltN_ca, pmN_ca, wnN_ca, nbN_ca, ca_07, ca_08, ca_09, ca_010, beN_ca, ctN_ca, gonN_ca, mvN_ca]
                    exact x_iretq h he dX7_change_108 ⟨by first | rfl | (rw [ca_1]), by first | exact CaE.rf1 (wyM_up (by omega)) rfl rfl hf | exact CaE.of1 (wyM_up (by omega)) (by assumption) | exact CaE.of1 fnM_y (by assumption)⟩
                  · rw [(nch_1 hgd (by omega) q86).1, (nch_1 hgd (by omega) q86).2] at he
                    refine x_aload_n h dX7_change_89 rfl ?_
                    refine x_ldc h m_k_X7_163 dX7_change_90 ?_
                    refine x_V1i h dX7_change_92 m_ml_X7_101 m_im_X7_finding m_se_X7_finding (sM0 hm) rfl (by decide) rfl (c_X7_finding hm (by omega)) ?_
                    try simp only [ca_ca, ca_1, dN_ca, wyM_ca, plN_ca, rpN_ca, ltN_ca, pmN_ca, wnN_ca, nbN_ca, ca_07, ca_08, ca_09, ca_010, beN_ca, ctN_ca, gonN_ca, mvN_ca, stN_ca, thN_ca, fnM_ca, tiN_ca, smN_ca]
                    refine x_goto h dX7_change_95 (tgt := 108) (by decide) ?_
                    try simp only [up_ca1, up_ca07, up_ca08, up_ca09, up_ca010, up_10, up_01, up_0709, up_0710, ca_ca, ca_1, dN_ca, wyM_ca, plN_ca, rpN_ca, ltN_ca, pmN_ca, wnN_ca, nbN_ca, ca_07, ca_08, ca_09, ca_010, beN_ca, ctN_ca, gonN_ca, mvN_ca]
                    exact x_iretq h he dX7_change_108 ⟨by first | rfl | (rw [ca_1]), by first | exact CaE.rf1 (wyM_up (by omega)) rfl rfl hf | exact CaE.of1 (wyM_up (by omega)) (by assumption) | exact CaE.of1 fnM_y (by assumption)⟩
              · refine x_aload_n h dX7_change_63 rfl ?_
                refine x_ldc h m_k_X7_76 dX7_change_64 ?_
                have hnc : ¬ ((0 ≤ p ∧ p < M 1 1) ∧ chGd x v) := by unfold chGd; omega
                rw [(nch_0 hnc).1, (nch_0 hnc).2] at he
                refine x_V1i h dX7_change_66 m_ml_X7_101 m_im_X7_finding m_se_X7_finding (sM0 hm) rfl (by decide) rfl (c_X7_finding hm (by omega)) ?_
                try simp only [ca_ca, ca_1, dN_ca, wyM_ca, plN_ca, rpN_ca, ltN_ca, pmN_ca, wnN_ca, nbN_ca, ca_07, ca_08, ca_09, ca_010, beN_ca, ctN_ca, gonN_ca, mvN_ca, stN_ca, thN_ca, fnM_ca, tiN_ca, smN_ca]
                exact x_iretq h he dX7_change_69 ⟨rfl, CaE.rf1 fnM_y rfl rfl hf⟩
    · refine x_iload_n h dX7_change_16 rfl ?_
      refine x_iconst h dX7_change_17 ?_
      refine x_icmp_ne h dX7_change_18 (tgt := 28) (by decide) (by omega) (by omega) (fun q18 => ?_) (fun q18 => ?_)
      · refine x_iload_n h dX7_change_28 rfl ?_
        refine x_iconst h dX7_change_29 ?_
        refine x_icmp_ne h dX7_change_30 (tgt := 47) (by decide) (by omega) (by omega) (fun q30 => ?_) (fun q30 => ?_)
        · refine x_iconst h dX7_change_47 ?_
          refine x_istore h dX7_change_48 rfl rfl ?_
          dsimp only [xset]
          refine x_aload_n h dX7_change_50 rfl ?_
          refine x_iload_n h dX7_change_51 rfl ?_
          refine x_V1i h dX7_change_52 m_ml_X7_148 m_im_X7_isPerson m_se_X7_isPerson (sM0 hm) rfl (by decide) rfl (c_X7_isPerson hm (by omega) (by omega)) ?_
          try simp only [ca_ca, ca_1, dN_ca, wyM_ca, plN_ca, rpN_ca, ltN_ca, pmN_ca, wnN_ca, nbN_ca, ca_07, ca_08, ca_09, ca_010, beN_ca, ctN_ca, gonN_ca, mvN_ca, stN_ca, thN_ca, fnM_ca, tiN_ca, smN_ca]
          refine x_ifeqB h dX7_change_55 (tgt := 63) (by decide) (fun q55 => ?_) (fun q55 => ?_)
          · refine x_aload_n h dX7_change_63 rfl ?_
            refine x_ldc h m_k_X7_76 dX7_change_64 ?_
            have hnc : ¬ ((0 ≤ p ∧ p < M 1 1) ∧ chGd x v) := by unfold chGd; omega
            rw [(nch_0 hnc).1, (nch_0 hnc).2] at he
            refine x_V1i h dX7_change_66 m_ml_X7_101 m_im_X7_finding m_se_X7_finding (sM0 hm) rfl (by decide) rfl (c_X7_finding hm (by omega)) ?_
            try simp only [ca_ca, ca_1, dN_ca, wyM_ca, plN_ca, rpN_ca, ltN_ca, pmN_ca, wnN_ca, nbN_ca, ca_07, ca_08, ca_09, ca_010, beN_ca, ctN_ca, gonN_ca, mvN_ca, stN_ca, thN_ca, fnM_ca, tiN_ca, smN_ca]
            exact x_iretq h he dX7_change_69 ⟨rfl, CaE.rf1 fnM_y rfl rfl hf⟩
          · refine x_iload h dX7_change_58 rfl ?_
            refine x_if_ne h dX7_change_60 (tgt := 70) (by decide) (by omega) (fun q60 => ?_) (fun q60 => ?_)
            · have hgd : (0 ≤ p ∧ p < M 1 1) ∧ chGd x v := by unfold chGd; omega
              have hn1 := hI.2.2.2 p (by omega) (by omega)
              have hpm := pmN_R hI (p := p) (by omega)
              refine x_iload_n h dX7_change_70 rfl ?_
              refine x_iconst h dX7_change_71 ?_
              refine x_icmp_ne h dX7_change_72 (tgt := 98) (by decide) (by omega) (by omega) (fun q72 => ?_) (fun q72 => ?_)
              · have hl2 : x = 1 → ltN M p v (pmN M p) := fun z => by first | assumption | omega
                rw [(nch_2 hgd hl2).1, (nch_2 hgd hl2).2] at he
                refine x_aload_n h dX7_change_98 rfl ?_
                refine x_iload_n h dX7_change_99 rfl ?_
                refine x_iload_n h dX7_change_100 rfl ?_
                refine x_S2i h dX7_change_101 m_ml_X7_119 m_st_X7_at (by decide) rfl (c_X7_at hm) ?_
                try simp only [ca_ca, ca_1, dN_ca, wyM_ca, plN_ca, rpN_ca, ltN_ca, pmN_ca, wnN_ca, nbN_ca, ca_07, ca_08, ca_09, ca_010, beN_ca, ctN_ca, gonN_ca, mvN_ca, stN_ca, thN_ca, fnM_ca, tiN_ca, smN_ca]
                refine x_iload_n h dX7_change_104 rfl ?_
                refine x_V2i h dX7_change_105 m_ml_X7_89 m_im_X7_become m_se_X7_become (sM0 hm) rfl (by decide) rfl (c_X7_become hm (by omega) (by omega)) ?_
                try simp only [ca_ca, ca_1, dN_ca, wyM_ca, plN_ca, rpN_ca, ltN_ca, pmN_ca, wnN_ca, nbN_ca, ca_07, ca_08, ca_09, ca_010, beN_ca, ctN_ca, gonN_ca, mvN_ca, stN_ca, thN_ca, fnM_ca, tiN_ca, smN_ca]
                try simp only [up_ca1, up_ca07, up_ca08, up_ca09, up_ca010, up_10, up_01, up_0709, up_0710, ca_ca, ca_1, dN_ca, wyM_ca, plN_ca, rpN_ca, ltN_ca, pmN_ca, wnN_ca, nbN_ca, ca_07, ca_08, ca_09, ca_010, beN_ca, ctN_ca, gonN_ca, mvN_ca]
                exact x_iretq h he dX7_change_108 ⟨by first | rfl | (rw [ca_1]), by first | exact CaE.rf1 (wyM_up (by omega)) rfl rfl hf | exact CaE.of1 (wyM_up (by omega)) (by assumption) | exact CaE.of1 fnM_y (by assumption)⟩
              · refine x_aload_n h dX7_change_75 rfl ?_
                refine x_iload_n h dX7_change_76 rfl ?_
                refine x_iload_n h dX7_change_77 rfl ?_
                refine x_aload_n h dX7_change_78 rfl ?_
                refine x_iload_n h dX7_change_79 rfl ?_
                refine x_V1i h dX7_change_80 m_ml_X7_157 m_im_X7_placeOfMate m_se_X7_placeOfMate (sM0 hm) rfl (by decide) rfl (c_X7_placeOfMate hm (by exact hI) (by first | omega | (simp only [ca_1]; omega))) ?_
                try simp only [ca_ca, ca_1, dN_ca, wyM_ca, plN_ca, rpN_ca, ltN_ca, pmN_ca, wnN_ca, nbN_ca, ca_07, ca_08, ca_09, ca_010, beN_ca, ctN_ca, gonN_ca, mvN_ca, stN_ca, thN_ca, fnM_ca, tiN_ca, smN_ca]
                refine x_Q3i h dX7_change_83 m_ml_X7_160 m_im_X7_lets m_se_X7_lets (sM0 hm) rfl (by decide) rfl (c_X7_lets hm (by exact hI) (by assumption) (by first | omega | (simp only [ca_1]; omega)) (by first | omega | (simp only [ca_1]; omega)) (by first | omega | (simp only [ca_1]; omega))) (fun r83 N83 h83 => ?_)
                obtain ⟨rfl, f83, d83, rfl, c83⟩ := h83
                try simp only [ca_ca, ca_1, dN_ca, wyM_ca, plN_ca, rpN_ca, ltN_ca, pmN_ca, wnN_ca, nbN_ca, ca_07, ca_08, ca_09, ca_010, beN_ca, ctN_ca, gonN_ca, mvN_ca, stN_ca, thN_ca, fnM_ca, tiN_ca, smN_ca] at c83 ⊢
                refine x_ifneB h dX7_change_86 (tgt := 98) (by decide) (fun q86 => ?_) (fun q86 => ?_)
                · have hl2 : x = 1 → ltN M p v (pmN M p) := fun z => by first | assumption | omega
                  rw [(nch_2 hgd hl2).1, (nch_2 hgd hl2).2] at he
                  refine x_aload_n h dX7_change_98 rfl ?_
                  refine x_iload_n h dX7_change_99 rfl ?_
                  refine x_iload_n h dX7_change_100 rfl ?_
                  refine x_S2i h dX7_change_101 m_ml_X7_119 m_st_X7_at (by decide) rfl (c_X7_at hm) ?_
                  try simp only [ca_ca, ca_1, dN_ca, wyM_ca, plN_ca, rpN_ca, ltN_ca, pmN_ca, wnN_ca, nbN_ca, ca_07, ca_08, ca_09, ca_010, beN_ca, ctN_ca, gonN_ca, mvN_ca, stN_ca, thN_ca, fnM_ca, tiN_ca, smN_ca]
                  refine x_iload_n h dX7_change_104 rfl ?_
                  refine x_V2i h dX7_change_105 m_ml_X7_89 m_im_X7_become m_se_X7_become (sM0 hm) rfl (by decide) rfl (c_X7_become hm (by omega) (by omega)) ?_
                  try simp only [ca_ca, ca_1, dN_ca, wyM_ca, plN_ca, rpN_ca, ltN_ca, pmN_ca, wnN_ca, nbN_ca, ca_07, ca_08, ca_09, ca_010, beN_ca, ctN_ca, gonN_ca, mvN_ca, stN_ca, thN_ca, fnM_ca, tiN_ca, smN_ca]
                  try simp only [up_ca1, up_ca07, up_ca08, up_ca09, up_ca010, up_10, up_01, up_0709, up_0710, ca_ca, ca_1, dN_ca, wyM_ca, plN_ca, rpN_ca, ltN_ca, pmN_ca, wnN_ca, nbN_ca, ca_07, ca_08, ca_09, ca_010, beN_ca, ctN_ca, gonN_ca, mvN_ca]
                  exact x_iretq h he dX7_change_108 ⟨by first | rfl | (rw [ca_1]), by first | exact CaE.rf1 (wyM_up (by omega)) rfl rfl hf | exact CaE.of1 (wyM_up (by omega)) (by assumption) | exact CaE.of1 fnM_y (by assumption)⟩
                · rw [(nch_1 hgd (by omega) q86).1, (nch_1 hgd (by omega) q86).2] at he
                  refine x_aload_n h dX7_change_89 rfl ?_
                  refine x_ldc h m_k_X7_163 dX7_change_90 ?_
                  refine x_V1i h dX7_change_92 m_ml_X7_101 m_im_X7_finding m_se_X7_finding (sM0 hm) rfl (by decide) rfl (c_X7_finding hm (by omega)) ?_
                  try simp only [ca_ca, ca_1, dN_ca, wyM_ca, plN_ca, rpN_ca, ltN_ca, pmN_ca, wnN_ca, nbN_ca, ca_07, ca_08, ca_09, ca_010, beN_ca, ctN_ca, gonN_ca, mvN_ca, stN_ca, thN_ca, fnM_ca, tiN_ca, smN_ca]
                  refine x_goto h dX7_change_95 (tgt := 108) (by decide) ?_
                  try simp only [up_ca1, up_ca07, up_ca08, up_ca09, up_ca010, up_10, up_01, up_0709, up_0710, ca_ca, ca_1, dN_ca, wyM_ca, plN_ca, rpN_ca, ltN_ca, pmN_ca, wnN_ca, nbN_ca, ca_07, ca_08, ca_09, ca_010, beN_ca, ctN_ca, gonN_ca, mvN_ca]
                  exact x_iretq h he dX7_change_108 ⟨by first | rfl | (rw [ca_1]), by first | exact CaE.rf1 (wyM_up (by omega)) rfl rfl hf | exact CaE.of1 (wyM_up (by omega)) (by assumption) | exact CaE.of1 fnM_y (by assumption)⟩
            · refine x_aload_n h dX7_change_63 rfl ?_
              refine x_ldc h m_k_X7_76 dX7_change_64 ?_
              have hnc : ¬ ((0 ≤ p ∧ p < M 1 1) ∧ chGd x v) := by unfold chGd; omega
              rw [(nch_0 hnc).1, (nch_0 hnc).2] at he
              refine x_V1i h dX7_change_66 m_ml_X7_101 m_im_X7_finding m_se_X7_finding (sM0 hm) rfl (by decide) rfl (c_X7_finding hm (by omega)) ?_
              try simp only [ca_ca, ca_1, dN_ca, wyM_ca, plN_ca, rpN_ca, ltN_ca, pmN_ca, wnN_ca, nbN_ca, ca_07, ca_08, ca_09, ca_010, beN_ca, ctN_ca, gonN_ca, mvN_ca, stN_ca, thN_ca, fnM_ca, tiN_ca, smN_ca]
              exact x_iretq h he dX7_change_69 ⟨rfl, CaE.rf1 fnM_y rfl rfl hf⟩
        · refine x_iload_n h dX7_change_33 rfl ?_
          refine x_iconst h dX7_change_34 ?_
          refine x_bipush h dX7_change_35 (by decide) ?_
          refine x_S3i h dX7_change_37 m_ml_X7_81 m_st_X7_within (by decide) rfl (c_X7_within hm (by omega) (by omega) (by omega)) ?_
          try simp only [ca_ca, ca_1, dN_ca, wyM_ca, plN_ca, rpN_ca, ltN_ca, pmN_ca, wnN_ca, nbN_ca, ca_07, ca_08, ca_09, ca_010, beN_ca, ctN_ca, gonN_ca, mvN_ca, stN_ca, thN_ca, fnM_ca, tiN_ca, smN_ca]
          refine x_ifeqB h dX7_change_40 (tgt := 47) (by decide) (fun q40 => ?_) (fun q40 => ?_)
          · refine x_iconst h dX7_change_47 ?_
            refine x_istore h dX7_change_48 rfl rfl ?_
            dsimp only [xset]
            refine x_aload_n h dX7_change_50 rfl ?_
            refine x_iload_n h dX7_change_51 rfl ?_
            refine x_V1i h dX7_change_52 m_ml_X7_148 m_im_X7_isPerson m_se_X7_isPerson (sM0 hm) rfl (by decide) rfl (c_X7_isPerson hm (by omega) (by omega)) ?_
            try simp only [ca_ca, ca_1, dN_ca, wyM_ca, plN_ca, rpN_ca, ltN_ca, pmN_ca, wnN_ca, nbN_ca, ca_07, ca_08, ca_09, ca_010, beN_ca, ctN_ca, gonN_ca, mvN_ca, stN_ca, thN_ca, fnM_ca, tiN_ca, smN_ca]
            refine x_ifeqB h dX7_change_55 (tgt := 63) (by decide) (fun q55 => ?_) (fun q55 => ?_)
            · refine x_aload_n h dX7_change_63 rfl ?_
              refine x_ldc h m_k_X7_76 dX7_change_64 ?_
              have hnc : ¬ ((0 ≤ p ∧ p < M 1 1) ∧ chGd x v) := by unfold chGd; omega
              rw [(nch_0 hnc).1, (nch_0 hnc).2] at he
              refine x_V1i h dX7_change_66 m_ml_X7_101 m_im_X7_finding m_se_X7_finding (sM0 hm) rfl (by decide) rfl (c_X7_finding hm (by omega)) ?_
              try simp only [ca_ca, ca_1, dN_ca, wyM_ca, plN_ca, rpN_ca, ltN_ca, pmN_ca, wnN_ca, nbN_ca, ca_07, ca_08, ca_09, ca_010, beN_ca, ctN_ca, gonN_ca, mvN_ca, stN_ca, thN_ca, fnM_ca, tiN_ca, smN_ca]
              exact x_iretq h he dX7_change_69 ⟨rfl, CaE.rf1 fnM_y rfl rfl hf⟩
            · refine x_iload h dX7_change_58 rfl ?_
              refine x_if_ne h dX7_change_60 (tgt := 70) (by decide) (by omega) (fun q60 => ?_) (fun q60 => ?_)
              · have hgd : (0 ≤ p ∧ p < M 1 1) ∧ chGd x v := by unfold chGd; omega
                have hn1 := hI.2.2.2 p (by omega) (by omega)
                have hpm := pmN_R hI (p := p) (by omega)
                refine x_iload_n h dX7_change_70 rfl ?_
                refine x_iconst h dX7_change_71 ?_
                refine x_icmp_ne h dX7_change_72 (tgt := 98) (by decide) (by omega) (by omega) (fun q72 => ?_) (fun q72 => ?_)
                · have hl2 : x = 1 → ltN M p v (pmN M p) := fun z => by first | assumption | omega
                  rw [(nch_2 hgd hl2).1, (nch_2 hgd hl2).2] at he
                  refine x_aload_n h dX7_change_98 rfl ?_
                  refine x_iload_n h dX7_change_99 rfl ?_
                  refine x_iload_n h dX7_change_100 rfl ?_
                  refine x_S2i h dX7_change_101 m_ml_X7_119 m_st_X7_at (by decide) rfl (c_X7_at hm) ?_
                  try simp only [ca_ca, ca_1, dN_ca, wyM_ca, plN_ca, rpN_ca, ltN_ca, pmN_ca, wnN_ca, nbN_ca, ca_07, ca_08, ca_09, ca_010, beN_ca, ctN_ca, gonN_ca, mvN_ca, stN_ca, thN_ca, fnM_ca, tiN_ca, smN_ca]
                  refine x_iload_n h dX7_change_104 rfl ?_
                  refine x_V2i h dX7_change_105 m_ml_X7_89 m_im_X7_become m_se_X7_become (sM0 hm) rfl (by decide) rfl (c_X7_become hm (by omega) (by omega)) ?_
                  try simp only [ca_ca, ca_1, dN_ca, wyM_ca, plN_ca, rpN_ca, ltN_ca, pmN_ca, wnN_ca, nbN_ca, ca_07, ca_08, ca_09, ca_010, beN_ca, ctN_ca, gonN_ca, mvN_ca, stN_ca, thN_ca, fnM_ca, tiN_ca, smN_ca]
                  try simp only [up_ca1, up_ca07, up_ca08, up_ca09, up_ca010, up_10, up_01, up_0709, up_0710, ca_ca, ca_1, dN_ca, wyM_ca, plN_ca, rpN_ca, ltN_ca, pmN_ca, wnN_ca, nbN_ca, ca_07, ca_08, ca_09, ca_010, beN_ca, ctN_ca, gonN_ca, mvN_ca]
                  exact x_iretq h he dX7_change_108 ⟨by first | rfl | (rw [ca_1]), by first | exact CaE.rf1 (wyM_up (by omega)) rfl rfl hf | exact CaE.of1 (wyM_up (by omega)) (by assumption) | exact CaE.of1 fnM_y (by assumption)⟩
                · refine x_aload_n h dX7_change_75 rfl ?_
                  refine x_iload_n h dX7_change_76 rfl ?_
                  refine x_iload_n h dX7_change_77 rfl ?_
                  refine x_aload_n h dX7_change_78 rfl ?_
                  refine x_iload_n h dX7_change_79 rfl ?_
                  refine x_V1i h dX7_change_80 m_ml_X7_157 m_im_X7_placeOfMate m_se_X7_placeOfMate (sM0 hm) rfl (by decide) rfl (c_X7_placeOfMate hm (by exact hI) (by first | omega | (simp only [ca_1]; omega))) ?_
                  try simp only [ca_ca, ca_1, dN_ca, wyM_ca, plN_ca, rpN_ca, ltN_ca, pmN_ca, wnN_ca, nbN_ca, ca_07, ca_08, ca_09, ca_010, beN_ca, ctN_ca, gonN_ca, mvN_ca, stN_ca, thN_ca, fnM_ca, tiN_ca, smN_ca]
                  refine x_Q3i h dX7_change_83 m_ml_X7_160 m_im_X7_lets m_se_X7_lets (sM0 hm) rfl (by decide) rfl (c_X7_lets hm (by exact hI) (by assumption) (by first | omega | (simp only [ca_1]; omega)) (by first | omega | (simp only [ca_1]; omega)) (by first | omega | (simp only [ca_1]; omega))) (fun r83 N83 h83 => ?_)
                  obtain ⟨rfl, f83, d83, rfl, c83⟩ := h83
                  try simp only [ca_ca, ca_1, dN_ca, wyM_ca, plN_ca, rpN_ca, ltN_ca, pmN_ca, wnN_ca, nbN_ca, ca_07, ca_08, ca_09, ca_010, beN_ca, ctN_ca, gonN_ca, mvN_ca, stN_ca, thN_ca, fnM_ca, tiN_ca, smN_ca] at c83 ⊢
                  refine x_ifneB h dX7_change_86 (tgt := 98) (by decide) (fun q86 => ?_) (fun q86 => ?_)
                  · have hl2 : x = 1 → ltN M p v (pmN M p) := fun z => by first | assumption | omega
                    rw [(nch_2 hgd hl2).1, (nch_2 hgd hl2).2] at he
                    refine x_aload_n h dX7_change_98 rfl ?_
                    refine x_iload_n h dX7_change_99 rfl ?_
                    refine x_iload_n h dX7_change_100 rfl ?_
                    refine x_S2i h dX7_change_101 m_ml_X7_119 m_st_X7_at (by decide) rfl (c_X7_at hm) ?_
                    try simp only [ca_ca, ca_1, dN_ca, wyM_ca, plN_ca, rpN_ca, ltN_ca, pmN_ca, wnN_ca, nbN_ca, ca_07, ca_08, ca_09, ca_010, beN_ca, ctN_ca, gonN_ca, mvN_ca, stN_ca, thN_ca, fnM_ca, tiN_ca, smN_ca]
                    refine x_iload_n h dX7_change_104 rfl ?_
                    refine x_V2i h dX7_change_105 m_ml_X7_89 m_im_X7_become m_se_X7_become (sM0 hm) rfl (by decide) rfl (c_X7_become hm (by omega) (by omega)) ?_
                    try simp only [ca_ca, ca_1, dN_ca, wyM_ca, plN_ca, rpN_ca, ltN_ca, pmN_ca, wnN_ca, nbN_ca, ca_07, ca_08, ca_09, ca_010, beN_ca, ctN_ca, gonN_ca, mvN_ca, stN_ca, thN_ca, fnM_ca, tiN_ca, smN_ca]
                    try simp only [up_ca1, up_ca07, up_ca08, up_ca09, up_ca010, up_10, up_01, up_0709, up_0710, ca_ca, ca_1, dN_ca, wyM_ca, plN_ca, rpN_ca, ltN_ca, pmN_ca, wnN_ca, nbN_ca, ca_07, ca_08, ca_09, ca_010, beN_ca, ctN_ca, gonN_ca, mvN_ca]
                    exact x_iretq h he dX7_change_108 ⟨by first | rfl | (rw [ca_1]), by first | exact CaE.rf1 (wyM_up (by omega)) rfl rfl hf | exact CaE.of1 (wyM_up (by omega)) (by assumption) | exact CaE.of1 fnM_y (by assumption)⟩
                  · rw [(nch_1 hgd (by omega) q86).1, (nch_1 hgd (by omega) q86).2] at he
                    refine x_aload_n h dX7_change_89 rfl ?_
                    refine x_ldc h m_k_X7_163 dX7_change_90 ?_
                    refine x_V1i h dX7_change_92 m_ml_X7_101 m_im_X7_finding m_se_X7_finding (sM0 hm) rfl (by decide) rfl (c_X7_finding hm (by omega)) ?_
                    try simp only [ca_ca, ca_1, dN_ca, wyM_ca, plN_ca, rpN_ca, ltN_ca, pmN_ca, wnN_ca, nbN_ca, ca_07, ca_08, ca_09, ca_010, beN_ca, ctN_ca, gonN_ca, mvN_ca, stN_ca, thN_ca, fnM_ca, tiN_ca, smN_ca]
                    refine x_goto h dX7_change_95 (tgt := 108) (by decide) ?_
                    try simp only [up_ca1, up_ca07, up_ca08, up_ca09, up_ca010, up_10, up_01, up_0709, up_0710, ca_ca, ca_1, dN_ca, wyM_ca, plN_ca, rpN_ca, ltN_ca, pmN_ca, wnN_ca, nbN_ca, ca_07, ca_08, ca_09, ca_010, beN_ca, ctN_ca, gonN_ca, mvN_ca]
                    exact x_iretq h he dX7_change_108 ⟨by first | rfl | (rw [ca_1]), by first | exact CaE.rf1 (wyM_up (by omega)) rfl rfl hf | exact CaE.of1 (wyM_up (by omega)) (by assumption) | exact CaE.of1 fnM_y (by assumption)⟩
              · refine x_aload_n h dX7_change_63 rfl ?_
                refine x_ldc h m_k_X7_76 dX7_change_64 ?_
                have hnc : ¬ ((0 ≤ p ∧ p < M 1 1) ∧ chGd x v) := by unfold chGd; omega
                rw [(nch_0 hnc).1, (nch_0 hnc).2] at he
                refine x_V1i h dX7_change_66 m_ml_X7_101 m_im_X7_finding m_se_X7_finding (sM0 hm) rfl (by decide) rfl (c_X7_finding hm (by omega)) ?_
                try simp only [ca_ca, ca_1, dN_ca, wyM_ca, plN_ca, rpN_ca, ltN_ca, pmN_ca, wnN_ca, nbN_ca, ca_07, ca_08, ca_09, ca_010, beN_ca, ctN_ca, gonN_ca, mvN_ca, stN_ca, thN_ca, fnM_ca, tiN_ca, smN_ca]
                exact x_iretq h he dX7_change_69 ⟨rfl, CaE.rf1 fnM_y rfl rfl hf⟩
          · refine x_iconst h dX7_change_43 ?_
            refine x_goto h dX7_change_44 (tgt := 48) (by decide) ?_
            refine x_istore h dX7_change_48 rfl rfl ?_
            dsimp only [xset]
            refine x_aload_n h dX7_change_50 rfl ?_
            refine x_iload_n h dX7_change_51 rfl ?_
            refine x_V1i h dX7_change_52 m_ml_X7_148 m_im_X7_isPerson m_se_X7_isPerson (sM0 hm) rfl (by decide) rfl (c_X7_isPerson hm (by omega) (by omega)) ?_
            try simp only [ca_ca, ca_1, dN_ca, wyM_ca, plN_ca, rpN_ca, ltN_ca, pmN_ca, wnN_ca, nbN_ca, ca_07, ca_08, ca_09, ca_010, beN_ca, ctN_ca, gonN_ca, mvN_ca, stN_ca, thN_ca, fnM_ca, tiN_ca, smN_ca]
            refine x_ifeqB h dX7_change_55 (tgt := 63) (by decide) (fun q55 => ?_) (fun q55 => ?_)
            · refine x_aload_n h dX7_change_63 rfl ?_
              refine x_ldc h m_k_X7_76 dX7_change_64 ?_
              have hnc : ¬ ((0 ≤ p ∧ p < M 1 1) ∧ chGd x v) := by unfold chGd; omega
              rw [(nch_0 hnc).1, (nch_0 hnc).2] at he
              refine x_V1i h dX7_change_66 m_ml_X7_101 m_im_X7_finding m_se_X7_finding (sM0 hm) rfl (by decide) rfl (c_X7_finding hm (by omega)) ?_
              try simp only [ca_ca, ca_1, dN_ca, wyM_ca, plN_ca, rpN_ca, ltN_ca, pmN_ca, wnN_ca, nbN_ca, ca_07, ca_08, ca_09, ca_010, beN_ca, ctN_ca, gonN_ca, mvN_ca, stN_ca, thN_ca, fnM_ca, tiN_ca, smN_ca]
              exact x_iretq h he dX7_change_69 ⟨rfl, CaE.rf1 fnM_y rfl rfl hf⟩
            · refine x_iload h dX7_change_58 rfl ?_
              refine x_if_ne h dX7_change_60 (tgt := 70) (by decide) (by omega) (fun q60 => ?_) (fun q60 => ?_)
              · have hgd : (0 ≤ p ∧ p < M 1 1) ∧ chGd x v := by unfold chGd; omega
                have hn1 := hI.2.2.2 p (by omega) (by omega)
                have hpm := pmN_R hI (p := p) (by omega)
                refine x_iload_n h dX7_change_70 rfl ?_
                refine x_iconst h dX7_change_71 ?_
                refine x_icmp_ne h dX7_change_72 (tgt := 98) (by decide) (by omega) (by omega) (fun q72 => ?_) (fun q72 => ?_)
                · have hl2 : x = 1 → ltN M p v (pmN M p) := fun z => by first | assumption | omega
                  rw [(nch_2 hgd hl2).1, (nch_2 hgd hl2).2] at he
                  refine x_aload_n h dX7_change_98 rfl ?_
                  refine x_iload_n h dX7_change_99 rfl ?_
                  refine x_iload_n h dX7_change_100 rfl ?_
                  refine x_S2i h dX7_change_101 m_ml_X7_119 m_st_X7_at (by decide) rfl (c_X7_at hm) ?_
                  try simp only [ca_ca, ca_1, dN_ca, wyM_ca, plN_ca, rpN_ca, ltN_ca, pmN_ca, wnN_ca, nbN_ca, ca_07, ca_08, ca_09, ca_010, beN_ca, ctN_ca, gonN_ca, mvN_ca, stN_ca, thN_ca, fnM_ca, tiN_ca, smN_ca]
                  refine x_iload_n h dX7_change_104 rfl ?_
                  refine x_V2i h dX7_change_105 m_ml_X7_89 m_im_X7_become m_se_X7_become (sM0 hm) rfl (by decide) rfl (c_X7_become hm (by omega) (by omega)) ?_
                  try simp only [ca_ca, ca_1, dN_ca, wyM_ca, plN_ca, rpN_ca, ltN_ca, pmN_ca, wnN_ca, nbN_ca, ca_07, ca_08, ca_09, ca_010, beN_ca, ctN_ca, gonN_ca, mvN_ca, stN_ca, thN_ca, fnM_ca, tiN_ca, smN_ca]
                  try simp only [up_ca1, up_ca07, up_ca08, up_ca09, up_ca010, up_10, up_01, up_0709, up_0710, ca_ca, ca_1, dN_ca, wyM_ca, plN_ca, rpN_ca, ltN_ca, pmN_ca, wnN_ca, nbN_ca, ca_07, ca_08, ca_09, ca_010, beN_ca, ctN_ca, gonN_ca, mvN_ca]
                  exact x_iretq h he dX7_change_108 ⟨by first | rfl | (rw [ca_1]), by first | exact CaE.rf1 (wyM_up (by omega)) rfl rfl hf | exact CaE.of1 (wyM_up (by omega)) (by assumption) | exact CaE.of1 fnM_y (by assumption)⟩
                · refine x_aload_n h dX7_change_75 rfl ?_
                  refine x_iload_n h dX7_change_76 rfl ?_
                  refine x_iload_n h dX7_change_77 rfl ?_
                  refine x_aload_n h dX7_change_78 rfl ?_
                  refine x_iload_n h dX7_change_79 rfl ?_
                  refine x_V1i h dX7_change_80 m_ml_X7_157 m_im_X7_placeOfMate m_se_X7_placeOfMate (sM0 hm) rfl (by decide) rfl (c_X7_placeOfMate hm (by exact hI) (by first | omega | (simp only [ca_1]; omega))) ?_
                  try simp only [ca_ca, ca_1, dN_ca, wyM_ca, plN_ca, rpN_ca, ltN_ca, pmN_ca, wnN_ca, nbN_ca, ca_07, ca_08, ca_09, ca_010, beN_ca, ctN_ca, gonN_ca, mvN_ca, stN_ca, thN_ca, fnM_ca, tiN_ca, smN_ca]
                  refine x_Q3i h dX7_change_83 m_ml_X7_160 m_im_X7_lets m_se_X7_lets (sM0 hm) rfl (by decide) rfl (c_X7_lets hm (by exact hI) (by assumption) (by first | omega | (simp only [ca_1]; omega)) (by first | omega | (simp only [ca_1]; omega)) (by first | omega | (simp only [ca_1]; omega))) (fun r83 N83 h83 => ?_)
                  obtain ⟨rfl, f83, d83, rfl, c83⟩ := h83
                  try simp only [ca_ca, ca_1, dN_ca, wyM_ca, plN_ca, rpN_ca, ltN_ca, pmN_ca, wnN_ca, nbN_ca, ca_07, ca_08, ca_09, ca_010, beN_ca, ctN_ca, gonN_ca, mvN_ca, stN_ca, thN_ca, fnM_ca, tiN_ca, smN_ca] at c83 ⊢
                  refine x_ifneB h dX7_change_86 (tgt := 98) (by decide) (fun q86 => ?_) (fun q86 => ?_)
                  · have hl2 : x = 1 → ltN M p v (pmN M p) := fun z => by first | assumption | omega
                    rw [(nch_2 hgd hl2).1, (nch_2 hgd hl2).2] at he
                    refine x_aload_n h dX7_change_98 rfl ?_
                    refine x_iload_n h dX7_change_99 rfl ?_
                    refine x_iload_n h dX7_change_100 rfl ?_
                    refine x_S2i h dX7_change_101 m_ml_X7_119 m_st_X7_at (by decide) rfl (c_X7_at hm) ?_
                    try simp only [ca_ca, ca_1, dN_ca, wyM_ca, plN_ca, rpN_ca, ltN_ca, pmN_ca, wnN_ca, nbN_ca, ca_07, ca_08, ca_09, ca_010, beN_ca, ctN_ca, gonN_ca, mvN_ca, stN_ca, thN_ca, fnM_ca, tiN_ca, smN_ca]
                    refine x_iload_n h dX7_change_104 rfl ?_
                    refine x_V2i h dX7_change_105 m_ml_X7_89 m_im_X7_become m_se_X7_become (sM0 hm) rfl (by decide) rfl (c_X7_become hm (by omega) (by omega)) ?_
                    try simp only [ca_ca, ca_1, dN_ca, wyM_ca, plN_ca, rpN_ca, ltN_ca, pmN_ca, wnN_ca, nbN_ca, ca_07, ca_08, ca_09, ca_010, beN_ca, ctN_ca, gonN_ca, mvN_ca, stN_ca, thN_ca, fnM_ca, tiN_ca, smN_ca]
                    try simp only [up_ca1, up_ca07, up_ca08, up_ca09, up_ca010, up_10, up_01, up_0709, up_0710, ca_ca, ca_1, dN_ca, wyM_ca, plN_ca, rpN_ca, ltN_ca, pmN_ca, wnN_ca, nbN_ca, ca_07, ca_08, ca_09, ca_010, beN_ca, ctN_ca, gonN_ca, mvN_ca]
                    exact x_iretq h he dX7_change_108 ⟨by first | rfl | (rw [ca_1]), by first | exact CaE.rf1 (wyM_up (by omega)) rfl rfl hf | exact CaE.of1 (wyM_up (by omega)) (by assumption) | exact CaE.of1 fnM_y (by assumption)⟩
                  · rw [(nch_1 hgd (by omega) q86).1, (nch_1 hgd (by omega) q86).2] at he
                    refine x_aload_n h dX7_change_89 rfl ?_
                    refine x_ldc h m_k_X7_163 dX7_change_90 ?_
                    refine x_V1i h dX7_change_92 m_ml_X7_101 m_im_X7_finding m_se_X7_finding (sM0 hm) rfl (by decide) rfl (c_X7_finding hm (by omega)) ?_
                    try simp only [ca_ca, ca_1, dN_ca, wyM_ca, plN_ca, rpN_ca, ltN_ca, pmN_ca, wnN_ca, nbN_ca, ca_07, ca_08, ca_09, ca_010, beN_ca, ctN_ca, gonN_ca, mvN_ca, stN_ca, thN_ca, fnM_ca, tiN_ca, smN_ca]
                    refine x_goto h dX7_change_95 (tgt := 108) (by decide) ?_
                    try simp only [up_ca1, up_ca07, up_ca08, up_ca09, up_ca010, up_10, up_01, up_0709, up_0710, ca_ca, ca_1, dN_ca, wyM_ca, plN_ca, rpN_ca, ltN_ca, pmN_ca, wnN_ca, nbN_ca, ca_07, ca_08, ca_09, ca_010, beN_ca, ctN_ca, gonN_ca, mvN_ca]
                    exact x_iretq h he dX7_change_108 ⟨by first | rfl | (rw [ca_1]), by first | exact CaE.rf1 (wyM_up (by omega)) rfl rfl hf | exact CaE.of1 (wyM_up (by omega)) (by assumption) | exact CaE.of1 fnM_y (by assumption)⟩
              · refine x_aload_n h dX7_change_63 rfl ?_
                refine x_ldc h m_k_X7_76 dX7_change_64 ?_
                have hnc : ¬ ((0 ≤ p ∧ p < M 1 1) ∧ chGd x v) := by unfold chGd; omega
                rw [(nch_0 hnc).1, (nch_0 hnc).2] at he
                refine x_V1i h dX7_change_66 m_ml_X7_101 m_im_X7_finding m_se_X7_finding (sM0 hm) rfl (by decide) rfl (c_X7_finding hm (by omega)) ?_
                try simp only [ca_ca, ca_1, dN_ca, wyM_ca, plN_ca, rpN_ca, ltN_ca, pmN_ca, wnN_ca, nbN_ca, ca_07, ca_08, ca_09, ca_010, beN_ca, ctN_ca, gonN_ca, mvN_ca, stN_ca, thN_ca, fnM_ca, tiN_ca, smN_ca]
                exact x_iretq h he dX7_change_69 ⟨rfl, CaE.rf1 fnM_y rfl rfl hf⟩
      · refine x_iload_n h dX7_change_21 rfl ?_
        refine x_S1i h dX7_change_22 m_ml_X7_93 m_st_X7_isPlace (by decide) rfl (c_X7_isPlace hm (by omega)) ?_
        try simp only [ca_ca, ca_1, dN_ca, wyM_ca, plN_ca, rpN_ca, ltN_ca, pmN_ca, wnN_ca, nbN_ca, ca_07, ca_08, ca_09, ca_010, beN_ca, ctN_ca, gonN_ca, mvN_ca, stN_ca, thN_ca, fnM_ca, tiN_ca, smN_ca]
        refine x_ifneB h dX7_change_25 (tgt := 43) (by decide) (fun q25 => ?_) (fun q25 => ?_)
        · refine x_iconst h dX7_change_43 ?_
          refine x_goto h dX7_change_44 (tgt := 48) (by decide) ?_
          refine x_istore h dX7_change_48 rfl rfl ?_
          dsimp only [xset]
          refine x_aload_n h dX7_change_50 rfl ?_
          refine x_iload_n h dX7_change_51 rfl ?_
          refine x_V1i h dX7_change_52 m_ml_X7_148 m_im_X7_isPerson m_se_X7_isPerson (sM0 hm) rfl (by decide) rfl (c_X7_isPerson hm (by omega) (by omega)) ?_
          try simp only [ca_ca, ca_1, dN_ca, wyM_ca, plN_ca, rpN_ca, ltN_ca, pmN_ca, wnN_ca, nbN_ca, ca_07, ca_08, ca_09, ca_010, beN_ca, ctN_ca, gonN_ca, mvN_ca, stN_ca, thN_ca, fnM_ca, tiN_ca, smN_ca]
          refine x_ifeqB h dX7_change_55 (tgt := 63) (by decide) (fun q55 => ?_) (fun q55 => ?_)
          · refine x_aload_n h dX7_change_63 rfl ?_
            refine x_ldc h m_k_X7_76 dX7_change_64 ?_
            have hnc : ¬ ((0 ≤ p ∧ p < M 1 1) ∧ chGd x v) := by unfold chGd; omega
            rw [(nch_0 hnc).1, (nch_0 hnc).2] at he
            refine x_V1i h dX7_change_66 m_ml_X7_101 m_im_X7_finding m_se_X7_finding (sM0 hm) rfl (by decide) rfl (c_X7_finding hm (by omega)) ?_
            try simp only [ca_ca, ca_1, dN_ca, wyM_ca, plN_ca, rpN_ca, ltN_ca, pmN_ca, wnN_ca, nbN_ca, ca_07, ca_08, ca_09, ca_010, beN_ca, ctN_ca, gonN_ca, mvN_ca, stN_ca, thN_ca, fnM_ca, tiN_ca, smN_ca]
            exact x_iretq h he dX7_change_69 ⟨rfl, CaE.rf1 fnM_y rfl rfl hf⟩
          · refine x_iload h dX7_change_58 rfl ?_
            refine x_if_ne h dX7_change_60 (tgt := 70) (by decide) (by omega) (fun q60 => ?_) (fun q60 => ?_)
            · have hgd : (0 ≤ p ∧ p < M 1 1) ∧ chGd x v := by unfold chGd; omega
              have hn1 := hI.2.2.2 p (by omega) (by omega)
              have hpm := pmN_R hI (p := p) (by omega)
              refine x_iload_n h dX7_change_70 rfl ?_
              refine x_iconst h dX7_change_71 ?_
              refine x_icmp_ne h dX7_change_72 (tgt := 98) (by decide) (by omega) (by omega) (fun q72 => ?_) (fun q72 => ?_)
              · have hl2 : x = 1 → ltN M p v (pmN M p) := fun z => by first | assumption | omega
                rw [(nch_2 hgd hl2).1, (nch_2 hgd hl2).2] at he
                refine x_aload_n h dX7_change_98 rfl ?_
                refine x_iload_n h dX7_change_99 rfl ?_
                refine x_iload_n h dX7_change_100 rfl ?_
                refine x_S2i h dX7_change_101 m_ml_X7_119 m_st_X7_at (by decide) rfl (c_X7_at hm) ?_
                try simp only [ca_ca, ca_1, dN_ca, wyM_ca, plN_ca, rpN_ca, ltN_ca, pmN_ca, wnN_ca, nbN_ca, ca_07, ca_08, ca_09, ca_010, beN_ca, ctN_ca, gonN_ca, mvN_ca, stN_ca, thN_ca, fnM_ca, tiN_ca, smN_ca]
                refine x_iload_n h dX7_change_104 rfl ?_
                refine x_V2i h dX7_change_105 m_ml_X7_89 m_im_X7_become m_se_X7_become (sM0 hm) rfl (by decide) rfl (c_X7_become hm (by omega) (by omega)) ?_
                try simp only [ca_ca, ca_1, dN_ca, wyM_ca, plN_ca, rpN_ca, ltN_ca, pmN_ca, wnN_ca, nbN_ca, ca_07, ca_08, ca_09, ca_010, beN_ca, ctN_ca, gonN_ca, mvN_ca, stN_ca, thN_ca, fnM_ca, tiN_ca, smN_ca]
                try simp only [up_ca1, up_ca07, up_ca08, up_ca09, up_ca010, up_10, up_01, up_0709, up_0710, ca_ca, ca_1, dN_ca, wyM_ca, plN_ca, rpN_ca, ltN_ca, pmN_ca, wnN_ca, nbN_ca, ca_07, ca_08, ca_09, ca_010, beN_ca, ctN_ca, gonN_ca, mvN_ca]
                exact x_iretq h he dX7_change_108 ⟨by first | rfl | (rw [ca_1]), by first | exact CaE.rf1 (wyM_up (by omega)) rfl rfl hf | exact CaE.of1 (wyM_up (by omega)) (by assumption) | exact CaE.of1 fnM_y (by assumption)⟩
              · refine x_aload_n h dX7_change_75 rfl ?_
                refine x_iload_n h dX7_change_76 rfl ?_
                refine x_iload_n h dX7_change_77 rfl ?_
                refine x_aload_n h dX7_change_78 rfl ?_
                refine x_iload_n h dX7_change_79 rfl ?_
                refine x_V1i h dX7_change_80 m_ml_X7_157 m_im_X7_placeOfMate m_se_X7_placeOfMate (sM0 hm) rfl (by decide) rfl (c_X7_placeOfMate hm (by exact hI) (by first | omega | (simp only [ca_1]; omega))) ?_
                try simp only [ca_ca, ca_1, dN_ca, wyM_ca, plN_ca, rpN_ca, ltN_ca, pmN_ca, wnN_ca, nbN_ca, ca_07, ca_08, ca_09, ca_010, beN_ca, ctN_ca, gonN_ca, mvN_ca, stN_ca, thN_ca, fnM_ca, tiN_ca, smN_ca]
                refine x_Q3i h dX7_change_83 m_ml_X7_160 m_im_X7_lets m_se_X7_lets (sM0 hm) rfl (by decide) rfl (c_X7_lets hm (by exact hI) (by assumption) (by first | omega | (simp only [ca_1]; omega)) (by first | omega | (simp only [ca_1]; omega)) (by first | omega | (simp only [ca_1]; omega))) (fun r83 N83 h83 => ?_)
                obtain ⟨rfl, f83, d83, rfl, c83⟩ := h83
                try simp only [ca_ca, ca_1, dN_ca, wyM_ca, plN_ca, rpN_ca, ltN_ca, pmN_ca, wnN_ca, nbN_ca, ca_07, ca_08, ca_09, ca_010, beN_ca, ctN_ca, gonN_ca, mvN_ca, stN_ca, thN_ca, fnM_ca, tiN_ca, smN_ca] at c83 ⊢
                refine x_ifneB h dX7_change_86 (tgt := 98) (by decide) (fun q86 => ?_) (fun q86 => ?_)
                · have hl2 : x = 1 → ltN M p v (pmN M p) := fun z => by first | assumption | omega
                  rw [(nch_2 hgd hl2).1, (nch_2 hgd hl2).2] at he
                  refine x_aload_n h dX7_change_98 rfl ?_
                  refine x_iload_n h dX7_change_99 rfl ?_
                  refine x_iload_n h dX7_change_100 rfl ?_
                  refine x_S2i h dX7_change_101 m_ml_X7_119 m_st_X7_at (by decide) rfl (c_X7_at hm) ?_
                  try simp only [ca_ca, ca_1, dN_ca, wyM_ca, plN_ca, rpN_ca, ltN_ca, pmN_ca, wnN_ca, nbN_ca, ca_07, ca_08, ca_09, ca_010, beN_ca, ctN_ca, gonN_ca, mvN_ca, stN_ca, thN_ca, fnM_ca, tiN_ca, smN_ca]
                  refine x_iload_n h dX7_change_104 rfl ?_
                  refine x_V2i h dX7_change_105 m_ml_X7_89 m_im_X7_become m_se_X7_become (sM0 hm) rfl (by decide) rfl (c_X7_become hm (by omega) (by omega)) ?_
                  try simp only [ca_ca, ca_1, dN_ca, wyM_ca, plN_ca, rpN_ca, ltN_ca, pmN_ca, wnN_ca, nbN_ca, ca_07, ca_08, ca_09, ca_010, beN_ca, ctN_ca, gonN_ca, mvN_ca, stN_ca, thN_ca, fnM_ca, tiN_ca, smN_ca]
                  try simp only [up_ca1, up_ca07, up_ca08, up_ca09, up_ca010, up_10, up_01, up_0709, up_0710, ca_ca, ca_1, dN_ca, wyM_ca, plN_ca, rpN_ca, ltN_ca, pmN_ca, wnN_ca, nbN_ca, ca_07, ca_08, ca_09, ca_010, beN_ca, ctN_ca, gonN_ca, mvN_ca]
                  exact x_iretq h he dX7_change_108 ⟨by first | rfl | (rw [ca_1]), by first | exact CaE.rf1 (wyM_up (by omega)) rfl rfl hf | exact CaE.of1 (wyM_up (by omega)) (by assumption) | exact CaE.of1 fnM_y (by assumption)⟩
                · rw [(nch_1 hgd (by omega) q86).1, (nch_1 hgd (by omega) q86).2] at he
                  refine x_aload_n h dX7_change_89 rfl ?_
                  refine x_ldc h m_k_X7_163 dX7_change_90 ?_
                  refine x_V1i h dX7_change_92 m_ml_X7_101 m_im_X7_finding m_se_X7_finding (sM0 hm) rfl (by decide) rfl (c_X7_finding hm (by omega)) ?_
                  try simp only [ca_ca, ca_1, dN_ca, wyM_ca, plN_ca, rpN_ca, ltN_ca, pmN_ca, wnN_ca, nbN_ca, ca_07, ca_08, ca_09, ca_010, beN_ca, ctN_ca, gonN_ca, mvN_ca, stN_ca, thN_ca, fnM_ca, tiN_ca, smN_ca]
                  refine x_goto h dX7_change_95 (tgt := 108) (by decide) ?_
                  try simp only [up_ca1, up_ca07, up_ca08, up_ca09, up_ca010, up_10, up_01, up_0709, up_0710, ca_ca, ca_1, dN_ca, wyM_ca, plN_ca, rpN_ca, ltN_ca, pmN_ca, wnN_ca, nbN_ca, ca_07, ca_08, ca_09, ca_010, beN_ca, ctN_ca, gonN_ca, mvN_ca]
                  exact x_iretq h he dX7_change_108 ⟨by first | rfl | (rw [ca_1]), by first | exact CaE.rf1 (wyM_up (by omega)) rfl rfl hf | exact CaE.of1 (wyM_up (by omega)) (by assumption) | exact CaE.of1 fnM_y (by assumption)⟩
            · refine x_aload_n h dX7_change_63 rfl ?_
              refine x_ldc h m_k_X7_76 dX7_change_64 ?_
              have hnc : ¬ ((0 ≤ p ∧ p < M 1 1) ∧ chGd x v) := by unfold chGd; omega
              rw [(nch_0 hnc).1, (nch_0 hnc).2] at he
              refine x_V1i h dX7_change_66 m_ml_X7_101 m_im_X7_finding m_se_X7_finding (sM0 hm) rfl (by decide) rfl (c_X7_finding hm (by omega)) ?_
              try simp only [ca_ca, ca_1, dN_ca, wyM_ca, plN_ca, rpN_ca, ltN_ca, pmN_ca, wnN_ca, nbN_ca, ca_07, ca_08, ca_09, ca_010, beN_ca, ctN_ca, gonN_ca, mvN_ca, stN_ca, thN_ca, fnM_ca, tiN_ca, smN_ca]
              exact x_iretq h he dX7_change_69 ⟨rfl, CaE.rf1 fnM_y rfl rfl hf⟩
        · refine x_iload_n h dX7_change_28 rfl ?_
          refine x_iconst h dX7_change_29 ?_
          refine x_icmp_ne h dX7_change_30 (tgt := 47) (by decide) (by omega) (by omega) (fun q30 => ?_) (fun q30 => ?_)
          · refine x_iconst h dX7_change_47 ?_
            refine x_istore h dX7_change_48 rfl rfl ?_
            dsimp only [xset]
            refine x_aload_n h dX7_change_50 rfl ?_
            refine x_iload_n h dX7_change_51 rfl ?_
            refine x_V1i h dX7_change_52 m_ml_X7_148 m_im_X7_isPerson m_se_X7_isPerson (sM0 hm) rfl (by decide) rfl (c_X7_isPerson hm (by omega) (by omega)) ?_
            try simp only [ca_ca, ca_1, dN_ca, wyM_ca, plN_ca, rpN_ca, ltN_ca, pmN_ca, wnN_ca, nbN_ca, ca_07, ca_08, ca_09, ca_010, beN_ca, ctN_ca, gonN_ca, mvN_ca, stN_ca, thN_ca, fnM_ca, tiN_ca, smN_ca]
            refine x_ifeqB h dX7_change_55 (tgt := 63) (by decide) (fun q55 => ?_) (fun q55 => ?_)
            · refine x_aload_n h dX7_change_63 rfl ?_
              refine x_ldc h m_k_X7_76 dX7_change_64 ?_
              have hnc : ¬ ((0 ≤ p ∧ p < M 1 1) ∧ chGd x v) := by unfold chGd; omega
              rw [(nch_0 hnc).1, (nch_0 hnc).2] at he
              refine x_V1i h dX7_change_66 m_ml_X7_101 m_im_X7_finding m_se_X7_finding (sM0 hm) rfl (by decide) rfl (c_X7_finding hm (by omega)) ?_
              try simp only [ca_ca, ca_1, dN_ca, wyM_ca, plN_ca, rpN_ca, ltN_ca, pmN_ca, wnN_ca, nbN_ca, ca_07, ca_08, ca_09, ca_010, beN_ca, ctN_ca, gonN_ca, mvN_ca, stN_ca, thN_ca, fnM_ca, tiN_ca, smN_ca]
              exact x_iretq h he dX7_change_69 ⟨rfl, CaE.rf1 fnM_y rfl rfl hf⟩
            · refine x_iload h dX7_change_58 rfl ?_
              refine x_if_ne h dX7_change_60 (tgt := 70) (by decide) (by omega) (fun q60 => ?_) (fun q60 => ?_)
              · have hgd : (0 ≤ p ∧ p < M 1 1) ∧ chGd x v := by unfold chGd; omega
                have hn1 := hI.2.2.2 p (by omega) (by omega)
                have hpm := pmN_R hI (p := p) (by omega)
                refine x_iload_n h dX7_change_70 rfl ?_
                refine x_iconst h dX7_change_71 ?_
                refine x_icmp_ne h dX7_change_72 (tgt := 98) (by decide) (by omega) (by omega) (fun q72 => ?_) (fun q72 => ?_)
                · have hl2 : x = 1 → ltN M p v (pmN M p) := fun z => by first | assumption | omega
                  rw [(nch_2 hgd hl2).1, (nch_2 hgd hl2).2] at he
                  refine x_aload_n h dX7_change_98 rfl ?_
                  refine x_iload_n h dX7_change_99 rfl ?_
                  refine x_iload_n h dX7_change_100 rfl ?_
                  refine x_S2i h dX7_change_101 m_ml_X7_119 m_st_X7_at (by decide) rfl (c_X7_at hm) ?_
                  try simp only [ca_ca, ca_1, dN_ca, wyM_ca, plN_ca, rpN_ca, ltN_ca, pmN_ca, wnN_ca, nbN_ca, ca_07, ca_08, ca_09, ca_010, beN_ca, ctN_ca, gonN_ca, mvN_ca, stN_ca, thN_ca, fnM_ca, tiN_ca, smN_ca]
                  refine x_iload_n h dX7_change_104 rfl ?_
                  refine x_V2i h dX7_change_105 m_ml_X7_89 m_im_X7_become m_se_X7_become (sM0 hm) rfl (by decide) rfl (c_X7_become hm (by omega) (by omega)) ?_
                  try simp only [ca_ca, ca_1, dN_ca, wyM_ca, plN_ca, rpN_ca, ltN_ca, pmN_ca, wnN_ca, nbN_ca, ca_07, ca_08, ca_09, ca_010, beN_ca, ctN_ca, gonN_ca, mvN_ca, stN_ca, thN_ca, fnM_ca, tiN_ca, smN_ca]
                  try simp only [up_ca1, up_ca07, up_ca08, up_ca09, up_ca010, up_10, up_01, up_0709, up_0710, ca_ca, ca_1, dN_ca, wyM_ca, plN_ca, rpN_ca, ltN_ca, pmN_ca, wnN_ca, nbN_ca, ca_07, ca_08, ca_09, ca_010, beN_ca, ctN_ca, gonN_ca, mvN_ca]
                  exact x_iretq h he dX7_change_108 ⟨by first | rfl | (rw [ca_1]), by first | exact CaE.rf1 (wyM_up (by omega)) rfl rfl hf | exact CaE.of1 (wyM_up (by omega)) (by assumption) | exact CaE.of1 fnM_y (by assumption)⟩
                · refine x_aload_n h dX7_change_75 rfl ?_
                  refine x_iload_n h dX7_change_76 rfl ?_
                  refine x_iload_n h dX7_change_77 rfl ?_
                  refine x_aload_n h dX7_change_78 rfl ?_
                  refine x_iload_n h dX7_change_79 rfl ?_
                  refine x_V1i h dX7_change_80 m_ml_X7_157 m_im_X7_placeOfMate m_se_X7_placeOfMate (sM0 hm) rfl (by decide) rfl (c_X7_placeOfMate hm (by exact hI) (by first | omega | (simp only [ca_1]; omega))) ?_
                  try simp only [ca_ca, ca_1, dN_ca, wyM_ca, plN_ca, rpN_ca, ltN_ca, pmN_ca, wnN_ca, nbN_ca, ca_07, ca_08, ca_09, ca_010, beN_ca, ctN_ca, gonN_ca, mvN_ca, stN_ca, thN_ca, fnM_ca, tiN_ca, smN_ca]
                  refine x_Q3i h dX7_change_83 m_ml_X7_160 m_im_X7_lets m_se_X7_lets (sM0 hm) rfl (by decide) rfl (c_X7_lets hm (by exact hI) (by assumption) (by first | omega | (simp only [ca_1]; omega)) (by first | omega | (simp only [ca_1]; omega)) (by first | omega | (simp only [ca_1]; omega))) (fun r83 N83 h83 => ?_)
                  obtain ⟨rfl, f83, d83, rfl, c83⟩ := h83
                  try simp only [ca_ca, ca_1, dN_ca, wyM_ca, plN_ca, rpN_ca, ltN_ca, pmN_ca, wnN_ca, nbN_ca, ca_07, ca_08, ca_09, ca_010, beN_ca, ctN_ca, gonN_ca, mvN_ca, stN_ca, thN_ca, fnM_ca, tiN_ca, smN_ca] at c83 ⊢
                  refine x_ifneB h dX7_change_86 (tgt := 98) (by decide) (fun q86 => ?_) (fun q86 => ?_)
                  · have hl2 : x = 1 → ltN M p v (pmN M p) := fun z => by first | assumption | omega
                    rw [(nch_2 hgd hl2).1, (nch_2 hgd hl2).2] at he
                    refine x_aload_n h dX7_change_98 rfl ?_
                    refine x_iload_n h dX7_change_99 rfl ?_
                    refine x_iload_n h dX7_change_100 rfl ?_
                    refine x_S2i h dX7_change_101 m_ml_X7_119 m_st_X7_at (by decide) rfl (c_X7_at hm) ?_
                    try simp only [ca_ca, ca_1, dN_ca, wyM_ca, plN_ca, rpN_ca, ltN_ca, pmN_ca, wnN_ca, nbN_ca, ca_07, ca_08, ca_09, ca_010, beN_ca, ctN_ca, gonN_ca, mvN_ca, stN_ca, thN_ca, fnM_ca, tiN_ca, smN_ca]
                    refine x_iload_n h dX7_change_104 rfl ?_
                    refine x_V2i h dX7_change_105 m_ml_X7_89 m_im_X7_become m_se_X7_become (sM0 hm) rfl (by decide) rfl (c_X7_become hm (by omega) (by omega)) ?_
                    try simp only [ca_ca, ca_1, dN_ca, wyM_ca, plN_ca, rpN_ca, ltN_ca, pmN_ca, wnN_ca, nbN_ca, ca_07, ca_08, ca_09, ca_010, beN_ca, ctN_ca, gonN_ca, mvN_ca, stN_ca, thN_ca, fnM_ca, tiN_ca, smN_ca]
                    try simp only [up_ca1, up_ca07, up_ca08, up_ca09, up_ca010, up_10, up_01, up_0709, up_0710, ca_ca, ca_1, dN_ca, wyM_ca, plN_ca, rpN_ca, ltN_ca, pmN_ca, wnN_ca, nbN_ca, ca_07, ca_08, ca_09, ca_010, beN_ca, ctN_ca, gonN_ca, mvN_ca]
                    exact x_iretq h he dX7_change_108 ⟨by first | rfl | (rw [ca_1]), by first | exact CaE.rf1 (wyM_up (by omega)) rfl rfl hf | exact CaE.of1 (wyM_up (by omega)) (by assumption) | exact CaE.of1 fnM_y (by assumption)⟩
                  · rw [(nch_1 hgd (by omega) q86).1, (nch_1 hgd (by omega) q86).2] at he
                    refine x_aload_n h dX7_change_89 rfl ?_
                    refine x_ldc h m_k_X7_163 dX7_change_90 ?_
                    refine x_V1i h dX7_change_92 m_ml_X7_101 m_im_X7_finding m_se_X7_finding (sM0 hm) rfl (by decide) rfl (c_X7_finding hm (by omega)) ?_
                    try simp only [ca_ca, ca_1, dN_ca, wyM_ca, plN_ca, rpN_ca, ltN_ca, pmN_ca, wnN_ca, nbN_ca, ca_07, ca_08, ca_09, ca_010, beN_ca, ctN_ca, gonN_ca, mvN_ca, stN_ca, thN_ca, fnM_ca, tiN_ca, smN_ca]
                    refine x_goto h dX7_change_95 (tgt := 108) (by decide) ?_
                    try simp only [up_ca1, up_ca07, up_ca08, up_ca09, up_ca010, up_10, up_01, up_0709, up_0710, ca_ca, ca_1, dN_ca, wyM_ca, plN_ca, rpN_ca, ltN_ca, pmN_ca, wnN_ca, nbN_ca, ca_07, ca_08, ca_09, ca_010, beN_ca, ctN_ca, gonN_ca, mvN_ca]
                    exact x_iretq h he dX7_change_108 ⟨by first | rfl | (rw [ca_1]), by first | exact CaE.rf1 (wyM_up (by omega)) rfl rfl hf | exact CaE.of1 (wyM_up (by omega)) (by assumption) | exact CaE.of1 fnM_y (by assumption)⟩
              · refine x_aload_n h dX7_change_63 rfl ?_
                refine x_ldc h m_k_X7_76 dX7_change_64 ?_
                have hnc : ¬ ((0 ≤ p ∧ p < M 1 1) ∧ chGd x v) := by unfold chGd; omega
                rw [(nch_0 hnc).1, (nch_0 hnc).2] at he
                refine x_V1i h dX7_change_66 m_ml_X7_101 m_im_X7_finding m_se_X7_finding (sM0 hm) rfl (by decide) rfl (c_X7_finding hm (by omega)) ?_
                try simp only [ca_ca, ca_1, dN_ca, wyM_ca, plN_ca, rpN_ca, ltN_ca, pmN_ca, wnN_ca, nbN_ca, ca_07, ca_08, ca_09, ca_010, beN_ca, ctN_ca, gonN_ca, mvN_ca, stN_ca, thN_ca, fnM_ca, tiN_ca, smN_ca]
                exact x_iretq h he dX7_change_69 ⟨rfl, CaE.rf1 fnM_y rfl rfl hf⟩
          · refine x_iload_n h dX7_change_33 rfl ?_
            refine x_iconst h dX7_change_34 ?_
            refine x_bipush h dX7_change_35 (by decide) ?_
            refine x_S3i h dX7_change_37 m_ml_X7_81 m_st_X7_within (by decide) rfl (c_X7_within hm (by omega) (by omega) (by omega)) ?_
            try simp only [ca_ca, ca_1, dN_ca, wyM_ca, plN_ca, rpN_ca, ltN_ca, pmN_ca, wnN_ca, nbN_ca, ca_07, ca_08, ca_09, ca_010, beN_ca, ctN_ca, gonN_ca, mvN_ca, stN_ca, thN_ca, fnM_ca, tiN_ca, smN_ca]
            refine x_ifeqB h dX7_change_40 (tgt := 47) (by decide) (fun q40 => ?_) (fun q40 => ?_)
            · refine x_iconst h dX7_change_47 ?_
              refine x_istore h dX7_change_48 rfl rfl ?_
              dsimp only [xset]
              refine x_aload_n h dX7_change_50 rfl ?_
              refine x_iload_n h dX7_change_51 rfl ?_
              refine x_V1i h dX7_change_52 m_ml_X7_148 m_im_X7_isPerson m_se_X7_isPerson (sM0 hm) rfl (by decide) rfl (c_X7_isPerson hm (by omega) (by omega)) ?_
              try simp only [ca_ca, ca_1, dN_ca, wyM_ca, plN_ca, rpN_ca, ltN_ca, pmN_ca, wnN_ca, nbN_ca, ca_07, ca_08, ca_09, ca_010, beN_ca, ctN_ca, gonN_ca, mvN_ca, stN_ca, thN_ca, fnM_ca, tiN_ca, smN_ca]
              refine x_ifeqB h dX7_change_55 (tgt := 63) (by decide) (fun q55 => ?_) (fun q55 => ?_)
              · refine x_aload_n h dX7_change_63 rfl ?_
                refine x_ldc h m_k_X7_76 dX7_change_64 ?_
                have hnc : ¬ ((0 ≤ p ∧ p < M 1 1) ∧ chGd x v) := by unfold chGd; omega
                rw [(nch_0 hnc).1, (nch_0 hnc).2] at he
                refine x_V1i h dX7_change_66 m_ml_X7_101 m_im_X7_finding m_se_X7_finding (sM0 hm) rfl (by decide) rfl (c_X7_finding hm (by omega)) ?_
                try simp only [ca_ca, ca_1, dN_ca, wyM_ca, plN_ca, rpN_ca, ltN_ca, pmN_ca, wnN_ca, nbN_ca, ca_07, ca_08, ca_09, ca_010, beN_ca, ctN_ca, gonN_ca, mvN_ca, stN_ca, thN_ca, fnM_ca, tiN_ca, smN_ca]
                exact x_iretq h he dX7_change_69 ⟨rfl, CaE.rf1 fnM_y rfl rfl hf⟩
              · refine x_iload h dX7_change_58 rfl ?_
                refine x_if_ne h dX7_change_60 (tgt := 70) (by decide) (by omega) (fun q60 => ?_) (fun q60 => ?_)
                · have hgd : (0 ≤ p ∧ p < M 1 1) ∧ chGd x v := by unfold chGd; omega
                  have hn1 := hI.2.2.2 p (by omega) (by omega)
                  have hpm := pmN_R hI (p := p) (by omega)
                  refine x_iload_n h dX7_change_70 rfl ?_
                  refine x_iconst h dX7_change_71 ?_
                  refine x_icmp_ne h dX7_change_72 (tgt := 98) (by decide) (by omega) (by omega) (fun q72 => ?_) (fun q72 => ?_)
                  · have hl2 : x = 1 → ltN M p v (pmN M p) := fun z => by first | assumption | omega
                    rw [(nch_2 hgd hl2).1, (nch_2 hgd hl2).2] at he
                    refine x_aload_n h dX7_change_98 rfl ?_
                    refine x_iload_n h dX7_change_99 rfl ?_
                    refine x_iload_n h dX7_change_100 rfl ?_
                    refine x_S2i h dX7_change_101 m_ml_X7_119 m_st_X7_at (by decide) rfl (c_X7_at hm) ?_
                    try simp only [ca_ca, ca_1, dN_ca, wyM_ca, plN_ca, rpN_ca, ltN_ca, pmN_ca, wnN_ca, nbN_ca, ca_07, ca_08, ca_09, ca_010, beN_ca, ctN_ca, gonN_ca, mvN_ca, stN_ca, thN_ca, fnM_ca, tiN_ca, smN_ca]
                    refine x_iload_n h dX7_change_104 rfl ?_
                    refine x_V2i h dX7_change_105 m_ml_X7_89 m_im_X7_become m_se_X7_become (sM0 hm) rfl (by decide) rfl (c_X7_become hm (by omega) (by omega)) ?_
                    try simp only [ca_ca, ca_1, dN_ca, wyM_ca, plN_ca, rpN_ca, ltN_ca, pmN_ca, wnN_ca, nbN_ca, ca_07, ca_08, ca_09, ca_010, beN_ca, ctN_ca, gonN_ca, mvN_ca, stN_ca, thN_ca, fnM_ca, tiN_ca, smN_ca]
                    try simp only [up_ca1, up_ca07, up_ca08, up_ca09, up_ca010, up_10, up_01, up_0709, up_0710, ca_ca, ca_1, dN_ca, wyM_ca, plN_ca, rpN_ca, ltN_ca, pmN_ca, wnN_ca, nbN_ca, ca_07, ca_08, ca_09, ca_010, beN_ca, ctN_ca, gonN_ca, mvN_ca]
                    exact x_iretq h he dX7_change_108 ⟨by first | rfl | (rw [ca_1]), by first | exact CaE.rf1 (wyM_up (by omega)) rfl rfl hf | exact CaE.of1 (wyM_up (by omega)) (by assumption) | exact CaE.of1 fnM_y (by assumption)⟩
                  · refine x_aload_n h dX7_change_75 rfl ?_
                    refine x_iload_n h dX7_change_76 rfl ?_
                    refine x_iload_n h dX7_change_77 rfl ?_
                    refine x_aload_n h dX7_change_78 rfl ?_
                    refine x_iload_n h dX7_change_79 rfl ?_
                    refine x_V1i h dX7_change_80 m_ml_X7_157 m_im_X7_placeOfMate m_se_X7_placeOfMate (sM0 hm) rfl (by decide) rfl (c_X7_placeOfMate hm (by exact hI) (by first | omega | (simp only [ca_1]; omega))) ?_
                    try simp only [ca_ca, ca_1, dN_ca, wyM_ca, plN_ca, rpN_ca, ltN_ca, pmN_ca, wnN_ca, nbN_ca, ca_07, ca_08, ca_09, ca_010, beN_ca, ctN_ca, gonN_ca, mvN_ca, stN_ca, thN_ca, fnM_ca, tiN_ca, smN_ca]
                    refine x_Q3i h dX7_change_83 m_ml_X7_160 m_im_X7_lets m_se_X7_lets (sM0 hm) rfl (by decide) rfl (c_X7_lets hm (by exact hI) (by assumption) (by first | omega | (simp only [ca_1]; omega)) (by first | omega | (simp only [ca_1]; omega)) (by first | omega | (simp only [ca_1]; omega))) (fun r83 N83 h83 => ?_)
                    obtain ⟨rfl, f83, d83, rfl, c83⟩ := h83
                    try simp only [ca_ca, ca_1, dN_ca, wyM_ca, plN_ca, rpN_ca, ltN_ca, pmN_ca, wnN_ca, nbN_ca, ca_07, ca_08, ca_09, ca_010, beN_ca, ctN_ca, gonN_ca, mvN_ca, stN_ca, thN_ca, fnM_ca, tiN_ca, smN_ca] at c83 ⊢
                    refine x_ifneB h dX7_change_86 (tgt := 98) (by decide) (fun q86 => ?_) (fun q86 => ?_)
                    · have hl2 : x = 1 → ltN M p v (pmN M p) := fun z => by first | assumption | omega
                      rw [(nch_2 hgd hl2).1, (nch_2 hgd hl2).2] at he
                      refine x_aload_n h dX7_change_98 rfl ?_
                      refine x_iload_n h dX7_change_99 rfl ?_
                      refine x_iload_n h dX7_change_100 rfl ?_
                      refine x_S2i h dX7_change_101 m_ml_X7_119 m_st_X7_at (by decide) rfl (c_X7_at hm) ?_
                      try simp only [ca_ca, ca_1, dN_ca, wyM_ca, plN_ca, rpN_ca, ltN_ca, pmN_ca, wnN_ca, nbN_ca, ca_07, ca_08, ca_09, ca_010, beN_ca, ctN_ca, gonN_ca, mvN_ca, stN_ca, thN_ca, fnM_ca, tiN_ca, smN_ca]
                      refine x_iload_n h dX7_change_104 rfl ?_
                      refine x_V2i h dX7_change_105 m_ml_X7_89 m_im_X7_become m_se_X7_become (sM0 hm) rfl (by decide) rfl (c_X7_become hm (by omega) (by omega)) ?_
                      try simp only [ca_ca, ca_1, dN_ca, wyM_ca, plN_ca, rpN_ca, ltN_ca, pmN_ca, wnN_ca, nbN_ca, ca_07, ca_08, ca_09, ca_010, beN_ca, ctN_ca, gonN_ca, mvN_ca, stN_ca, thN_ca, fnM_ca, tiN_ca, smN_ca]
                      try simp only [up_ca1, up_ca07, up_ca08, up_ca09, up_ca010, up_10, up_01, up_0709, up_0710, ca_ca, ca_1, dN_ca, wyM_ca, plN_ca, rpN_ca, ltN_ca, pmN_ca, wnN_ca, nbN_ca, ca_07, ca_08, ca_09, ca_010, beN_ca, ctN_ca, gonN_ca, mvN_ca]
                      exact x_iretq h he dX7_change_108 ⟨by first | rfl | (rw [ca_1]), by first | exact CaE.rf1 (wyM_up (by omega)) rfl rfl hf | exact CaE.of1 (wyM_up (by omega)) (by assumption) | exact CaE.of1 fnM_y (by assumption)⟩
                    · rw [(nch_1 hgd (by omega) q86).1, (nch_1 hgd (by omega) q86).2] at he
                      refine x_aload_n h dX7_change_89 rfl ?_
                      refine x_ldc h m_k_X7_163 dX7_change_90 ?_
                      refine x_V1i h dX7_change_92 m_ml_X7_101 m_im_X7_finding m_se_X7_finding (sM0 hm) rfl (by decide) rfl (c_X7_finding hm (by omega)) ?_
                      try simp only [ca_ca, ca_1, dN_ca, wyM_ca, plN_ca, rpN_ca, ltN_ca, pmN_ca, wnN_ca, nbN_ca, ca_07, ca_08, ca_09, ca_010, beN_ca, ctN_ca, gonN_ca, mvN_ca, stN_ca, thN_ca, fnM_ca, tiN_ca, smN_ca]
                      refine x_goto h dX7_change_95 (tgt := 108) (by decide) ?_
                      try simp only [up_ca1, up_ca07, up_ca08, up_ca09, up_ca010, up_10, up_01, up_0709, up_0710, ca_ca, ca_1, dN_ca, wyM_ca, plN_ca, rpN_ca, ltN_ca, pmN_ca, wnN_ca, nbN_ca, ca_07, ca_08, ca_09, ca_010, beN_ca, ctN_ca, gonN_ca, mvN_ca]
                      exact x_iretq h he dX7_change_108 ⟨by first | rfl | (rw [ca_1]), by first | exact CaE.rf1 (wyM_up (by omega)) rfl rfl hf | exact CaE.of1 (wyM_up (by omega)) (by assumption) | exact CaE.of1 fnM_y (by assumption)⟩
                · refine x_aload_n h dX7_change_63 rfl ?_
                  refine x_ldc h m_k_X7_76 dX7_change_64 ?_
                  have hnc : ¬ ((0 ≤ p ∧ p < M 1 1) ∧ chGd x v) := by unfold chGd; omega
                  rw [(nch_0 hnc).1, (nch_0 hnc).2] at he
                  refine x_V1i h dX7_change_66 m_ml_X7_101 m_im_X7_finding m_se_X7_finding (sM0 hm) rfl (by decide) rfl (c_X7_finding hm (by omega)) ?_
                  try simp only [ca_ca, ca_1, dN_ca, wyM_ca, plN_ca, rpN_ca, ltN_ca, pmN_ca, wnN_ca, nbN_ca, ca_07, ca_08, ca_09, ca_010, beN_ca, ctN_ca, gonN_ca, mvN_ca, stN_ca, thN_ca, fnM_ca, tiN_ca, smN_ca]
                  exact x_iretq h he dX7_change_69 ⟨rfl, CaE.rf1 fnM_y rfl rfl hf⟩
            · refine x_iconst h dX7_change_43 ?_
              refine x_goto h dX7_change_44 (tgt := 48) (by decide) ?_
              refine x_istore h dX7_change_48 rfl rfl ?_
              dsimp only [xset]
              refine x_aload_n h dX7_change_50 rfl ?_
              refine x_iload_n h dX7_change_51 rfl ?_
              refine x_V1i h dX7_change_52 m_ml_X7_148 m_im_X7_isPerson m_se_X7_isPerson (sM0 hm) rfl (by decide) rfl (c_X7_isPerson hm (by omega) (by omega)) ?_
              try simp only [ca_ca, ca_1, dN_ca, wyM_ca, plN_ca, rpN_ca, ltN_ca, pmN_ca, wnN_ca, nbN_ca, ca_07, ca_08, ca_09, ca_010, beN_ca, ctN_ca, gonN_ca, mvN_ca, stN_ca, thN_ca, fnM_ca, tiN_ca, smN_ca]
              refine x_ifeqB h dX7_change_55 (tgt := 63) (by decide) (fun q55 => ?_) (fun q55 => ?_)
              · refine x_aload_n h dX7_change_63 rfl ?_
                refine x_ldc h m_k_X7_76 dX7_change_64 ?_
                have hnc : ¬ ((0 ≤ p ∧ p < M 1 1) ∧ chGd x v) := by unfold chGd; omega
                rw [(nch_0 hnc).1, (nch_0 hnc).2] at he
                refine x_V1i h dX7_change_66 m_ml_X7_101 m_im_X7_finding m_se_X7_finding (sM0 hm) rfl (by decide) rfl (c_X7_finding hm (by omega)) ?_
                try simp only [ca_ca, ca_1, dN_ca, wyM_ca, plN_ca, rpN_ca, ltN_ca, pmN_ca, wnN_ca, nbN_ca, ca_07, ca_08, ca_09, ca_010, beN_ca, ctN_ca, gonN_ca, mvN_ca, stN_ca, thN_ca, fnM_ca, tiN_ca, smN_ca]
                exact x_iretq h he dX7_change_69 ⟨rfl, CaE.rf1 fnM_y rfl rfl hf⟩
              · refine x_iload h dX7_change_58 rfl ?_
                refine x_if_ne h dX7_change_60 (tgt := 70) (by decide) (by omega) (fun q60 => ?_) (fun q60 => ?_)
                · have hgd : (0 ≤ p ∧ p < M 1 1) ∧ chGd x v := by unfold chGd; omega
                  have hn1 := hI.2.2.2 p (by omega) (by omega)
                  have hpm := pmN_R hI (p := p) (by omega)
                  refine x_iload_n h dX7_change_70 rfl ?_
                  refine x_iconst h dX7_change_71 ?_
                  refine x_icmp_ne h dX7_change_72 (tgt := 98) (by decide) (by omega) (by omega) (fun q72 => ?_) (fun q72 => ?_)
                  · have hl2 : x = 1 → ltN M p v (pmN M p) := fun z => by first | assumption | omega
                    rw [(nch_2 hgd hl2).1, (nch_2 hgd hl2).2] at he
                    refine x_aload_n h dX7_change_98 rfl ?_
                    refine x_iload_n h dX7_change_99 rfl ?_
                    refine x_iload_n h dX7_change_100 rfl ?_
                    refine x_S2i h dX7_change_101 m_ml_X7_119 m_st_X7_at (by decide) rfl (c_X7_at hm) ?_
                    try simp only [ca_ca, ca_1, dN_ca, wyM_ca, plN_ca, rpN_ca, ltN_ca, pmN_ca, wnN_ca, nbN_ca, ca_07, ca_08, ca_09, ca_010, beN_ca, ctN_ca, gonN_ca, mvN_ca, stN_ca, thN_ca, fnM_ca, tiN_ca, smN_ca]
                    refine x_iload_n h dX7_change_104 rfl ?_
                    refine x_V2i h dX7_change_105 m_ml_X7_89 m_im_X7_become m_se_X7_become (sM0 hm) rfl (by decide) rfl (c_X7_become hm (by omega) (by omega)) ?_
                    try simp only [ca_ca, ca_1, dN_ca, wyM_ca, plN_ca, rpN_ca, ltN_ca, pmN_ca, wnN_ca, nbN_ca, ca_07, ca_08, ca_09, ca_010, beN_ca, ctN_ca, gonN_ca, mvN_ca, stN_ca, thN_ca, fnM_ca, tiN_ca, smN_ca]
                    try simp only [up_ca1, up_ca07, up_ca08, up_ca09, up_ca010, up_10, up_01, up_0709, up_0710, ca_ca, ca_1, dN_ca, wyM_ca, plN_ca, rpN_ca, ltN_ca, pmN_ca, wnN_ca, nbN_ca, ca_07, ca_08, ca_09, ca_010, beN_ca, ctN_ca, gonN_ca, mvN_ca]
                    exact x_iretq h he dX7_change_108 ⟨by first | rfl | (rw [ca_1]), by first | exact CaE.rf1 (wyM_up (by omega)) rfl rfl hf | exact CaE.of1 (wyM_up (by omega)) (by assumption) | exact CaE.of1 fnM_y (by assumption)⟩
                  · refine x_aload_n h dX7_change_75 rfl ?_
                    refine x_iload_n h dX7_change_76 rfl ?_
                    refine x_iload_n h dX7_change_77 rfl ?_
                    refine x_aload_n h dX7_change_78 rfl ?_
                    refine x_iload_n h dX7_change_79 rfl ?_
                    refine x_V1i h dX7_change_80 m_ml_X7_157 m_im_X7_placeOfMate m_se_X7_placeOfMate (sM0 hm) rfl (by decide) rfl (c_X7_placeOfMate hm (by exact hI) (by first | omega | (simp only [ca_1]; omega))) ?_
                    try simp only [ca_ca, ca_1, dN_ca, wyM_ca, plN_ca, rpN_ca, ltN_ca, pmN_ca, wnN_ca, nbN_ca, ca_07, ca_08, ca_09, ca_010, beN_ca, ctN_ca, gonN_ca, mvN_ca, stN_ca, thN_ca, fnM_ca, tiN_ca, smN_ca]
                    refine x_Q3i h dX7_change_83 m_ml_X7_160 m_im_X7_lets m_se_X7_lets (sM0 hm) rfl (by decide) rfl (c_X7_lets hm (by exact hI) (by assumption) (by first | omega | (simp only [ca_1]; omega)) (by first | omega | (simp only [ca_1]; omega)) (by first | omega | (simp only [ca_1]; omega))) (fun r83 N83 h83 => ?_)
                    obtain ⟨rfl, f83, d83, rfl, c83⟩ := h83
                    try simp only [ca_ca, ca_1, dN_ca, wyM_ca, plN_ca, rpN_ca, ltN_ca, pmN_ca, wnN_ca, nbN_ca, ca_07, ca_08, ca_09, ca_010, beN_ca, ctN_ca, gonN_ca, mvN_ca, stN_ca, thN_ca, fnM_ca, tiN_ca, smN_ca] at c83 ⊢
                    refine x_ifneB h dX7_change_86 (tgt := 98) (by decide) (fun q86 => ?_) (fun q86 => ?_)
                    · have hl2 : x = 1 → ltN M p v (pmN M p) := fun z => by first | assumption | omega
                      rw [(nch_2 hgd hl2).1, (nch_2 hgd hl2).2] at he
                      refine x_aload_n h dX7_change_98 rfl ?_
                      refine x_iload_n h dX7_change_99 rfl ?_
                      refine x_iload_n h dX7_change_100 rfl ?_
                      refine x_S2i h dX7_change_101 m_ml_X7_119 m_st_X7_at (by decide) rfl (c_X7_at hm) ?_
                      try simp only [ca_ca, ca_1, dN_ca, wyM_ca, plN_ca, rpN_ca, ltN_ca, pmN_ca, wnN_ca, nbN_ca, ca_07, ca_08, ca_09, ca_010, beN_ca, ctN_ca, gonN_ca, mvN_ca, stN_ca, thN_ca, fnM_ca, tiN_ca, smN_ca]
                      refine x_iload_n h dX7_change_104 rfl ?_
                      refine x_V2i h dX7_change_105 m_ml_X7_89 m_im_X7_become m_se_X7_become (sM0 hm) rfl (by decide) rfl (c_X7_become hm (by omega) (by omega)) ?_
                      try simp only [ca_ca, ca_1, dN_ca, wyM_ca, plN_ca, rpN_ca, ltN_ca, pmN_ca, wnN_ca, nbN_ca, ca_07, ca_08, ca_09, ca_010, beN_ca, ctN_ca, gonN_ca, mvN_ca, stN_ca, thN_ca, fnM_ca, tiN_ca, smN_ca]
                      try simp only [up_ca1, up_ca07, up_ca08, up_ca09, up_ca010, up_10, up_01, up_0709, up_0710, ca_ca, ca_1, dN_ca, wyM_ca, plN_ca, rpN_ca, ltN_ca, pmN_ca, wnN_ca, nbN_ca, ca_07, ca_08, ca_09, ca_010, beN_ca, ctN_ca, gonN_ca, mvN_ca]
                      exact x_iretq h he dX7_change_108 ⟨by first | rfl | (rw [ca_1]), by first | exact CaE.rf1 (wyM_up (by omega)) rfl rfl hf | exact CaE.of1 (wyM_up (by omega)) (by assumption) | exact CaE.of1 fnM_y (by assumption)⟩
                    · rw [(nch_1 hgd (by omega) q86).1, (nch_1 hgd (by omega) q86).2] at he
                      refine x_aload_n h dX7_change_89 rfl ?_
                      refine x_ldc h m_k_X7_163 dX7_change_90 ?_
                      refine x_V1i h dX7_change_92 m_ml_X7_101 m_im_X7_finding m_se_X7_finding (sM0 hm) rfl (by decide) rfl (c_X7_finding hm (by omega)) ?_
                      try simp only [ca_ca, ca_1, dN_ca, wyM_ca, plN_ca, rpN_ca, ltN_ca, pmN_ca, wnN_ca, nbN_ca, ca_07, ca_08, ca_09, ca_010, beN_ca, ctN_ca, gonN_ca, mvN_ca, stN_ca, thN_ca, fnM_ca, tiN_ca, smN_ca]
                      refine x_goto h dX7_change_95 (tgt := 108) (by decide) ?_
                      try simp only [up_ca1, up_ca07, up_ca08, up_ca09, up_ca010, up_10, up_01, up_0709, up_0710, ca_ca, ca_1, dN_ca, wyM_ca, plN_ca, rpN_ca, ltN_ca, pmN_ca, wnN_ca, nbN_ca, ca_07, ca_08, ca_09, ca_010, beN_ca, ctN_ca, gonN_ca, mvN_ca]
                      exact x_iretq h he dX7_change_108 ⟨by first | rfl | (rw [ca_1]), by first | exact CaE.rf1 (wyM_up (by omega)) rfl rfl hf | exact CaE.of1 (wyM_up (by omega)) (by assumption) | exact CaE.of1 fnM_y (by assumption)⟩
                · refine x_aload_n h dX7_change_63 rfl ?_
                  refine x_ldc h m_k_X7_76 dX7_change_64 ?_
                  have hnc : ¬ ((0 ≤ p ∧ p < M 1 1) ∧ chGd x v) := by unfold chGd; omega
                  rw [(nch_0 hnc).1, (nch_0 hnc).2] at he
                  refine x_V1i h dX7_change_66 m_ml_X7_101 m_im_X7_finding m_se_X7_finding (sM0 hm) rfl (by decide) rfl (c_X7_finding hm (by omega)) ?_
                  try simp only [ca_ca, ca_1, dN_ca, wyM_ca, plN_ca, rpN_ca, ltN_ca, pmN_ca, wnN_ca, nbN_ca, ca_07, ca_08, ca_09, ca_010, beN_ca, ctN_ca, gonN_ca, mvN_ca, stN_ca, thN_ca, fnM_ca, tiN_ca, smN_ca]
                  exact x_iretq h he dX7_change_69 ⟨rfl, CaE.rf1 fnM_y rfl rfl hf⟩
  · refine x_iload_n h dX7_change_4 rfl ?_
    refine x_S1i h dX7_change_5 m_ml_X7_122 m_st_X7_isKind (by decide) rfl (c_X7_isKind hm (by omega)) ?_
    try simp only [ca_ca, ca_1, dN_ca, wyM_ca, plN_ca, rpN_ca, ltN_ca, pmN_ca, wnN_ca, nbN_ca, ca_07, ca_08, ca_09, ca_010, beN_ca, ctN_ca, gonN_ca, mvN_ca, stN_ca, thN_ca, fnM_ca, tiN_ca, smN_ca]
    refine x_ifneB h dX7_change_8 (tgt := 43) (by decide) (fun q8 => ?_) (fun q8 => ?_)
    · refine x_iconst h dX7_change_43 ?_
      refine x_goto h dX7_change_44 (tgt := 48) (by decide) ?_
      refine x_istore h dX7_change_48 rfl rfl ?_
      dsimp only [xset]
      refine x_aload_n h dX7_change_50 rfl ?_
      refine x_iload_n h dX7_change_51 rfl ?_
      refine x_V1i h dX7_change_52 m_ml_X7_148 m_im_X7_isPerson m_se_X7_isPerson (sM0 hm) rfl (by decide) rfl (c_X7_isPerson hm (by omega) (by omega)) ?_
      try simp only [ca_ca, ca_1, dN_ca, wyM_ca, plN_ca, rpN_ca, ltN_ca, pmN_ca, wnN_ca, nbN_ca, ca_07, ca_08, ca_09, ca_010, beN_ca, ctN_ca, gonN_ca, mvN_ca, stN_ca, thN_ca, fnM_ca, tiN_ca, smN_ca]
      refine x_ifeqB h dX7_change_55 (tgt := 63) (by decide) (fun q55 => ?_) (fun q55 => ?_)
      · refine x_aload_n h dX7_change_63 rfl ?_
        refine x_ldc h m_k_X7_76 dX7_change_64 ?_
        have hnc : ¬ ((0 ≤ p ∧ p < M 1 1) ∧ chGd x v) := by unfold chGd; omega
        rw [(nch_0 hnc).1, (nch_0 hnc).2] at he
        refine x_V1i h dX7_change_66 m_ml_X7_101 m_im_X7_finding m_se_X7_finding (sM0 hm) rfl (by decide) rfl (c_X7_finding hm (by omega)) ?_
        try simp only [ca_ca, ca_1, dN_ca, wyM_ca, plN_ca, rpN_ca, ltN_ca, pmN_ca, wnN_ca, nbN_ca, ca_07, ca_08, ca_09, ca_010, beN_ca, ctN_ca, gonN_ca, mvN_ca, stN_ca, thN_ca, fnM_ca, tiN_ca, smN_ca]
        exact x_iretq h he dX7_change_69 ⟨rfl, CaE.rf1 fnM_y rfl rfl hf⟩
      · refine x_iload h dX7_change_58 rfl ?_
        refine x_if_ne h dX7_change_60 (tgt := 70) (by decide) (by omega) (fun q60 => ?_) (fun q60 => ?_)
        · have hgd : (0 ≤ p ∧ p < M 1 1) ∧ chGd x v := by unfold chGd; omega
          have hn1 := hI.2.2.2 p (by omega) (by omega)
          have hpm := pmN_R hI (p := p) (by omega)
          refine x_iload_n h dX7_change_70 rfl ?_
          refine x_iconst h dX7_change_71 ?_
          refine x_icmp_ne h dX7_change_72 (tgt := 98) (by decide) (by omega) (by omega) (fun q72 => ?_) (fun q72 => ?_)
          · have hl2 : x = 1 → ltN M p v (pmN M p) := fun z => by first | assumption | omega
            rw [(nch_2 hgd hl2).1, (nch_2 hgd hl2).2] at he
            refine x_aload_n h dX7_change_98 rfl ?_
            refine x_iload_n h dX7_change_99 rfl ?_
            refine x_iload_n h dX7_change_100 rfl ?_
            refine x_S2i h dX7_change_101 m_ml_X7_119 m_st_X7_at (by decide) rfl (c_X7_at hm) ?_
            try simp only [ca_ca, ca_1, dN_ca, wyM_ca, plN_ca, rpN_ca, ltN_ca, pmN_ca, wnN_ca, nbN_ca, ca_07, ca_08, ca_09, ca_010, beN_ca, ctN_ca, gonN_ca, mvN_ca, stN_ca, thN_ca, fnM_ca, tiN_ca, smN_ca]
            refine x_iload_n h dX7_change_104 rfl ?_
            refine x_V2i h dX7_change_105 m_ml_X7_89 m_im_X7_become m_se_X7_become (sM0 hm) rfl (by decide) rfl (c_X7_become hm (by omega) (by omega)) ?_
            try simp only [ca_ca, ca_1, dN_ca, wyM_ca, plN_ca, rpN_ca, ltN_ca, pmN_ca, wnN_ca, nbN_ca, ca_07, ca_08, ca_09, ca_010, beN_ca, ctN_ca, gonN_ca, mvN_ca, stN_ca, thN_ca, fnM_ca, tiN_ca, smN_ca]
            try simp only [up_ca1, up_ca07, up_ca08, up_ca09, up_ca010, up_10, up_01, up_0709, up_0710, ca_ca, ca_1, dN_ca, wyM_ca, plN_ca, rpN_ca, ltN_ca, pmN_ca, wnN_ca, nbN_ca, ca_07, ca_08, ca_09, ca_010, beN_ca, ctN_ca, gonN_ca, mvN_ca]
            exact x_iretq h he dX7_change_108 ⟨by first | rfl | (rw [ca_1]), by first | exact CaE.rf1 (wyM_up (by omega)) rfl rfl hf | exact CaE.of1 (wyM_up (by omega)) (by assumption) | exact CaE.of1 fnM_y (by assumption)⟩
          · refine x_aload_n h dX7_change_75 rfl ?_
            refine x_iload_n h dX7_change_76 rfl ?_
            refine x_iload_n h dX7_change_77 rfl ?_
            refine x_aload_n h dX7_change_78 rfl ?_
            refine x_iload_n h dX7_change_79 rfl ?_
            refine x_V1i h dX7_change_80 m_ml_X7_157 m_im_X7_placeOfMate m_se_X7_placeOfMate (sM0 hm) rfl (by decide) rfl (c_X7_placeOfMate hm (by exact hI) (by first | omega | (simp only [ca_1]; omega))) ?_
            try simp only [ca_ca, ca_1, dN_ca, wyM_ca, plN_ca, rpN_ca, ltN_ca, pmN_ca, wnN_ca, nbN_ca, ca_07, ca_08, ca_09, ca_010, beN_ca, ctN_ca, gonN_ca, mvN_ca, stN_ca, thN_ca, fnM_ca, tiN_ca, smN_ca]
            refine x_Q3i h dX7_change_83 m_ml_X7_160 m_im_X7_lets m_se_X7_lets (sM0 hm) rfl (by decide) rfl (c_X7_lets hm (by exact hI) (by assumption) (by first | omega | (simp only [ca_1]; omega)) (by first | omega | (simp only [ca_1]; omega)) (by first | omega | (simp only [ca_1]; omega))) (fun r83 N83 h83 => ?_)
            obtain ⟨rfl, f83, d83, rfl, c83⟩ := h83
            try simp only [ca_ca, ca_1, dN_ca, wyM_ca, plN_ca, rpN_ca, ltN_ca, pmN_ca, wnN_ca, nbN_ca, ca_07, ca_08, ca_09, ca_010, beN_ca, ctN_ca, gonN_ca, mvN_ca, stN_ca, thN_ca, fnM_ca, tiN_ca, smN_ca] at c83 ⊢
            refine x_ifneB h dX7_change_86 (tgt := 98) (by decide) (fun q86 => ?_) (fun q86 => ?_)
            · have hl2 : x = 1 → ltN M p v (pmN M p) := fun z => by first | assumption | omega
              rw [(nch_2 hgd hl2).1, (nch_2 hgd hl2).2] at he
              refine x_aload_n h dX7_change_98 rfl ?_
              refine x_iload_n h dX7_change_99 rfl ?_
              refine x_iload_n h dX7_change_100 rfl ?_
              refine x_S2i h dX7_change_101 m_ml_X7_119 m_st_X7_at (by decide) rfl (c_X7_at hm) ?_
              try simp only [ca_ca, ca_1, dN_ca, wyM_ca, plN_ca, rpN_ca, ltN_ca, pmN_ca, wnN_ca, nbN_ca, ca_07, ca_08, ca_09, ca_010, beN_ca, ctN_ca, gonN_ca, mvN_ca, stN_ca, thN_ca, fnM_ca, tiN_ca, smN_ca]
              refine x_iload_n h dX7_change_104 rfl ?_
              refine x_V2i h dX7_change_105 m_ml_X7_89 m_im_X7_become m_se_X7_become (sM0 hm) rfl (by decide) rfl (c_X7_become hm (by omega) (by omega)) ?_
              try simp only [ca_ca, ca_1, dN_ca, wyM_ca, plN_ca, rpN_ca, ltN_ca, pmN_ca, wnN_ca, nbN_ca, ca_07, ca_08, ca_09, ca_010, beN_ca, ctN_ca, gonN_ca, mvN_ca, stN_ca, thN_ca, fnM_ca, tiN_ca, smN_ca]
              try simp only [up_ca1, up_ca07, up_ca08, up_ca09, up_ca010, up_10, up_01, up_0709, up_0710, ca_ca, ca_1, dN_ca, wyM_ca, plN_ca, rpN_ca, ltN_ca, pmN_ca, wnN_ca, nbN_ca, ca_07, ca_08, ca_09, ca_010, beN_ca, ctN_ca, gonN_ca, mvN_ca]
              exact x_iretq h he dX7_change_108 ⟨by first | rfl | (rw [ca_1]), by first | exact CaE.rf1 (wyM_up (by omega)) rfl rfl hf | exact CaE.of1 (wyM_up (by omega)) (by assumption) | exact CaE.of1 fnM_y (by assumption)⟩
            · rw [(nch_1 hgd (by omega) q86).1, (nch_1 hgd (by omega) q86).2] at he
              refine x_aload_n h dX7_change_89 rfl ?_
              refine x_ldc h m_k_X7_163 dX7_change_90 ?_
              refine x_V1i h dX7_change_92 m_ml_X7_101 m_im_X7_finding m_se_X7_finding (sM0 hm) rfl (by decide) rfl (c_X7_finding hm (by omega)) ?_
              try simp only [ca_ca, ca_1, dN_ca, wyM_ca, plN_ca, rpN_ca, ltN_ca, pmN_ca, wnN_ca, nbN_ca, ca_07, ca_08, ca_09, ca_010, beN_ca, ctN_ca, gonN_ca, mvN_ca, stN_ca, thN_ca, fnM_ca, tiN_ca, smN_ca]
              refine x_goto h dX7_change_95 (tgt := 108) (by decide) ?_
              try simp only [up_ca1, up_ca07, up_ca08, up_ca09, up_ca010, up_10, up_01, up_0709, up_0710, ca_ca, ca_1, dN_ca, wyM_ca, plN_ca, rpN_ca, ltN_ca, pmN_ca, wnN_ca, nbN_ca, ca_07, ca_08, ca_09, ca_010, beN_ca, ctN_ca, gonN_ca, mvN_ca]
              exact x_iretq h he dX7_change_108 ⟨by first | rfl | (rw [ca_1]), by first | exact CaE.rf1 (wyM_up (by omega)) rfl rfl hf | exact CaE.of1 (wyM_up (by omega)) (by assumption) | exact CaE.of1 fnM_y (by assumption)⟩
        · refine x_aload_n h dX7_change_63 rfl ?_
          refine x_ldc h m_k_X7_76 dX7_change_64 ?_
          have hnc : ¬ ((0 ≤ p ∧ p < M 1 1) ∧ chGd x v) := by unfold chGd; omega
          rw [(nch_0 hnc).1, (nch_0 hnc).2] at he
          refine x_V1i h dX7_change_66 m_ml_X7_101 m_im_X7_finding m_se_X7_finding (sM0 hm) rfl (by decide) rfl (c_X7_finding hm (by omega)) ?_
          try simp only [ca_ca, ca_1, dN_ca, wyM_ca, plN_ca, rpN_ca, ltN_ca, pmN_ca, wnN_ca, nbN_ca, ca_07, ca_08, ca_09, ca_010, beN_ca, ctN_ca, gonN_ca, mvN_ca, stN_ca, thN_ca, fnM_ca, tiN_ca, smN_ca]
          exact x_iretq h he dX7_change_69 ⟨rfl, CaE.rf1 fnM_y rfl rfl hf⟩
    · refine x_iload_n h dX7_change_11 rfl ?_
      refine x_iconst h dX7_change_12 ?_
      refine x_icmp_eq h dX7_change_13 (tgt := 21) (by decide) (by omega) (by omega) (fun q13 => ?_) (fun q13 => ?_)
      · refine x_iload_n h dX7_change_21 rfl ?_
        refine x_S1i h dX7_change_22 m_ml_X7_93 m_st_X7_isPlace (by decide) rfl (c_X7_isPlace hm (by omega)) ?_
        try simp only [ca_ca, ca_1, dN_ca, wyM_ca, plN_ca, rpN_ca, ltN_ca, pmN_ca, wnN_ca, nbN_ca, ca_07, ca_08, ca_09, ca_010, beN_ca, ctN_ca, gonN_ca, mvN_ca, stN_ca, thN_ca, fnM_ca, tiN_ca, smN_ca]
        refine x_ifneB h dX7_change_25 (tgt := 43) (by decide) (fun q25 => ?_) (fun q25 => ?_)
        · refine x_iconst h dX7_change_43 ?_
          refine x_goto h dX7_change_44 (tgt := 48) (by decide) ?_
          refine x_istore h dX7_change_48 rfl rfl ?_
          dsimp only [xset]
          refine x_aload_n h dX7_change_50 rfl ?_
          refine x_iload_n h dX7_change_51 rfl ?_
          refine x_V1i h dX7_change_52 m_ml_X7_148 m_im_X7_isPerson m_se_X7_isPerson (sM0 hm) rfl (by decide) rfl (c_X7_isPerson hm (by omega) (by omega)) ?_
          try simp only [ca_ca, ca_1, dN_ca, wyM_ca, plN_ca, rpN_ca, ltN_ca, pmN_ca, wnN_ca, nbN_ca, ca_07, ca_08, ca_09, ca_010, beN_ca, ctN_ca, gonN_ca, mvN_ca, stN_ca, thN_ca, fnM_ca, tiN_ca, smN_ca]
          refine x_ifeqB h dX7_change_55 (tgt := 63) (by decide) (fun q55 => ?_) (fun q55 => ?_)
          · refine x_aload_n h dX7_change_63 rfl ?_
            refine x_ldc h m_k_X7_76 dX7_change_64 ?_
            have hnc : ¬ ((0 ≤ p ∧ p < M 1 1) ∧ chGd x v) := by unfold chGd; omega
            rw [(nch_0 hnc).1, (nch_0 hnc).2] at he
            refine x_V1i h dX7_change_66 m_ml_X7_101 m_im_X7_finding m_se_X7_finding (sM0 hm) rfl (by decide) rfl (c_X7_finding hm (by omega)) ?_
            try simp only [ca_ca, ca_1, dN_ca, wyM_ca, plN_ca, rpN_ca, ltN_ca, pmN_ca, wnN_ca, nbN_ca, ca_07, ca_08, ca_09, ca_010, beN_ca, ctN_ca, gonN_ca, mvN_ca, stN_ca, thN_ca, fnM_ca, tiN_ca, smN_ca]
            exact x_iretq h he dX7_change_69 ⟨rfl, CaE.rf1 fnM_y rfl rfl hf⟩
          · refine x_iload h dX7_change_58 rfl ?_
            refine x_if_ne h dX7_change_60 (tgt := 70) (by decide) (by omega) (fun q60 => ?_) (fun q60 => ?_)
            · have hgd : (0 ≤ p ∧ p < M 1 1) ∧ chGd x v := by unfold chGd; omega
              have hn1 := hI.2.2.2 p (by omega) (by omega)
              have hpm := pmN_R hI (p := p) (by omega)
              refine x_iload_n h dX7_change_70 rfl ?_
              refine x_iconst h dX7_change_71 ?_
              refine x_icmp_ne h dX7_change_72 (tgt := 98) (by decide) (by omega) (by omega) (fun q72 => ?_) (fun q72 => ?_)
              · have hl2 : x = 1 → ltN M p v (pmN M p) := fun z => by first | assumption | omega
                rw [(nch_2 hgd hl2).1, (nch_2 hgd hl2).2] at he
                refine x_aload_n h dX7_change_98 rfl ?_
                refine x_iload_n h dX7_change_99 rfl ?_
                refine x_iload_n h dX7_change_100 rfl ?_
                refine x_S2i h dX7_change_101 m_ml_X7_119 m_st_X7_at (by decide) rfl (c_X7_at hm) ?_
                try simp only [ca_ca, ca_1, dN_ca, wyM_ca, plN_ca, rpN_ca, ltN_ca, pmN_ca, wnN_ca, nbN_ca, ca_07, ca_08, ca_09, ca_010, beN_ca, ctN_ca, gonN_ca, mvN_ca, stN_ca, thN_ca, fnM_ca, tiN_ca, smN_ca]
                refine x_iload_n h dX7_change_104 rfl ?_
                refine x_V2i h dX7_change_105 m_ml_X7_89 m_im_X7_become m_se_X7_become (sM0 hm) rfl (by decide) rfl (c_X7_become hm (by omega) (by omega)) ?_
                try simp only [ca_ca, ca_1, dN_ca, wyM_ca, plN_ca, rpN_ca, ltN_ca, pmN_ca, wnN_ca, nbN_ca, ca_07, ca_08, ca_09, ca_010, beN_ca, ctN_ca, gonN_ca, mvN_ca, stN_ca, thN_ca, fnM_ca, tiN_ca, smN_ca]
                try simp only [up_ca1, up_ca07, up_ca08, up_ca09, up_ca010, up_10, up_01, up_0709, up_0710, ca_ca, ca_1, dN_ca, wyM_ca, plN_ca, rpN_ca, ltN_ca, pmN_ca, wnN_ca, nbN_ca, ca_07, ca_08, ca_09, ca_010, beN_ca, ctN_ca, gonN_ca, mvN_ca]
                exact x_iretq h he dX7_change_108 ⟨by first | rfl | (rw [ca_1]), by first | exact CaE.rf1 (wyM_up (by omega)) rfl rfl hf | exact CaE.of1 (wyM_up (by omega)) (by assumption) | exact CaE.of1 fnM_y (by assumption)⟩
              · refine x_aload_n h dX7_change_75 rfl ?_
                refine x_iload_n h dX7_change_76 rfl ?_
                refine x_iload_n h dX7_change_77 rfl ?_
                refine x_aload_n h dX7_change_78 rfl ?_
                refine x_iload_n h dX7_change_79 rfl ?_
                refine x_V1i h dX7_change_80 m_ml_X7_157 m_im_X7_placeOfMate m_se_X7_placeOfMate (sM0 hm) rfl (by decide) rfl (c_X7_placeOfMate hm (by exact hI) (by first | omega | (simp only [ca_1]; omega))) ?_
                try simp only [ca_ca, ca_1, dN_ca, wyM_ca, plN_ca, rpN_ca, ltN_ca, pmN_ca, wnN_ca, nbN_ca, ca_07, ca_08, ca_09, ca_010, beN_ca, ctN_ca, gonN_ca, mvN_ca, stN_ca, thN_ca, fnM_ca, tiN_ca, smN_ca]
                refine x_Q3i h dX7_change_83 m_ml_X7_160 m_im_X7_lets m_se_X7_lets (sM0 hm) rfl (by decide) rfl (c_X7_lets hm (by exact hI) (by assumption) (by first | omega | (simp only [ca_1]; omega)) (by first | omega | (simp only [ca_1]; omega)) (by first | omega | (simp only [ca_1]; omega))) (fun r83 N83 h83 => ?_)
                obtain ⟨rfl, f83, d83, rfl, c83⟩ := h83
                try simp only [ca_ca, ca_1, dN_ca, wyM_ca, plN_ca, rpN_ca, ltN_ca, pmN_ca, wnN_ca, nbN_ca, ca_07, ca_08, ca_09, ca_010, beN_ca, ctN_ca, gonN_ca, mvN_ca, stN_ca, thN_ca, fnM_ca, tiN_ca, smN_ca] at c83 ⊢
                refine x_ifneB h dX7_change_86 (tgt := 98) (by decide) (fun q86 => ?_) (fun q86 => ?_)
                · have hl2 : x = 1 → ltN M p v (pmN M p) := fun z => by first | assumption | omega
                  rw [(nch_2 hgd hl2).1, (nch_2 hgd hl2).2] at he
                  refine x_aload_n h dX7_change_98 rfl ?_
                  refine x_iload_n h dX7_change_99 rfl ?_
                  refine x_iload_n h dX7_change_100 rfl ?_
                  refine x_S2i h dX7_change_101 m_ml_X7_119 m_st_X7_at (by decide) rfl (c_X7_at hm) ?_
                  try simp only [ca_ca, ca_1, dN_ca, wyM_ca, plN_ca, rpN_ca, ltN_ca, pmN_ca, wnN_ca, nbN_ca, ca_07, ca_08, ca_09, ca_010, beN_ca, ctN_ca, gonN_ca, mvN_ca, stN_ca, thN_ca, fnM_ca, tiN_ca, smN_ca]
                  refine x_iload_n h dX7_change_104 rfl ?_
                  refine x_V2i h dX7_change_105 m_ml_X7_89 m_im_X7_become m_se_X7_become (sM0 hm) rfl (by decide) rfl (c_X7_become hm (by omega) (by omega)) ?_
                  try simp only [ca_ca, ca_1, dN_ca, wyM_ca, plN_ca, rpN_ca, ltN_ca, pmN_ca, wnN_ca, nbN_ca, ca_07, ca_08, ca_09, ca_010, beN_ca, ctN_ca, gonN_ca, mvN_ca, stN_ca, thN_ca, fnM_ca, tiN_ca, smN_ca]
                  try simp only [up_ca1, up_ca07, up_ca08, up_ca09, up_ca010, up_10, up_01, up_0709, up_0710, ca_ca, ca_1, dN_ca, wyM_ca, plN_ca, rpN_ca, ltN_ca, pmN_ca, wnN_ca, nbN_ca, ca_07, ca_08, ca_09, ca_010, beN_ca, ctN_ca, gonN_ca, mvN_ca]
                  exact x_iretq h he dX7_change_108 ⟨by first | rfl | (rw [ca_1]), by first | exact CaE.rf1 (wyM_up (by omega)) rfl rfl hf | exact CaE.of1 (wyM_up (by omega)) (by assumption) | exact CaE.of1 fnM_y (by assumption)⟩
                · rw [(nch_1 hgd (by omega) q86).1, (nch_1 hgd (by omega) q86).2] at he
                  refine x_aload_n h dX7_change_89 rfl ?_
                  refine x_ldc h m_k_X7_163 dX7_change_90 ?_
                  refine x_V1i h dX7_change_92 m_ml_X7_101 m_im_X7_finding m_se_X7_finding (sM0 hm) rfl (by decide) rfl (c_X7_finding hm (by omega)) ?_
                  try simp only [ca_ca, ca_1, dN_ca, wyM_ca, plN_ca, rpN_ca, ltN_ca, pmN_ca, wnN_ca, nbN_ca, ca_07, ca_08, ca_09, ca_010, beN_ca, ctN_ca, gonN_ca, mvN_ca, stN_ca, thN_ca, fnM_ca, tiN_ca, smN_ca]
                  refine x_goto h dX7_change_95 (tgt := 108) (by decide) ?_
                  try simp only [up_ca1, up_ca07, up_ca08, up_ca09, up_ca010, up_10, up_01, up_0709, up_0710, ca_ca, ca_1, dN_ca, wyM_ca, plN_ca, rpN_ca, ltN_ca, pmN_ca, wnN_ca, nbN_ca, ca_07, ca_08, ca_09, ca_010, beN_ca, ctN_ca, gonN_ca, mvN_ca]
                  exact x_iretq h he dX7_change_108 ⟨by first | rfl | (rw [ca_1]), by first | exact CaE.rf1 (wyM_up (by omega)) rfl rfl hf | exact CaE.of1 (wyM_up (by omega)) (by assumption) | exact CaE.of1 fnM_y (by assumption)⟩
            · refine x_aload_n h dX7_change_63 rfl ?_
              refine x_ldc h m_k_X7_76 dX7_change_64 ?_
              have hnc : ¬ ((0 ≤ p ∧ p < M 1 1) ∧ chGd x v) := by unfold chGd; omega
              rw [(nch_0 hnc).1, (nch_0 hnc).2] at he
              refine x_V1i h dX7_change_66 m_ml_X7_101 m_im_X7_finding m_se_X7_finding (sM0 hm) rfl (by decide) rfl (c_X7_finding hm (by omega)) ?_
              try simp only [ca_ca, ca_1, dN_ca, wyM_ca, plN_ca, rpN_ca, ltN_ca, pmN_ca, wnN_ca, nbN_ca, ca_07, ca_08, ca_09, ca_010, beN_ca, ctN_ca, gonN_ca, mvN_ca, stN_ca, thN_ca, fnM_ca, tiN_ca, smN_ca]
              exact x_iretq h he dX7_change_69 ⟨rfl, CaE.rf1 fnM_y rfl rfl hf⟩
        · refine x_iload_n h dX7_change_28 rfl ?_
          refine x_iconst h dX7_change_29 ?_
          refine x_icmp_ne h dX7_change_30 (tgt := 47) (by decide) (by omega) (by omega) (fun q30 => ?_) (fun q30 => ?_)
          · refine x_iconst h dX7_change_47 ?_
            refine x_istore h dX7_change_48 rfl rfl ?_
            dsimp only [xset]
            refine x_aload_n h dX7_change_50 rfl ?_
            refine x_iload_n h dX7_change_51 rfl ?_
            refine x_V1i h dX7_change_52 m_ml_X7_148 m_im_X7_isPerson m_se_X7_isPerson (sM0 hm) rfl (by decide) rfl (c_X7_isPerson hm (by omega) (by omega)) ?_
            try simp only [ca_ca, ca_1, dN_ca, wyM_ca, plN_ca, rpN_ca, ltN_ca, pmN_ca, wnN_ca, nbN_ca, ca_07, ca_08, ca_09, ca_010, beN_ca, ctN_ca, gonN_ca, mvN_ca, stN_ca, thN_ca, fnM_ca, tiN_ca, smN_ca]
            refine x_ifeqB h dX7_change_55 (tgt := 63) (by decide) (fun q55 => ?_) (fun q55 => ?_)
            · refine x_aload_n h dX7_change_63 rfl ?_
              refine x_ldc h m_k_X7_76 dX7_change_64 ?_
              have hnc : ¬ ((0 ≤ p ∧ p < M 1 1) ∧ chGd x v) := by unfold chGd; omega
              rw [(nch_0 hnc).1, (nch_0 hnc).2] at he
              refine x_V1i h dX7_change_66 m_ml_X7_101 m_im_X7_finding m_se_X7_finding (sM0 hm) rfl (by decide) rfl (c_X7_finding hm (by omega)) ?_
              try simp only [ca_ca, ca_1, dN_ca, wyM_ca, plN_ca, rpN_ca, ltN_ca, pmN_ca, wnN_ca, nbN_ca, ca_07, ca_08, ca_09, ca_010, beN_ca, ctN_ca, gonN_ca, mvN_ca, stN_ca, thN_ca, fnM_ca, tiN_ca, smN_ca]
              exact x_iretq h he dX7_change_69 ⟨rfl, CaE.rf1 fnM_y rfl rfl hf⟩
            · refine x_iload h dX7_change_58 rfl ?_
              refine x_if_ne h dX7_change_60 (tgt := 70) (by decide) (by omega) (fun q60 => ?_) (fun q60 => ?_)
              · have hgd : (0 ≤ p ∧ p < M 1 1) ∧ chGd x v := by unfold chGd; omega
                have hn1 := hI.2.2.2 p (by omega) (by omega)
                have hpm := pmN_R hI (p := p) (by omega)
                refine x_iload_n h dX7_change_70 rfl ?_
                refine x_iconst h dX7_change_71 ?_
                refine x_icmp_ne h dX7_change_72 (tgt := 98) (by decide) (by omega) (by omega) (fun q72 => ?_) (fun q72 => ?_)
                · have hl2 : x = 1 → ltN M p v (pmN M p) := fun z => by first | assumption | omega
                  rw [(nch_2 hgd hl2).1, (nch_2 hgd hl2).2] at he
                  refine x_aload_n h dX7_change_98 rfl ?_
                  refine x_iload_n h dX7_change_99 rfl ?_
                  refine x_iload_n h dX7_change_100 rfl ?_
                  refine x_S2i h dX7_change_101 m_ml_X7_119 m_st_X7_at (by decide) rfl (c_X7_at hm) ?_
                  try simp only [ca_ca, ca_1, dN_ca, wyM_ca, plN_ca, rpN_ca, ltN_ca, pmN_ca, wnN_ca, nbN_ca, ca_07, ca_08, ca_09, ca_010, beN_ca, ctN_ca, gonN_ca, mvN_ca, stN_ca, thN_ca, fnM_ca, tiN_ca, smN_ca]
                  refine x_iload_n h dX7_change_104 rfl ?_
                  refine x_V2i h dX7_change_105 m_ml_X7_89 m_im_X7_become m_se_X7_become (sM0 hm) rfl (by decide) rfl (c_X7_become hm (by omega) (by omega)) ?_
                  try simp only [ca_ca, ca_1, dN_ca, wyM_ca, plN_ca, rpN_ca, ltN_ca, pmN_ca, wnN_ca, nbN_ca, ca_07, ca_08, ca_09, ca_010, beN_ca, ctN_ca, gonN_ca, mvN_ca, stN_ca, thN_ca, fnM_ca, tiN_ca, smN_ca]
                  try simp only [up_ca1, up_ca07, up_ca08, up_ca09, up_ca010, up_10, up_01, up_0709, up_0710, ca_ca, ca_1, dN_ca, wyM_ca, plN_ca, rpN_ca, ltN_ca, pmN_ca, wnN_ca, nbN_ca, ca_07, ca_08, ca_09, ca_010, beN_ca, ctN_ca, gonN_ca, mvN_ca]
                  exact x_iretq h he dX7_change_108 ⟨by first | rfl | (rw [ca_1]), by first | exact CaE.rf1 (wyM_up (by omega)) rfl rfl hf | exact CaE.of1 (wyM_up (by omega)) (by assumption) | exact CaE.of1 fnM_y (by assumption)⟩
                · refine x_aload_n h dX7_change_75 rfl ?_
                  refine x_iload_n h dX7_change_76 rfl ?_
                  refine x_iload_n h dX7_change_77 rfl ?_
                  refine x_aload_n h dX7_change_78 rfl ?_
                  refine x_iload_n h dX7_change_79 rfl ?_
                  refine x_V1i h dX7_change_80 m_ml_X7_157 m_im_X7_placeOfMate m_se_X7_placeOfMate (sM0 hm) rfl (by decide) rfl (c_X7_placeOfMate hm (by exact hI) (by first | omega | (simp only [ca_1]; omega))) ?_
                  try simp only [ca_ca, ca_1, dN_ca, wyM_ca, plN_ca, rpN_ca, ltN_ca, pmN_ca, wnN_ca, nbN_ca, ca_07, ca_08, ca_09, ca_010, beN_ca, ctN_ca, gonN_ca, mvN_ca, stN_ca, thN_ca, fnM_ca, tiN_ca, smN_ca]
                  refine x_Q3i h dX7_change_83 m_ml_X7_160 m_im_X7_lets m_se_X7_lets (sM0 hm) rfl (by decide) rfl (c_X7_lets hm (by exact hI) (by assumption) (by first | omega | (simp only [ca_1]; omega)) (by first | omega | (simp only [ca_1]; omega)) (by first | omega | (simp only [ca_1]; omega))) (fun r83 N83 h83 => ?_)
                  obtain ⟨rfl, f83, d83, rfl, c83⟩ := h83
                  try simp only [ca_ca, ca_1, dN_ca, wyM_ca, plN_ca, rpN_ca, ltN_ca, pmN_ca, wnN_ca, nbN_ca, ca_07, ca_08, ca_09, ca_010, beN_ca, ctN_ca, gonN_ca, mvN_ca, stN_ca, thN_ca, fnM_ca, tiN_ca, smN_ca] at c83 ⊢
                  refine x_ifneB h dX7_change_86 (tgt := 98) (by decide) (fun q86 => ?_) (fun q86 => ?_)
                  · have hl2 : x = 1 → ltN M p v (pmN M p) := fun z => by first | assumption | omega
                    rw [(nch_2 hgd hl2).1, (nch_2 hgd hl2).2] at he
                    refine x_aload_n h dX7_change_98 rfl ?_
                    refine x_iload_n h dX7_change_99 rfl ?_
                    refine x_iload_n h dX7_change_100 rfl ?_
                    refine x_S2i h dX7_change_101 m_ml_X7_119 m_st_X7_at (by decide) rfl (c_X7_at hm) ?_
                    try simp only [ca_ca, ca_1, dN_ca, wyM_ca, plN_ca, rpN_ca, ltN_ca, pmN_ca, wnN_ca, nbN_ca, ca_07, ca_08, ca_09, ca_010, beN_ca, ctN_ca, gonN_ca, mvN_ca, stN_ca, thN_ca, fnM_ca, tiN_ca, smN_ca]
                    refine x_iload_n h dX7_change_104 rfl ?_
                    refine x_V2i h dX7_change_105 m_ml_X7_89 m_im_X7_become m_se_X7_become (sM0 hm) rfl (by decide) rfl (c_X7_become hm (by omega) (by omega)) ?_
                    try simp only [ca_ca, ca_1, dN_ca, wyM_ca, plN_ca, rpN_ca, ltN_ca, pmN_ca, wnN_ca, nbN_ca, ca_07, ca_08, ca_09, ca_010, beN_ca, ctN_ca, gonN_ca, mvN_ca, stN_ca, thN_ca, fnM_ca, tiN_ca, smN_ca]
                    try simp only [up_ca1, up_ca07, up_ca08, up_ca09, up_ca010, up_10, up_01, up_0709, up_0710, ca_ca, ca_1, dN_ca, wyM_ca, plN_ca, rpN_ca, ltN_ca, pmN_ca, wnN_ca, nbN_ca, ca_07, ca_08, ca_09, ca_010, beN_ca, ctN_ca, gonN_ca, mvN_ca]
                    exact x_iretq h he dX7_change_108 ⟨by first | rfl | (rw [ca_1]), by first | exact CaE.rf1 (wyM_up (by omega)) rfl rfl hf | exact CaE.of1 (wyM_up (by omega)) (by assumption) | exact CaE.of1 fnM_y (by assumption)⟩
                  · rw [(nch_1 hgd (by omega) q86).1, (nch_1 hgd (by omega) q86).2] at he
                    refine x_aload_n h dX7_change_89 rfl ?_
                    refine x_ldc h m_k_X7_163 dX7_change_90 ?_
                    refine x_V1i h dX7_change_92 m_ml_X7_101 m_im_X7_finding m_se_X7_finding (sM0 hm) rfl (by decide) rfl (c_X7_finding hm (by omega)) ?_
                    try simp only [ca_ca, ca_1, dN_ca, wyM_ca, plN_ca, rpN_ca, ltN_ca, pmN_ca, wnN_ca, nbN_ca, ca_07, ca_08, ca_09, ca_010, beN_ca, ctN_ca, gonN_ca, mvN_ca, stN_ca, thN_ca, fnM_ca, tiN_ca, smN_ca]
                    refine x_goto h dX7_change_95 (tgt := 108) (by decide) ?_
                    try simp only [up_ca1, up_ca07, up_ca08, up_ca09, up_ca010, up_10, up_01, up_0709, up_0710, ca_ca, ca_1, dN_ca, wyM_ca, plN_ca, rpN_ca, ltN_ca, pmN_ca, wnN_ca, nbN_ca, ca_07, ca_08, ca_09, ca_010, beN_ca, ctN_ca, gonN_ca, mvN_ca]
                    exact x_iretq h he dX7_change_108 ⟨by first | rfl | (rw [ca_1]), by first | exact CaE.rf1 (wyM_up (by omega)) rfl rfl hf | exact CaE.of1 (wyM_up (by omega)) (by assumption) | exact CaE.of1 fnM_y (by assumption)⟩
              · refine x_aload_n h dX7_change_63 rfl ?_
                refine x_ldc h m_k_X7_76 dX7_change_64 ?_
                have hnc : ¬ ((0 ≤ p ∧ p < M 1 1) ∧ chGd x v) := by unfold chGd; omega
                rw [(nch_0 hnc).1, (nch_0 hnc).2] at he
                refine x_V1i h dX7_change_66 m_ml_X7_101 m_im_X7_finding m_se_X7_finding (sM0 hm) rfl (by decide) rfl (c_X7_finding hm (by omega)) ?_
                try simp only [ca_ca, ca_1, dN_ca, wyM_ca, plN_ca, rpN_ca, ltN_ca, pmN_ca, wnN_ca, nbN_ca, ca_07, ca_08, ca_09, ca_010, beN_ca, ctN_ca, gonN_ca, mvN_ca, stN_ca, thN_ca, fnM_ca, tiN_ca, smN_ca]
                exact x_iretq h he dX7_change_69 ⟨rfl, CaE.rf1 fnM_y rfl rfl hf⟩
          · refine x_iload_n h dX7_change_33 rfl ?_
            refine x_iconst h dX7_change_34 ?_
            refine x_bipush h dX7_change_35 (by decide) ?_
            refine x_S3i h dX7_change_37 m_ml_X7_81 m_st_X7_within (by decide) rfl (c_X7_within hm (by omega) (by omega) (by omega)) ?_
            try simp only [ca_ca, ca_1, dN_ca, wyM_ca, plN_ca, rpN_ca, ltN_ca, pmN_ca, wnN_ca, nbN_ca, ca_07, ca_08, ca_09, ca_010, beN_ca, ctN_ca, gonN_ca, mvN_ca, stN_ca, thN_ca, fnM_ca, tiN_ca, smN_ca]
            refine x_ifeqB h dX7_change_40 (tgt := 47) (by decide) (fun q40 => ?_) (fun q40 => ?_)
            · refine x_iconst h dX7_change_47 ?_
              refine x_istore h dX7_change_48 rfl rfl ?_
              dsimp only [xset]
              refine x_aload_n h dX7_change_50 rfl ?_
              refine x_iload_n h dX7_change_51 rfl ?_
              refine x_V1i h dX7_change_52 m_ml_X7_148 m_im_X7_isPerson m_se_X7_isPerson (sM0 hm) rfl (by decide) rfl (c_X7_isPerson hm (by omega) (by omega)) ?_
              try simp only [ca_ca, ca_1, dN_ca, wyM_ca, plN_ca, rpN_ca, ltN_ca, pmN_ca, wnN_ca, nbN_ca, ca_07, ca_08, ca_09, ca_010, beN_ca, ctN_ca, gonN_ca, mvN_ca, stN_ca, thN_ca, fnM_ca, tiN_ca, smN_ca]
              refine x_ifeqB h dX7_change_55 (tgt := 63) (by decide) (fun q55 => ?_) (fun q55 => ?_)
              · refine x_aload_n h dX7_change_63 rfl ?_
                refine x_ldc h m_k_X7_76 dX7_change_64 ?_
                have hnc : ¬ ((0 ≤ p ∧ p < M 1 1) ∧ chGd x v) := by unfold chGd; omega
                rw [(nch_0 hnc).1, (nch_0 hnc).2] at he
                refine x_V1i h dX7_change_66 m_ml_X7_101 m_im_X7_finding m_se_X7_finding (sM0 hm) rfl (by decide) rfl (c_X7_finding hm (by omega)) ?_
                try simp only [ca_ca, ca_1, dN_ca, wyM_ca, plN_ca, rpN_ca, ltN_ca, pmN_ca, wnN_ca, nbN_ca, ca_07, ca_08, ca_09, ca_010, beN_ca, ctN_ca, gonN_ca, mvN_ca, stN_ca, thN_ca, fnM_ca, tiN_ca, smN_ca]
                exact x_iretq h he dX7_change_69 ⟨rfl, CaE.rf1 fnM_y rfl rfl hf⟩
              · refine x_iload h dX7_change_58 rfl ?_
                refine x_if_ne h dX7_change_60 (tgt := 70) (by decide) (by omega) (fun q60 => ?_) (fun q60 => ?_)
                · have hgd : (0 ≤ p ∧ p < M 1 1) ∧ chGd x v := by unfold chGd; omega
                  have hn1 := hI.2.2.2 p (by omega) (by omega)
                  have hpm := pmN_R hI (p := p) (by omega)
                  refine x_iload_n h dX7_change_70 rfl ?_
                  refine x_iconst h dX7_change_71 ?_
                  refine x_icmp_ne h dX7_change_72 (tgt := 98) (by decide) (by omega) (by omega) (fun q72 => ?_) (fun q72 => ?_)
                  · have hl2 : x = 1 → ltN M p v (pmN M p) := fun z => by first | assumption | omega
                    rw [(nch_2 hgd hl2).1, (nch_2 hgd hl2).2] at he
                    refine x_aload_n h dX7_change_98 rfl ?_
                    refine x_iload_n h dX7_change_99 rfl ?_
                    refine x_iload_n h dX7_change_100 rfl ?_
                    refine x_S2i h dX7_change_101 m_ml_X7_119 m_st_X7_at (by decide) rfl (c_X7_at hm) ?_
                    try simp only [ca_ca, ca_1, dN_ca, wyM_ca, plN_ca, rpN_ca, ltN_ca, pmN_ca, wnN_ca, nbN_ca, ca_07, ca_08, ca_09, ca_010, beN_ca, ctN_ca, gonN_ca, mvN_ca, stN_ca, thN_ca, fnM_ca, tiN_ca, smN_ca]
                    refine x_iload_n h dX7_change_104 rfl ?_
                    refine x_V2i h dX7_change_105 m_ml_X7_89 m_im_X7_become m_se_X7_become (sM0 hm) rfl (by decide) rfl (c_X7_become hm (by omega) (by omega)) ?_
                    try simp only [ca_ca, ca_1, dN_ca, wyM_ca, plN_ca, rpN_ca, ltN_ca, pmN_ca, wnN_ca, nbN_ca, ca_07, ca_08, ca_09, ca_010, beN_ca, ctN_ca, gonN_ca, mvN_ca, stN_ca, thN_ca, fnM_ca, tiN_ca, smN_ca]
                    try simp only [up_ca1, up_ca07, up_ca08, up_ca09, up_ca010, up_10, up_01, up_0709, up_0710, ca_ca, ca_1, dN_ca, wyM_ca, plN_ca, rpN_ca, ltN_ca, pmN_ca, wnN_ca, nbN_ca, ca_07, ca_08, ca_09, ca_010, beN_ca, ctN_ca, gonN_ca, mvN_ca]
                    exact x_iretq h he dX7_change_108 ⟨by first | rfl | (rw [ca_1]), by first | exact CaE.rf1 (wyM_up (by omega)) rfl rfl hf | exact CaE.of1 (wyM_up (by omega)) (by assumption) | exact CaE.of1 fnM_y (by assumption)⟩
                  · refine x_aload_n h dX7_change_75 rfl ?_
                    refine x_iload_n h dX7_change_76 rfl ?_
                    refine x_iload_n h dX7_change_77 rfl ?_
                    refine x_aload_n h dX7_change_78 rfl ?_
                    refine x_iload_n h dX7_change_79 rfl ?_
                    refine x_V1i h dX7_change_80 m_ml_X7_157 m_im_X7_placeOfMate m_se_X7_placeOfMate (sM0 hm) rfl (by decide) rfl (c_X7_placeOfMate hm (by exact hI) (by first | omega | (simp only [ca_1]; omega))) ?_
                    try simp only [ca_ca, ca_1, dN_ca, wyM_ca, plN_ca, rpN_ca, ltN_ca, pmN_ca, wnN_ca, nbN_ca, ca_07, ca_08, ca_09, ca_010, beN_ca, ctN_ca, gonN_ca, mvN_ca, stN_ca, thN_ca, fnM_ca, tiN_ca, smN_ca]
                    refine x_Q3i h dX7_change_83 m_ml_X7_160 m_im_X7_lets m_se_X7_lets (sM0 hm) rfl (by decide) rfl (c_X7_lets hm (by exact hI) (by assumption) (by first | omega | (simp only [ca_1]; omega)) (by first | omega | (simp only [ca_1]; omega)) (by first | omega | (simp only [ca_1]; omega))) (fun r83 N83 h83 => ?_)
                    obtain ⟨rfl, f83, d83, rfl, c83⟩ := h83
                    try simp only [ca_ca, ca_1, dN_ca, wyM_ca, plN_ca, rpN_ca, ltN_ca, pmN_ca, wnN_ca, nbN_ca, ca_07, ca_08, ca_09, ca_010, beN_ca, ctN_ca, gonN_ca, mvN_ca, stN_ca, thN_ca, fnM_ca, tiN_ca, smN_ca] at c83 ⊢
                    refine x_ifneB h dX7_change_86 (tgt := 98) (by decide) (fun q86 => ?_) (fun q86 => ?_)
                    · have hl2 : x = 1 → ltN M p v (pmN M p) := fun z => by first | assumption | omega
                      rw [(nch_2 hgd hl2).1, (nch_2 hgd hl2).2] at he
                      refine x_aload_n h dX7_change_98 rfl ?_
                      refine x_iload_n h dX7_change_99 rfl ?_
                      refine x_iload_n h dX7_change_100 rfl ?_
                      refine x_S2i h dX7_change_101 m_ml_X7_119 m_st_X7_at (by decide) rfl (c_X7_at hm) ?_
                      try simp only [ca_ca, ca_1, dN_ca, wyM_ca, plN_ca, rpN_ca, ltN_ca, pmN_ca, wnN_ca, nbN_ca, ca_07, ca_08, ca_09, ca_010, beN_ca, ctN_ca, gonN_ca, mvN_ca, stN_ca, thN_ca, fnM_ca, tiN_ca, smN_ca]
                      refine x_iload_n h dX7_change_104 rfl ?_
                      refine x_V2i h dX7_change_105 m_ml_X7_89 m_im_X7_become m_se_X7_become (sM0 hm) rfl (by decide) rfl (c_X7_become hm (by omega) (by omega)) ?_
                      try simp only [ca_ca, ca_1, dN_ca, wyM_ca, plN_ca, rpN_ca, ltN_ca, pmN_ca, wnN_ca, nbN_ca, ca_07, ca_08, ca_09, ca_010, beN_ca, ctN_ca, gonN_ca, mvN_ca, stN_ca, thN_ca, fnM_ca, tiN_ca, smN_ca]
                      try simp only [up_ca1, up_ca07, up_ca08, up_ca09, up_ca010, up_10, up_01, up_0709, up_0710, ca_ca, ca_1, dN_ca, wyM_ca, plN_ca, rpN_ca, ltN_ca, pmN_ca, wnN_ca, nbN_ca, ca_07, ca_08, ca_09, ca_010, beN_ca, ctN_ca, gonN_ca, mvN_ca]
                      exact x_iretq h he dX7_change_108 ⟨by first | rfl | (rw [ca_1]), by first | exact CaE.rf1 (wyM_up (by omega)) rfl rfl hf | exact CaE.of1 (wyM_up (by omega)) (by assumption) | exact CaE.of1 fnM_y (by assumption)⟩
                    · rw [(nch_1 hgd (by omega) q86).1, (nch_1 hgd (by omega) q86).2] at he
                      refine x_aload_n h dX7_change_89 rfl ?_
                      refine x_ldc h m_k_X7_163 dX7_change_90 ?_
                      refine x_V1i h dX7_change_92 m_ml_X7_101 m_im_X7_finding m_se_X7_finding (sM0 hm) rfl (by decide) rfl (c_X7_finding hm (by omega)) ?_
                      try simp only [ca_ca, ca_1, dN_ca, wyM_ca, plN_ca, rpN_ca, ltN_ca, pmN_ca, wnN_ca, nbN_ca, ca_07, ca_08, ca_09, ca_010, beN_ca, ctN_ca, gonN_ca, mvN_ca, stN_ca, thN_ca, fnM_ca, tiN_ca, smN_ca]
                      refine x_goto h dX7_change_95 (tgt := 108) (by decide) ?_
                      try simp only [up_ca1, up_ca07, up_ca08, up_ca09, up_ca010, up_10, up_01, up_0709, up_0710, ca_ca, ca_1, dN_ca, wyM_ca, plN_ca, rpN_ca, ltN_ca, pmN_ca, wnN_ca, nbN_ca, ca_07, ca_08, ca_09, ca_010, beN_ca, ctN_ca, gonN_ca, mvN_ca]
                      exact x_iretq h he dX7_change_108 ⟨by first | rfl | (rw [ca_1]), by first | exact CaE.rf1 (wyM_up (by omega)) rfl rfl hf | exact CaE.of1 (wyM_up (by omega)) (by assumption) | exact CaE.of1 fnM_y (by assumption)⟩
                · refine x_aload_n h dX7_change_63 rfl ?_
                  refine x_ldc h m_k_X7_76 dX7_change_64 ?_
                  have hnc : ¬ ((0 ≤ p ∧ p < M 1 1) ∧ chGd x v) := by unfold chGd; omega
                  rw [(nch_0 hnc).1, (nch_0 hnc).2] at he
                  refine x_V1i h dX7_change_66 m_ml_X7_101 m_im_X7_finding m_se_X7_finding (sM0 hm) rfl (by decide) rfl (c_X7_finding hm (by omega)) ?_
                  try simp only [ca_ca, ca_1, dN_ca, wyM_ca, plN_ca, rpN_ca, ltN_ca, pmN_ca, wnN_ca, nbN_ca, ca_07, ca_08, ca_09, ca_010, beN_ca, ctN_ca, gonN_ca, mvN_ca, stN_ca, thN_ca, fnM_ca, tiN_ca, smN_ca]
                  exact x_iretq h he dX7_change_69 ⟨rfl, CaE.rf1 fnM_y rfl rfl hf⟩
            · refine x_iconst h dX7_change_43 ?_
              refine x_goto h dX7_change_44 (tgt := 48) (by decide) ?_
              refine x_istore h dX7_change_48 rfl rfl ?_
              dsimp only [xset]
              refine x_aload_n h dX7_change_50 rfl ?_
              refine x_iload_n h dX7_change_51 rfl ?_
              refine x_V1i h dX7_change_52 m_ml_X7_148 m_im_X7_isPerson m_se_X7_isPerson (sM0 hm) rfl (by decide) rfl (c_X7_isPerson hm (by omega) (by omega)) ?_
              try simp only [ca_ca, ca_1, dN_ca, wyM_ca, plN_ca, rpN_ca, ltN_ca, pmN_ca, wnN_ca, nbN_ca, ca_07, ca_08, ca_09, ca_010, beN_ca, ctN_ca, gonN_ca, mvN_ca, stN_ca, thN_ca, fnM_ca, tiN_ca, smN_ca]
              refine x_ifeqB h dX7_change_55 (tgt := 63) (by decide) (fun q55 => ?_) (fun q55 => ?_)
              · refine x_aload_n h dX7_change_63 rfl ?_
                refine x_ldc h m_k_X7_76 dX7_change_64 ?_
                have hnc : ¬ ((0 ≤ p ∧ p < M 1 1) ∧ chGd x v) := by unfold chGd; omega
                rw [(nch_0 hnc).1, (nch_0 hnc).2] at he
                refine x_V1i h dX7_change_66 m_ml_X7_101 m_im_X7_finding m_se_X7_finding (sM0 hm) rfl (by decide) rfl (c_X7_finding hm (by omega)) ?_
                try simp only [ca_ca, ca_1, dN_ca, wyM_ca, plN_ca, rpN_ca, ltN_ca, pmN_ca, wnN_ca, nbN_ca, ca_07, ca_08, ca_09, ca_010, beN_ca, ctN_ca, gonN_ca, mvN_ca, stN_ca, thN_ca, fnM_ca, tiN_ca, smN_ca]
                exact x_iretq h he dX7_change_69 ⟨rfl, CaE.rf1 fnM_y rfl rfl hf⟩
              · refine x_iload h dX7_change_58 rfl ?_
                refine x_if_ne h dX7_change_60 (tgt := 70) (by decide) (by omega) (fun q60 => ?_) (fun q60 => ?_)
                · have hgd : (0 ≤ p ∧ p < M 1 1) ∧ chGd x v := by unfold chGd; omega
                  have hn1 := hI.2.2.2 p (by omega) (by omega)
                  have hpm := pmN_R hI (p := p) (by omega)
                  refine x_iload_n h dX7_change_70 rfl ?_
                  refine x_iconst h dX7_change_71 ?_
                  refine x_icmp_ne h dX7_change_72 (tgt := 98) (by decide) (by omega) (by omega) (fun q72 => ?_) (fun q72 => ?_)
                  · have hl2 : x = 1 → ltN M p v (pmN M p) := fun z => by first | assumption | omega
                    rw [(nch_2 hgd hl2).1, (nch_2 hgd hl2).2] at he
                    refine x_aload_n h dX7_change_98 rfl ?_
                    refine x_iload_n h dX7_change_99 rfl ?_
                    refine x_iload_n h dX7_change_100 rfl ?_
                    refine x_S2i h dX7_change_101 m_ml_X7_119 m_st_X7_at (by decide) rfl (c_X7_at hm) ?_
                    try simp only [ca_ca, ca_1, dN_ca, wyM_ca, plN_ca, rpN_ca, ltN_ca, pmN_ca, wnN_ca, nbN_ca, ca_07, ca_08, ca_09, ca_010, beN_ca, ctN_ca, gonN_ca, mvN_ca, stN_ca, thN_ca, fnM_ca, tiN_ca, smN_ca]
                    refine x_iload_n h dX7_change_104 rfl ?_
                    refine x_V2i h dX7_change_105 m_ml_X7_89 m_im_X7_become m_se_X7_become (sM0 hm) rfl (by decide) rfl (c_X7_become hm (by omega) (by omega)) ?_
                    try simp only [ca_ca, ca_1, dN_ca, wyM_ca, plN_ca, rpN_ca, ltN_ca, pmN_ca, wnN_ca, nbN_ca, ca_07, ca_08, ca_09, ca_010, beN_ca, ctN_ca, gonN_ca, mvN_ca, stN_ca, thN_ca, fnM_ca, tiN_ca, smN_ca]
                    try simp only [up_ca1, up_ca07, up_ca08, up_ca09, up_ca010, up_10, up_01, up_0709, up_0710, ca_ca, ca_1, dN_ca, wyM_ca, plN_ca, rpN_ca, ltN_ca, pmN_ca, wnN_ca, nbN_ca, ca_07, ca_08, ca_09, ca_010, beN_ca, ctN_ca, gonN_ca, mvN_ca]
                    exact x_iretq h he dX7_change_108 ⟨by first | rfl | (rw [ca_1]), by first | exact CaE.rf1 (wyM_up (by omega)) rfl rfl hf | exact CaE.of1 (wyM_up (by omega)) (by assumption) | exact CaE.of1 fnM_y (by assumption)⟩
                  · refine x_aload_n h dX7_change_75 rfl ?_
                    refine x_iload_n h dX7_change_76 rfl ?_
                    refine x_iload_n h dX7_change_77 rfl ?_
                    refine x_aload_n h dX7_change_78 rfl ?_
                    refine x_iload_n h dX7_change_79 rfl ?_
                    refine x_V1i h dX7_change_80 m_ml_X7_157 m_im_X7_placeOfMate m_se_X7_placeOfMate (sM0 hm) rfl (by decide) rfl (c_X7_placeOfMate hm (by exact hI) (by first | omega | (simp only [ca_1]; omega))) ?_
                    try simp only [ca_ca, ca_1, dN_ca, wyM_ca, plN_ca, rpN_ca, ltN_ca, pmN_ca, wnN_ca, nbN_ca, ca_07, ca_08, ca_09, ca_010, beN_ca, ctN_ca, gonN_ca, mvN_ca, stN_ca, thN_ca, fnM_ca, tiN_ca, smN_ca]
                    refine x_Q3i h dX7_change_83 m_ml_X7_160 m_im_X7_lets m_se_X7_lets (sM0 hm) rfl (by decide) rfl (c_X7_lets hm (by exact hI) (by assumption) (by first | omega | (simp only [ca_1]; omega)) (by first | omega | (simp only [ca_1]; omega)) (by first | omega | (simp only [ca_1]; omega))) (fun r83 N83 h83 => ?_)
                    obtain ⟨rfl, f83, d83, rfl, c83⟩ := h83
                    try simp only [ca_ca, ca_1, dN_ca, wyM_ca, plN_ca, rpN_ca, ltN_ca, pmN_ca, wnN_ca, nbN_ca, ca_07, ca_08, ca_09, ca_010, beN_ca, ctN_ca, gonN_ca, mvN_ca, stN_ca, thN_ca, fnM_ca, tiN_ca, smN_ca] at c83 ⊢
                    refine x_ifneB h dX7_change_86 (tgt := 98) (by decide) (fun q86 => ?_) (fun q86 => ?_)
                    · have hl2 : x = 1 → ltN M p v (pmN M p) := fun z => by first | assumption | omega
                      rw [(nch_2 hgd hl2).1, (nch_2 hgd hl2).2] at he
                      refine x_aload_n h dX7_change_98 rfl ?_
                      refine x_iload_n h dX7_change_99 rfl ?_
                      refine x_iload_n h dX7_change_100 rfl ?_
                      refine x_S2i h dX7_change_101 m_ml_X7_119 m_st_X7_at (by decide) rfl (c_X7_at hm) ?_
                      try simp only [ca_ca, ca_1, dN_ca, wyM_ca, plN_ca, rpN_ca, ltN_ca, pmN_ca, wnN_ca, nbN_ca, ca_07, ca_08, ca_09, ca_010, beN_ca, ctN_ca, gonN_ca, mvN_ca, stN_ca, thN_ca, fnM_ca, tiN_ca, smN_ca]
                      refine x_iload_n h dX7_change_104 rfl ?_
                      refine x_V2i h dX7_change_105 m_ml_X7_89 m_im_X7_become m_se_X7_become (sM0 hm) rfl (by decide) rfl (c_X7_become hm (by omega) (by omega)) ?_
                      try simp only [ca_ca, ca_1, dN_ca, wyM_ca, plN_ca, rpN_ca, ltN_ca, pmN_ca, wnN_ca, nbN_ca, ca_07, ca_08, ca_09, ca_010, beN_ca, ctN_ca, gonN_ca, mvN_ca, stN_ca, thN_ca, fnM_ca, tiN_ca, smN_ca]
                      try simp only [up_ca1, up_ca07, up_ca08, up_ca09, up_ca010, up_10, up_01, up_0709, up_0710, ca_ca, ca_1, dN_ca, wyM_ca, plN_ca, rpN_ca, ltN_ca, pmN_ca, wnN_ca, nbN_ca, ca_07, ca_08, ca_09, ca_010, beN_ca, ctN_ca, gonN_ca, mvN_ca]
                      exact x_iretq h he dX7_change_108 ⟨by first | rfl | (rw [ca_1]), by first | exact CaE.rf1 (wyM_up (by omega)) rfl rfl hf | exact CaE.of1 (wyM_up (by omega)) (by assumption) | exact CaE.of1 fnM_y (by assumption)⟩
                    · rw [(nch_1 hgd (by omega) q86).1, (nch_1 hgd (by omega) q86).2] at he
                      refine x_aload_n h dX7_change_89 rfl ?_
                      refine x_ldc h m_k_X7_163 dX7_change_90 ?_
                      refine x_V1i h dX7_change_92 m_ml_X7_101 m_im_X7_finding m_se_X7_finding (sM0 hm) rfl (by decide) rfl (c_X7_finding hm (by omega)) ?_
                      try simp only [ca_ca, ca_1, dN_ca, wyM_ca, plN_ca, rpN_ca, ltN_ca, pmN_ca, wnN_ca, nbN_ca, ca_07, ca_08, ca_09, ca_010, beN_ca, ctN_ca, gonN_ca, mvN_ca, stN_ca, thN_ca, fnM_ca, tiN_ca, smN_ca]
                      refine x_goto h dX7_change_95 (tgt := 108) (by decide) ?_
                      try simp only [up_ca1, up_ca07, up_ca08, up_ca09, up_ca010, up_10, up_01, up_0709, up_0710, ca_ca, ca_1, dN_ca, wyM_ca, plN_ca, rpN_ca, ltN_ca, pmN_ca, wnN_ca, nbN_ca, ca_07, ca_08, ca_09, ca_010, beN_ca, ctN_ca, gonN_ca, mvN_ca]
                      exact x_iretq h he dX7_change_108 ⟨by first | rfl | (rw [ca_1]), by first | exact CaE.rf1 (wyM_up (by omega)) rfl rfl hf | exact CaE.of1 (wyM_up (by omega)) (by assumption) | exact CaE.of1 fnM_y (by assumption)⟩
                · refine x_aload_n h dX7_change_63 rfl ?_
                  refine x_ldc h m_k_X7_76 dX7_change_64 ?_
                  have hnc : ¬ ((0 ≤ p ∧ p < M 1 1) ∧ chGd x v) := by unfold chGd; omega
                  rw [(nch_0 hnc).1, (nch_0 hnc).2] at he
                  refine x_V1i h dX7_change_66 m_ml_X7_101 m_im_X7_finding m_se_X7_finding (sM0 hm) rfl (by decide) rfl (c_X7_finding hm (by omega)) ?_
                  try simp only [ca_ca, ca_1, dN_ca, wyM_ca, plN_ca, rpN_ca, ltN_ca, pmN_ca, wnN_ca, nbN_ca, ca_07, ca_08, ca_09, ca_010, beN_ca, ctN_ca, gonN_ca, mvN_ca, stN_ca, thN_ca, fnM_ca, tiN_ca, smN_ca]
                  exact x_iretq h he dX7_change_69 ⟨rfl, CaE.rf1 fnM_y rfl rfl hf⟩
      · refine x_iload_n h dX7_change_16 rfl ?_
        refine x_iconst h dX7_change_17 ?_
        refine x_icmp_ne h dX7_change_18 (tgt := 28) (by decide) (by omega) (by omega) (fun q18 => ?_) (fun q18 => ?_)
        · refine x_iload_n h dX7_change_28 rfl ?_
          refine x_iconst h dX7_change_29 ?_
          refine x_icmp_ne h dX7_change_30 (tgt := 47) (by decide) (by omega) (by omega) (fun q30 => ?_) (fun q30 => ?_)
          · refine x_iconst h dX7_change_47 ?_
            refine x_istore h dX7_change_48 rfl rfl ?_
            dsimp only [xset]
            refine x_aload_n h dX7_change_50 rfl ?_
            refine x_iload_n h dX7_change_51 rfl ?_
            refine x_V1i h dX7_change_52 m_ml_X7_148 m_im_X7_isPerson m_se_X7_isPerson (sM0 hm) rfl (by decide) rfl (c_X7_isPerson hm (by omega) (by omega)) ?_
            try simp only [ca_ca, ca_1, dN_ca, wyM_ca, plN_ca, rpN_ca, ltN_ca, pmN_ca, wnN_ca, nbN_ca, ca_07, ca_08, ca_09, ca_010, beN_ca, ctN_ca, gonN_ca, mvN_ca, stN_ca, thN_ca, fnM_ca, tiN_ca, smN_ca]
            refine x_ifeqB h dX7_change_55 (tgt := 63) (by decide) (fun q55 => ?_) (fun q55 => ?_)
            · refine x_aload_n h dX7_change_63 rfl ?_
              refine x_ldc h m_k_X7_76 dX7_change_64 ?_
              have hnc : ¬ ((0 ≤ p ∧ p < M 1 1) ∧ chGd x v) := by unfold chGd; omega
              rw [(nch_0 hnc).1, (nch_0 hnc).2] at he
              refine x_V1i h dX7_change_66 m_ml_X7_101 m_im_X7_finding m_se_X7_finding (sM0 hm) rfl (by decide) rfl (c_X7_finding hm (by omega)) ?_
              try simp only [ca_ca, ca_1, dN_ca, wyM_ca, plN_ca, rpN_ca, ltN_ca, pmN_ca, wnN_ca, nbN_ca, ca_07, ca_08, ca_09, ca_010, beN_ca, ctN_ca, gonN_ca, mvN_ca, stN_ca, thN_ca, fnM_ca, tiN_ca, smN_ca]
              exact x_iretq h he dX7_change_69 ⟨rfl, CaE.rf1 fnM_y rfl rfl hf⟩
            · refine x_iload h dX7_change_58 rfl ?_
              refine x_if_ne h dX7_change_60 (tgt := 70) (by decide) (by omega) (fun q60 => ?_) (fun q60 => ?_)
              · have hgd : (0 ≤ p ∧ p < M 1 1) ∧ chGd x v := by unfold chGd; omega
                have hn1 := hI.2.2.2 p (by omega) (by omega)
                have hpm := pmN_R hI (p := p) (by omega)
                refine x_iload_n h dX7_change_70 rfl ?_
                refine x_iconst h dX7_change_71 ?_
                refine x_icmp_ne h dX7_change_72 (tgt := 98) (by decide) (by omega) (by omega) (fun q72 => ?_) (fun q72 => ?_)
                · have hl2 : x = 1 → ltN M p v (pmN M p) := fun z => by first | assumption | omega
                  rw [(nch_2 hgd hl2).1, (nch_2 hgd hl2).2] at he
                  refine x_aload_n h dX7_change_98 rfl ?_
                  refine x_iload_n h dX7_change_99 rfl ?_
                  refine x_iload_n h dX7_change_100 rfl ?_
                  refine x_S2i h dX7_change_101 m_ml_X7_119 m_st_X7_at (by decide) rfl (c_X7_at hm) ?_
                  try simp only [ca_ca, ca_1, dN_ca, wyM_ca, plN_ca, rpN_ca, ltN_ca, pmN_ca, wnN_ca, nbN_ca, ca_07, ca_08, ca_09, ca_010, beN_ca, ctN_ca, gonN_ca, mvN_ca, stN_ca, thN_ca, fnM_ca, tiN_ca, smN_ca]
                  refine x_iload_n h dX7_change_104 rfl ?_
                  refine x_V2i h dX7_change_105 m_ml_X7_89 m_im_X7_become m_se_X7_become (sM0 hm) rfl (by decide) rfl (c_X7_become hm (by omega) (by omega)) ?_
                  try simp only [ca_ca, ca_1, dN_ca, wyM_ca, plN_ca, rpN_ca, ltN_ca, pmN_ca, wnN_ca, nbN_ca, ca_07, ca_08, ca_09, ca_010, beN_ca, ctN_ca, gonN_ca, mvN_ca, stN_ca, thN_ca, fnM_ca, tiN_ca, smN_ca]
                  try simp only [up_ca1, up_ca07, up_ca08, up_ca09, up_ca010, up_10, up_01, up_0709, up_0710, ca_ca, ca_1, dN_ca, wyM_ca, plN_ca, rpN_ca, ltN_ca, pmN_ca, wnN_ca, nbN_ca, ca_07, ca_08, ca_09, ca_010, beN_ca, ctN_ca, gonN_ca, mvN_ca]
                  exact x_iretq h he dX7_change_108 ⟨by first | rfl | (rw [ca_1]), by first | exact CaE.rf1 (wyM_up (by omega)) rfl rfl hf | exact CaE.of1 (wyM_up (by omega)) (by assumption) | exact CaE.of1 fnM_y (by assumption)⟩
                · refine x_aload_n h dX7_change_75 rfl ?_
                  refine x_iload_n h dX7_change_76 rfl ?_
                  refine x_iload_n h dX7_change_77 rfl ?_
                  refine x_aload_n h dX7_change_78 rfl ?_
                  refine x_iload_n h dX7_change_79 rfl ?_
                  refine x_V1i h dX7_change_80 m_ml_X7_157 m_im_X7_placeOfMate m_se_X7_placeOfMate (sM0 hm) rfl (by decide) rfl (c_X7_placeOfMate hm (by exact hI) (by first | omega | (simp only [ca_1]; omega))) ?_
                  try simp only [ca_ca, ca_1, dN_ca, wyM_ca, plN_ca, rpN_ca, ltN_ca, pmN_ca, wnN_ca, nbN_ca, ca_07, ca_08, ca_09, ca_010, beN_ca, ctN_ca, gonN_ca, mvN_ca, stN_ca, thN_ca, fnM_ca, tiN_ca, smN_ca]
                  refine x_Q3i h dX7_change_83 m_ml_X7_160 m_im_X7_lets m_se_X7_lets (sM0 hm) rfl (by decide) rfl (c_X7_lets hm (by exact hI) (by assumption) (by first | omega | (simp only [ca_1]; omega)) (by first | omega | (simp only [ca_1]; omega)) (by first | omega | (simp only [ca_1]; omega))) (fun r83 N83 h83 => ?_)
                  obtain ⟨rfl, f83, d83, rfl, c83⟩ := h83
                  try simp only [ca_ca, ca_1, dN_ca, wyM_ca, plN_ca, rpN_ca, ltN_ca, pmN_ca, wnN_ca, nbN_ca, ca_07, ca_08, ca_09, ca_010, beN_ca, ctN_ca, gonN_ca, mvN_ca, stN_ca, thN_ca, fnM_ca, tiN_ca, smN_ca] at c83 ⊢
                  refine x_ifneB h dX7_change_86 (tgt := 98) (by decide) (fun q86 => ?_) (fun q86 => ?_)
                  · have hl2 : x = 1 → ltN M p v (pmN M p) := fun z => by first | assumption | omega
                    rw [(nch_2 hgd hl2).1, (nch_2 hgd hl2).2] at he
                    refine x_aload_n h dX7_change_98 rfl ?_
                    refine x_iload_n h dX7_change_99 rfl ?_
                    refine x_iload_n h dX7_change_100 rfl ?_
                    refine x_S2i h dX7_change_101 m_ml_X7_119 m_st_X7_at (by decide) rfl (c_X7_at hm) ?_
                    try simp only [ca_ca, ca_1, dN_ca, wyM_ca, plN_ca, rpN_ca, ltN_ca, pmN_ca, wnN_ca, nbN_ca, ca_07, ca_08, ca_09, ca_010, beN_ca, ctN_ca, gonN_ca, mvN_ca, stN_ca, thN_ca, fnM_ca, tiN_ca, smN_ca]
                    refine x_iload_n h dX7_change_104 rfl ?_
                    refine x_V2i h dX7_change_105 m_ml_X7_89 m_im_X7_become m_se_X7_become (sM0 hm) rfl (by decide) rfl (c_X7_become hm (by omega) (by omega)) ?_
                    try simp only [ca_ca, ca_1, dN_ca, wyM_ca, plN_ca, rpN_ca, ltN_ca, pmN_ca, wnN_ca, nbN_ca, ca_07, ca_08, ca_09, ca_010, beN_ca, ctN_ca, gonN_ca, mvN_ca, stN_ca, thN_ca, fnM_ca, tiN_ca, smN_ca]
                    try simp only [up_ca1, up_ca07, up_ca08, up_ca09, up_ca010, up_10, up_01, up_0709, up_0710, ca_ca, ca_1, dN_ca, wyM_ca, plN_ca, rpN_ca, ltN_ca, pmN_ca, wnN_ca, nbN_ca, ca_07, ca_08, ca_09, ca_010, beN_ca, ctN_ca, gonN_ca, mvN_ca]
                    exact x_iretq h he dX7_change_108 ⟨by first | rfl | (rw [ca_1]), by first | exact CaE.rf1 (wyM_up (by omega)) rfl rfl hf | exact CaE.of1 (wyM_up (by omega)) (by assumption) | exact CaE.of1 fnM_y (by assumption)⟩
                  · rw [(nch_1 hgd (by omega) q86).1, (nch_1 hgd (by omega) q86).2] at he
                    refine x_aload_n h dX7_change_89 rfl ?_
                    refine x_ldc h m_k_X7_163 dX7_change_90 ?_
                    refine x_V1i h dX7_change_92 m_ml_X7_101 m_im_X7_finding m_se_X7_finding (sM0 hm) rfl (by decide) rfl (c_X7_finding hm (by omega)) ?_
                    try simp only [ca_ca, ca_1, dN_ca, wyM_ca, plN_ca, rpN_ca, ltN_ca, pmN_ca, wnN_ca, nbN_ca, ca_07, ca_08, ca_09, ca_010, beN_ca, ctN_ca, gonN_ca, mvN_ca, stN_ca, thN_ca, fnM_ca, tiN_ca, smN_ca]
                    refine x_goto h dX7_change_95 (tgt := 108) (by decide) ?_
                    try simp only [up_ca1, up_ca07, up_ca08, up_ca09, up_ca010, up_10, up_01, up_0709, up_0710, ca_ca, ca_1, dN_ca, wyM_ca, plN_ca, rpN_ca, ltN_ca, pmN_ca, wnN_ca, nbN_ca, ca_07, ca_08, ca_09, ca_010, beN_ca, ctN_ca, gonN_ca, mvN_ca]
                    exact x_iretq h he dX7_change_108 ⟨by first | rfl | (rw [ca_1]), by first | exact CaE.rf1 (wyM_up (by omega)) rfl rfl hf | exact CaE.of1 (wyM_up (by omega)) (by assumption) | exact CaE.of1 fnM_y (by assumption)⟩
              · refine x_aload_n h dX7_change_63 rfl ?_
                refine x_ldc h m_k_X7_76 dX7_change_64 ?_
                have hnc : ¬ ((0 ≤ p ∧ p < M 1 1) ∧ chGd x v) := by unfold chGd; omega
                rw [(nch_0 hnc).1, (nch_0 hnc).2] at he
                refine x_V1i h dX7_change_66 m_ml_X7_101 m_im_X7_finding m_se_X7_finding (sM0 hm) rfl (by decide) rfl (c_X7_finding hm (by omega)) ?_
                try simp only [ca_ca, ca_1, dN_ca, wyM_ca, plN_ca, rpN_ca, ltN_ca, pmN_ca, wnN_ca, nbN_ca, ca_07, ca_08, ca_09, ca_010, beN_ca, ctN_ca, gonN_ca, mvN_ca, stN_ca, thN_ca, fnM_ca, tiN_ca, smN_ca]
                exact x_iretq h he dX7_change_69 ⟨rfl, CaE.rf1 fnM_y rfl rfl hf⟩
          · refine x_iload_n h dX7_change_33 rfl ?_
            refine x_iconst h dX7_change_34 ?_
            refine x_bipush h dX7_change_35 (by decide) ?_
            refine x_S3i h dX7_change_37 m_ml_X7_81 m_st_X7_within (by decide) rfl (c_X7_within hm (by omega) (by omega) (by omega)) ?_
            try simp only [ca_ca, ca_1, dN_ca, wyM_ca, plN_ca, rpN_ca, ltN_ca, pmN_ca, wnN_ca, nbN_ca, ca_07, ca_08, ca_09, ca_010, beN_ca, ctN_ca, gonN_ca, mvN_ca, stN_ca, thN_ca, fnM_ca, tiN_ca, smN_ca]
            refine x_ifeqB h dX7_change_40 (tgt := 47) (by decide) (fun q40 => ?_) (fun q40 => ?_)
            · refine x_iconst h dX7_change_47 ?_
              refine x_istore h dX7_change_48 rfl rfl ?_
              dsimp only [xset]
              refine x_aload_n h dX7_change_50 rfl ?_
              refine x_iload_n h dX7_change_51 rfl ?_
              refine x_V1i h dX7_change_52 m_ml_X7_148 m_im_X7_isPerson m_se_X7_isPerson (sM0 hm) rfl (by decide) rfl (c_X7_isPerson hm (by omega) (by omega)) ?_
              try simp only [ca_ca, ca_1, dN_ca, wyM_ca, plN_ca, rpN_ca, ltN_ca, pmN_ca, wnN_ca, nbN_ca, ca_07, ca_08, ca_09, ca_010, beN_ca, ctN_ca, gonN_ca, mvN_ca, stN_ca, thN_ca, fnM_ca, tiN_ca, smN_ca]
              refine x_ifeqB h dX7_change_55 (tgt := 63) (by decide) (fun q55 => ?_) (fun q55 => ?_)
              · refine x_aload_n h dX7_change_63 rfl ?_
                refine x_ldc h m_k_X7_76 dX7_change_64 ?_
                have hnc : ¬ ((0 ≤ p ∧ p < M 1 1) ∧ chGd x v) := by unfold chGd; omega
                rw [(nch_0 hnc).1, (nch_0 hnc).2] at he
                refine x_V1i h dX7_change_66 m_ml_X7_101 m_im_X7_finding m_se_X7_finding (sM0 hm) rfl (by decide) rfl (c_X7_finding hm (by omega)) ?_
                try simp only [ca_ca, ca_1, dN_ca, wyM_ca, plN_ca, rpN_ca, ltN_ca, pmN_ca, wnN_ca, nbN_ca, ca_07, ca_08, ca_09, ca_010, beN_ca, ctN_ca, gonN_ca, mvN_ca, stN_ca, thN_ca, fnM_ca, tiN_ca, smN_ca]
                exact x_iretq h he dX7_change_69 ⟨rfl, CaE.rf1 fnM_y rfl rfl hf⟩
              · refine x_iload h dX7_change_58 rfl ?_
                refine x_if_ne h dX7_change_60 (tgt := 70) (by decide) (by omega) (fun q60 => ?_) (fun q60 => ?_)
                · have hgd : (0 ≤ p ∧ p < M 1 1) ∧ chGd x v := by unfold chGd; omega
                  have hn1 := hI.2.2.2 p (by omega) (by omega)
                  have hpm := pmN_R hI (p := p) (by omega)
                  refine x_iload_n h dX7_change_70 rfl ?_
                  refine x_iconst h dX7_change_71 ?_
                  refine x_icmp_ne h dX7_change_72 (tgt := 98) (by decide) (by omega) (by omega) (fun q72 => ?_) (fun q72 => ?_)
                  · have hl2 : x = 1 → ltN M p v (pmN M p) := fun z => by first | assumption | omega
                    rw [(nch_2 hgd hl2).1, (nch_2 hgd hl2).2] at he
                    refine x_aload_n h dX7_change_98 rfl ?_
                    refine x_iload_n h dX7_change_99 rfl ?_
                    refine x_iload_n h dX7_change_100 rfl ?_
                    refine x_S2i h dX7_change_101 m_ml_X7_119 m_st_X7_at (by decide) rfl (c_X7_at hm) ?_
                    try simp only [ca_ca, ca_1, dN_ca, wyM_ca, plN_ca, rpN_ca, ltN_ca, pmN_ca, wnN_ca, nbN_ca, ca_07, ca_08, ca_09, ca_010, beN_ca, ctN_ca, gonN_ca, mvN_ca, stN_ca, thN_ca, fnM_ca, tiN_ca, smN_ca]
                    refine x_iload_n h dX7_change_104 rfl ?_
                    refine x_V2i h dX7_change_105 m_ml_X7_89 m_im_X7_become m_se_X7_become (sM0 hm) rfl (by decide) rfl (c_X7_become hm (by omega) (by omega)) ?_
                    try simp only [ca_ca, ca_1, dN_ca, wyM_ca, plN_ca, rpN_ca, ltN_ca, pmN_ca, wnN_ca, nbN_ca, ca_07, ca_08, ca_09, ca_010, beN_ca, ctN_ca, gonN_ca, mvN_ca, stN_ca, thN_ca, fnM_ca, tiN_ca, smN_ca]
                    try simp only [up_ca1, up_ca07, up_ca08, up_ca09, up_ca010, up_10, up_01, up_0709, up_0710, ca_ca, ca_1, dN_ca, wyM_ca, plN_ca, rpN_ca, ltN_ca, pmN_ca, wnN_ca, nbN_ca, ca_07, ca_08, ca_09, ca_010, beN_ca, ctN_ca, gonN_ca, mvN_ca]
                    exact x_iretq h he dX7_change_108 ⟨by first | rfl | (rw [ca_1]), by first | exact CaE.rf1 (wyM_up (by omega)) rfl rfl hf | exact CaE.of1 (wyM_up (by omega)) (by assumption) | exact CaE.of1 fnM_y (by assumption)⟩
                  · refine x_aload_n h dX7_change_75 rfl ?_
                    refine x_iload_n h dX7_change_76 rfl ?_
                    refine x_iload_n h dX7_change_77 rfl ?_
                    refine x_aload_n h dX7_change_78 rfl ?_
                    refine x_iload_n h dX7_change_79 rfl ?_
                    refine x_V1i h dX7_change_80 m_ml_X7_157 m_im_X7_placeOfMate m_se_X7_placeOfMate (sM0 hm) rfl (by decide) rfl (c_X7_placeOfMate hm (by exact hI) (by first | omega | (simp only [ca_1]; omega))) ?_
                    try simp only [ca_ca, ca_1, dN_ca, wyM_ca, plN_ca, rpN_ca, ltN_ca, pmN_ca, wnN_ca, nbN_ca, ca_07, ca_08, ca_09, ca_010, beN_ca, ctN_ca, gonN_ca, mvN_ca, stN_ca, thN_ca, fnM_ca, tiN_ca, smN_ca]
                    refine x_Q3i h dX7_change_83 m_ml_X7_160 m_im_X7_lets m_se_X7_lets (sM0 hm) rfl (by decide) rfl (c_X7_lets hm (by exact hI) (by assumption) (by first | omega | (simp only [ca_1]; omega)) (by first | omega | (simp only [ca_1]; omega)) (by first | omega | (simp only [ca_1]; omega))) (fun r83 N83 h83 => ?_)
                    obtain ⟨rfl, f83, d83, rfl, c83⟩ := h83
                    try simp only [ca_ca, ca_1, dN_ca, wyM_ca, plN_ca, rpN_ca, ltN_ca, pmN_ca, wnN_ca, nbN_ca, ca_07, ca_08, ca_09, ca_010, beN_ca, ctN_ca, gonN_ca, mvN_ca, stN_ca, thN_ca, fnM_ca, tiN_ca, smN_ca] at c83 ⊢
                    refine x_ifneB h dX7_change_86 (tgt := 98) (by decide) (fun q86 => ?_) (fun q86 => ?_)
                    · have hl2 : x = 1 → ltN M p v (pmN M p) := fun z => by first | assumption | omega
                      rw [(nch_2 hgd hl2).1, (nch_2 hgd hl2).2] at he
                      refine x_aload_n h dX7_change_98 rfl ?_
                      refine x_iload_n h dX7_change_99 rfl ?_
                      refine x_iload_n h dX7_change_100 rfl ?_
                      refine x_S2i h dX7_change_101 m_ml_X7_119 m_st_X7_at (by decide) rfl (c_X7_at hm) ?_
                      try simp only [ca_ca, ca_1, dN_ca, wyM_ca, plN_ca, rpN_ca, ltN_ca, pmN_ca, wnN_ca, nbN_ca, ca_07, ca_08, ca_09, ca_010, beN_ca, ctN_ca, gonN_ca, mvN_ca, stN_ca, thN_ca, fnM_ca, tiN_ca, smN_ca]
                      refine x_iload_n h dX7_change_104 rfl ?_
                      refine x_V2i h dX7_change_105 m_ml_X7_89 m_im_X7_become m_se_X7_become (sM0 hm) rfl (by decide) rfl (c_X7_become hm (by omega) (by omega)) ?_
                      try simp only [ca_ca, ca_1, dN_ca, wyM_ca, plN_ca, rpN_ca, ltN_ca, pmN_ca, wnN_ca, nbN_ca, ca_07, ca_08, ca_09, ca_010, beN_ca, ctN_ca, gonN_ca, mvN_ca, stN_ca, thN_ca, fnM_ca, tiN_ca, smN_ca]
                      try simp only [up_ca1, up_ca07, up_ca08, up_ca09, up_ca010, up_10, up_01, up_0709, up_0710, ca_ca, ca_1, dN_ca, wyM_ca, plN_ca, rpN_ca, ltN_ca, pmN_ca, wnN_ca, nbN_ca, ca_07, ca_08, ca_09, ca_010, beN_ca, ctN_ca, gonN_ca, mvN_ca]
                      exact x_iretq h he dX7_change_108 ⟨by first | rfl | (rw [ca_1]), by first | exact CaE.rf1 (wyM_up (by omega)) rfl rfl hf | exact CaE.of1 (wyM_up (by omega)) (by assumption) | exact CaE.of1 fnM_y (by assumption)⟩
                    · rw [(nch_1 hgd (by omega) q86).1, (nch_1 hgd (by omega) q86).2] at he
                      refine x_aload_n h dX7_change_89 rfl ?_
                      refine x_ldc h m_k_X7_163 dX7_change_90 ?_
                      refine x_V1i h dX7_change_92 m_ml_X7_101 m_im_X7_finding m_se_X7_finding (sM0 hm) rfl (by decide) rfl (c_X7_finding hm (by omega)) ?_
                      try simp only [ca_ca, ca_1, dN_ca, wyM_ca, plN_ca, rpN_ca, ltN_ca, pmN_ca, wnN_ca, nbN_ca, ca_07, ca_08, ca_09, ca_010, beN_ca, ctN_ca, gonN_ca, mvN_ca, stN_ca, thN_ca, fnM_ca, tiN_ca, smN_ca]
                      refine x_goto h dX7_change_95 (tgt := 108) (by decide) ?_
                      try simp only [up_ca1, up_ca07, up_ca08, up_ca09, up_ca010, up_10, up_01, up_0709, up_0710, ca_ca, ca_1, dN_ca, wyM_ca, plN_ca, rpN_ca, ltN_ca, pmN_ca, wnN_ca, nbN_ca, ca_07, ca_08, ca_09, ca_010, beN_ca, ctN_ca, gonN_ca, mvN_ca]
                      exact x_iretq h he dX7_change_108 ⟨by first | rfl | (rw [ca_1]), by first | exact CaE.rf1 (wyM_up (by omega)) rfl rfl hf | exact CaE.of1 (wyM_up (by omega)) (by assumption) | exact CaE.of1 fnM_y (by assumption)⟩
                · refine x_aload_n h dX7_change_63 rfl ?_
                  refine x_ldc h m_k_X7_76 dX7_change_64 ?_
                  have hnc : ¬ ((0 ≤ p ∧ p < M 1 1) ∧ chGd x v) := by unfold chGd; omega
                  rw [(nch_0 hnc).1, (nch_0 hnc).2] at he
                  refine x_V1i h dX7_change_66 m_ml_X7_101 m_im_X7_finding m_se_X7_finding (sM0 hm) rfl (by decide) rfl (c_X7_finding hm (by omega)) ?_
                  try simp only [ca_ca, ca_1, dN_ca, wyM_ca, plN_ca, rpN_ca, ltN_ca, pmN_ca, wnN_ca, nbN_ca, ca_07, ca_08, ca_09, ca_010, beN_ca, ctN_ca, gonN_ca, mvN_ca, stN_ca, thN_ca, fnM_ca, tiN_ca, smN_ca]
                  exact x_iretq h he dX7_change_69 ⟨rfl, CaE.rf1 fnM_y rfl rfl hf⟩
            · refine x_iconst h dX7_change_43 ?_
              refine x_goto h dX7_change_44 (tgt := 48) (by decide) ?_
              refine x_istore h dX7_change_48 rfl rfl ?_
              dsimp only [xset]
              refine x_aload_n h dX7_change_50 rfl ?_
              refine x_iload_n h dX7_change_51 rfl ?_
              refine x_V1i h dX7_change_52 m_ml_X7_148 m_im_X7_isPerson m_se_X7_isPerson (sM0 hm) rfl (by decide) rfl (c_X7_isPerson hm (by omega) (by omega)) ?_
              try simp only [ca_ca, ca_1, dN_ca, wyM_ca, plN_ca, rpN_ca, ltN_ca, pmN_ca, wnN_ca, nbN_ca, ca_07, ca_08, ca_09, ca_010, beN_ca, ctN_ca, gonN_ca, mvN_ca, stN_ca, thN_ca, fnM_ca, tiN_ca, smN_ca]
              refine x_ifeqB h dX7_change_55 (tgt := 63) (by decide) (fun q55 => ?_) (fun q55 => ?_)
              · refine x_aload_n h dX7_change_63 rfl ?_
                refine x_ldc h m_k_X7_76 dX7_change_64 ?_
                have hnc : ¬ ((0 ≤ p ∧ p < M 1 1) ∧ chGd x v) := by unfold chGd; omega
                rw [(nch_0 hnc).1, (nch_0 hnc).2] at he
                refine x_V1i h dX7_change_66 m_ml_X7_101 m_im_X7_finding m_se_X7_finding (sM0 hm) rfl (by decide) rfl (c_X7_finding hm (by omega)) ?_
                try simp only [ca_ca, ca_1, dN_ca, wyM_ca, plN_ca, rpN_ca, ltN_ca, pmN_ca, wnN_ca, nbN_ca, ca_07, ca_08, ca_09, ca_010, beN_ca, ctN_ca, gonN_ca, mvN_ca, stN_ca, thN_ca, fnM_ca, tiN_ca, smN_ca]
                exact x_iretq h he dX7_change_69 ⟨rfl, CaE.rf1 fnM_y rfl rfl hf⟩
              · refine x_iload h dX7_change_58 rfl ?_
                refine x_if_ne h dX7_change_60 (tgt := 70) (by decide) (by omega) (fun q60 => ?_) (fun q60 => ?_)
                · have hgd : (0 ≤ p ∧ p < M 1 1) ∧ chGd x v := by unfold chGd; omega
                  have hn1 := hI.2.2.2 p (by omega) (by omega)
                  have hpm := pmN_R hI (p := p) (by omega)
                  refine x_iload_n h dX7_change_70 rfl ?_
                  refine x_iconst h dX7_change_71 ?_
                  refine x_icmp_ne h dX7_change_72 (tgt := 98) (by decide) (by omega) (by omega) (fun q72 => ?_) (fun q72 => ?_)
                  · have hl2 : x = 1 → ltN M p v (pmN M p) := fun z => by first | assumption | omega
                    rw [(nch_2 hgd hl2).1, (nch_2 hgd hl2).2] at he
                    refine x_aload_n h dX7_change_98 rfl ?_
                    refine x_iload_n h dX7_change_99 rfl ?_
                    refine x_iload_n h dX7_change_100 rfl ?_
                    refine x_S2i h dX7_change_101 m_ml_X7_119 m_st_X7_at (by decide) rfl (c_X7_at hm) ?_
                    try simp only [ca_ca, ca_1, dN_ca, wyM_ca, plN_ca, rpN_ca, ltN_ca, pmN_ca, wnN_ca, nbN_ca, ca_07, ca_08, ca_09, ca_010, beN_ca, ctN_ca, gonN_ca, mvN_ca, stN_ca, thN_ca, fnM_ca, tiN_ca, smN_ca]
                    refine x_iload_n h dX7_change_104 rfl ?_
                    refine x_V2i h dX7_change_105 m_ml_X7_89 m_im_X7_become m_se_X7_become (sM0 hm) rfl (by decide) rfl (c_X7_become hm (by omega) (by omega)) ?_
                    try simp only [ca_ca, ca_1, dN_ca, wyM_ca, plN_ca, rpN_ca, ltN_ca, pmN_ca, wnN_ca, nbN_ca, ca_07, ca_08, ca_09, ca_010, beN_ca, ctN_ca, gonN_ca, mvN_ca, stN_ca, thN_ca, fnM_ca, tiN_ca, smN_ca]
                    try simp only [up_ca1, up_ca07, up_ca08, up_ca09, up_ca010, up_10, up_01, up_0709, up_0710, ca_ca, ca_1, dN_ca, wyM_ca, plN_ca, rpN_ca, ltN_ca, pmN_ca, wnN_ca, nbN_ca, ca_07, ca_08, ca_09, ca_010, beN_ca, ctN_ca, gonN_ca, mvN_ca]
                    exact x_iretq h he dX7_change_108 ⟨by first | rfl | (rw [ca_1]), by first | exact CaE.rf1 (wyM_up (by omega)) rfl rfl hf | exact CaE.of1 (wyM_up (by omega)) (by assumption) | exact CaE.of1 fnM_y (by assumption)⟩
                  · refine x_aload_n h dX7_change_75 rfl ?_
                    refine x_iload_n h dX7_change_76 rfl ?_
                    refine x_iload_n h dX7_change_77 rfl ?_
                    refine x_aload_n h dX7_change_78 rfl ?_
                    refine x_iload_n h dX7_change_79 rfl ?_
                    refine x_V1i h dX7_change_80 m_ml_X7_157 m_im_X7_placeOfMate m_se_X7_placeOfMate (sM0 hm) rfl (by decide) rfl (c_X7_placeOfMate hm (by exact hI) (by first | omega | (simp only [ca_1]; omega))) ?_
                    try simp only [ca_ca, ca_1, dN_ca, wyM_ca, plN_ca, rpN_ca, ltN_ca, pmN_ca, wnN_ca, nbN_ca, ca_07, ca_08, ca_09, ca_010, beN_ca, ctN_ca, gonN_ca, mvN_ca, stN_ca, thN_ca, fnM_ca, tiN_ca, smN_ca]
                    refine x_Q3i h dX7_change_83 m_ml_X7_160 m_im_X7_lets m_se_X7_lets (sM0 hm) rfl (by decide) rfl (c_X7_lets hm (by exact hI) (by assumption) (by first | omega | (simp only [ca_1]; omega)) (by first | omega | (simp only [ca_1]; omega)) (by first | omega | (simp only [ca_1]; omega))) (fun r83 N83 h83 => ?_)
                    obtain ⟨rfl, f83, d83, rfl, c83⟩ := h83
                    try simp only [ca_ca, ca_1, dN_ca, wyM_ca, plN_ca, rpN_ca, ltN_ca, pmN_ca, wnN_ca, nbN_ca, ca_07, ca_08, ca_09, ca_010, beN_ca, ctN_ca, gonN_ca, mvN_ca, stN_ca, thN_ca, fnM_ca, tiN_ca, smN_ca] at c83 ⊢
                    refine x_ifneB h dX7_change_86 (tgt := 98) (by decide) (fun q86 => ?_) (fun q86 => ?_)
                    · have hl2 : x = 1 → ltN M p v (pmN M p) := fun z => by first | assumption | omega
                      rw [(nch_2 hgd hl2).1, (nch_2 hgd hl2).2] at he
                      refine x_aload_n h dX7_change_98 rfl ?_
                      refine x_iload_n h dX7_change_99 rfl ?_
                      refine x_iload_n h dX7_change_100 rfl ?_
                      refine x_S2i h dX7_change_101 m_ml_X7_119 m_st_X7_at (by decide) rfl (c_X7_at hm) ?_
                      try simp only [ca_ca, ca_1, dN_ca, wyM_ca, plN_ca, rpN_ca, ltN_ca, pmN_ca, wnN_ca, nbN_ca, ca_07, ca_08, ca_09, ca_010, beN_ca, ctN_ca, gonN_ca, mvN_ca, stN_ca, thN_ca, fnM_ca, tiN_ca, smN_ca]
                      refine x_iload_n h dX7_change_104 rfl ?_
                      refine x_V2i h dX7_change_105 m_ml_X7_89 m_im_X7_become m_se_X7_become (sM0 hm) rfl (by decide) rfl (c_X7_become hm (by omega) (by omega)) ?_
                      try simp only [ca_ca, ca_1, dN_ca, wyM_ca, plN_ca, rpN_ca, ltN_ca, pmN_ca, wnN_ca, nbN_ca, ca_07, ca_08, ca_09, ca_010, beN_ca, ctN_ca, gonN_ca, mvN_ca, stN_ca, thN_ca, fnM_ca, tiN_ca, smN_ca]
                      try simp only [up_ca1, up_ca07, up_ca08, up_ca09, up_ca010, up_10, up_01, up_0709, up_0710, ca_ca, ca_1, dN_ca, wyM_ca, plN_ca, rpN_ca, ltN_ca, pmN_ca, wnN_ca, nbN_ca, ca_07, ca_08, ca_09, ca_010, beN_ca, ctN_ca, gonN_ca, mvN_ca]
                      exact x_iretq h he dX7_change_108 ⟨by first | rfl | (rw [ca_1]), by first | exact CaE.rf1 (wyM_up (by omega)) rfl rfl hf | exact CaE.of1 (wyM_up (by omega)) (by assumption) | exact CaE.of1 fnM_y (by assumption)⟩
                    · rw [(nch_1 hgd (by omega) q86).1, (nch_1 hgd (by omega) q86).2] at he
                      refine x_aload_n h dX7_change_89 rfl ?_
                      refine x_ldc h m_k_X7_163 dX7_change_90 ?_
                      refine x_V1i h dX7_change_92 m_ml_X7_101 m_im_X7_finding m_se_X7_finding (sM0 hm) rfl (by decide) rfl (c_X7_finding hm (by omega)) ?_
                      try simp only [ca_ca, ca_1, dN_ca, wyM_ca, plN_ca, rpN_ca, ltN_ca, pmN_ca, wnN_ca, nbN_ca, ca_07, ca_08, ca_09, ca_010, beN_ca, ctN_ca, gonN_ca, mvN_ca, stN_ca, thN_ca, fnM_ca, tiN_ca, smN_ca]
                      refine x_goto h dX7_change_95 (tgt := 108) (by decide) ?_
                      try simp only [up_ca1, up_ca07, up_ca08, up_ca09, up_ca010, up_10, up_01, up_0709, up_0710, ca_ca, ca_1, dN_ca, wyM_ca, plN_ca, rpN_ca, ltN_ca, pmN_ca, wnN_ca, nbN_ca, ca_07, ca_08, ca_09, ca_010, beN_ca, ctN_ca, gonN_ca, mvN_ca]
                      exact x_iretq h he dX7_change_108 ⟨by first | rfl | (rw [ca_1]), by first | exact CaE.rf1 (wyM_up (by omega)) rfl rfl hf | exact CaE.of1 (wyM_up (by omega)) (by assumption) | exact CaE.of1 fnM_y (by assumption)⟩
                · refine x_aload_n h dX7_change_63 rfl ?_
                  refine x_ldc h m_k_X7_76 dX7_change_64 ?_
                  have hnc : ¬ ((0 ≤ p ∧ p < M 1 1) ∧ chGd x v) := by unfold chGd; omega
                  rw [(nch_0 hnc).1, (nch_0 hnc).2] at he
                  refine x_V1i h dX7_change_66 m_ml_X7_101 m_im_X7_finding m_se_X7_finding (sM0 hm) rfl (by decide) rfl (c_X7_finding hm (by omega)) ?_
                  try simp only [ca_ca, ca_1, dN_ca, wyM_ca, plN_ca, rpN_ca, ltN_ca, pmN_ca, wnN_ca, nbN_ca, ca_07, ca_08, ca_09, ca_010, beN_ca, ctN_ca, gonN_ca, mvN_ca, stN_ca, thN_ca, fnM_ca, tiN_ca, smN_ca]
                  exact x_iretq h he dX7_change_69 ⟨rfl, CaE.rf1 fnM_y rfl rfl hf⟩
        · refine x_iload_n h dX7_change_21 rfl ?_
          refine x_S1i h dX7_change_22 m_ml_X7_93 m_st_X7_isPlace (by decide) rfl (c_X7_isPlace hm (by omega)) ?_
          try simp only [ca_ca, ca_1, dN_ca, wyM_ca, plN_ca, rpN_ca, ltN_ca, pmN_ca, wnN_ca, nbN_ca, ca_07, ca_08, ca_09, ca_010, beN_ca, ctN_ca, gonN_ca, mvN_ca, stN_ca, thN_ca, fnM_ca, tiN_ca, smN_ca]
          refine x_ifneB h dX7_change_25 (tgt := 43) (by decide) (fun q25 => ?_) (fun q25 => ?_)
          · refine x_iconst h dX7_change_43 ?_
            refine x_goto h dX7_change_44 (tgt := 48) (by decide) ?_
            refine x_istore h dX7_change_48 rfl rfl ?_
            dsimp only [xset]
            refine x_aload_n h dX7_change_50 rfl ?_
            refine x_iload_n h dX7_change_51 rfl ?_
            refine x_V1i h dX7_change_52 m_ml_X7_148 m_im_X7_isPerson m_se_X7_isPerson (sM0 hm) rfl (by decide) rfl (c_X7_isPerson hm (by omega) (by omega)) ?_
            try simp only [ca_ca, ca_1, dN_ca, wyM_ca, plN_ca, rpN_ca, ltN_ca, pmN_ca, wnN_ca, nbN_ca, ca_07, ca_08, ca_09, ca_010, beN_ca, ctN_ca, gonN_ca, mvN_ca, stN_ca, thN_ca, fnM_ca, tiN_ca, smN_ca]
            refine x_ifeqB h dX7_change_55 (tgt := 63) (by decide) (fun q55 => ?_) (fun q55 => ?_)
            · refine x_aload_n h dX7_change_63 rfl ?_
              refine x_ldc h m_k_X7_76 dX7_change_64 ?_
              have hnc : ¬ ((0 ≤ p ∧ p < M 1 1) ∧ chGd x v) := by unfold chGd; omega
              rw [(nch_0 hnc).1, (nch_0 hnc).2] at he
              refine x_V1i h dX7_change_66 m_ml_X7_101 m_im_X7_finding m_se_X7_finding (sM0 hm) rfl (by decide) rfl (c_X7_finding hm (by omega)) ?_
              try simp only [ca_ca, ca_1, dN_ca, wyM_ca, plN_ca, rpN_ca, ltN_ca, pmN_ca, wnN_ca, nbN_ca, ca_07, ca_08, ca_09, ca_010, beN_ca, ctN_ca, gonN_ca, mvN_ca, stN_ca, thN_ca, fnM_ca, tiN_ca, smN_ca]
              exact x_iretq h he dX7_change_69 ⟨rfl, CaE.rf1 fnM_y rfl rfl hf⟩
            · refine x_iload h dX7_change_58 rfl ?_
              refine x_if_ne h dX7_change_60 (tgt := 70) (by decide) (by omega) (fun q60 => ?_) (fun q60 => ?_)
              · have hgd : (0 ≤ p ∧ p < M 1 1) ∧ chGd x v := by unfold chGd; omega
                have hn1 := hI.2.2.2 p (by omega) (by omega)
                have hpm := pmN_R hI (p := p) (by omega)
                refine x_iload_n h dX7_change_70 rfl ?_
                refine x_iconst h dX7_change_71 ?_
                refine x_icmp_ne h dX7_change_72 (tgt := 98) (by decide) (by omega) (by omega) (fun q72 => ?_) (fun q72 => ?_)
                · have hl2 : x = 1 → ltN M p v (pmN M p) := fun z => by first | assumption | omega
                  rw [(nch_2 hgd hl2).1, (nch_2 hgd hl2).2] at he
                  refine x_aload_n h dX7_change_98 rfl ?_
                  refine x_iload_n h dX7_change_99 rfl ?_
                  refine x_iload_n h dX7_change_100 rfl ?_
                  refine x_S2i h dX7_change_101 m_ml_X7_119 m_st_X7_at (by decide) rfl (c_X7_at hm) ?_
                  try simp only [ca_ca, ca_1, dN_ca, wyM_ca, plN_ca, rpN_ca, ltN_ca, pmN_ca, wnN_ca, nbN_ca, ca_07, ca_08, ca_09, ca_010, beN_ca, ctN_ca, gonN_ca, mvN_ca, stN_ca, thN_ca, fnM_ca, tiN_ca, smN_ca]
                  refine x_iload_n h dX7_change_104 rfl ?_
                  refine x_V2i h dX7_change_105 m_ml_X7_89 m_im_X7_become m_se_X7_become (sM0 hm) rfl (by decide) rfl (c_X7_become hm (by omega) (by omega)) ?_
                  try simp only [ca_ca, ca_1, dN_ca, wyM_ca, plN_ca, rpN_ca, ltN_ca, pmN_ca, wnN_ca, nbN_ca, ca_07, ca_08, ca_09, ca_010, beN_ca, ctN_ca, gonN_ca, mvN_ca, stN_ca, thN_ca, fnM_ca, tiN_ca, smN_ca]
                  try simp only [up_ca1, up_ca07, up_ca08, up_ca09, up_ca010, up_10, up_01, up_0709, up_0710, ca_ca, ca_1, dN_ca, wyM_ca, plN_ca, rpN_ca, ltN_ca, pmN_ca, wnN_ca, nbN_ca, ca_07, ca_08, ca_09, ca_010, beN_ca, ctN_ca, gonN_ca, mvN_ca]
                  exact x_iretq h he dX7_change_108 ⟨by first | rfl | (rw [ca_1]), by first | exact CaE.rf1 (wyM_up (by omega)) rfl rfl hf | exact CaE.of1 (wyM_up (by omega)) (by assumption) | exact CaE.of1 fnM_y (by assumption)⟩
                · refine x_aload_n h dX7_change_75 rfl ?_
                  refine x_iload_n h dX7_change_76 rfl ?_
                  refine x_iload_n h dX7_change_77 rfl ?_
                  refine x_aload_n h dX7_change_78 rfl ?_
                  refine x_iload_n h dX7_change_79 rfl ?_
                  refine x_V1i h dX7_change_80 m_ml_X7_157 m_im_X7_placeOfMate m_se_X7_placeOfMate (sM0 hm) rfl (by decide) rfl (c_X7_placeOfMate hm (by exact hI) (by first | omega | (simp only [ca_1]; omega))) ?_
                  try simp only [ca_ca, ca_1, dN_ca, wyM_ca, plN_ca, rpN_ca, ltN_ca, pmN_ca, wnN_ca, nbN_ca, ca_07, ca_08, ca_09, ca_010, beN_ca, ctN_ca, gonN_ca, mvN_ca, stN_ca, thN_ca, fnM_ca, tiN_ca, smN_ca]
                  refine x_Q3i h dX7_change_83 m_ml_X7_160 m_im_X7_lets m_se_X7_lets (sM0 hm) rfl (by decide) rfl (c_X7_lets hm (by exact hI) (by assumption) (by first | omega | (simp only [ca_1]; omega)) (by first | omega | (simp only [ca_1]; omega)) (by first | omega | (simp only [ca_1]; omega))) (fun r83 N83 h83 => ?_)
                  obtain ⟨rfl, f83, d83, rfl, c83⟩ := h83
                  try simp only [ca_ca, ca_1, dN_ca, wyM_ca, plN_ca, rpN_ca, ltN_ca, pmN_ca, wnN_ca, nbN_ca, ca_07, ca_08, ca_09, ca_010, beN_ca, ctN_ca, gonN_ca, mvN_ca, stN_ca, thN_ca, fnM_ca, tiN_ca, smN_ca] at c83 ⊢
                  refine x_ifneB h dX7_change_86 (tgt := 98) (by decide) (fun q86 => ?_) (fun q86 => ?_)
                  · have hl2 : x = 1 → ltN M p v (pmN M p) := fun z => by first | assumption | omega
                    rw [(nch_2 hgd hl2).1, (nch_2 hgd hl2).2] at he
                    refine x_aload_n h dX7_change_98 rfl ?_
                    refine x_iload_n h dX7_change_99 rfl ?_
                    refine x_iload_n h dX7_change_100 rfl ?_
                    refine x_S2i h dX7_change_101 m_ml_X7_119 m_st_X7_at (by decide) rfl (c_X7_at hm) ?_
                    try simp only [ca_ca, ca_1, dN_ca, wyM_ca, plN_ca, rpN_ca, ltN_ca, pmN_ca, wnN_ca, nbN_ca, ca_07, ca_08, ca_09, ca_010, beN_ca, ctN_ca, gonN_ca, mvN_ca, stN_ca, thN_ca, fnM_ca, tiN_ca, smN_ca]
                    refine x_iload_n h dX7_change_104 rfl ?_
                    refine x_V2i h dX7_change_105 m_ml_X7_89 m_im_X7_become m_se_X7_become (sM0 hm) rfl (by decide) rfl (c_X7_become hm (by omega) (by omega)) ?_
                    try simp only [ca_ca, ca_1, dN_ca, wyM_ca, plN_ca, rpN_ca, ltN_ca, pmN_ca, wnN_ca, nbN_ca, ca_07, ca_08, ca_09, ca_010, beN_ca, ctN_ca, gonN_ca, mvN_ca, stN_ca, thN_ca, fnM_ca, tiN_ca, smN_ca]
                    try simp only [up_ca1, up_ca07, up_ca08, up_ca09, up_ca010, up_10, up_01, up_0709, up_0710, ca_ca, ca_1, dN_ca, wyM_ca, plN_ca, rpN_ca, ltN_ca, pmN_ca, wnN_ca, nbN_ca, ca_07, ca_08, ca_09, ca_010, beN_ca, ctN_ca, gonN_ca, mvN_ca]
                    exact x_iretq h he dX7_change_108 ⟨by first | rfl | (rw [ca_1]), by first | exact CaE.rf1 (wyM_up (by omega)) rfl rfl hf | exact CaE.of1 (wyM_up (by omega)) (by assumption) | exact CaE.of1 fnM_y (by assumption)⟩
                  · rw [(nch_1 hgd (by omega) q86).1, (nch_1 hgd (by omega) q86).2] at he
                    refine x_aload_n h dX7_change_89 rfl ?_
                    refine x_ldc h m_k_X7_163 dX7_change_90 ?_
                    refine x_V1i h dX7_change_92 m_ml_X7_101 m_im_X7_finding m_se_X7_finding (sM0 hm) rfl (by decide) rfl (c_X7_finding hm (by omega)) ?_
                    try simp only [ca_ca, ca_1, dN_ca, wyM_ca, plN_ca, rpN_ca, ltN_ca, pmN_ca, wnN_ca, nbN_ca, ca_07, ca_08, ca_09, ca_010, beN_ca, ctN_ca, gonN_ca, mvN_ca, stN_ca, thN_ca, fnM_ca, tiN_ca, smN_ca]
                    refine x_goto h dX7_change_95 (tgt := 108) (by decide) ?_
                    try simp only [up_ca1, up_ca07, up_ca08, up_ca09, up_ca010, up_10, up_01, up_0709, up_0710, ca_ca, ca_1, dN_ca, wyM_ca, plN_ca, rpN_ca, ltN_ca, pmN_ca, wnN_ca, nbN_ca, ca_07, ca_08, ca_09, ca_010, beN_ca, ctN_ca, gonN_ca, mvN_ca]
                    exact x_iretq h he dX7_change_108 ⟨by first | rfl | (rw [ca_1]), by first | exact CaE.rf1 (wyM_up (by omega)) rfl rfl hf | exact CaE.of1 (wyM_up (by omega)) (by assumption) | exact CaE.of1 fnM_y (by assumption)⟩
              · refine x_aload_n h dX7_change_63 rfl ?_
                refine x_ldc h m_k_X7_76 dX7_change_64 ?_
                have hnc : ¬ ((0 ≤ p ∧ p < M 1 1) ∧ chGd x v) := by unfold chGd; omega
                rw [(nch_0 hnc).1, (nch_0 hnc).2] at he
                refine x_V1i h dX7_change_66 m_ml_X7_101 m_im_X7_finding m_se_X7_finding (sM0 hm) rfl (by decide) rfl (c_X7_finding hm (by omega)) ?_
                try simp only [ca_ca, ca_1, dN_ca, wyM_ca, plN_ca, rpN_ca, ltN_ca, pmN_ca, wnN_ca, nbN_ca, ca_07, ca_08, ca_09, ca_010, beN_ca, ctN_ca, gonN_ca, mvN_ca, stN_ca, thN_ca, fnM_ca, tiN_ca, smN_ca]
                exact x_iretq h he dX7_change_69 ⟨rfl, CaE.rf1 fnM_y rfl rfl hf⟩
          · refine x_iload_n h dX7_change_28 rfl ?_
            refine x_iconst h dX7_change_29 ?_
            refine x_icmp_ne h dX7_change_30 (tgt := 47) (by decide) (by omega) (by omega) (fun q30 => ?_) (fun q30 => ?_)
            · refine x_iconst h dX7_change_47 ?_
              refine x_istore h dX7_change_48 rfl rfl ?_
              dsimp only [xset]
              refine x_aload_n h dX7_change_50 rfl ?_
              refine x_iload_n h dX7_change_51 rfl ?_
              refine x_V1i h dX7_change_52 m_ml_X7_148 m_im_X7_isPerson m_se_X7_isPerson (sM0 hm) rfl (by decide) rfl (c_X7_isPerson hm (by omega) (by omega)) ?_
              try simp only [ca_ca, ca_1, dN_ca, wyM_ca, plN_ca, rpN_ca, ltN_ca, pmN_ca, wnN_ca, nbN_ca, ca_07, ca_08, ca_09, ca_010, beN_ca, ctN_ca, gonN_ca, mvN_ca, stN_ca, thN_ca, fnM_ca, tiN_ca, smN_ca]
              refine x_ifeqB h dX7_change_55 (tgt := 63) (by decide) (fun q55 => ?_) (fun q55 => ?_)
              · refine x_aload_n h dX7_change_63 rfl ?_
                refine x_ldc h m_k_X7_76 dX7_change_64 ?_
                have hnc : ¬ ((0 ≤ p ∧ p < M 1 1) ∧ chGd x v) := by unfold chGd; omega
                rw [(nch_0 hnc).1, (nch_0 hnc).2] at he
                refine x_V1i h dX7_change_66 m_ml_X7_101 m_im_X7_finding m_se_X7_finding (sM0 hm) rfl (by decide) rfl (c_X7_finding hm (by omega)) ?_
                try simp only [ca_ca, ca_1, dN_ca, wyM_ca, plN_ca, rpN_ca, ltN_ca, pmN_ca, wnN_ca, nbN_ca, ca_07, ca_08, ca_09, ca_010, beN_ca, ctN_ca, gonN_ca, mvN_ca, stN_ca, thN_ca, fnM_ca, tiN_ca, smN_ca]
                exact x_iretq h he dX7_change_69 ⟨rfl, CaE.rf1 fnM_y rfl rfl hf⟩
              · refine x_iload h dX7_change_58 rfl ?_
                refine x_if_ne h dX7_change_60 (tgt := 70) (by decide) (by omega) (fun q60 => ?_) (fun q60 => ?_)
                · have hgd : (0 ≤ p ∧ p < M 1 1) ∧ chGd x v := by unfold chGd; omega
                  have hn1 := hI.2.2.2 p (by omega) (by omega)
                  have hpm := pmN_R hI (p := p) (by omega)
                  refine x_iload_n h dX7_change_70 rfl ?_
                  refine x_iconst h dX7_change_71 ?_
                  refine x_icmp_ne h dX7_change_72 (tgt := 98) (by decide) (by omega) (by omega) (fun q72 => ?_) (fun q72 => ?_)
                  · have hl2 : x = 1 → ltN M p v (pmN M p) := fun z => by first | assumption | omega
                    rw [(nch_2 hgd hl2).1, (nch_2 hgd hl2).2] at he
                    refine x_aload_n h dX7_change_98 rfl ?_
                    refine x_iload_n h dX7_change_99 rfl ?_
                    refine x_iload_n h dX7_change_100 rfl ?_
                    refine x_S2i h dX7_change_101 m_ml_X7_119 m_st_X7_at (by decide) rfl (c_X7_at hm) ?_
                    try simp only [ca_ca, ca_1, dN_ca, wyM_ca, plN_ca, rpN_ca, ltN_ca, pmN_ca, wnN_ca, nbN_ca, ca_07, ca_08, ca_09, ca_010, beN_ca, ctN_ca, gonN_ca, mvN_ca, stN_ca, thN_ca, fnM_ca, tiN_ca, smN_ca]
                    refine x_iload_n h dX7_change_104 rfl ?_
                    refine x_V2i h dX7_change_105 m_ml_X7_89 m_im_X7_become m_se_X7_become (sM0 hm) rfl (by decide) rfl (c_X7_become hm (by omega) (by omega)) ?_
                    try simp only [ca_ca, ca_1, dN_ca, wyM_ca, plN_ca, rpN_ca, ltN_ca, pmN_ca, wnN_ca, nbN_ca, ca_07, ca_08, ca_09, ca_010, beN_ca, ctN_ca, gonN_ca, mvN_ca, stN_ca, thN_ca, fnM_ca, tiN_ca, smN_ca]
                    try simp only [up_ca1, up_ca07, up_ca08, up_ca09, up_ca010, up_10, up_01, up_0709, up_0710, ca_ca, ca_1, dN_ca, wyM_ca, plN_ca, rpN_ca, ltN_ca, pmN_ca, wnN_ca, nbN_ca, ca_07, ca_08, ca_09, ca_010, beN_ca, ctN_ca, gonN_ca, mvN_ca]
                    exact x_iretq h he dX7_change_108 ⟨by first | rfl | (rw [ca_1]), by first | exact CaE.rf1 (wyM_up (by omega)) rfl rfl hf | exact CaE.of1 (wyM_up (by omega)) (by assumption) | exact CaE.of1 fnM_y (by assumption)⟩
                  · refine x_aload_n h dX7_change_75 rfl ?_
                    refine x_iload_n h dX7_change_76 rfl ?_
                    refine x_iload_n h dX7_change_77 rfl ?_
                    refine x_aload_n h dX7_change_78 rfl ?_
                    refine x_iload_n h dX7_change_79 rfl ?_
                    refine x_V1i h dX7_change_80 m_ml_X7_157 m_im_X7_placeOfMate m_se_X7_placeOfMate (sM0 hm) rfl (by decide) rfl (c_X7_placeOfMate hm (by exact hI) (by first | omega | (simp only [ca_1]; omega))) ?_
                    try simp only [ca_ca, ca_1, dN_ca, wyM_ca, plN_ca, rpN_ca, ltN_ca, pmN_ca, wnN_ca, nbN_ca, ca_07, ca_08, ca_09, ca_010, beN_ca, ctN_ca, gonN_ca, mvN_ca, stN_ca, thN_ca, fnM_ca, tiN_ca, smN_ca]
                    refine x_Q3i h dX7_change_83 m_ml_X7_160 m_im_X7_lets m_se_X7_lets (sM0 hm) rfl (by decide) rfl (c_X7_lets hm (by exact hI) (by assumption) (by first | omega | (simp only [ca_1]; omega)) (by first | omega | (simp only [ca_1]; omega)) (by first | omega | (simp only [ca_1]; omega))) (fun r83 N83 h83 => ?_)
                    obtain ⟨rfl, f83, d83, rfl, c83⟩ := h83
                    try simp only [ca_ca, ca_1, dN_ca, wyM_ca, plN_ca, rpN_ca, ltN_ca, pmN_ca, wnN_ca, nbN_ca, ca_07, ca_08, ca_09, ca_010, beN_ca, ctN_ca, gonN_ca, mvN_ca, stN_ca, thN_ca, fnM_ca, tiN_ca, smN_ca] at c83 ⊢
                    refine x_ifneB h dX7_change_86 (tgt := 98) (by decide) (fun q86 => ?_) (fun q86 => ?_)
                    · have hl2 : x = 1 → ltN M p v (pmN M p) := fun z => by first | assumption | omega
                      rw [(nch_2 hgd hl2).1, (nch_2 hgd hl2).2] at he
                      refine x_aload_n h dX7_change_98 rfl ?_
                      refine x_iload_n h dX7_change_99 rfl ?_
                      refine x_iload_n h dX7_change_100 rfl ?_
                      refine x_S2i h dX7_change_101 m_ml_X7_119 m_st_X7_at (by decide) rfl (c_X7_at hm) ?_
                      try simp only [ca_ca, ca_1, dN_ca, wyM_ca, plN_ca, rpN_ca, ltN_ca, pmN_ca, wnN_ca, nbN_ca, ca_07, ca_08, ca_09, ca_010, beN_ca, ctN_ca, gonN_ca, mvN_ca, stN_ca, thN_ca, fnM_ca, tiN_ca, smN_ca]
                      refine x_iload_n h dX7_change_104 rfl ?_
                      refine x_V2i h dX7_change_105 m_ml_X7_89 m_im_X7_become m_se_X7_become (sM0 hm) rfl (by decide) rfl (c_X7_become hm (by omega) (by omega)) ?_
                      try simp only [ca_ca, ca_1, dN_ca, wyM_ca, plN_ca, rpN_ca, ltN_ca, pmN_ca, wnN_ca, nbN_ca, ca_07, ca_08, ca_09, ca_010, beN_ca, ctN_ca, gonN_ca, mvN_ca, stN_ca, thN_ca, fnM_ca, tiN_ca, smN_ca]
                      try simp only [up_ca1, up_ca07, up_ca08, up_ca09, up_ca010, up_10, up_01, up_0709, up_0710, ca_ca, ca_1, dN_ca, wyM_ca, plN_ca, rpN_ca, ltN_ca, pmN_ca, wnN_ca, nbN_ca, ca_07, ca_08, ca_09, ca_010, beN_ca, ctN_ca, gonN_ca, mvN_ca]
                      exact x_iretq h he dX7_change_108 ⟨by first | rfl | (rw [ca_1]), by first | exact CaE.rf1 (wyM_up (by omega)) rfl rfl hf | exact CaE.of1 (wyM_up (by omega)) (by assumption) | exact CaE.of1 fnM_y (by assumption)⟩
                    · rw [(nch_1 hgd (by omega) q86).1, (nch_1 hgd (by omega) q86).2] at he
                      refine x_aload_n h dX7_change_89 rfl ?_
                      refine x_ldc h m_k_X7_163 dX7_change_90 ?_
                      refine x_V1i h dX7_change_92 m_ml_X7_101 m_im_X7_finding m_se_X7_finding (sM0 hm) rfl (by decide) rfl (c_X7_finding hm (by omega)) ?_
                      try simp only [ca_ca, ca_1, dN_ca, wyM_ca, plN_ca, rpN_ca, ltN_ca, pmN_ca, wnN_ca, nbN_ca, ca_07, ca_08, ca_09, ca_010, beN_ca, ctN_ca, gonN_ca, mvN_ca, stN_ca, thN_ca, fnM_ca, tiN_ca, smN_ca]
                      refine x_goto h dX7_change_95 (tgt := 108) (by decide) ?_
                      try simp only [up_ca1, up_ca07, up_ca08, up_ca09, up_ca010, up_10, up_01, up_0709, up_0710, ca_ca, ca_1, dN_ca, wyM_ca, plN_ca, rpN_ca, ltN_ca, pmN_ca, wnN_ca, nbN_ca, ca_07, ca_08, ca_09, ca_010, beN_ca, ctN_ca, gonN_ca, mvN_ca]
                      exact x_iretq h he dX7_change_108 ⟨by first | rfl | (rw [ca_1]), by first | exact CaE.rf1 (wyM_up (by omega)) rfl rfl hf | exact CaE.of1 (wyM_up (by omega)) (by assumption) | exact CaE.of1 fnM_y (by assumption)⟩
                · refine x_aload_n h dX7_change_63 rfl ?_
                  refine x_ldc h m_k_X7_76 dX7_change_64 ?_
                  have hnc : ¬ ((0 ≤ p ∧ p < M 1 1) ∧ chGd x v) := by unfold chGd; omega
                  rw [(nch_0 hnc).1, (nch_0 hnc).2] at he
                  refine x_V1i h dX7_change_66 m_ml_X7_101 m_im_X7_finding m_se_X7_finding (sM0 hm) rfl (by decide) rfl (c_X7_finding hm (by omega)) ?_
                  try simp only [ca_ca, ca_1, dN_ca, wyM_ca, plN_ca, rpN_ca, ltN_ca, pmN_ca, wnN_ca, nbN_ca, ca_07, ca_08, ca_09, ca_010, beN_ca, ctN_ca, gonN_ca, mvN_ca, stN_ca, thN_ca, fnM_ca, tiN_ca, smN_ca]
                  exact x_iretq h he dX7_change_69 ⟨rfl, CaE.rf1 fnM_y rfl rfl hf⟩
            · refine x_iload_n h dX7_change_33 rfl ?_
              refine x_iconst h dX7_change_34 ?_
              refine x_bipush h dX7_change_35 (by decide) ?_
              refine x_S3i h dX7_change_37 m_ml_X7_81 m_st_X7_within (by decide) rfl (c_X7_within hm (by omega) (by omega) (by omega)) ?_
              try simp only [ca_ca, ca_1, dN_ca, wyM_ca, plN_ca, rpN_ca, ltN_ca, pmN_ca, wnN_ca, nbN_ca, ca_07, ca_08, ca_09, ca_010, beN_ca, ctN_ca, gonN_ca, mvN_ca, stN_ca, thN_ca, fnM_ca, tiN_ca, smN_ca]
              refine x_ifeqB h dX7_change_40 (tgt := 47) (by decide) (fun q40 => ?_) (fun q40 => ?_)
              · refine x_iconst h dX7_change_47 ?_
                refine x_istore h dX7_change_48 rfl rfl ?_
                dsimp only [xset]
                refine x_aload_n h dX7_change_50 rfl ?_
                refine x_iload_n h dX7_change_51 rfl ?_
                refine x_V1i h dX7_change_52 m_ml_X7_148 m_im_X7_isPerson m_se_X7_isPerson (sM0 hm) rfl (by decide) rfl (c_X7_isPerson hm (by omega) (by omega)) ?_
                try simp only [ca_ca, ca_1, dN_ca, wyM_ca, plN_ca, rpN_ca, ltN_ca, pmN_ca, wnN_ca, nbN_ca, ca_07, ca_08, ca_09, ca_010, beN_ca, ctN_ca, gonN_ca, mvN_ca, stN_ca, thN_ca, fnM_ca, tiN_ca, smN_ca]
                refine x_ifeqB h dX7_change_55 (tgt := 63) (by decide) (fun q55 => ?_) (fun q55 => ?_)
                · refine x_aload_n h dX7_change_63 rfl ?_
                  refine x_ldc h m_k_X7_76 dX7_change_64 ?_
                  have hnc : ¬ ((0 ≤ p ∧ p < M 1 1) ∧ chGd x v) := by unfold chGd; omega
                  rw [(nch_0 hnc).1, (nch_0 hnc).2] at he
                  refine x_V1i h dX7_change_66 m_ml_X7_101 m_im_X7_finding m_se_X7_finding (sM0 hm) rfl (by decide) rfl (c_X7_finding hm (by omega)) ?_
                  try simp only [ca_ca, ca_1, dN_ca, wyM_ca, plN_ca, rpN_ca, ltN_ca, pmN_ca, wnN_ca, nbN_ca, ca_07, ca_08, ca_09, ca_010, beN_ca, ctN_ca, gonN_ca, mvN_ca, stN_ca, thN_ca, fnM_ca, tiN_ca, smN_ca]
                  exact x_iretq h he dX7_change_69 ⟨rfl, CaE.rf1 fnM_y rfl rfl hf⟩
                · refine x_iload h dX7_change_58 rfl ?_
                  refine x_if_ne h dX7_change_60 (tgt := 70) (by decide) (by omega) (fun q60 => ?_) (fun q60 => ?_)
                  · have hgd : (0 ≤ p ∧ p < M 1 1) ∧ chGd x v := by unfold chGd; omega
                    have hn1 := hI.2.2.2 p (by omega) (by omega)
                    have hpm := pmN_R hI (p := p) (by omega)
                    refine x_iload_n h dX7_change_70 rfl ?_
                    refine x_iconst h dX7_change_71 ?_
                    refine x_icmp_ne h dX7_change_72 (tgt := 98) (by decide) (by omega) (by omega) (fun q72 => ?_) (fun q72 => ?_)
                    · have hl2 : x = 1 → ltN M p v (pmN M p) := fun z => by first | assumption | omega
                      rw [(nch_2 hgd hl2).1, (nch_2 hgd hl2).2] at he
                      refine x_aload_n h dX7_change_98 rfl ?_
                      refine x_iload_n h dX7_change_99 rfl ?_
                      refine x_iload_n h dX7_change_100 rfl ?_
                      refine x_S2i h dX7_change_101 m_ml_X7_119 m_st_X7_at (by decide) rfl (c_X7_at hm) ?_
                      try simp only [ca_ca, ca_1, dN_ca, wyM_ca, plN_ca, rpN_ca, ltN_ca, pmN_ca, wnN_ca, nbN_ca, ca_07, ca_08, ca_09, ca_010, beN_ca, ctN_ca, gonN_ca, mvN_ca, stN_ca, thN_ca, fnM_ca, tiN_ca, smN_ca]
                      refine x_iload_n h dX7_change_104 rfl ?_
                      refine x_V2i h dX7_change_105 m_ml_X7_89 m_im_X7_become m_se_X7_become (sM0 hm) rfl (by decide) rfl (c_X7_become hm (by omega) (by omega)) ?_
                      try simp only [ca_ca, ca_1, dN_ca, wyM_ca, plN_ca, rpN_ca, ltN_ca, pmN_ca, wnN_ca, nbN_ca, ca_07, ca_08, ca_09, ca_010, beN_ca, ctN_ca, gonN_ca, mvN_ca, stN_ca, thN_ca, fnM_ca, tiN_ca, smN_ca]
                      try simp only [up_ca1, up_ca07, up_ca08, up_ca09, up_ca010, up_10, up_01, up_0709, up_0710, ca_ca, ca_1, dN_ca, wyM_ca, plN_ca, rpN_ca, ltN_ca, pmN_ca, wnN_ca, nbN_ca, ca_07, ca_08, ca_09, ca_010, beN_ca, ctN_ca, gonN_ca, mvN_ca]
                      exact x_iretq h he dX7_change_108 ⟨by first | rfl | (rw [ca_1]), by first | exact CaE.rf1 (wyM_up (by omega)) rfl rfl hf | exact CaE.of1 (wyM_up (by omega)) (by assumption) | exact CaE.of1 fnM_y (by assumption)⟩
                    · refine x_aload_n h dX7_change_75 rfl ?_
                      refine x_iload_n h dX7_change_76 rfl ?_
                      refine x_iload_n h dX7_change_77 rfl ?_
                      refine x_aload_n h dX7_change_78 rfl ?_
                      refine x_iload_n h dX7_change_79 rfl ?_
                      refine x_V1i h dX7_change_80 m_ml_X7_157 m_im_X7_placeOfMate m_se_X7_placeOfMate (sM0 hm) rfl (by decide) rfl (c_X7_placeOfMate hm (by exact hI) (by first | omega | (simp only [ca_1]; omega))) ?_
                      try simp only [ca_ca, ca_1, dN_ca, wyM_ca, plN_ca, rpN_ca, ltN_ca, pmN_ca, wnN_ca, nbN_ca, ca_07, ca_08, ca_09, ca_010, beN_ca, ctN_ca, gonN_ca, mvN_ca, stN_ca, thN_ca, fnM_ca, tiN_ca, smN_ca]
                      refine x_Q3i h dX7_change_83 m_ml_X7_160 m_im_X7_lets m_se_X7_lets (sM0 hm) rfl (by decide) rfl (c_X7_lets hm (by exact hI) (by assumption) (by first | omega | (simp only [ca_1]; omega)) (by first | omega | (simp only [ca_1]; omega)) (by first | omega | (simp only [ca_1]; omega))) (fun r83 N83 h83 => ?_)
                      obtain ⟨rfl, f83, d83, rfl, c83⟩ := h83
                      try simp only [ca_ca, ca_1, dN_ca, wyM_ca, plN_ca, rpN_ca, ltN_ca, pmN_ca, wnN_ca, nbN_ca, ca_07, ca_08, ca_09, ca_010, beN_ca, ctN_ca, gonN_ca, mvN_ca, stN_ca, thN_ca, fnM_ca, tiN_ca, smN_ca] at c83 ⊢
                      refine x_ifneB h dX7_change_86 (tgt := 98) (by decide) (fun q86 => ?_) (fun q86 => ?_)
                      · have hl2 : x = 1 → ltN M p v (pmN M p) := fun z => by first | assumption | omega
                        rw [(nch_2 hgd hl2).1, (nch_2 hgd hl2).2] at he
                        refine x_aload_n h dX7_change_98 rfl ?_
                        refine x_iload_n h dX7_change_99 rfl ?_
                        refine x_iload_n h dX7_change_100 rfl ?_
                        refine x_S2i h dX7_change_101 m_ml_X7_119 m_st_X7_at (by decide) rfl (c_X7_at hm) ?_
                        try simp only [ca_ca, ca_1, dN_ca, wyM_ca, plN_ca, rpN_ca, ltN_ca, pmN_ca, wnN_ca, nbN_ca, ca_07, ca_08, ca_09, ca_010, beN_ca, ctN_ca, gonN_ca, mvN_ca, stN_ca, thN_ca, fnM_ca, tiN_ca, smN_ca]
                        refine x_iload_n h dX7_change_104 rfl ?_
                        refine x_V2i h dX7_change_105 m_ml_X7_89 m_im_X7_become m_se_X7_become (sM0 hm) rfl (by decide) rfl (c_X7_become hm (by omega) (by omega)) ?_
                        try simp only [ca_ca, ca_1, dN_ca, wyM_ca, plN_ca, rpN_ca, ltN_ca, pmN_ca, wnN_ca, nbN_ca, ca_07, ca_08, ca_09, ca_010, beN_ca, ctN_ca, gonN_ca, mvN_ca, stN_ca, thN_ca, fnM_ca, tiN_ca, smN_ca]
                        try simp only [up_ca1, up_ca07, up_ca08, up_ca09, up_ca010, up_10, up_01, up_0709, up_0710, ca_ca, ca_1, dN_ca, wyM_ca, plN_ca, rpN_ca, ltN_ca, pmN_ca, wnN_ca, nbN_ca, ca_07, ca_08, ca_09, ca_010, beN_ca, ctN_ca, gonN_ca, mvN_ca]
                        exact x_iretq h he dX7_change_108 ⟨by first | rfl | (rw [ca_1]), by first | exact CaE.rf1 (wyM_up (by omega)) rfl rfl hf | exact CaE.of1 (wyM_up (by omega)) (by assumption) | exact CaE.of1 fnM_y (by assumption)⟩
                      · rw [(nch_1 hgd (by omega) q86).1, (nch_1 hgd (by omega) q86).2] at he
                        refine x_aload_n h dX7_change_89 rfl ?_
                        refine x_ldc h m_k_X7_163 dX7_change_90 ?_
                        refine x_V1i h dX7_change_92 m_ml_X7_101 m_im_X7_finding m_se_X7_finding (sM0 hm) rfl (by decide) rfl (c_X7_finding hm (by omega)) ?_
                        try simp only [ca_ca, ca_1, dN_ca, wyM_ca, plN_ca, rpN_ca, ltN_ca, pmN_ca, wnN_ca, nbN_ca, ca_07, ca_08, ca_09, ca_010, beN_ca, ctN_ca, gonN_ca, mvN_ca, stN_ca, thN_ca, fnM_ca, tiN_ca, smN_ca]
                        refine x_goto h dX7_change_95 (tgt := 108) (by decide) ?_
                        try simp only [up_ca1, up_ca07, up_ca08, up_ca09, up_ca010, up_10, up_01, up_0709, up_0710, ca_ca, ca_1, dN_ca, wyM_ca, plN_ca, rpN_ca, ltN_ca, pmN_ca, wnN_ca, nbN_ca, ca_07, ca_08, ca_09, ca_010, beN_ca, ctN_ca, gonN_ca, mvN_ca]
                        exact x_iretq h he dX7_change_108 ⟨by first | rfl | (rw [ca_1]), by first | exact CaE.rf1 (wyM_up (by omega)) rfl rfl hf | exact CaE.of1 (wyM_up (by omega)) (by assumption) | exact CaE.of1 fnM_y (by assumption)⟩
                  · refine x_aload_n h dX7_change_63 rfl ?_
                    refine x_ldc h m_k_X7_76 dX7_change_64 ?_
                    have hnc : ¬ ((0 ≤ p ∧ p < M 1 1) ∧ chGd x v) := by unfold chGd; omega
                    rw [(nch_0 hnc).1, (nch_0 hnc).2] at he
                    refine x_V1i h dX7_change_66 m_ml_X7_101 m_im_X7_finding m_se_X7_finding (sM0 hm) rfl (by decide) rfl (c_X7_finding hm (by omega)) ?_
                    try simp only [ca_ca, ca_1, dN_ca, wyM_ca, plN_ca, rpN_ca, ltN_ca, pmN_ca, wnN_ca, nbN_ca, ca_07, ca_08, ca_09, ca_010, beN_ca, ctN_ca, gonN_ca, mvN_ca, stN_ca, thN_ca, fnM_ca, tiN_ca, smN_ca]
                    exact x_iretq h he dX7_change_69 ⟨rfl, CaE.rf1 fnM_y rfl rfl hf⟩
              · refine x_iconst h dX7_change_43 ?_
                refine x_goto h dX7_change_44 (tgt := 48) (by decide) ?_
                refine x_istore h dX7_change_48 rfl rfl ?_
                dsimp only [xset]
                refine x_aload_n h dX7_change_50 rfl ?_
                refine x_iload_n h dX7_change_51 rfl ?_
                refine x_V1i h dX7_change_52 m_ml_X7_148 m_im_X7_isPerson m_se_X7_isPerson (sM0 hm) rfl (by decide) rfl (c_X7_isPerson hm (by omega) (by omega)) ?_
                try simp only [ca_ca, ca_1, dN_ca, wyM_ca, plN_ca, rpN_ca, ltN_ca, pmN_ca, wnN_ca, nbN_ca, ca_07, ca_08, ca_09, ca_010, beN_ca, ctN_ca, gonN_ca, mvN_ca, stN_ca, thN_ca, fnM_ca, tiN_ca, smN_ca]
                refine x_ifeqB h dX7_change_55 (tgt := 63) (by decide) (fun q55 => ?_) (fun q55 => ?_)
                · refine x_aload_n h dX7_change_63 rfl ?_
                  refine x_ldc h m_k_X7_76 dX7_change_64 ?_
                  have hnc : ¬ ((0 ≤ p ∧ p < M 1 1) ∧ chGd x v) := by unfold chGd; omega
                  rw [(nch_0 hnc).1, (nch_0 hnc).2] at he
                  refine x_V1i h dX7_change_66 m_ml_X7_101 m_im_X7_finding m_se_X7_finding (sM0 hm) rfl (by decide) rfl (c_X7_finding hm (by omega)) ?_
                  try simp only [ca_ca, ca_1, dN_ca, wyM_ca, plN_ca, rpN_ca, ltN_ca, pmN_ca, wnN_ca, nbN_ca, ca_07, ca_08, ca_09, ca_010, beN_ca, ctN_ca, gonN_ca, mvN_ca, stN_ca, thN_ca, fnM_ca, tiN_ca, smN_ca]
                  exact x_iretq h he dX7_change_69 ⟨rfl, CaE.rf1 fnM_y rfl rfl hf⟩
                · refine x_iload h dX7_change_58 rfl ?_
                  refine x_if_ne h dX7_change_60 (tgt := 70) (by decide) (by omega) (fun q60 => ?_) (fun q60 => ?_)
                  · have hgd : (0 ≤ p ∧ p < M 1 1) ∧ chGd x v := by unfold chGd; omega
                    have hn1 := hI.2.2.2 p (by omega) (by omega)
                    have hpm := pmN_R hI (p := p) (by omega)
                    refine x_iload_n h dX7_change_70 rfl ?_
                    refine x_iconst h dX7_change_71 ?_
                    refine x_icmp_ne h dX7_change_72 (tgt := 98) (by decide) (by omega) (by omega) (fun q72 => ?_) (fun q72 => ?_)
                    · have hl2 : x = 1 → ltN M p v (pmN M p) := fun z => by first | assumption | omega
                      rw [(nch_2 hgd hl2).1, (nch_2 hgd hl2).2] at he
                      refine x_aload_n h dX7_change_98 rfl ?_
                      refine x_iload_n h dX7_change_99 rfl ?_
                      refine x_iload_n h dX7_change_100 rfl ?_
                      refine x_S2i h dX7_change_101 m_ml_X7_119 m_st_X7_at (by decide) rfl (c_X7_at hm) ?_
                      try simp only [ca_ca, ca_1, dN_ca, wyM_ca, plN_ca, rpN_ca, ltN_ca, pmN_ca, wnN_ca, nbN_ca, ca_07, ca_08, ca_09, ca_010, beN_ca, ctN_ca, gonN_ca, mvN_ca, stN_ca, thN_ca, fnM_ca, tiN_ca, smN_ca]
                      refine x_iload_n h dX7_change_104 rfl ?_
                      refine x_V2i h dX7_change_105 m_ml_X7_89 m_im_X7_become m_se_X7_become (sM0 hm) rfl (by decide) rfl (c_X7_become hm (by omega) (by omega)) ?_
                      try simp only [ca_ca, ca_1, dN_ca, wyM_ca, plN_ca, rpN_ca, ltN_ca, pmN_ca, wnN_ca, nbN_ca, ca_07, ca_08, ca_09, ca_010, beN_ca, ctN_ca, gonN_ca, mvN_ca, stN_ca, thN_ca, fnM_ca, tiN_ca, smN_ca]
                      try simp only [up_ca1, up_ca07, up_ca08, up_ca09, up_ca010, up_10, up_01, up_0709, up_0710, ca_ca, ca_1, dN_ca, wyM_ca, plN_ca, rpN_ca, ltN_ca, pmN_ca, wnN_ca, nbN_ca, ca_07, ca_08, ca_09, ca_010, beN_ca, ctN_ca, gonN_ca, mvN_ca]
                      exact x_iretq h he dX7_change_108 ⟨by first | rfl | (rw [ca_1]), by first | exact CaE.rf1 (wyM_up (by omega)) rfl rfl hf | exact CaE.of1 (wyM_up (by omega)) (by assumption) | exact CaE.of1 fnM_y (by assumption)⟩
                    · refine x_aload_n h dX7_change_75 rfl ?_
                      refine x_iload_n h dX7_change_76 rfl ?_
                      refine x_iload_n h dX7_change_77 rfl ?_
                      refine x_aload_n h dX7_change_78 rfl ?_
                      refine x_iload_n h dX7_change_79 rfl ?_
                      refine x_V1i h dX7_change_80 m_ml_X7_157 m_im_X7_placeOfMate m_se_X7_placeOfMate (sM0 hm) rfl (by decide) rfl (c_X7_placeOfMate hm (by exact hI) (by first | omega | (simp only [ca_1]; omega))) ?_
                      try simp only [ca_ca, ca_1, dN_ca, wyM_ca, plN_ca, rpN_ca, ltN_ca, pmN_ca, wnN_ca, nbN_ca, ca_07, ca_08, ca_09, ca_010, beN_ca, ctN_ca, gonN_ca, mvN_ca, stN_ca, thN_ca, fnM_ca, tiN_ca, smN_ca]
                      refine x_Q3i h dX7_change_83 m_ml_X7_160 m_im_X7_lets m_se_X7_lets (sM0 hm) rfl (by decide) rfl (c_X7_lets hm (by exact hI) (by assumption) (by first | omega | (simp only [ca_1]; omega)) (by first | omega | (simp only [ca_1]; omega)) (by first | omega | (simp only [ca_1]; omega))) (fun r83 N83 h83 => ?_)
                      obtain ⟨rfl, f83, d83, rfl, c83⟩ := h83
                      try simp only [ca_ca, ca_1, dN_ca, wyM_ca, plN_ca, rpN_ca, ltN_ca, pmN_ca, wnN_ca, nbN_ca, ca_07, ca_08, ca_09, ca_010, beN_ca, ctN_ca, gonN_ca, mvN_ca, stN_ca, thN_ca, fnM_ca, tiN_ca, smN_ca] at c83 ⊢
                      refine x_ifneB h dX7_change_86 (tgt := 98) (by decide) (fun q86 => ?_) (fun q86 => ?_)
                      · have hl2 : x = 1 → ltN M p v (pmN M p) := fun z => by first | assumption | omega
                        rw [(nch_2 hgd hl2).1, (nch_2 hgd hl2).2] at he
                        refine x_aload_n h dX7_change_98 rfl ?_
                        refine x_iload_n h dX7_change_99 rfl ?_
                        refine x_iload_n h dX7_change_100 rfl ?_
                        refine x_S2i h dX7_change_101 m_ml_X7_119 m_st_X7_at (by decide) rfl (c_X7_at hm) ?_
                        try simp only [ca_ca, ca_1, dN_ca, wyM_ca, plN_ca, rpN_ca, ltN_ca, pmN_ca, wnN_ca, nbN_ca, ca_07, ca_08, ca_09, ca_010, beN_ca, ctN_ca, gonN_ca, mvN_ca, stN_ca, thN_ca, fnM_ca, tiN_ca, smN_ca]
                        refine x_iload_n h dX7_change_104 rfl ?_
                        refine x_V2i h dX7_change_105 m_ml_X7_89 m_im_X7_become m_se_X7_become (sM0 hm) rfl (by decide) rfl (c_X7_become hm (by omega) (by omega)) ?_
                        try simp only [ca_ca, ca_1, dN_ca, wyM_ca, plN_ca, rpN_ca, ltN_ca, pmN_ca, wnN_ca, nbN_ca, ca_07, ca_08, ca_09, ca_010, beN_ca, ctN_ca, gonN_ca, mvN_ca, stN_ca, thN_ca, fnM_ca, tiN_ca, smN_ca]
                        try simp only [up_ca1, up_ca07, up_ca08, up_ca09, up_ca010, up_10, up_01, up_0709, up_0710, ca_ca, ca_1, dN_ca, wyM_ca, plN_ca, rpN_ca, ltN_ca, pmN_ca, wnN_ca, nbN_ca, ca_07, ca_08, ca_09, ca_010, beN_ca, ctN_ca, gonN_ca, mvN_ca]
                        exact x_iretq h he dX7_change_108 ⟨by first | rfl | (rw [ca_1]), by first | exact CaE.rf1 (wyM_up (by omega)) rfl rfl hf | exact CaE.of1 (wyM_up (by omega)) (by assumption) | exact CaE.of1 fnM_y (by assumption)⟩
                      · rw [(nch_1 hgd (by omega) q86).1, (nch_1 hgd (by omega) q86).2] at he
                        refine x_aload_n h dX7_change_89 rfl ?_
                        refine x_ldc h m_k_X7_163 dX7_change_90 ?_
                        refine x_V1i h dX7_change_92 m_ml_X7_101 m_im_X7_finding m_se_X7_finding (sM0 hm) rfl (by decide) rfl (c_X7_finding hm (by omega)) ?_
                        try simp only [ca_ca, ca_1, dN_ca, wyM_ca, plN_ca, rpN_ca, ltN_ca, pmN_ca, wnN_ca, nbN_ca, ca_07, ca_08, ca_09, ca_010, beN_ca, ctN_ca, gonN_ca, mvN_ca, stN_ca, thN_ca, fnM_ca, tiN_ca, smN_ca]
                        refine x_goto h dX7_change_95 (tgt := 108) (by decide) ?_
                        try simp only [up_ca1, up_ca07, up_ca08, up_ca09, up_ca010, up_10, up_01, up_0709, up_0710, ca_ca, ca_1, dN_ca, wyM_ca, plN_ca, rpN_ca, ltN_ca, pmN_ca, wnN_ca, nbN_ca, ca_07, ca_08, ca_09, ca_010, beN_ca, ctN_ca, gonN_ca, mvN_ca]
                        exact x_iretq h he dX7_change_108 ⟨by first | rfl | (rw [ca_1]), by first | exact CaE.rf1 (wyM_up (by omega)) rfl rfl hf | exact CaE.of1 (wyM_up (by omega)) (by assumption) | exact CaE.of1 fnM_y (by assumption)⟩
                  · refine x_aload_n h dX7_change_63 rfl ?_
                    refine x_ldc h m_k_X7_76 dX7_change_64 ?_
                    have hnc : ¬ ((0 ≤ p ∧ p < M 1 1) ∧ chGd x v) := by unfold chGd; omega
                    rw [(nch_0 hnc).1, (nch_0 hnc).2] at he
                    refine x_V1i h dX7_change_66 m_ml_X7_101 m_im_X7_finding m_se_X7_finding (sM0 hm) rfl (by decide) rfl (c_X7_finding hm (by omega)) ?_
                    try simp only [ca_ca, ca_1, dN_ca, wyM_ca, plN_ca, rpN_ca, ltN_ca, pmN_ca, wnN_ca, nbN_ca, ca_07, ca_08, ca_09, ca_010, beN_ca, ctN_ca, gonN_ca, mvN_ca, stN_ca, thN_ca, fnM_ca, tiN_ca, smN_ca]
                    exact x_iretq h he dX7_change_69 ⟨rfl, CaE.rf1 fnM_y rfl rfl hf⟩

def frN (M : xMem) (p : Int) : xMem := if 0 ≤ M 1 (113 + 8 * p + 3) then up (up (up (up M 1 (113 + 8 * p + 3) (-1)) 1 (113 + 8 * p + 5) 0) 1 (113 + 8 * M 1 (113 + 8 * p + 3) + 3) (-1)) 1 (113 + 8 * M 1 (113 + 8 * p + 3) + 5) 0 else up (up M 1 (113 + 8 * p + 3) (-1)) 1 (113 + 8 * p + 5) 0
def teN (M : xMem) (a c n : Int) : xMem := up (up (up (up (frN (frN M a) c) 1 (113 + 8 * a + 3) c) 1 (113 + 8 * c + 3) a) 1 (113 + 8 * a + 5) n) 1 (113 + 8 * c + 5) n
section FR
variable {M : xMem} {p f a c n : Int} {d : Int → Int}
theorem frN_ca : frN (ca M f d) p = ca (frN M p) f d := by
  unfold frN
  rw [ca_1]
  split
  · rw [up_ca1, up_ca1, up_ca1, up_ca1]
  · rw [up_ca1, up_ca1]
theorem teN_ca : teN (ca M f d) a c n = ca (teN M a c n) f d := by unfold teN; rw [frN_ca, frN_ca, up_ca1, up_ca1, up_ca1, up_ca1]
theorem frN_R (h : xR M) : xR (frN M p) := by
  unfold frN
  split
  · exact up_R (up_R (up_R (up_R h (by decide)) (by decide)) (by decide)) (by decide)
  · exact up_R (up_R h (by decide)) (by decide)
/-- the rows and cells that ropes do not touch -/
def TiR (M M' : xMem) : Prop := (∀ k, k ≠ 1 → M' k = M k) ∧ (∀ j, (j < 113 ∨ 177 ≤ j) → M' 1 j = M 1 j) ∧ ∀ q g, 0 ≤ q → q < 8 → (g = 0 ∨ g = 1 ∨ g = 2 ∨ g = 4 ∨ g = 6 ∨ g = 7) → M' 1 (113 + 8 * q + g) = M 1 (113 + 8 * q + g)
theorem TiR.rf : TiR M M := ⟨fun _ _ => rfl, fun _ _ => rfl, fun _ _ _ _ _ => rfl⟩
theorem TiR.tr {M1 M2 M3 : xMem} (h1 : TiR M1 M2) (h2 : TiR M2 M3) : TiR M1 M3 := ⟨fun k a => (h2.1 k a).trans (h1.1 k a), fun j a => (h2.2.1 j a).trans (h1.2.1 j a), fun q g a b c => (h2.2.2 q g a b c).trans (h1.2.2 q g a b c)⟩
theorem TiR.up {M1 M2 : xMem} {q g v : Int} (h : TiR M1 M2) (hq : 0 ≤ q ∧ q < 8) (hg : g = 3 ∨ g = 5) : TiR M1 (up M2 1 (113 + 8 * q + g) v) :=
  ⟨fun k a => by rw [up_n a]; exact h.1 k a, fun j a => by rw [up_nn (by omega)]; exact h.2.1 j a, fun r s a b c => by rw [up_nn (by omega)]; exact h.2.2 r s a b c⟩
theorem TiR.y {M M' : xMem} (h : TiR M M') : wyM M' = wyM M := by
  funext j
  unfold wyM
  by_cases hj : 0 ≤ j ∧ j < 100
  · rw [if_pos hj, if_pos hj, h.2.1 _ (by omega)]
  · rw [if_neg hj, if_neg hj]
theorem TiR.nq {M M' : xMem} (h : TiR M M') : M' 1 1 = M 1 1 := h.2.1 1 (by decide)
theorem frN_I (hI : MInv M) (hp : 0 ≤ p ∧ p < M 1 1) : MInv (frN M p) ∧ TiR M (frN M p) := by
  have hn := hI.1
  have ip := hI.2.2.2 p hp.1 hp.2
  have h1 : MInv (up M 1 (113 + 8 * p + 3) (-1)) := hI.up1 hp (by unfold fOk; omega)
  have e1 : up M 1 (113 + 8 * p + 3) (-1) 1 1 = M 1 1 := up_nn (by omega)
  have h2 : MInv (up (up M 1 (113 + 8 * p + 3) (-1)) 1 (113 + 8 * p + 5) 0) := h1.up1 (by rw [e1]; exact hp) (by unfold fOk; omega)
  have e2 : up (up M 1 (113 + 8 * p + 3) (-1)) 1 (113 + 8 * p + 5) 0 1 1 = M 1 1 := by rw [up_nn (by omega), e1]
  unfold frN
  split
  · have h3 : MInv (up (up (up M 1 (113 + 8 * p + 3) (-1)) 1 (113 + 8 * p + 5) 0) 1 (113 + 8 * M 1 (113 + 8 * p + 3) + 3) (-1)) := h2.up1 (by rw [e2]; omega) (by unfold fOk; rw [e2]; omega)
    have e3 : up (up (up M 1 (113 + 8 * p + 3) (-1)) 1 (113 + 8 * p + 5) 0) 1 (113 + 8 * M 1 (113 + 8 * p + 3) + 3) (-1) 1 1 = M 1 1 := by rw [up_nn (by omega), e2]
    exact ⟨h3.up1 (by rw [e3]; omega) (by unfold fOk; omega), (((TiR.rf.up (by omega) (by omega)).up (by omega) (by omega)).up (by omega) (by omega)).up (by omega) (by omega)⟩
  · exact ⟨h2, (TiR.rf.up (by omega) (by omega)).up (by omega) (by omega)⟩
theorem teN_I (hI : MInv M) (ha : 0 ≤ a ∧ a < M 1 1) (hc : 0 ≤ c ∧ c < M 1 1) (hn9 : 0 ≤ n ∧ n ≤ 999) : MInv (teN M a c n) ∧ TiR M (teN M a c n) := by
  have hn := hI.1
  have h1 := frN_I hI ha
  have h2 := frN_I h1.1 (p := c) (by rw [h1.2.nq]; exact hc)
  have t2 := h1.2.tr h2.2
  have g2 := h2.1
  unfold teN
  generalize frN (frN M a) c = N at t2 g2 ⊢
  have hN := t2.nq
  have g3 : MInv (up N 1 (113 + 8 * a + 3) c) := g2.up1 (by rw [hN]; exact ha) (by unfold fOk; omega)
  have e3 : up N 1 (113 + 8 * a + 3) c 1 1 = M 1 1 := by rw [up_nn (by omega), hN]
  have g4 : MInv (up (up N 1 (113 + 8 * a + 3) c) 1 (113 + 8 * c + 3) a) := g3.up1 (by rw [e3]; exact hc) (by unfold fOk; omega)
  have e4 : up (up N 1 (113 + 8 * a + 3) c) 1 (113 + 8 * c + 3) a 1 1 = M 1 1 := by rw [up_nn (by omega), e3]
  have g5 : MInv (up (up (up N 1 (113 + 8 * a + 3) c) 1 (113 + 8 * c + 3) a) 1 (113 + 8 * a + 5) n) := g4.up1 (by rw [e4]; exact ha) (by unfold fOk; omega)
  have e5 : up (up (up N 1 (113 + 8 * a + 3) c) 1 (113 + 8 * c + 3) a) 1 (113 + 8 * a + 5) n 1 1 = M 1 1 := by rw [up_nn (by omega), e4]
  exact ⟨g5.up1 (by rw [e5]; exact hc) (by unfold fOk; omega), (((t2.up (by omega) (by omega)).up (by omega) (by omega)).up (by omega) (by omega)).up (by omega) (by omega)⟩
end FR
theorem dX7_freesOf_0 : decode cX7_freesOf 0 = .ok (.aload_n 0, 1) := by decide +kernel
theorem dX7_freesOf_1 : decode cX7_freesOf 1 = .ok (.iload_n 1, 1) := by decide +kernel
theorem dX7_freesOf_2 : decode cX7_freesOf 2 = .ok (.iconst 3, 1) := by decide +kernel
theorem dX7_freesOf_3 : decode cX7_freesOf 3 = .ok (.invokevirtual 133, 3) := by decide +kernel
theorem dX7_freesOf_6 : decode cX7_freesOf 6 = .ok (.istore_n 2, 1) := by decide +kernel
theorem dX7_freesOf_7 : decode cX7_freesOf 7 = .ok (.aload_n 0, 1) := by decide +kernel
theorem dX7_freesOf_8 : decode cX7_freesOf 8 = .ok (.getfield 9, 3) := by decide +kernel
theorem dX7_freesOf_11 : decode cX7_freesOf 11 = .ok (.iload_n 1, 1) := by decide +kernel
theorem dX7_freesOf_12 : decode cX7_freesOf 12 = .ok (.iconst 3, 1) := by decide +kernel
theorem dX7_freesOf_13 : decode cX7_freesOf 13 = .ok (.invokestatic 119, 3) := by decide +kernel
theorem dX7_freesOf_16 : decode cX7_freesOf 16 = .ok (.iconst (-1), 1) := by decide +kernel
theorem dX7_freesOf_17 : decode cX7_freesOf 17 = .ok (.iastore, 1) := by decide +kernel
theorem dX7_freesOf_18 : decode cX7_freesOf 18 = .ok (.aload_n 0, 1) := by decide +kernel
theorem dX7_freesOf_19 : decode cX7_freesOf 19 = .ok (.getfield 9, 3) := by decide +kernel
theorem dX7_freesOf_22 : decode cX7_freesOf 22 = .ok (.iload_n 1, 1) := by decide +kernel
theorem dX7_freesOf_23 : decode cX7_freesOf 23 = .ok (.iconst 5, 1) := by decide +kernel
theorem dX7_freesOf_24 : decode cX7_freesOf 24 = .ok (.invokestatic 119, 3) := by decide +kernel
theorem dX7_freesOf_27 : decode cX7_freesOf 27 = .ok (.iconst 0, 1) := by decide +kernel
theorem dX7_freesOf_28 : decode cX7_freesOf 28 = .ok (.iastore, 1) := by decide +kernel
theorem dX7_freesOf_29 : decode cX7_freesOf 29 = .ok (.iload_n 2, 1) := by decide +kernel
theorem dX7_freesOf_30 : decode cX7_freesOf 30 = .ok (.ifCond .lt 25, 3) := by decide +kernel
theorem dX7_freesOf_33 : decode cX7_freesOf 33 = .ok (.aload_n 0, 1) := by decide +kernel
theorem dX7_freesOf_34 : decode cX7_freesOf 34 = .ok (.getfield 9, 3) := by decide +kernel
theorem dX7_freesOf_37 : decode cX7_freesOf 37 = .ok (.iload_n 2, 1) := by decide +kernel
theorem dX7_freesOf_38 : decode cX7_freesOf 38 = .ok (.iconst 3, 1) := by decide +kernel
theorem dX7_freesOf_39 : decode cX7_freesOf 39 = .ok (.invokestatic 119, 3) := by decide +kernel
theorem dX7_freesOf_42 : decode cX7_freesOf 42 = .ok (.iconst (-1), 1) := by decide +kernel
theorem dX7_freesOf_43 : decode cX7_freesOf 43 = .ok (.iastore, 1) := by decide +kernel
theorem dX7_freesOf_44 : decode cX7_freesOf 44 = .ok (.aload_n 0, 1) := by decide +kernel
theorem dX7_freesOf_45 : decode cX7_freesOf 45 = .ok (.getfield 9, 3) := by decide +kernel
theorem dX7_freesOf_48 : decode cX7_freesOf 48 = .ok (.iload_n 2, 1) := by decide +kernel
theorem dX7_freesOf_49 : decode cX7_freesOf 49 = .ok (.iconst 5, 1) := by decide +kernel
theorem dX7_freesOf_50 : decode cX7_freesOf 50 = .ok (.invokestatic 119, 3) := by decide +kernel
theorem dX7_freesOf_53 : decode cX7_freesOf 53 = .ok (.iconst 0, 1) := by decide +kernel
theorem dX7_freesOf_54 : decode cX7_freesOf 54 = .ok (.iastore, 1) := by decide +kernel
theorem dX7_freesOf_55 : decode cX7_freesOf 55 = .ok (.iload_n 2, 1) := by decide +kernel
theorem dX7_freesOf_56 : decode cX7_freesOf 56 = .ok (.ireturn, 1) := by decide +kernel
set_option maxHeartbeats 800000 in
set_option maxRecDepth 100000 in
theorem c_X7_freesOf {l : Launch} {ω : xO} {ks : Nat → Option Nat} (hm : xsh ω = mdS ks) {p : Int} {M : xMem} (hI : MInv M) (hp : 0 ≤ p ∧ p < M 1 1) : Ct l ω yX7_freesOf ({ frames := 2, cells := 0, slots := 0, locals := 43 } : Room) 3 1 [.ref (xad ω 0), .int (iI p)] M (some (.int (iI (M 1 (113 + 8 * p + 3))))) (frN M p) := by
  refine Ct.of (bytes := cX7_freesOf) (ret := (some .int)) (lv0 := [some (.ref (xad ω 0)), some (.int (iI p)), none]) m_cd_X7_freesOf m_in_X7 (by decide +kernel) (by decide +kernel) rfl rfl rfl rfl frN_R ?_
  intro κ h he hR
  have hn := hI.1
  have hk := hI.2.1
  have hL := hI.2.2.1
  have ip := hI.2.2.2 p hp.1 hp.2
  refine x_aload_n h dX7_freesOf_0 rfl ?_
  refine x_iload_n h dX7_freesOf_1 rfl ?_
  refine x_iconst h dX7_freesOf_2 ?_
  refine x_V2i h dX7_freesOf_3 m_ml_X7_133 m_im_X7_personIs m_se_X7_personIs (sM0 hm) rfl (by decide) rfl (c_X7_personIs hm (by omega) (by omega)) ?_
  refine x_istore_n h dX7_freesOf_6 rfl rfl ?_
  dsimp only [xset]
  refine x_aload_n h dX7_freesOf_7 rfl ?_
  refine x_getr (j := 0) (q := 1) h dX7_freesOf_8 (sM0 hm) rfl in_X7 rfl (by decide) m_fl_X7_9 ?_
  refine x_iload_n h dX7_freesOf_11 rfl ?_
  refine x_iconst h dX7_freesOf_12 ?_
  refine x_S2i h dX7_freesOf_13 m_ml_X7_119 m_st_X7_at (by decide) rfl (c_X7_at hm) ?_
  refine x_iconst h dX7_freesOf_16 ?_
  refine x_iastore h dX7_freesOf_17 (sM1 hm) (by omega) (by omega) ?_
  refine x_aload_n h dX7_freesOf_18 rfl ?_
  refine x_getr (j := 0) (q := 1) h dX7_freesOf_19 (sM0 hm) rfl in_X7 rfl (by decide) m_fl_X7_9 ?_
  refine x_iload_n h dX7_freesOf_22 rfl ?_
  refine x_iconst h dX7_freesOf_23 ?_
  refine x_S2i h dX7_freesOf_24 m_ml_X7_119 m_st_X7_at (by decide) rfl (c_X7_at hm) ?_
  refine x_iconst h dX7_freesOf_27 ?_
  refine x_iastore h dX7_freesOf_28 (sM1 hm) (by omega) (by omega) ?_
  refine x_iload_n h dX7_freesOf_29 rfl ?_
  refine x_if_lt h dX7_freesOf_30 (tgt := 55) (by decide) (by omega) (fun q30 => ?_) (fun q30 => ?_)
  · refine x_iload_n h dX7_freesOf_55 rfl ?_
    exact x_iret (ret := none) h he dX7_freesOf_56 rfl rfl (by unfold frN; first | rw [if_pos (by omega)] | rw [if_neg (by omega)])
  · refine x_aload_n h dX7_freesOf_33 rfl ?_
    refine x_getr (j := 0) (q := 1) h dX7_freesOf_34 (sM0 hm) rfl in_X7 rfl (by decide) m_fl_X7_9 ?_
    refine x_iload_n h dX7_freesOf_37 rfl ?_
    refine x_iconst h dX7_freesOf_38 ?_
    refine x_S2i h dX7_freesOf_39 m_ml_X7_119 m_st_X7_at (by decide) rfl (c_X7_at hm) ?_
    refine x_iconst h dX7_freesOf_42 ?_
    refine x_iastore h dX7_freesOf_43 (sM1 hm) (by omega) (by omega) ?_
    refine x_aload_n h dX7_freesOf_44 rfl ?_
    refine x_getr (j := 0) (q := 1) h dX7_freesOf_45 (sM0 hm) rfl in_X7 rfl (by decide) m_fl_X7_9 ?_
    refine x_iload_n h dX7_freesOf_48 rfl ?_
    refine x_iconst h dX7_freesOf_49 ?_
    refine x_S2i h dX7_freesOf_50 m_ml_X7_119 m_st_X7_at (by decide) rfl (c_X7_at hm) ?_
    refine x_iconst h dX7_freesOf_53 ?_
    refine x_iastore h dX7_freesOf_54 (sM1 hm) (by omega) (by omega) ?_
    refine x_iload_n h dX7_freesOf_55 rfl ?_
    exact x_iret (ret := none) h he dX7_freesOf_56 rfl rfl (by unfold frN; first | rw [if_pos (by omega)] | rw [if_neg (by omega)])

theorem dX7_ties_0 : decode cX7_ties 0 = .ok (.aload_n 0, 1) := by decide +kernel
theorem dX7_ties_1 : decode cX7_ties 1 = .ok (.iload_n 1, 1) := by decide +kernel
theorem dX7_ties_2 : decode cX7_ties 2 = .ok (.invokevirtual 164, 3) := by decide +kernel
theorem dX7_ties_5 : decode cX7_ties 5 = .ok (.istore 4, 2) := by decide +kernel
theorem dX7_ties_7 : decode cX7_ties 7 = .ok (.aload_n 0, 1) := by decide +kernel
theorem dX7_ties_8 : decode cX7_ties 8 = .ok (.iload_n 2, 1) := by decide +kernel
theorem dX7_ties_9 : decode cX7_ties 9 = .ok (.invokevirtual 164, 3) := by decide +kernel
theorem dX7_ties_12 : decode cX7_ties 12 = .ok (.istore 4, 2) := by decide +kernel
theorem dX7_ties_14 : decode cX7_ties 14 = .ok (.aload_n 0, 1) := by decide +kernel
theorem dX7_ties_15 : decode cX7_ties 15 = .ok (.getfield 9, 3) := by decide +kernel
theorem dX7_ties_18 : decode cX7_ties 18 = .ok (.iload_n 1, 1) := by decide +kernel
theorem dX7_ties_19 : decode cX7_ties 19 = .ok (.iconst 3, 1) := by decide +kernel
theorem dX7_ties_20 : decode cX7_ties 20 = .ok (.invokestatic 119, 3) := by decide +kernel
theorem dX7_ties_23 : decode cX7_ties 23 = .ok (.iload 4, 2) := by decide +kernel
theorem dX7_ties_25 : decode cX7_ties 25 = .ok (.iconst (-1), 1) := by decide +kernel
theorem dX7_ties_26 : decode cX7_ties 26 = .ok (.if_icmp .ge 7, 3) := by decide +kernel
theorem dX7_ties_29 : decode cX7_ties 29 = .ok (.iconst (-1), 1) := by decide +kernel
theorem dX7_ties_30 : decode cX7_ties 30 = .ok (.goto 4, 3) := by decide +kernel
theorem dX7_ties_33 : decode cX7_ties 33 = .ok (.iload_n 2, 1) := by decide +kernel
theorem dX7_ties_34 : decode cX7_ties 34 = .ok (.iastore, 1) := by decide +kernel
theorem dX7_ties_35 : decode cX7_ties 35 = .ok (.aload_n 0, 1) := by decide +kernel
theorem dX7_ties_36 : decode cX7_ties 36 = .ok (.getfield 9, 3) := by decide +kernel
theorem dX7_ties_39 : decode cX7_ties 39 = .ok (.iload_n 2, 1) := by decide +kernel
theorem dX7_ties_40 : decode cX7_ties 40 = .ok (.iconst 3, 1) := by decide +kernel
theorem dX7_ties_41 : decode cX7_ties 41 = .ok (.invokestatic 119, 3) := by decide +kernel
theorem dX7_ties_44 : decode cX7_ties 44 = .ok (.iload_n 1, 1) := by decide +kernel
theorem dX7_ties_45 : decode cX7_ties 45 = .ok (.iastore, 1) := by decide +kernel
theorem dX7_ties_46 : decode cX7_ties 46 = .ok (.aload_n 0, 1) := by decide +kernel
theorem dX7_ties_47 : decode cX7_ties 47 = .ok (.getfield 9, 3) := by decide +kernel
theorem dX7_ties_50 : decode cX7_ties 50 = .ok (.iload_n 1, 1) := by decide +kernel
theorem dX7_ties_51 : decode cX7_ties 51 = .ok (.iconst 5, 1) := by decide +kernel
theorem dX7_ties_52 : decode cX7_ties 52 = .ok (.invokestatic 119, 3) := by decide +kernel
theorem dX7_ties_55 : decode cX7_ties 55 = .ok (.iload_n 3, 1) := by decide +kernel
theorem dX7_ties_56 : decode cX7_ties 56 = .ok (.iastore, 1) := by decide +kernel
theorem dX7_ties_57 : decode cX7_ties 57 = .ok (.aload_n 0, 1) := by decide +kernel
theorem dX7_ties_58 : decode cX7_ties 58 = .ok (.getfield 9, 3) := by decide +kernel
theorem dX7_ties_61 : decode cX7_ties 61 = .ok (.iload_n 2, 1) := by decide +kernel
theorem dX7_ties_62 : decode cX7_ties 62 = .ok (.iconst 5, 1) := by decide +kernel
theorem dX7_ties_63 : decode cX7_ties 63 = .ok (.invokestatic 119, 3) := by decide +kernel
theorem dX7_ties_66 : decode cX7_ties 66 = .ok (.iload_n 3, 1) := by decide +kernel
theorem dX7_ties_67 : decode cX7_ties 67 = .ok (.iastore, 1) := by decide +kernel
theorem dX7_ties_68 : decode cX7_ties 68 = .ok (.return_, 1) := by decide +kernel
set_option maxHeartbeats 800000 in
set_option maxRecDepth 100000 in
theorem c_X7_ties {l : Launch} {ω : xO} {ks : Nat → Option Nat} (hm : xsh ω = mdS ks) {a c n : Int} {M : xMem} (hI : MInv M) (ha : 0 ≤ a ∧ a < M 1 1) (hc : 0 ≤ c ∧ c < M 1 1) (hn9 : 0 ≤ n ∧ n ≤ 999) : Ct l ω yX7_ties ({ frames := 3, cells := 0, slots := 0, locals := 65 } : Room) 5 3 [.ref (xad ω 0), .int (iI a), .int (iI c), .int (iI n)] M none (teN M a c n) := by
  refine Ct.of (bytes := cX7_ties) (ret := none) (lv0 := [some (.ref (xad ω 0)), some (.int (iI a)), some (.int (iI c)), some (.int (iI n)), none]) m_cd_X7_ties m_in_X7 (by decide +kernel) (by decide +kernel) rfl rfl rfl rfl (fun hR => by
  have hn := hI.1
  exact up_R (up_R (up_R (up_R (frN_R (frN_R hR)) (by omega)) (by omega)) (by omega)) (by omega)) ?_
  intro κ h he hR
  have hn := hI.1
  have f1 := frN_I hI ha
  have f1n := f1.2.nq
  have f2 := f1.1.2.2.2 c (by omega) (by omega)
  refine x_aload_n h dX7_ties_0 rfl ?_
  refine x_iload_n h dX7_ties_1 rfl ?_
  refine x_V1i h dX7_ties_2 m_ml_X7_164 m_im_X7_freesOf m_se_X7_freesOf (sM0 hm) rfl (by decide) rfl (c_X7_freesOf hm (by exact hI) (by first | omega | (simp only [ca_1]; omega))) ?_
  refine x_istore h dX7_ties_5 rfl rfl ?_
  dsimp only [xset]
  refine x_aload_n h dX7_ties_7 rfl ?_
  refine x_iload_n h dX7_ties_8 rfl ?_
  refine x_V1i h dX7_ties_9 m_ml_X7_164 m_im_X7_freesOf m_se_X7_freesOf (sM0 hm) rfl (by decide) rfl (c_X7_freesOf hm f1.1 (by omega)) ?_
  refine x_istore h dX7_ties_12 rfl rfl ?_
  dsimp only [xset]
  refine x_aload_n h dX7_ties_14 rfl ?_
  refine x_getr (j := 0) (q := 1) h dX7_ties_15 (sM0 hm) rfl in_X7 rfl (by decide) m_fl_X7_9 ?_
  refine x_iload_n h dX7_ties_18 rfl ?_
  refine x_iconst h dX7_ties_19 ?_
  refine x_S2i h dX7_ties_20 m_ml_X7_119 m_st_X7_at (by decide) rfl (c_X7_at hm) ?_
  refine x_iload h dX7_ties_23 rfl ?_
  refine x_iconst h dX7_ties_25 ?_
  refine x_icmp_ge h dX7_ties_26 (tgt := 33) (by decide) (by omega) (by omega) (fun q26 => ?_) (fun q26 => ?_)
  · refine x_iload_n h dX7_ties_33 rfl ?_
    refine x_iastore h dX7_ties_34 (sM1 hm) (by omega) (by omega) ?_
    refine x_aload_n h dX7_ties_35 rfl ?_
    refine x_getr (j := 0) (q := 1) h dX7_ties_36 (sM0 hm) rfl in_X7 rfl (by decide) m_fl_X7_9 ?_
    refine x_iload_n h dX7_ties_39 rfl ?_
    refine x_iconst h dX7_ties_40 ?_
    refine x_S2i h dX7_ties_41 m_ml_X7_119 m_st_X7_at (by decide) rfl (c_X7_at hm) ?_
    refine x_iload_n h dX7_ties_44 rfl ?_
    refine x_iastore h dX7_ties_45 (sM1 hm) (by omega) (by omega) ?_
    refine x_aload_n h dX7_ties_46 rfl ?_
    refine x_getr (j := 0) (q := 1) h dX7_ties_47 (sM0 hm) rfl in_X7 rfl (by decide) m_fl_X7_9 ?_
    refine x_iload_n h dX7_ties_50 rfl ?_
    refine x_iconst h dX7_ties_51 ?_
    refine x_S2i h dX7_ties_52 m_ml_X7_119 m_st_X7_at (by decide) rfl (c_X7_at hm) ?_
    refine x_iload_n h dX7_ties_55 rfl ?_
    refine x_iastore h dX7_ties_56 (sM1 hm) (by omega) (by omega) ?_
    refine x_aload_n h dX7_ties_57 rfl ?_
    refine x_getr (j := 0) (q := 1) h dX7_ties_58 (sM0 hm) rfl in_X7 rfl (by decide) m_fl_X7_9 ?_
    refine x_iload_n h dX7_ties_61 rfl ?_
    refine x_iconst h dX7_ties_62 ?_
    refine x_S2i h dX7_ties_63 m_ml_X7_119 m_st_X7_at (by decide) rfl (c_X7_at hm) ?_
    refine x_iload_n h dX7_ties_66 rfl ?_
    refine x_iastore h dX7_ties_67 (sM1 hm) (by omega) (by omega) ?_
    exact x_vret h he dX7_ties_68 rfl
  · exfalso; omega

theorem dX7_areTwo_0 : decode cX7_areTwo 0 = .ok (.aload_n 0, 1) := by decide +kernel
theorem dX7_areTwo_1 : decode cX7_areTwo 1 = .ok (.iload_n 1, 1) := by decide +kernel
theorem dX7_areTwo_2 : decode cX7_areTwo 2 = .ok (.invokevirtual 148, 3) := by decide +kernel
theorem dX7_areTwo_5 : decode cX7_areTwo 5 = .ok (.ifCond .eq 20, 3) := by decide +kernel
theorem dX7_areTwo_8 : decode cX7_areTwo 8 = .ok (.aload_n 0, 1) := by decide +kernel
theorem dX7_areTwo_9 : decode cX7_areTwo 9 = .ok (.iload_n 2, 1) := by decide +kernel
theorem dX7_areTwo_10 : decode cX7_areTwo 10 = .ok (.invokevirtual 148, 3) := by decide +kernel
theorem dX7_areTwo_13 : decode cX7_areTwo 13 = .ok (.ifCond .eq 12, 3) := by decide +kernel
theorem dX7_areTwo_16 : decode cX7_areTwo 16 = .ok (.iload_n 1, 1) := by decide +kernel
theorem dX7_areTwo_17 : decode cX7_areTwo 17 = .ok (.iload_n 2, 1) := by decide +kernel
theorem dX7_areTwo_18 : decode cX7_areTwo 18 = .ok (.if_icmp .eq 7, 3) := by decide +kernel
theorem dX7_areTwo_21 : decode cX7_areTwo 21 = .ok (.iconst 1, 1) := by decide +kernel
theorem dX7_areTwo_22 : decode cX7_areTwo 22 = .ok (.goto 4, 3) := by decide +kernel
theorem dX7_areTwo_25 : decode cX7_areTwo 25 = .ok (.iconst 0, 1) := by decide +kernel
theorem dX7_areTwo_26 : decode cX7_areTwo 26 = .ok (.ireturn, 1) := by decide +kernel
set_option maxHeartbeats 800000 in
set_option maxRecDepth 100000 in
theorem c_X7_areTwo {l : Launch} {ω : xO} {ks : Nat → Option Nat} (hm : xsh ω = mdS ks) {a c : Int} {M : xMem} (hI : MInv M) (ha : inR a) (hc : inR c) : Ct l ω yX7_areTwo ({ frames := 2, cells := 0, slots := 0, locals := 43 } : Room) 3 2 [.ref (xad ω 0), .int (iI a), .int (iI c)] M (some (.int (iI (bI ((0 ≤ a ∧ a < M 1 1) ∧ (0 ≤ c ∧ c < M 1 1) ∧ a ≠ c))))) M := by
  refine Ct.of (bytes := cX7_areTwo) (ret := (some .boolean)) (lv0 := [some (.ref (xad ω 0)), some (.int (iI a)), some (.int (iI c))]) m_cd_X7_areTwo m_in_X7 (by decide +kernel) (by decide +kernel) rfl rfl rfl rfl (fun hR => hR) ?_
  intro κ h he hR
  have hn := hI.1
  refine x_aload_n h dX7_areTwo_0 rfl ?_
  refine x_iload_n h dX7_areTwo_1 rfl ?_
  refine x_V1i h dX7_areTwo_2 m_ml_X7_148 m_im_X7_isPerson m_se_X7_isPerson (sM0 hm) rfl (by decide) rfl (c_X7_isPerson hm (by omega) (by omega)) ?_
  refine x_ifeqB h dX7_areTwo_5 (tgt := 25) (by decide) (fun q5 => ?_) (fun q5 => ?_)
  · refine x_iconst h dX7_areTwo_25 ?_
    exact x_zret h he dX7_areTwo_26 (by first | exact Or.inl rfl | exact Or.inr rfl | exact bI_01 _ | omega) rfl (by first | rfl | omega | exact (bI_t (by omega)).symm | exact (bI_f (by omega)).symm) rfl
  · refine x_aload_n h dX7_areTwo_8 rfl ?_
    refine x_iload_n h dX7_areTwo_9 rfl ?_
    refine x_V1i h dX7_areTwo_10 m_ml_X7_148 m_im_X7_isPerson m_se_X7_isPerson (sM0 hm) rfl (by decide) rfl (c_X7_isPerson hm (by omega) (by omega)) ?_
    refine x_ifeqB h dX7_areTwo_13 (tgt := 25) (by decide) (fun q13 => ?_) (fun q13 => ?_)
    · refine x_iconst h dX7_areTwo_25 ?_
      exact x_zret h he dX7_areTwo_26 (by first | exact Or.inl rfl | exact Or.inr rfl | exact bI_01 _ | omega) rfl (by first | rfl | omega | exact (bI_t (by omega)).symm | exact (bI_f (by omega)).symm) rfl
    · refine x_iload_n h dX7_areTwo_16 rfl ?_
      refine x_iload_n h dX7_areTwo_17 rfl ?_
      refine x_icmp_eq h dX7_areTwo_18 (tgt := 25) (by decide) (by omega) (by omega) (fun q18 => ?_) (fun q18 => ?_)
      · refine x_iconst h dX7_areTwo_25 ?_
        exact x_zret h he dX7_areTwo_26 (by first | exact Or.inl rfl | exact Or.inr rfl | exact bI_01 _ | omega) rfl (by first | rfl | omega | exact (bI_t (by omega)).symm | exact (bI_f (by omega)).symm) rfl
      · refine x_iconst h dX7_areTwo_21 ?_
        refine x_goto h dX7_areTwo_22 (tgt := 26) (by decide) ?_
        exact x_zret h he dX7_areTwo_26 (by first | exact Or.inl rfl | exact Or.inr rfl | exact bI_01 _ | omega) rfl (by first | rfl | omega | exact (bI_t (by omega)).symm | exact (bI_f (by omega)).symm) rfl

noncomputable def tdR (M : xMem) (a c n : Int) : Int := bI (ltN (teN M a c n) a (M 1 (113 + 8 * a + 1)) (M 1 (113 + 8 * c + 1)))
abbrev tiGd (M : xMem) (a c n : Int) : Prop := ((0 ≤ a ∧ a < M 1 1) ∧ (0 ≤ c ∧ c < M 1 1) ∧ a ≠ c) ∧ 0 ≤ n ∧ n ≤ 999
noncomputable def ntiR (M : xMem) (a c n : Int) : Int := if tiGd M a c n then tdR M a c n else -1000001
def ntiM (M : xMem) (a c n : Int) : xMem := if tiGd M a c n then teN M a c n else fnM M (-1000001)
def ncuR (M : xMem) (p : Int) : Int := if 0 ≤ p ∧ p < M 1 1 then (if 0 ≤ M 1 (113 + 8 * p + 3) then M 1 (113 + 8 * p + 3) else -1000004) else -1000001
def ncuM (M : xMem) (p : Int) : xMem := if 0 ≤ p ∧ p < M 1 1 then (if 0 ≤ M 1 (113 + 8 * p + 3) then frN M p else fnM M (-1000004)) else fnM M (-1000001)
def nroR (M : xMem) (p : Int) : Int := if 0 ≤ p ∧ p < M 1 1 then (if 0 ≤ M 1 (113 + 8 * p + 3) then M 1 (113 + 8 * p + 5) else -1000004) else -1000001
def nroM (M : xMem) (p : Int) : xMem := if 0 ≤ p ∧ p < M 1 1 then (if 0 ≤ M 1 (113 + 8 * p + 3) then M else fnM M (-1000004)) else fnM M (-1000001)
noncomputable def ngoR (M : xMem) (n : Int) : Int := if 1 ≤ n ∧ n ≤ 40 then (if 99999 < M 1 0 + n then -1000005 else M 1 0 + n) else -1000001
noncomputable def ngoM (M : xMem) (n : Int) : xMem := if 1 ≤ n ∧ n ≤ 40 then (if 99999 < M 1 0 + n then fnM M (-1000005) else siN M n.toNat) else fnM M (-1000001)
def nnoR (M : xMem) (x : Int) : Int := if x = 0 then M 1 0 else if x = 1 then thN M else if x = 2 then tiN M else if x = 3 then smN M 6 else if x = 4 then smN M 7 else -1000001
def nnoM (M : xMem) (x : Int) : xMem := if 0 ≤ x ∧ x ≤ 4 then M else fnM M (-1000001)
noncomputable def nneR (M : xMem) (p : Int) : Int := if 0 ≤ p ∧ p < M 1 1 then wnN M p else -1000001
def nneM (M : xMem) (p : Int) : xMem := if 0 ≤ p ∧ p < M 1 1 then M else fnM M (-1000001)
noncomputable def nmaR (M : xMem) (p a : Int) : Int := if (0 ≤ p ∧ p < M 1 1) ∧ plc a then bI (ltN M p a (pmN M p)) else -1000001
def nmaM (M : xMem) (p a : Int) : xMem := if (0 ≤ p ∧ p < M 1 1) ∧ plc a then M else fnM M (-1000001)
theorem dX7_tied_0 : decode cX7_tied 0 = .ok (.aload_n 0, 1) := by decide +kernel
theorem dX7_tied_1 : decode cX7_tied 1 = .ok (.iload_n 1, 1) := by decide +kernel
theorem dX7_tied_2 : decode cX7_tied 2 = .ok (.iload_n 2, 1) := by decide +kernel
theorem dX7_tied_3 : decode cX7_tied 3 = .ok (.iload_n 3, 1) := by decide +kernel
theorem dX7_tied_4 : decode cX7_tied 4 = .ok (.invokevirtual 167, 3) := by decide +kernel
theorem dX7_tied_7 : decode cX7_tied 7 = .ok (.aload_n 0, 1) := by decide +kernel
theorem dX7_tied_8 : decode cX7_tied 8 = .ok (.iload_n 1, 1) := by decide +kernel
theorem dX7_tied_9 : decode cX7_tied 9 = .ok (.aload_n 0, 1) := by decide +kernel
theorem dX7_tied_10 : decode cX7_tied 10 = .ok (.iload_n 1, 1) := by decide +kernel
theorem dX7_tied_11 : decode cX7_tied 11 = .ok (.iconst 1, 1) := by decide +kernel
theorem dX7_tied_12 : decode cX7_tied 12 = .ok (.invokevirtual 133, 3) := by decide +kernel
theorem dX7_tied_15 : decode cX7_tied 15 = .ok (.aload_n 0, 1) := by decide +kernel
theorem dX7_tied_16 : decode cX7_tied 16 = .ok (.iload_n 2, 1) := by decide +kernel
theorem dX7_tied_17 : decode cX7_tied 17 = .ok (.iconst 1, 1) := by decide +kernel
theorem dX7_tied_18 : decode cX7_tied 18 = .ok (.invokevirtual 133, 3) := by decide +kernel
theorem dX7_tied_21 : decode cX7_tied 21 = .ok (.invokevirtual 160, 3) := by decide +kernel
theorem dX7_tied_24 : decode cX7_tied 24 = .ok (.ifCond .eq 7, 3) := by decide +kernel
theorem dX7_tied_27 : decode cX7_tied 27 = .ok (.iconst 1, 1) := by decide +kernel
theorem dX7_tied_28 : decode cX7_tied 28 = .ok (.goto 4, 3) := by decide +kernel
theorem dX7_tied_31 : decode cX7_tied 31 = .ok (.iconst 0, 1) := by decide +kernel
theorem dX7_tied_32 : decode cX7_tied 32 = .ok (.ireturn, 1) := by decide +kernel
set_option maxHeartbeats 800000 in
set_option maxRecDepth 100000 in
theorem c_X7_tied {l : Launch} {ω : xO} {ks : Nat → Option Nat} (hm : xsh ω = mdS ks) {a c n : Int} {M : xMem} (hI : MInv M) (hf : Fc M) (ha : 0 ≤ a ∧ a < M 1 1) (hc : 0 ≤ c ∧ c < M 1 1) (hn9 : 0 ≤ n ∧ n ≤ 999) : Cq l ω yX7_tied ({ frames := 5, cells := 0, slots := 0, locals := 108 } : Room) 4 3 [.ref (xad ω 0), .int (iI a), .int (iI c), .int (iI n)] M (pI1 (fun r N' => r = tdR M a c n ∧ CaE (teN M a c n) N')) := by
  refine Cq.of (bytes := cX7_tied) (ret := (some .int)) (lv0 := [some (.ref (xad ω 0)), some (.int (iI a)), some (.int (iI c)), some (.int (iI n))]) m_cd_X7_tied m_in_X7 (by decide +kernel) (by decide +kernel) rfl rfl rfl rfl ?_
  intro κ h he hR
  have hn := hI.1
  have ht := teN_I hI ha hc hn9
  have htn := ht.2.nq
  have e1 := ht.2.2.2 a 1 (by omega) (by omega) (by omega)
  have e2 := ht.2.2.2 c 1 (by omega) (by omega) (by omega)
  have ia := hI.2.2.2 a (by omega) (by omega)
  have ic := hI.2.2.2 c (by omega) (by omega)
  have hft : Fc (teN M a c n) := Fc_e1 ht.2.y (by rw [ht.2.1 0 (by decide)]) (ht.2.1 5 (by decide)) hf
  refine x_aload_n h dX7_tied_0 rfl ?_
  refine x_iload_n h dX7_tied_1 rfl ?_
  refine x_iload_n h dX7_tied_2 rfl ?_
  refine x_iload_n h dX7_tied_3 rfl ?_
  refine x_V3v h dX7_tied_4 m_ml_X7_167 m_im_X7_ties m_se_X7_ties (sM0 hm) rfl (by decide) rfl (c_X7_ties hm (by exact hI) (by first | omega | (simp only [ca_1]; omega)) (by first | omega | (simp only [ca_1]; omega)) (by first | omega | (simp only [ca_1]; omega))) ?_
  refine x_aload_n h dX7_tied_7 rfl ?_
  refine x_iload_n h dX7_tied_8 rfl ?_
  refine x_aload_n h dX7_tied_9 rfl ?_
  refine x_iload_n h dX7_tied_10 rfl ?_
  refine x_iconst h dX7_tied_11 ?_
  refine x_V2i h dX7_tied_12 m_ml_X7_133 m_im_X7_personIs m_se_X7_personIs (sM0 hm) rfl (by decide) rfl (c_X7_personIs hm (by omega) (by omega)) ?_
  rw [e1]
  refine x_aload_n h dX7_tied_15 rfl ?_
  refine x_iload_n h dX7_tied_16 rfl ?_
  refine x_iconst h dX7_tied_17 ?_
  refine x_V2i h dX7_tied_18 m_ml_X7_133 m_im_X7_personIs m_se_X7_personIs (sM0 hm) rfl (by decide) rfl (c_X7_personIs hm (by omega) (by omega)) ?_
  rw [e2]
  refine x_Q3i h dX7_tied_21 m_ml_X7_160 m_im_X7_lets m_se_X7_lets (sM0 hm) rfl (by decide) rfl (c_X7_lets hm ht.1 hft (by omega) (by omega) (by omega)) (fun r21 N21 h21 => ?_)
  obtain ⟨rfl, f21, d21, rfl, c21⟩ := h21
  try simp only [ca_ca, ca_1, dN_ca, wyM_ca, plN_ca, rpN_ca, ltN_ca, pmN_ca, wnN_ca, nbN_ca, ca_07, ca_08, ca_09, ca_010, beN_ca, ctN_ca, gonN_ca, mvN_ca, stN_ca, thN_ca, fnM_ca, tiN_ca, smN_ca, frN_ca, teN_ca] at c21 ⊢
  refine x_ifeqB h dX7_tied_24 (tgt := 31) (by decide) (fun q24 => ?_) (fun q24 => ?_)
  · refine x_iconst h dX7_tied_31 ?_
    exact x_iretq h he dX7_tied_32 ⟨by unfold tdR; first | exact (bI_t (by assumption)).symm | exact (bI_f (by assumption)).symm, (by first | exact CaE.of (by assumption) | exact CaE.rf (by assumption))⟩
  · refine x_iconst h dX7_tied_27 ?_
    refine x_goto h dX7_tied_28 (tgt := 32) (by decide) ?_
    exact x_iretq h he dX7_tied_32 ⟨by unfold tdR; first | exact (bI_t (by assumption)).symm | exact (bI_f (by assumption)).symm, (by first | exact CaE.of (by assumption) | exact CaE.rf (by assumption))⟩

theorem dX7_tie_0 : decode cX7_tie 0 = .ok (.aload_n 0, 1) := by decide +kernel
theorem dX7_tie_1 : decode cX7_tie 1 = .ok (.iload_n 1, 1) := by decide +kernel
theorem dX7_tie_2 : decode cX7_tie 2 = .ok (.iload_n 2, 1) := by decide +kernel
theorem dX7_tie_3 : decode cX7_tie 3 = .ok (.invokevirtual 171, 3) := by decide +kernel
theorem dX7_tie_6 : decode cX7_tie 6 = .ok (.ifCond .eq 24, 3) := by decide +kernel
theorem dX7_tie_9 : decode cX7_tie 9 = .ok (.iload_n 3, 1) := by decide +kernel
theorem dX7_tie_10 : decode cX7_tie 10 = .ok (.iconst 0, 1) := by decide +kernel
theorem dX7_tie_11 : decode cX7_tie 11 = .ok (.sipush 999, 3) := by decide +kernel
theorem dX7_tie_14 : decode cX7_tie 14 = .ok (.invokestatic 81, 3) := by decide +kernel
theorem dX7_tie_17 : decode cX7_tie 17 = .ok (.ifCond .eq 13, 3) := by decide +kernel
theorem dX7_tie_20 : decode cX7_tie 20 = .ok (.aload_n 0, 1) := by decide +kernel
theorem dX7_tie_21 : decode cX7_tie 21 = .ok (.iload_n 1, 1) := by decide +kernel
theorem dX7_tie_22 : decode cX7_tie 22 = .ok (.iload_n 2, 1) := by decide +kernel
theorem dX7_tie_23 : decode cX7_tie 23 = .ok (.iload_n 3, 1) := by decide +kernel
theorem dX7_tie_24 : decode cX7_tie 24 = .ok (.invokevirtual 174, 3) := by decide +kernel
theorem dX7_tie_27 : decode cX7_tie 27 = .ok (.goto 9, 3) := by decide +kernel
theorem dX7_tie_30 : decode cX7_tie 30 = .ok (.aload_n 0, 1) := by decide +kernel
theorem dX7_tie_31 : decode cX7_tie 31 = .ok (.ldc 76, 2) := by decide +kernel
theorem dX7_tie_33 : decode cX7_tie 33 = .ok (.invokevirtual 101, 3) := by decide +kernel
theorem dX7_tie_36 : decode cX7_tie 36 = .ok (.ireturn, 1) := by decide +kernel
set_option maxHeartbeats 800000 in
set_option maxRecDepth 100000 in
theorem c_X7_tie {l : Launch} {ω : xO} {ks : Nat → Option Nat} (hm : xsh ω = mdS ks) {a c n : Int} {M : xMem} (hI : MInv M) (hf : Fc M) (ha : inR a) (hc : inR c) (hn9 : inR n) : Cq l ω yX7_tie ({ frames := 6, cells := 0, slots := 0, locals := 131 } : Room) 4 3 [.ref (xad ω 0), .int (iI a), .int (iI c), .int (iI n)] M (pI1 (fun r N' => r = ntiR M a c n ∧ CaE (ntiM M a c n) N')) := by
  refine Cq.of (bytes := cX7_tie) (ret := (some .int)) (lv0 := [some (.ref (xad ω 0)), some (.int (iI a)), some (.int (iI c)), some (.int (iI n))]) m_cd_X7_tie m_in_X7 (by decide +kernel) (by decide +kernel) rfl rfl rfl rfl ?_
  intro κ h he hR
  have hn := hI.1
  refine x_aload_n h dX7_tie_0 rfl ?_
  refine x_iload_n h dX7_tie_1 rfl ?_
  refine x_iload_n h dX7_tie_2 rfl ?_
  refine x_V2i h dX7_tie_3 m_ml_X7_171 m_im_X7_areTwo m_se_X7_areTwo (sM0 hm) rfl (by decide) rfl (c_X7_areTwo hm (by exact hI) (by first | omega | (simp only [ca_1]; omega)) (by first | omega | (simp only [ca_1]; omega))) ?_
  refine x_ifeqB h dX7_tie_6 (tgt := 30) (by decide) (fun q6 => ?_) (fun q6 => ?_)
  · refine x_aload_n h dX7_tie_30 rfl ?_
    refine x_ldc h m_k_X7_76 dX7_tie_31 ?_
    refine x_V1i h dX7_tie_33 m_ml_X7_101 m_im_X7_finding m_se_X7_finding (sM0 hm) rfl (by decide) rfl (c_X7_finding hm (by omega)) ?_
    exact x_iretq h he dX7_tie_36 ⟨by unfold ntiR; first | rw [if_pos (by unfold tiGd; omega)] | rw [if_neg (by unfold tiGd; omega)], by unfold ntiM; first | (rw [if_pos (by unfold tiGd; omega)]; exact CaE.of (by assumption)) | (rw [if_neg (by unfold tiGd; omega)]; exact CaE.rf1 fnM_y rfl rfl hf)⟩
  · refine x_iload_n h dX7_tie_9 rfl ?_
    refine x_iconst h dX7_tie_10 ?_
    refine x_sipush h dX7_tie_11 (by decide) ?_
    refine x_S3i h dX7_tie_14 m_ml_X7_81 m_st_X7_within (by decide) rfl (c_X7_within hm (by omega) (by omega) (by omega)) ?_
    refine x_ifeqB h dX7_tie_17 (tgt := 30) (by decide) (fun q17 => ?_) (fun q17 => ?_)
    · refine x_aload_n h dX7_tie_30 rfl ?_
      refine x_ldc h m_k_X7_76 dX7_tie_31 ?_
      refine x_V1i h dX7_tie_33 m_ml_X7_101 m_im_X7_finding m_se_X7_finding (sM0 hm) rfl (by decide) rfl (c_X7_finding hm (by omega)) ?_
      exact x_iretq h he dX7_tie_36 ⟨by unfold ntiR; first | rw [if_pos (by unfold tiGd; omega)] | rw [if_neg (by unfold tiGd; omega)], by unfold ntiM; first | (rw [if_pos (by unfold tiGd; omega)]; exact CaE.of (by assumption)) | (rw [if_neg (by unfold tiGd; omega)]; exact CaE.rf1 fnM_y rfl rfl hf)⟩
    · refine x_aload_n h dX7_tie_20 rfl ?_
      refine x_iload_n h dX7_tie_21 rfl ?_
      refine x_iload_n h dX7_tie_22 rfl ?_
      refine x_iload_n h dX7_tie_23 rfl ?_
      refine x_Q3i h dX7_tie_24 m_ml_X7_174 m_im_X7_tied m_se_X7_tied (sM0 hm) rfl (by decide) rfl (c_X7_tied hm (by exact hI) (by assumption) (by first | omega | (simp only [ca_1]; omega)) (by first | omega | (simp only [ca_1]; omega)) (by first | omega | (simp only [ca_1]; omega))) (fun r24 N24 h24 => ?_)
      obtain ⟨rfl, f24, d24, rfl, c24⟩ := h24
      try simp only [ca_ca, ca_1, dN_ca, wyM_ca, plN_ca, rpN_ca, ltN_ca, pmN_ca, wnN_ca, nbN_ca, ca_07, ca_08, ca_09, ca_010, beN_ca, ctN_ca, gonN_ca, mvN_ca, stN_ca, thN_ca, fnM_ca, tiN_ca, smN_ca, frN_ca, teN_ca] at c24 ⊢
      refine x_goto h dX7_tie_27 (tgt := 36) (by decide) ?_
      exact x_iretq h he dX7_tie_36 ⟨by unfold ntiR; first | rw [if_pos (by unfold tiGd; omega)] | rw [if_neg (by unfold tiGd; omega)], by unfold ntiM; first | (rw [if_pos (by unfold tiGd; omega)]; exact CaE.of (by assumption)) | (rw [if_neg (by unfold tiGd; omega)]; exact CaE.rf1 fnM_y rfl rfl hf)⟩

theorem dX7_cut_0 : decode cX7_cut 0 = .ok (.aload_n 0, 1) := by decide +kernel
theorem dX7_cut_1 : decode cX7_cut 1 = .ok (.iload_n 1, 1) := by decide +kernel
theorem dX7_cut_2 : decode cX7_cut 2 = .ok (.invokevirtual 148, 3) := by decide +kernel
theorem dX7_cut_5 : decode cX7_cut 5 = .ok (.ifCond .ne 10, 3) := by decide +kernel
theorem dX7_cut_8 : decode cX7_cut 8 = .ok (.aload_n 0, 1) := by decide +kernel
theorem dX7_cut_9 : decode cX7_cut 9 = .ok (.ldc 76, 2) := by decide +kernel
theorem dX7_cut_11 : decode cX7_cut 11 = .ok (.invokevirtual 101, 3) := by decide +kernel
theorem dX7_cut_14 : decode cX7_cut 14 = .ok (.ireturn, 1) := by decide +kernel
theorem dX7_cut_15 : decode cX7_cut 15 = .ok (.aload_n 0, 1) := by decide +kernel
theorem dX7_cut_16 : decode cX7_cut 16 = .ok (.iload_n 1, 1) := by decide +kernel
theorem dX7_cut_17 : decode cX7_cut 17 = .ok (.invokevirtual 142, 3) := by decide +kernel
theorem dX7_cut_20 : decode cX7_cut 20 = .ok (.ifCond .eq 11, 3) := by decide +kernel
theorem dX7_cut_23 : decode cX7_cut 23 = .ok (.aload_n 0, 1) := by decide +kernel
theorem dX7_cut_24 : decode cX7_cut 24 = .ok (.iload_n 1, 1) := by decide +kernel
theorem dX7_cut_25 : decode cX7_cut 25 = .ok (.invokevirtual 164, 3) := by decide +kernel
theorem dX7_cut_28 : decode cX7_cut 28 = .ok (.goto 9, 3) := by decide +kernel
theorem dX7_cut_31 : decode cX7_cut 31 = .ok (.aload_n 0, 1) := by decide +kernel
theorem dX7_cut_32 : decode cX7_cut 32 = .ok (.ldc 177, 2) := by decide +kernel
theorem dX7_cut_34 : decode cX7_cut 34 = .ok (.invokevirtual 101, 3) := by decide +kernel
theorem dX7_cut_37 : decode cX7_cut 37 = .ok (.ireturn, 1) := by decide +kernel
set_option maxHeartbeats 800000 in
set_option maxRecDepth 100000 in
theorem c_X7_cut {l : Launch} {ω : xO} {ks : Nat → Option Nat} (hm : xsh ω = mdS ks) {p : Int} {M : xMem} (hI : MInv M) (hp : inR p) : Ct l ω yX7_cut ({ frames := 3, cells := 0, slots := 0, locals := 65 } : Room) 2 1 [.ref (xad ω 0), .int (iI p)] M (some (.int (iI (ncuR M p)))) (ncuM M p) := by
  refine Ct.of (bytes := cX7_cut) (ret := (some .int)) (lv0 := [some (.ref (xad ω 0)), some (.int (iI p))]) m_cd_X7_cut m_in_X7 (by decide +kernel) (by decide +kernel) rfl rfl rfl rfl (fun hR => by unfold ncuM; (repeat' split) <;> first | exact hR | exact fnM_R hR | exact frN_R hR) ?_
  intro κ h he hR
  have hn := hI.1
  refine x_aload_n h dX7_cut_0 rfl ?_
  refine x_iload_n h dX7_cut_1 rfl ?_
  refine x_V1i h dX7_cut_2 m_ml_X7_148 m_im_X7_isPerson m_se_X7_isPerson (sM0 hm) rfl (by decide) rfl (c_X7_isPerson hm (by omega) (by omega)) ?_
  refine x_ifneB h dX7_cut_5 (tgt := 15) (by decide) (fun q5 => ?_) (fun q5 => ?_)
  · refine x_aload_n h dX7_cut_15 rfl ?_
    refine x_iload_n h dX7_cut_16 rfl ?_
    refine x_V1i h dX7_cut_17 m_ml_X7_142 m_im_X7_hasMate m_se_X7_hasMate (sM0 hm) rfl (by decide) rfl (c_X7_hasMate hm (by exact hI) (by first | omega | (simp only [ca_1]; omega))) ?_
    refine x_ifeqB h dX7_cut_20 (tgt := 31) (by decide) (fun q20 => ?_) (fun q20 => ?_)
    · refine x_aload_n h dX7_cut_31 rfl ?_
      refine x_ldc h m_k_X7_177 dX7_cut_32 ?_
      refine x_V1i h dX7_cut_34 m_ml_X7_101 m_im_X7_finding m_se_X7_finding (sM0 hm) rfl (by decide) rfl (c_X7_finding hm (by omega)) ?_
      exact x_iret (ret := none) h he dX7_cut_37 rfl (by unfold ncuR; (repeat' split) <;> first | rfl | omega) (by unfold ncuM; (repeat' split) <;> first | rfl | (exfalso; omega))
    · refine x_aload_n h dX7_cut_23 rfl ?_
      refine x_iload_n h dX7_cut_24 rfl ?_
      refine x_V1i h dX7_cut_25 m_ml_X7_164 m_im_X7_freesOf m_se_X7_freesOf (sM0 hm) rfl (by decide) rfl (c_X7_freesOf hm (by exact hI) (by first | omega | (simp only [ca_1]; omega))) ?_
      refine x_goto h dX7_cut_28 (tgt := 37) (by decide) ?_
      exact x_iret (ret := none) h he dX7_cut_37 rfl (by unfold ncuR; (repeat' split) <;> first | rfl | omega) (by unfold ncuM; (repeat' split) <;> first | rfl | (exfalso; omega))
  · refine x_aload_n h dX7_cut_8 rfl ?_
    refine x_ldc h m_k_X7_76 dX7_cut_9 ?_
    refine x_V1i h dX7_cut_11 m_ml_X7_101 m_im_X7_finding m_se_X7_finding (sM0 hm) rfl (by decide) rfl (c_X7_finding hm (by omega)) ?_
    exact x_iret (ret := none) h he dX7_cut_14 rfl (by unfold ncuR; (repeat' split) <;> first | rfl | omega) (by unfold ncuM; (repeat' split) <;> first | rfl | (exfalso; omega))

theorem dX7_rope_0 : decode cX7_rope 0 = .ok (.aload_n 0, 1) := by decide +kernel
theorem dX7_rope_1 : decode cX7_rope 1 = .ok (.iload_n 1, 1) := by decide +kernel
theorem dX7_rope_2 : decode cX7_rope 2 = .ok (.invokevirtual 148, 3) := by decide +kernel
theorem dX7_rope_5 : decode cX7_rope 5 = .ok (.ifCond .ne 10, 3) := by decide +kernel
theorem dX7_rope_8 : decode cX7_rope 8 = .ok (.aload_n 0, 1) := by decide +kernel
theorem dX7_rope_9 : decode cX7_rope 9 = .ok (.ldc 76, 2) := by decide +kernel
theorem dX7_rope_11 : decode cX7_rope 11 = .ok (.invokevirtual 101, 3) := by decide +kernel
theorem dX7_rope_14 : decode cX7_rope 14 = .ok (.ireturn, 1) := by decide +kernel
theorem dX7_rope_15 : decode cX7_rope 15 = .ok (.aload_n 0, 1) := by decide +kernel
theorem dX7_rope_16 : decode cX7_rope 16 = .ok (.iload_n 1, 1) := by decide +kernel
theorem dX7_rope_17 : decode cX7_rope 17 = .ok (.invokevirtual 142, 3) := by decide +kernel
theorem dX7_rope_20 : decode cX7_rope 20 = .ok (.ifCond .eq 12, 3) := by decide +kernel
theorem dX7_rope_23 : decode cX7_rope 23 = .ok (.aload_n 0, 1) := by decide +kernel
theorem dX7_rope_24 : decode cX7_rope 24 = .ok (.iload_n 1, 1) := by decide +kernel
theorem dX7_rope_25 : decode cX7_rope 25 = .ok (.iconst 5, 1) := by decide +kernel
theorem dX7_rope_26 : decode cX7_rope 26 = .ok (.invokevirtual 133, 3) := by decide +kernel
theorem dX7_rope_29 : decode cX7_rope 29 = .ok (.goto 9, 3) := by decide +kernel
theorem dX7_rope_32 : decode cX7_rope 32 = .ok (.aload_n 0, 1) := by decide +kernel
theorem dX7_rope_33 : decode cX7_rope 33 = .ok (.ldc 177, 2) := by decide +kernel
theorem dX7_rope_35 : decode cX7_rope 35 = .ok (.invokevirtual 101, 3) := by decide +kernel
theorem dX7_rope_38 : decode cX7_rope 38 = .ok (.ireturn, 1) := by decide +kernel
set_option maxHeartbeats 800000 in
set_option maxRecDepth 100000 in
theorem c_X7_rope {l : Launch} {ω : xO} {ks : Nat → Option Nat} (hm : xsh ω = mdS ks) {p : Int} {M : xMem} (hI : MInv M) (hp : inR p) : Ct l ω yX7_rope ({ frames := 3, cells := 0, slots := 0, locals := 64 } : Room) 2 1 [.ref (xad ω 0), .int (iI p)] M (some (.int (iI (nroR M p)))) (nroM M p) := by
  refine Ct.of (bytes := cX7_rope) (ret := (some .int)) (lv0 := [some (.ref (xad ω 0)), some (.int (iI p))]) m_cd_X7_rope m_in_X7 (by decide +kernel) (by decide +kernel) rfl rfl rfl rfl (fun hR => by unfold nroM; (repeat' split) <;> first | exact hR | exact fnM_R hR | exact frN_R hR) ?_
  intro κ h he hR
  have hn := hI.1
  refine x_aload_n h dX7_rope_0 rfl ?_
  refine x_iload_n h dX7_rope_1 rfl ?_
  refine x_V1i h dX7_rope_2 m_ml_X7_148 m_im_X7_isPerson m_se_X7_isPerson (sM0 hm) rfl (by decide) rfl (c_X7_isPerson hm (by omega) (by omega)) ?_
  refine x_ifneB h dX7_rope_5 (tgt := 15) (by decide) (fun q5 => ?_) (fun q5 => ?_)
  · refine x_aload_n h dX7_rope_15 rfl ?_
    refine x_iload_n h dX7_rope_16 rfl ?_
    refine x_V1i h dX7_rope_17 m_ml_X7_142 m_im_X7_hasMate m_se_X7_hasMate (sM0 hm) rfl (by decide) rfl (c_X7_hasMate hm (by exact hI) (by first | omega | (simp only [ca_1]; omega))) ?_
    refine x_ifeqB h dX7_rope_20 (tgt := 32) (by decide) (fun q20 => ?_) (fun q20 => ?_)
    · refine x_aload_n h dX7_rope_32 rfl ?_
      refine x_ldc h m_k_X7_177 dX7_rope_33 ?_
      refine x_V1i h dX7_rope_35 m_ml_X7_101 m_im_X7_finding m_se_X7_finding (sM0 hm) rfl (by decide) rfl (c_X7_finding hm (by omega)) ?_
      exact x_iret (ret := none) h he dX7_rope_38 rfl (by unfold nroR; (repeat' split) <;> first | rfl | omega) (by unfold nroM; (repeat' split) <;> first | rfl | (exfalso; omega))
    · refine x_aload_n h dX7_rope_23 rfl ?_
      refine x_iload_n h dX7_rope_24 rfl ?_
      refine x_iconst h dX7_rope_25 ?_
      refine x_V2i h dX7_rope_26 m_ml_X7_133 m_im_X7_personIs m_se_X7_personIs (sM0 hm) rfl (by decide) rfl (c_X7_personIs hm (by omega) (by omega)) ?_
      refine x_goto h dX7_rope_29 (tgt := 38) (by decide) ?_
      exact x_iret (ret := none) h he dX7_rope_38 rfl (by unfold nroR; (repeat' split) <;> first | rfl | omega) (by unfold nroM; (repeat' split) <;> first | rfl | (exfalso; omega))
  · refine x_aload_n h dX7_rope_8 rfl ?_
    refine x_ldc h m_k_X7_76 dX7_rope_9 ?_
    refine x_V1i h dX7_rope_11 m_ml_X7_101 m_im_X7_finding m_se_X7_finding (sM0 hm) rfl (by decide) rfl (c_X7_finding hm (by omega)) ?_
    exact x_iret (ret := none) h he dX7_rope_14 rfl (by unfold nroR; (repeat' split) <;> first | rfl | omega) (by unfold nroM; (repeat' split) <;> first | rfl | (exfalso; omega))
