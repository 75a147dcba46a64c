/-! the class: THE READER: ITEMS, the FAULT -/
noncomputable def rtM (M : xMem) (r : RdS) : xMem := rsM M r.1 r.2.1 r.2.2.1 r.2.2.2
section RT
variable {b : Int → Int} {n : Int} {r : RdS}
theorem tjN_b (h : tiB b r) : tjN b r = r := by unfold tjN; rw [tI_p h]
theorem tjN_k (h : ¬ tiB b r) (hk : knd (heF b r.1)) : tjN b r = (tpQ b (tkE b r.1), tI (tpP b (tkE b r.1)) (r.2.1 + 1) r.2.1, tI (tpP b (tkE b r.1)) (r.2.2.1 + 1) r.2.2.1, tpA b r.2.1 (tkE b r.1) (ti0 b r)) ∧ (tiP b r ↔ tpP b (tkE b r.1)) := by
  have e : tiG b r ↔ tpP b (tkE b r.1) := ⟨fun z => z.elim (fun y => y.2) (fun y => absurd hk y.1), fun z => Or.inl ⟨hk, z⟩⟩
  refine ⟨?_, ⟨fun z => e.mp z.2, fun z => ⟨h, e.mpr z⟩⟩⟩
  unfold tjN
  rw [tI_n h, tI_p hk, tI_p hk]
  by_cases g : tpP b (tkE b r.1)
  · rw [tI_p (e.mpr g), tI_p ⟨hk, g⟩, tI_p g, tI_p g]
  · rw [tI_n (fun z => g (e.mp z)), tI_n (fun z => g z.2), tI_n g, tI_n g]
theorem tjN_t (h : ¬ tiB b r) (hk : ¬ knd (heF b r.1)) : tjN b r = (ttQ b r.2.1 (tkE b r.1) (m2F (heF b r.1) r.2.2.1) (m3F (heF b r.1)) (ti0 b r), tI (ttP b r.2.1 (tkE b r.1) (m2F (heF b r.1) r.2.2.1) (m3F (heF b r.1)) (ti0 b r)) (r.2.1 + 1) r.2.1, r.2.2.1, ttA b r.2.1 (tkE b r.1) (m2F (heF b r.1) r.2.2.1) (m3F (heF b r.1)) (ti0 b r)) ∧ (tiP b r ↔ ttP b r.2.1 (tkE b r.1) (m2F (heF b r.1) r.2.2.1) (m3F (heF b r.1)) (ti0 b r)) := by
  have e : tiG b r ↔ ttP b r.2.1 (tkE b r.1) (m2F (heF b r.1) r.2.2.1) (m3F (heF b r.1)) (ti0 b r) := ⟨fun z => z.elim (fun y => absurd y.1 hk) (fun y => y.2), fun z => Or.inr ⟨hk, z⟩⟩
  refine ⟨?_, ⟨fun z => e.mp z.2, fun z => ⟨h, e.mpr z⟩⟩⟩
  unfold tjN
  rw [tI_n h, tI_n hk, tI_n hk, tI_n (show ¬ (knd (heF b r.1) ∧ tpP b (tkE b r.1)) from fun z => hk z.1)]
  by_cases g : ttP b r.2.1 (tkE b r.1) (m2F (heF b r.1) r.2.2.1) (m3F (heF b r.1)) (ti0 b r)
  · rw [tI_p (e.mpr g), tI_p g]
  · rw [tI_n (fun z => g (e.mp z)), tI_n g]
theorem ti0_R (h : ∀ k, inR (r.2.2.2 k)) : ∀ k, inR (ti0 b r k) := by
  have := heF_R b r.1
  exact ur_R h (by omega)
def RdR (n : Int) (r : RdS) : Prop := (0 ≤ r.1 ∧ r.1 ≤ n) ∧ (0 ≤ r.2.1 ∧ r.2.1 ≤ 120) ∧ (0 ≤ r.2.2.1 ∧ r.2.2.1 ≤ 8) ∧ ∀ k, inR (r.2.2.2 k)
theorem tjN_R (hb : BtO b n) (h : RdR n r) (hi : r.2.1 < 120) : RdR n (tjN b r) ∧ (tiP b r → (tjN b r).2.1 = r.2.1 + 1) := by
  obtain ⟨h1, h2, h3, h4⟩ := h
  have hE := tkE_R hb h1
  by_cases hB : tiB b r
  · rw [tjN_b hB]
    exact ⟨⟨h1, h2, h3, h4⟩, fun z => absurd hB z.1⟩
  · by_cases hk : knd (heF b r.1)
    · obtain ⟨e1, e2⟩ := tjN_k hB hk
      have h8 : r.2.2.1 < 8 := by
        by_cases g : r.2.2.1 < 8
        · exact g
        · exact absurd (Or.inr ⟨hk, by omega⟩) hB
      rw [e1]
      refine ⟨⟨tpQ_R hb hE, ?_, ?_, tpA_R hb hE (ti0_R h4)⟩, fun z => ?_⟩
      · show 0 ≤ tI _ (r.2.1 + 1) r.2.1 ∧ tI _ (r.2.1 + 1) r.2.1 ≤ 120
        unfold tI; split <;> omega
      · show 0 ≤ tI _ (r.2.2.1 + 1) r.2.2.1 ∧ tI _ (r.2.2.1 + 1) r.2.2.1 ≤ 8
        unfold tI; split <;> omega
      · show tI _ (r.2.1 + 1) r.2.1 = r.2.1 + 1
        rw [tI_p (e2.mp z)]
    · obtain ⟨e1, e2⟩ := tjN_t hB hk
      rw [e1]
      refine ⟨⟨ttQ_R hb hE, ?_, h3, ttA_R hb hE (ti0_R h4)⟩, fun z => ?_⟩
      · show 0 ≤ tI _ (r.2.1 + 1) r.2.1 ∧ tI _ (r.2.1 + 1) r.2.1 ≤ 120
        unfold tI; split <;> omega
      · show tI _ (r.2.1 + 1) r.2.1 = r.2.1 + 1
        rw [tI_p (e2.mp z)]
end RT
theorem dX2_headOf_0 : decode cX2_headOf 0 = .ok (.aload_n 0, 1) := by decide +kernel
theorem dX2_headOf_1 : decode cX2_headOf 1 = .ok (.ldc 63, 2) := by decide +kernel
theorem dX2_headOf_3 : decode cX2_headOf 3 = .ok (.invokevirtual 65, 3) := by decide +kernel
theorem dX2_headOf_6 : decode cX2_headOf 6 = .ok (.ifCond .eq 5, 3) := by decide +kernel
theorem dX2_headOf_9 : decode cX2_headOf 9 = .ok (.iconst 0, 1) := by decide +kernel
theorem dX2_headOf_10 : decode cX2_headOf 10 = .ok (.ireturn, 1) := by decide +kernel
theorem dX2_headOf_11 : decode cX2_headOf 11 = .ok (.aload_n 0, 1) := by decide +kernel
theorem dX2_headOf_12 : decode cX2_headOf 12 = .ok (.ldc 69, 2) := by decide +kernel
theorem dX2_headOf_14 : decode cX2_headOf 14 = .ok (.invokevirtual 65, 3) := by decide +kernel
theorem dX2_headOf_17 : decode cX2_headOf 17 = .ok (.ifCond .eq 5, 3) := by decide +kernel
theorem dX2_headOf_20 : decode cX2_headOf 20 = .ok (.iconst 1, 1) := by decide +kernel
theorem dX2_headOf_21 : decode cX2_headOf 21 = .ok (.ireturn, 1) := by decide +kernel
theorem dX2_headOf_22 : decode cX2_headOf 22 = .ok (.aload_n 0, 1) := by decide +kernel
theorem dX2_headOf_23 : decode cX2_headOf 23 = .ok (.ldc 71, 2) := by decide +kernel
theorem dX2_headOf_25 : decode cX2_headOf 25 = .ok (.invokevirtual 65, 3) := by decide +kernel
theorem dX2_headOf_28 : decode cX2_headOf 28 = .ok (.ifCond .eq 5, 3) := by decide +kernel
theorem dX2_headOf_31 : decode cX2_headOf 31 = .ok (.iconst 2, 1) := by decide +kernel
theorem dX2_headOf_32 : decode cX2_headOf 32 = .ok (.ireturn, 1) := by decide +kernel
theorem dX2_headOf_33 : decode cX2_headOf 33 = .ok (.aload_n 0, 1) := by decide +kernel
theorem dX2_headOf_34 : decode cX2_headOf 34 = .ok (.ldc 73, 2) := by decide +kernel
theorem dX2_headOf_36 : decode cX2_headOf 36 = .ok (.invokevirtual 65, 3) := by decide +kernel
theorem dX2_headOf_39 : decode cX2_headOf 39 = .ok (.ifCond .eq 5, 3) := by decide +kernel
theorem dX2_headOf_42 : decode cX2_headOf 42 = .ok (.iconst 5, 1) := by decide +kernel
theorem dX2_headOf_43 : decode cX2_headOf 43 = .ok (.ireturn, 1) := by decide +kernel
theorem dX2_headOf_44 : decode cX2_headOf 44 = .ok (.aload_n 0, 1) := by decide +kernel
theorem dX2_headOf_45 : decode cX2_headOf 45 = .ok (.ldc 75, 2) := by decide +kernel
theorem dX2_headOf_47 : decode cX2_headOf 47 = .ok (.invokevirtual 65, 3) := by decide +kernel
theorem dX2_headOf_50 : decode cX2_headOf 50 = .ok (.ifCond .eq 5, 3) := by decide +kernel
theorem dX2_headOf_53 : decode cX2_headOf 53 = .ok (.iconst 3, 1) := by decide +kernel
theorem dX2_headOf_54 : decode cX2_headOf 54 = .ok (.ireturn, 1) := by decide +kernel
theorem dX2_headOf_55 : decode cX2_headOf 55 = .ok (.aload_n 0, 1) := by decide +kernel
theorem dX2_headOf_56 : decode cX2_headOf 56 = .ok (.ldc 77, 2) := by decide +kernel
theorem dX2_headOf_58 : decode cX2_headOf 58 = .ok (.invokevirtual 65, 3) := by decide +kernel
theorem dX2_headOf_61 : decode cX2_headOf 61 = .ok (.ifCond .eq 5, 3) := by decide +kernel
theorem dX2_headOf_64 : decode cX2_headOf 64 = .ok (.iconst 4, 1) := by decide +kernel
theorem dX2_headOf_65 : decode cX2_headOf 65 = .ok (.ireturn, 1) := by decide +kernel
theorem dX2_headOf_66 : decode cX2_headOf 66 = .ok (.aload_n 0, 1) := by decide +kernel
theorem dX2_headOf_67 : decode cX2_headOf 67 = .ok (.ldc 79, 2) := by decide +kernel
theorem dX2_headOf_69 : decode cX2_headOf 69 = .ok (.invokevirtual 65, 3) := by decide +kernel
theorem dX2_headOf_72 : decode cX2_headOf 72 = .ok (.ifCond .eq 6, 3) := by decide +kernel
theorem dX2_headOf_75 : decode cX2_headOf 75 = .ok (.bipush 6, 2) := by decide +kernel
theorem dX2_headOf_77 : decode cX2_headOf 77 = .ok (.ireturn, 1) := by decide +kernel
theorem dX2_headOf_78 : decode cX2_headOf 78 = .ok (.aload_n 0, 1) := by decide +kernel
theorem dX2_headOf_79 : decode cX2_headOf 79 = .ok (.ldc 81, 2) := by decide +kernel
theorem dX2_headOf_81 : decode cX2_headOf 81 = .ok (.invokevirtual 65, 3) := by decide +kernel
theorem dX2_headOf_84 : decode cX2_headOf 84 = .ok (.ifCond .eq 6, 3) := by decide +kernel
theorem dX2_headOf_87 : decode cX2_headOf 87 = .ok (.bipush 7, 2) := by decide +kernel
theorem dX2_headOf_89 : decode cX2_headOf 89 = .ok (.ireturn, 1) := by decide +kernel
theorem dX2_headOf_90 : decode cX2_headOf 90 = .ok (.aload_n 0, 1) := by decide +kernel
theorem dX2_headOf_91 : decode cX2_headOf 91 = .ok (.ldc 83, 2) := by decide +kernel
theorem dX2_headOf_93 : decode cX2_headOf 93 = .ok (.invokevirtual 65, 3) := by decide +kernel
theorem dX2_headOf_96 : decode cX2_headOf 96 = .ok (.ifCond .eq 6, 3) := by decide +kernel
theorem dX2_headOf_99 : decode cX2_headOf 99 = .ok (.bipush 8, 2) := by decide +kernel
theorem dX2_headOf_101 : decode cX2_headOf 101 = .ok (.ireturn, 1) := by decide +kernel
theorem dX2_headOf_102 : decode cX2_headOf 102 = .ok (.iconst (-1), 1) := by decide +kernel
theorem dX2_headOf_103 : decode cX2_headOf 103 = .ok (.ireturn, 1) := by decide +kernel
set_option maxHeartbeats 800000 in
set_option maxRecDepth 100000 in
theorem c_X2_headOf {l : Launch} {ω : xO} (hc : xsh ω = clS) {ki vi : Nat → Nat} {q it pe : Int} {pa : Int → Int} {M : xMem} (hφ : xph ω = xStr ki vi (xA ω)) (hb : BtO (btC M) (M 47 1)) (hq : 0 ≤ q ∧ q ≤ M 47 1)  : Ct l ω yX2_headOf ({ frames := 5, cells := 0, slots := 0, locals := 107 } : Room) 1 0 [.ref (xad ω 49)] (rsM M q it pe pa) (some (.int (iI (heF (btC M) q)))) (rsM M q it pe pa) := by
  refine Ct.of (bytes := cX2_headOf) (ret := (some .int)) (lv0 := [some (.ref (xad ω 49))]) m_cd_X2_headOf m_in_X2 (by decide +kernel) (by decide +kernel) rfl rfl rfl rfl (fun hR => hR) ?_
  intro κ h he hR
  refine x_aload_n h dX2_headOf_0 rfl ?_
  refine x_ldcS h hφ 0 (by decide) rfl dX2_headOf_1 ?_
  refine x_V1i h dX2_headOf_3 m_ml_X2_65 m_im_X2_isWord m_se_X2_isWord (sC49 hc) rfl (by decide) rfl (c_X2_isWord hc hφ hb hq (i := 0) (by decide)) ?_
  refine x_ifeqB h dX2_headOf_6 (tgt := 11) (by decide) (fun q6 => ?_) (fun q6 => ?_)
  · refine x_aload_n h dX2_headOf_11 rfl ?_
    refine x_ldcS h hφ 1 (by decide) rfl dX2_headOf_12 ?_
    refine x_V1i h dX2_headOf_14 m_ml_X2_65 m_im_X2_isWord m_se_X2_isWord (sC49 hc) rfl (by decide) rfl (c_X2_isWord hc hφ hb hq (i := 1) (by decide)) ?_
    refine x_ifeqB h dX2_headOf_17 (tgt := 22) (by decide) (fun q17 => ?_) (fun q17 => ?_)
    · refine x_aload_n h dX2_headOf_22 rfl ?_
      refine x_ldcS h hφ 2 (by decide) rfl dX2_headOf_23 ?_
      refine x_V1i h dX2_headOf_25 m_ml_X2_65 m_im_X2_isWord m_se_X2_isWord (sC49 hc) rfl (by decide) rfl (c_X2_isWord hc hφ hb hq (i := 2) (by decide)) ?_
      refine x_ifeqB h dX2_headOf_28 (tgt := 33) (by decide) (fun q28 => ?_) (fun q28 => ?_)
      · refine x_aload_n h dX2_headOf_33 rfl ?_
        refine x_ldcS h hφ 3 (by decide) rfl dX2_headOf_34 ?_
        refine x_V1i h dX2_headOf_36 m_ml_X2_65 m_im_X2_isWord m_se_X2_isWord (sC49 hc) rfl (by decide) rfl (c_X2_isWord hc hφ hb hq (i := 3) (by decide)) ?_
        refine x_ifeqB h dX2_headOf_39 (tgt := 44) (by decide) (fun q39 => ?_) (fun q39 => ?_)
        · refine x_aload_n h dX2_headOf_44 rfl ?_
          refine x_ldcS h hφ 4 (by decide) rfl dX2_headOf_45 ?_
          refine x_V1i h dX2_headOf_47 m_ml_X2_65 m_im_X2_isWord m_se_X2_isWord (sC49 hc) rfl (by decide) rfl (c_X2_isWord hc hφ hb hq (i := 4) (by decide)) ?_
          refine x_ifeqB h dX2_headOf_50 (tgt := 55) (by decide) (fun q50 => ?_) (fun q50 => ?_)
          · refine x_aload_n h dX2_headOf_55 rfl ?_
            refine x_ldcS h hφ 5 (by decide) rfl dX2_headOf_56 ?_
            refine x_V1i h dX2_headOf_58 m_ml_X2_65 m_im_X2_isWord m_se_X2_isWord (sC49 hc) rfl (by decide) rfl (c_X2_isWord hc hφ hb hq (i := 5) (by decide)) ?_
            refine x_ifeqB h dX2_headOf_61 (tgt := 66) (by decide) (fun q61 => ?_) (fun q61 => ?_)
            · refine x_aload_n h dX2_headOf_66 rfl ?_
              refine x_ldcS h hφ 6 (by decide) rfl dX2_headOf_67 ?_
              refine x_V1i h dX2_headOf_69 m_ml_X2_65 m_im_X2_isWord m_se_X2_isWord (sC49 hc) rfl (by decide) rfl (c_X2_isWord hc hφ hb hq (i := 6) (by decide)) ?_
              refine x_ifeqB h dX2_headOf_72 (tgt := 78) (by decide) (fun q72 => ?_) (fun q72 => ?_)
              · refine x_aload_n h dX2_headOf_78 rfl ?_
                refine x_ldcS h hφ 7 (by decide) rfl dX2_headOf_79 ?_
                refine x_V1i h dX2_headOf_81 m_ml_X2_65 m_im_X2_isWord m_se_X2_isWord (sC49 hc) rfl (by decide) rfl (c_X2_isWord hc hφ hb hq (i := 7) (by decide)) ?_
                refine x_ifeqB h dX2_headOf_84 (tgt := 90) (by decide) (fun q84 => ?_) (fun q84 => ?_)
                · refine x_aload_n h dX2_headOf_90 rfl ?_
                  refine x_ldcS h hφ 8 (by decide) rfl dX2_headOf_91 ?_
                  refine x_V1i h dX2_headOf_93 m_ml_X2_65 m_im_X2_isWord m_se_X2_isWord (sC49 hc) rfl (by decide) rfl (c_X2_isWord hc hφ hb hq (i := 8) (by decide)) ?_
                  refine x_ifeqB h dX2_headOf_96 (tgt := 102) (by decide) (fun q96 => ?_) (fun q96 => ?_)
                  · refine x_iconst h dX2_headOf_102 ?_
                    exact x_iret (ret := none) h he dX2_headOf_103 rfl (by unfold heF; rw [tI_n q6, tI_n q17, tI_n q28, tI_n q39, tI_n q50, tI_n q61, tI_n q72, tI_n q84, tI_n q96]) rfl
                  · refine x_bipush h dX2_headOf_99 (by decide) ?_
                    exact x_iret (ret := none) h he dX2_headOf_101 rfl (by unfold heF; rw [tI_n q6, tI_n q17, tI_n q28, tI_n q39, tI_n q50, tI_n q61, tI_n q72, tI_n q84, tI_p q96]) rfl
                · refine x_bipush h dX2_headOf_87 (by decide) ?_
                  exact x_iret (ret := none) h he dX2_headOf_89 rfl (by unfold heF; rw [tI_n q6, tI_n q17, tI_n q28, tI_n q39, tI_n q50, tI_n q61, tI_n q72, tI_p q84]) rfl
              · refine x_bipush h dX2_headOf_75 (by decide) ?_
                exact x_iret (ret := none) h he dX2_headOf_77 rfl (by unfold heF; rw [tI_n q6, tI_n q17, tI_n q28, tI_n q39, tI_n q50, tI_n q61, tI_p q72]) rfl
            · refine x_iconst h dX2_headOf_64 ?_
              exact x_iret (ret := none) h he dX2_headOf_65 rfl (by unfold heF; rw [tI_n q6, tI_n q17, tI_n q28, tI_n q39, tI_n q50, tI_p q61]) rfl
          · refine x_iconst h dX2_headOf_53 ?_
            exact x_iret (ret := none) h he dX2_headOf_54 rfl (by unfold heF; rw [tI_n q6, tI_n q17, tI_n q28, tI_n q39, tI_p q50]) rfl
        · refine x_iconst h dX2_headOf_42 ?_
          exact x_iret (ret := none) h he dX2_headOf_43 rfl (by unfold heF; rw [tI_n q6, tI_n q17, tI_n q28, tI_p q39]) rfl
      · refine x_iconst h dX2_headOf_31 ?_
        exact x_iret (ret := none) h he dX2_headOf_32 rfl (by unfold heF; rw [tI_n q6, tI_n q17, tI_p q28]) rfl
    · refine x_iconst h dX2_headOf_20 ?_
      exact x_iret (ret := none) h he dX2_headOf_21 rfl (by unfold heF; rw [tI_n q6, tI_p q17]) rfl
  · refine x_iconst h dX2_headOf_9 ?_
    exact x_iret (ret := none) h he dX2_headOf_10 rfl (by unfold heF; rw [tI_p q6]) rfl

theorem dX2_takeItem_0 : decode cX2_takeItem 0 = .ok (.aload_n 0, 1) := by decide +kernel
theorem dX2_takeItem_1 : decode cX2_takeItem 1 = .ok (.invokevirtual 45, 3) := by decide +kernel
theorem dX2_takeItem_4 : decode cX2_takeItem 4 = .ok (.istore_n 1, 1) := by decide +kernel
theorem dX2_takeItem_5 : decode cX2_takeItem 5 = .ok (.iload_n 1, 1) := by decide +kernel
theorem dX2_takeItem_6 : decode cX2_takeItem 6 = .ok (.iconst (-1), 1) := by decide +kernel
theorem dX2_takeItem_7 : decode cX2_takeItem 7 = .ok (.if_icmp .eq 19, 3) := by decide +kernel
theorem dX2_takeItem_10 : decode cX2_takeItem 10 = .ok (.iload_n 1, 1) := by decide +kernel
theorem dX2_takeItem_11 : decode cX2_takeItem 11 = .ok (.invokestatic 49, 3) := by decide +kernel
theorem dX2_takeItem_14 : decode cX2_takeItem 14 = .ok (.ifCond .eq 14, 3) := by decide +kernel
theorem dX2_takeItem_17 : decode cX2_takeItem 17 = .ok (.aload_n 0, 1) := by decide +kernel
theorem dX2_takeItem_18 : decode cX2_takeItem 18 = .ok (.getfield 31, 3) := by decide +kernel
theorem dX2_takeItem_21 : decode cX2_takeItem 21 = .ok (.bipush 8, 2) := by decide +kernel
theorem dX2_takeItem_23 : decode cX2_takeItem 23 = .ok (.if_icmp .lt 5, 3) := by decide +kernel
theorem dX2_takeItem_26 : decode cX2_takeItem 26 = .ok (.iconst 0, 1) := by decide +kernel
theorem dX2_takeItem_27 : decode cX2_takeItem 27 = .ok (.ireturn, 1) := by decide +kernel
theorem dX2_takeItem_28 : decode cX2_takeItem 28 = .ok (.aload_n 0, 1) := by decide +kernel
theorem dX2_takeItem_29 : decode cX2_takeItem 29 = .ok (.iconst 0, 1) := by decide +kernel
theorem dX2_takeItem_30 : decode cX2_takeItem 30 = .ok (.iload_n 1, 1) := by decide +kernel
theorem dX2_takeItem_31 : decode cX2_takeItem 31 = .ok (.invokevirtual 53, 3) := by decide +kernel
theorem dX2_takeItem_34 : decode cX2_takeItem 34 = .ok (.aload_n 0, 1) := by decide +kernel
theorem dX2_takeItem_35 : decode cX2_takeItem 35 = .ok (.invokevirtual 38, 3) := by decide +kernel
theorem dX2_takeItem_38 : decode cX2_takeItem 38 = .ok (.iload_n 1, 1) := by decide +kernel
theorem dX2_takeItem_39 : decode cX2_takeItem 39 = .ok (.invokestatic 49, 3) := by decide +kernel
theorem dX2_takeItem_42 : decode cX2_takeItem 42 = .ok (.ifCond .eq 10, 3) := by decide +kernel
theorem dX2_takeItem_45 : decode cX2_takeItem 45 = .ok (.aload_n 0, 1) := by decide +kernel
theorem dX2_takeItem_46 : decode cX2_takeItem 46 = .ok (.invokevirtual 57, 3) := by decide +kernel
theorem dX2_takeItem_49 : decode cX2_takeItem 49 = .ok (.goto 8, 3) := by decide +kernel
theorem dX2_takeItem_52 : decode cX2_takeItem 52 = .ok (.aload_n 0, 1) := by decide +kernel
theorem dX2_takeItem_53 : decode cX2_takeItem 53 = .ok (.iload_n 1, 1) := by decide +kernel
theorem dX2_takeItem_54 : decode cX2_takeItem 54 = .ok (.invokevirtual 60, 3) := by decide +kernel
theorem dX2_takeItem_57 : decode cX2_takeItem 57 = .ok (.istore_n 2, 1) := by decide +kernel
theorem dX2_takeItem_58 : decode cX2_takeItem 58 = .ok (.iload_n 2, 1) := by decide +kernel
theorem dX2_takeItem_59 : decode cX2_takeItem 59 = .ok (.ifCond .eq 13, 3) := by decide +kernel
theorem dX2_takeItem_62 : decode cX2_takeItem 62 = .ok (.aload_n 0, 1) := by decide +kernel
theorem dX2_takeItem_63 : decode cX2_takeItem 63 = .ok (.dup, 1) := by decide +kernel
theorem dX2_takeItem_64 : decode cX2_takeItem 64 = .ok (.getfield 28, 3) := by decide +kernel
theorem dX2_takeItem_67 : decode cX2_takeItem 67 = .ok (.iconst 1, 1) := by decide +kernel
theorem dX2_takeItem_68 : decode cX2_takeItem 68 = .ok (.iadd, 1) := by decide +kernel
theorem dX2_takeItem_69 : decode cX2_takeItem 69 = .ok (.putfield 28, 3) := by decide +kernel
theorem dX2_takeItem_72 : decode cX2_takeItem 72 = .ok (.iload_n 2, 1) := by decide +kernel
theorem dX2_takeItem_73 : decode cX2_takeItem 73 = .ok (.ireturn, 1) := by decide +kernel
set_option maxHeartbeats 800000 in
set_option maxRecDepth 100000 in
theorem c_X2_takeItem {l : Launch} {ω : xO} (hc : xsh ω = clS) {ki vi : Nat → Nat} {q it pe : Int} {pa : Int → Int} {M : xMem} (hφ : xph ω = xStr ki vi (xA ω)) (hb : BtO (btC M) (M 47 1)) (hq : 0 ≤ q ∧ q ≤ M 47 1) (hit : 0 ≤ it ∧ it < 120) (hpe : 0 ≤ pe ∧ pe ≤ 8) (hpa : ∀ k, inR (pa k)) : Ct l ω yX2_takeItem ({ frames := 7, cells := 0, slots := 0, locals := 151 } : Room) 3 0 [.ref (xad ω 49)] (rsM M q it pe pa) (some (.int (iI (bI (tiP (btC M) (q, it, pe, pa)))))) (rtM M (tjN (btC M) (q, it, pe, pa))) := by
  refine Ct.of (bytes := cX2_takeItem) (ret := (some .boolean)) (lv0 := [some (.ref (xad ω 49)), none, none]) m_cd_X2_takeItem m_in_X2 (by decide +kernel) (by decide +kernel) rfl rfl rfl rfl (fun hR => by have h := (tjN_R hb (r := (q, it, pe, pa)) ⟨hq, ⟨hit.1, by show it ≤ 120; omega⟩, hpe, hpa⟩ hit.2).1; have h2 := h.2.1; have h3 := h.2.2.1; exact rs_R hR hb h.1 (by omega) (by omega) h.2.2.2) ?_
  intro κ h he hR
  have hh := heF_R (btC M) q
  have hE := tkE_R hb hq
  have hp0 : ∀ k, inR (ti0 (btC M) (q, it, pe, pa) k) := ti0_R hpa
  have hKn : knd (heF (btC M) q) ↔ 0 ≤ heF (btC M) q ∧ heF (btC M) q < 7 := Iff.rfl
  have hBn : tiB (btC M) (q, it, pe, pa) ↔ (heF (btC M) q = -1 ∨ (knd (heF (btC M) q) ∧ 8 ≤ pe)) := Iff.rfl
  refine x_aload_n h dX2_takeItem_0 rfl ?_
  refine x_V0i h dX2_takeItem_1 m_ml_X2_45 m_im_X2_headOf m_se_X2_headOf (sC49 hc) rfl (by decide) rfl (c_X2_headOf hc hφ hb hq) ?_
  refine x_istore_n h dX2_takeItem_4 rfl rfl ?_
  dsimp only [xset]
  refine x_iload_n h dX2_takeItem_5 rfl ?_
  refine x_iconst h dX2_takeItem_6 ?_
  refine x_icmp_eq h dX2_takeItem_7 (tgt := 26) (by decide) (by omega) (by omega) (fun q7 => ?_) (fun q7 => ?_)
  · refine x_iconst h dX2_takeItem_26 ?_
    exact x_zret h he dX2_takeItem_27 (by first | exact Or.inl rfl | exact Or.inr rfl | exact bI_01 _ | omega) rfl (bI_f (fun z => z.1 (by rw [hBn, hKn]; omega))).symm (by rw [tjN_b (by rw [hBn, hKn]; omega)]; rfl)
  · refine x_iload_n h dX2_takeItem_10 rfl ?_
    refine x_N1i h dX2_takeItem_11 m_nl_X2_49 m_st_X6_isKind (by decide) rfl (c_X6_isKind hc (by omega)) ?_
    refine x_ifeqB h dX2_takeItem_14 (tgt := 28) (by decide) (fun q14 => ?_) (fun q14 => ?_)
    · have hnb : ¬ tiB (btC M) (q, it, pe, pa) := by rw [hBn, hKn]; omega
      refine x_aload_n h dX2_takeItem_28 rfl ?_
      refine x_iconst h dX2_takeItem_29 ?_
      refine x_iload_n h dX2_takeItem_30 rfl ?_
      refine x_V2v h dX2_takeItem_31 m_ml_X2_53 m_im_X2_keep m_se_X2_keep (sC49 hc) rfl (by decide) rfl (c_X2_keep hc hit (by omega) (by omega)) ?_
      refine x_aload_n h dX2_takeItem_34 rfl ?_
      refine x_V0v h dX2_takeItem_35 m_ml_X2_38 m_im_X2_readToken m_se_X2_readToken (sC49 hc) rfl (by decide) rfl (c_X2_readTokenS hc hb hq) ?_
      refine x_mem (M' := rsM M (tkE (btC M) q) it pe (ti0 (btC M) (q, it, pe, pa))) rfl ?_
      refine x_iload_n h dX2_takeItem_38 rfl ?_
      refine x_N1i h dX2_takeItem_39 m_nl_X2_49 m_st_X6_isKind (by decide) rfl (c_X6_isKind hc (by omega)) ?_
      refine x_ifeqB h dX2_takeItem_42 (tgt := 52) (by decide) (fun q42 => ?_) (fun q42 => ?_)
      · have hk : ¬ knd (heF (btC M) q) := q42
        refine x_aload_n h dX2_takeItem_52 rfl ?_
        refine x_iload_n h dX2_takeItem_53 rfl ?_
        refine x_V1i h dX2_takeItem_54 m_ml_X2_60 m_im_X2_takeThree m_se_X2_takeThree (sC49 hc) rfl (by decide) rfl (c_X2_takeThree hc hb hE hit hpe hp0 (by rw [hBn, hKn] at hnb; omega)) ?_
        refine x_istore_n h dX2_takeItem_57 rfl rfl ?_
        dsimp only [xset]
        refine x_iload_n h dX2_takeItem_58 rfl ?_
        refine x_ifeqB h dX2_takeItem_59 (tgt := 72) (by decide) (fun q59 => ?_) (fun q59 => ?_)
        · refine x_iload_n h dX2_takeItem_72 rfl ?_
          exact x_zret h he dX2_takeItem_73 (by first | exact Or.inl rfl | exact Or.inr rfl | exact bI_01 _ | omega) rfl (by first | exact (bI_eq (tjN_k hnb hk).2).symm | exact (bI_eq (tjN_t hnb hk).2).symm) (by first | (rw [(tjN_k hnb hk).1]; unfold rtM; dsimp only; first | (rw [tI_n q59, tI_n q59]) | (rw [rs_6, tI_p q59, tI_p q59])) | (rw [(tjN_t hnb hk).1]; unfold rtM; dsimp only; first | (rw [tI_n q59]) | (rw [rs_6, tI_p q59])))
        · refine x_aload_n h dX2_takeItem_62 rfl ?_
          refine x_dup h dX2_takeItem_63 rfl ?_
          refine x_geti (j := 6) 6 h dX2_takeItem_64 (sC49 hc) rfl in_X2 rfl (by decide) m_fl_X2_28 rfl (fun r64 => ?_)
          try simp only [rs_r1, rs_r2, rs_r3, rs_r4, rs_r6, rs_r7, rs_r50, rs_r47, rs_b] at r64 ⊢
          refine x_iconst h dX2_takeItem_67 ?_
          refine x_iadd h dX2_takeItem_68 ?_
          refine x_puti (j := 6) 6 h dX2_takeItem_69 (sC49 hc) rfl in_X2 rfl (by decide) m_fl_X2_28 tyX2_ok nmX2 rfl (tyX2_ok 6 (by decide)) rfl rfl (by omega) rfl ?_
          refine x_iload_n h dX2_takeItem_72 rfl ?_
          exact x_zret h he dX2_takeItem_73 (by first | exact Or.inl rfl | exact Or.inr rfl | exact bI_01 _ | omega) rfl (by first | exact (bI_eq (tjN_k hnb hk).2).symm | exact (bI_eq (tjN_t hnb hk).2).symm) (by first | (rw [(tjN_k hnb hk).1]; unfold rtM; dsimp only; first | (rw [tI_n q59, tI_n q59]) | (rw [rs_6, tI_p q59, tI_p q59])) | (rw [(tjN_t hnb hk).1]; unfold rtM; dsimp only; first | (rw [tI_n q59]) | (rw [rs_6, tI_p q59])))
      · have hk : knd (heF (btC M) q) := q42
        refine x_aload_n h dX2_takeItem_45 rfl ?_
        refine x_V0i h dX2_takeItem_46 m_ml_X2_57 m_im_X2_takePerson m_se_X2_takePerson (sC49 hc) rfl (by decide) rfl (c_X2_takePerson hc hφ hb hE hit (by rw [hBn, hKn] at hnb; omega) hp0) ?_
        refine x_goto h dX2_takeItem_49 (tgt := 57) (by decide) ?_
        refine x_istore_n h dX2_takeItem_57 rfl rfl ?_
        dsimp only [xset]
        refine x_iload_n h dX2_takeItem_58 rfl ?_
        refine x_ifeqB h dX2_takeItem_59 (tgt := 72) (by decide) (fun q59 => ?_) (fun q59 => ?_)
        · refine x_iload_n h dX2_takeItem_72 rfl ?_
          exact x_zret h he dX2_takeItem_73 (by first | exact Or.inl rfl | exact Or.inr rfl | exact bI_01 _ | omega) rfl (by first | exact (bI_eq (tjN_k hnb hk).2).symm | exact (bI_eq (tjN_t hnb hk).2).symm) (by first | (rw [(tjN_k hnb hk).1]; unfold rtM; dsimp only; first | (rw [tI_n q59, tI_n q59]) | (rw [rs_6, tI_p q59, tI_p q59])) | (rw [(tjN_t hnb hk).1]; unfold rtM; dsimp only; first | (rw [tI_n q59]) | (rw [rs_6, tI_p q59])))
        · refine x_aload_n h dX2_takeItem_62 rfl ?_
          refine x_dup h dX2_takeItem_63 rfl ?_
          refine x_geti (j := 6) 6 h dX2_takeItem_64 (sC49 hc) rfl in_X2 rfl (by decide) m_fl_X2_28 rfl (fun r64 => ?_)
          try simp only [rs_r1, rs_r2, rs_r3, rs_r4, rs_r6, rs_r7, rs_r50, rs_r47, rs_b] at r64 ⊢
          refine x_iconst h dX2_takeItem_67 ?_
          refine x_iadd h dX2_takeItem_68 ?_
          refine x_puti (j := 6) 6 h dX2_takeItem_69 (sC49 hc) rfl in_X2 rfl (by decide) m_fl_X2_28 tyX2_ok nmX2 rfl (tyX2_ok 6 (by decide)) rfl rfl (by omega) rfl ?_
          refine x_iload_n h dX2_takeItem_72 rfl ?_
          exact x_zret h he dX2_takeItem_73 (by first | exact Or.inl rfl | exact Or.inr rfl | exact bI_01 _ | omega) rfl (by first | exact (bI_eq (tjN_k hnb hk).2).symm | exact (bI_eq (tjN_t hnb hk).2).symm) (by first | (rw [(tjN_k hnb hk).1]; unfold rtM; dsimp only; first | (rw [tI_n q59, tI_n q59]) | (rw [rs_6, tI_p q59, tI_p q59])) | (rw [(tjN_t hnb hk).1]; unfold rtM; dsimp only; first | (rw [tI_n q59]) | (rw [rs_6, tI_p q59])))
    · refine x_aload_n h dX2_takeItem_17 rfl ?_
      refine x_geti (j := 7) 7 h dX2_takeItem_18 (sC49 hc) rfl in_X2 rfl (by decide) m_fl_X2_31 rfl (fun r18 => ?_)
      try simp only [rs_r1, rs_r2, rs_r3, rs_r4, rs_r6, rs_r7, rs_r50, rs_r47, rs_b] at r18 ⊢
      refine x_bipush h dX2_takeItem_21 (by decide) ?_
      refine x_icmp_lt h dX2_takeItem_23 (tgt := 28) (by decide) (by omega) (by omega) (fun q23 => ?_) (fun q23 => ?_)
      · have hnb : ¬ tiB (btC M) (q, it, pe, pa) := by rw [hBn, hKn]; omega
        refine x_aload_n h dX2_takeItem_28 rfl ?_
        refine x_iconst h dX2_takeItem_29 ?_
        refine x_iload_n h dX2_takeItem_30 rfl ?_
        refine x_V2v h dX2_takeItem_31 m_ml_X2_53 m_im_X2_keep m_se_X2_keep (sC49 hc) rfl (by decide) rfl (c_X2_keep hc hit (by omega) (by omega)) ?_
        refine x_aload_n h dX2_takeItem_34 rfl ?_
        refine x_V0v h dX2_takeItem_35 m_ml_X2_38 m_im_X2_readToken m_se_X2_readToken (sC49 hc) rfl (by decide) rfl (c_X2_readTokenS hc hb hq) ?_
        refine x_mem (M' := rsM M (tkE (btC M) q) it pe (ti0 (btC M) (q, it, pe, pa))) rfl ?_
        refine x_iload_n h dX2_takeItem_38 rfl ?_
        refine x_N1i h dX2_takeItem_39 m_nl_X2_49 m_st_X6_isKind (by decide) rfl (c_X6_isKind hc (by omega)) ?_
        refine x_ifeqB h dX2_takeItem_42 (tgt := 52) (by decide) (fun q42 => ?_) (fun q42 => ?_)
        · have hk : ¬ knd (heF (btC M) q) := q42
          refine x_aload_n h dX2_takeItem_52 rfl ?_
          refine x_iload_n h dX2_takeItem_53 rfl ?_
          refine x_V1i h dX2_takeItem_54 m_ml_X2_60 m_im_X2_takeThree m_se_X2_takeThree (sC49 hc) rfl (by decide) rfl (c_X2_takeThree hc hb hE hit hpe hp0 (by rw [hBn, hKn] at hnb; omega)) ?_
          refine x_istore_n h dX2_takeItem_57 rfl rfl ?_
          dsimp only [xset]
          refine x_iload_n h dX2_takeItem_58 rfl ?_
          refine x_ifeqB h dX2_takeItem_59 (tgt := 72) (by decide) (fun q59 => ?_) (fun q59 => ?_)
          · refine x_iload_n h dX2_takeItem_72 rfl ?_
            exact x_zret h he dX2_takeItem_73 (by first | exact Or.inl rfl | exact Or.inr rfl | exact bI_01 _ | omega) rfl (by first | exact (bI_eq (tjN_k hnb hk).2).symm | exact (bI_eq (tjN_t hnb hk).2).symm) (by first | (rw [(tjN_k hnb hk).1]; unfold rtM; dsimp only; first | (rw [tI_n q59, tI_n q59]) | (rw [rs_6, tI_p q59, tI_p q59])) | (rw [(tjN_t hnb hk).1]; unfold rtM; dsimp only; first | (rw [tI_n q59]) | (rw [rs_6, tI_p q59])))
          · refine x_aload_n h dX2_takeItem_62 rfl ?_
            refine x_dup h dX2_takeItem_63 rfl ?_
            refine x_geti (j := 6) 6 h dX2_takeItem_64 (sC49 hc) rfl in_X2 rfl (by decide) m_fl_X2_28 rfl (fun r64 => ?_)
            try simp only [rs_r1, rs_r2, rs_r3, rs_r4, rs_r6, rs_r7, rs_r50, rs_r47, rs_b] at r64 ⊢
            refine x_iconst h dX2_takeItem_67 ?_
            refine x_iadd h dX2_takeItem_68 ?_
            refine x_puti (j := 6) 6 h dX2_takeItem_69 (sC49 hc) rfl in_X2 rfl (by decide) m_fl_X2_28 tyX2_ok nmX2 rfl (tyX2_ok 6 (by decide)) rfl rfl (by omega) rfl ?_
            refine x_iload_n h dX2_takeItem_72 rfl ?_
            exact x_zret h he dX2_takeItem_73 (by first | exact Or.inl rfl | exact Or.inr rfl | exact bI_01 _ | omega) rfl (by first | exact (bI_eq (tjN_k hnb hk).2).symm | exact (bI_eq (tjN_t hnb hk).2).symm) (by first | (rw [(tjN_k hnb hk).1]; unfold rtM; dsimp only; first | (rw [tI_n q59, tI_n q59]) | (rw [rs_6, tI_p q59, tI_p q59])) | (rw [(tjN_t hnb hk).1]; unfold rtM; dsimp only; first | (rw [tI_n q59]) | (rw [rs_6, tI_p q59])))
        · have hk : knd (heF (btC M) q) := q42
          refine x_aload_n h dX2_takeItem_45 rfl ?_
          refine x_V0i h dX2_takeItem_46 m_ml_X2_57 m_im_X2_takePerson m_se_X2_takePerson (sC49 hc) rfl (by decide) rfl (c_X2_takePerson hc hφ hb hE hit (by rw [hBn, hKn] at hnb; omega) hp0) ?_
          refine x_goto h dX2_takeItem_49 (tgt := 57) (by decide) ?_
          refine x_istore_n h dX2_takeItem_57 rfl rfl ?_
          dsimp only [xset]
          refine x_iload_n h dX2_takeItem_58 rfl ?_
          refine x_ifeqB h dX2_takeItem_59 (tgt := 72) (by decide) (fun q59 => ?_) (fun q59 => ?_)
          · refine x_iload_n h dX2_takeItem_72 rfl ?_
            exact x_zret h he dX2_takeItem_73 (by first | exact Or.inl rfl | exact Or.inr rfl | exact bI_01 _ | omega) rfl (by first | exact (bI_eq (tjN_k hnb hk).2).symm | exact (bI_eq (tjN_t hnb hk).2).symm) (by first | (rw [(tjN_k hnb hk).1]; unfold rtM; dsimp only; first | (rw [tI_n q59, tI_n q59]) | (rw [rs_6, tI_p q59, tI_p q59])) | (rw [(tjN_t hnb hk).1]; unfold rtM; dsimp only; first | (rw [tI_n q59]) | (rw [rs_6, tI_p q59])))
          · refine x_aload_n h dX2_takeItem_62 rfl ?_
            refine x_dup h dX2_takeItem_63 rfl ?_
            refine x_geti (j := 6) 6 h dX2_takeItem_64 (sC49 hc) rfl in_X2 rfl (by decide) m_fl_X2_28 rfl (fun r64 => ?_)
            try simp only [rs_r1, rs_r2, rs_r3, rs_r4, rs_r6, rs_r7, rs_r50, rs_r47, rs_b] at r64 ⊢
            refine x_iconst h dX2_takeItem_67 ?_
            refine x_iadd h dX2_takeItem_68 ?_
            refine x_puti (j := 6) 6 h dX2_takeItem_69 (sC49 hc) rfl in_X2 rfl (by decide) m_fl_X2_28 tyX2_ok nmX2 rfl (tyX2_ok 6 (by decide)) rfl rfl (by omega) rfl ?_
            refine x_iload_n h dX2_takeItem_72 rfl ?_
            exact x_zret h he dX2_takeItem_73 (by first | exact Or.inl rfl | exact Or.inr rfl | exact bI_01 _ | omega) rfl (by first | exact (bI_eq (tjN_k hnb hk).2).symm | exact (bI_eq (tjN_t hnb hk).2).symm) (by first | (rw [(tjN_k hnb hk).1]; unfold rtM; dsimp only; first | (rw [tI_n q59, tI_n q59]) | (rw [rs_6, tI_p q59, tI_p q59])) | (rw [(tjN_t hnb hk).1]; unfold rtM; dsimp only; first | (rw [tI_n q59]) | (rw [rs_6, tI_p q59])))
      · refine x_iconst h dX2_takeItem_26 ?_
        exact x_zret h he dX2_takeItem_27 (by first | exact Or.inl rfl | exact Or.inr rfl | exact bI_01 _ | omega) rfl (bI_f (fun z => z.1 (by rw [hBn, hKn]; omega))).symm (by rw [tjN_b (by rw [hBn, hKn]; omega)]; rfl)

theorem rt_1 {M : xMem} {r : RdS} : rtM M r 49 1 = tkS (btC M) r.1 := rfl
theorem rt_2 {M : xMem} {r : RdS} : rtM M r 49 2 = tkB (btC M) r.1 := rfl
theorem fuS_R {b : Int → Int} {n : Int} (hb : BtO b n) : ∀ (d : Nat) (r : RdS), RdR n r → r.2.1 + d ≤ 120 → RdR n (fuS b d r) := by
  intro d
  induction d with
  | zero => intro r h _; exact h
  | succ d ih =>
    intro r h hd
    have hj := tjN_R hb h (by omega)
    unfold fuS
    by_cases g : tiP b r ∧ tkS b (tjN b r).1 = 3
    · rw [tI_p g]
      refine ih _ ⟨tkE_R hb hj.1.1, hj.1.2⟩ ?_
      show (tjN b r).2.1 + (d : Int) ≤ 120
      rw [hj.2 g.1]
      omega
    · rw [tI_n g]
      exact hj.1
theorem dX2_faultOf_0 : decode cX2_faultOf 0 = .ok (.aload_n 0, 1) := by decide +kernel
theorem dX2_faultOf_1 : decode cX2_faultOf 1 = .ok (.iconst 0, 1) := by decide +kernel
theorem dX2_faultOf_2 : decode cX2_faultOf 2 = .ok (.putfield 28, 3) := by decide +kernel
theorem dX2_faultOf_5 : decode cX2_faultOf 5 = .ok (.aload_n 0, 1) := by decide +kernel
theorem dX2_faultOf_6 : decode cX2_faultOf 6 = .ok (.iload_n 1, 1) := by decide +kernel
theorem dX2_faultOf_7 : decode cX2_faultOf 7 = .ok (.putfield 31, 3) := by decide +kernel
theorem dX2_faultOf_10 : decode cX2_faultOf 10 = .ok (.aload_n 0, 1) := by decide +kernel
theorem dX2_faultOf_11 : decode cX2_faultOf 11 = .ok (.iconst 0, 1) := by decide +kernel
theorem dX2_faultOf_12 : decode cX2_faultOf 12 = .ok (.putfield 18, 3) := by decide +kernel
theorem dX2_faultOf_15 : decode cX2_faultOf 15 = .ok (.aload_n 0, 1) := by decide +kernel
theorem dX2_faultOf_16 : decode cX2_faultOf 16 = .ok (.invokevirtual 38, 3) := by decide +kernel
theorem dX2_faultOf_19 : decode cX2_faultOf 19 = .ok (.iconst 0, 1) := by decide +kernel
theorem dX2_faultOf_20 : decode cX2_faultOf 20 = .ok (.istore_n 2, 1) := by decide +kernel
theorem dX2_faultOf_21 : decode cX2_faultOf 21 = .ok (.iload_n 2, 1) := by decide +kernel
theorem dX2_faultOf_22 : decode cX2_faultOf 22 = .ok (.bipush 120, 2) := by decide +kernel
theorem dX2_faultOf_24 : decode cX2_faultOf 24 = .ok (.if_icmp .ge 47, 3) := by decide +kernel
theorem dX2_faultOf_27 : decode cX2_faultOf 27 = .ok (.aload_n 0, 1) := by decide +kernel
theorem dX2_faultOf_28 : decode cX2_faultOf 28 = .ok (.invokevirtual 41, 3) := by decide +kernel
theorem dX2_faultOf_31 : decode cX2_faultOf 31 = .ok (.ifCond .ne 8, 3) := by decide +kernel
theorem dX2_faultOf_34 : decode cX2_faultOf 34 = .ok (.aload_n 0, 1) := by decide +kernel
theorem dX2_faultOf_35 : decode cX2_faultOf 35 = .ok (.getfield 15, 3) := by decide +kernel
theorem dX2_faultOf_38 : decode cX2_faultOf 38 = .ok (.ireturn, 1) := by decide +kernel
theorem dX2_faultOf_39 : decode cX2_faultOf 39 = .ok (.aload_n 0, 1) := by decide +kernel
theorem dX2_faultOf_40 : decode cX2_faultOf 40 = .ok (.getfield 11, 3) := by decide +kernel
theorem dX2_faultOf_43 : decode cX2_faultOf 43 = .ok (.ifCond .ne 5, 3) := by decide +kernel
theorem dX2_faultOf_46 : decode cX2_faultOf 46 = .ok (.iconst (-1), 1) := by decide +kernel
theorem dX2_faultOf_47 : decode cX2_faultOf 47 = .ok (.ireturn, 1) := by decide +kernel
theorem dX2_faultOf_48 : decode cX2_faultOf 48 = .ok (.aload_n 0, 1) := by decide +kernel
theorem dX2_faultOf_49 : decode cX2_faultOf 49 = .ok (.getfield 11, 3) := by decide +kernel
theorem dX2_faultOf_52 : decode cX2_faultOf 52 = .ok (.iconst 3, 1) := by decide +kernel
theorem dX2_faultOf_53 : decode cX2_faultOf 53 = .ok (.if_icmp .eq 8, 3) := by decide +kernel
theorem dX2_faultOf_56 : decode cX2_faultOf 56 = .ok (.aload_n 0, 1) := by decide +kernel
theorem dX2_faultOf_57 : decode cX2_faultOf 57 = .ok (.getfield 15, 3) := by decide +kernel
theorem dX2_faultOf_60 : decode cX2_faultOf 60 = .ok (.ireturn, 1) := by decide +kernel
theorem dX2_faultOf_61 : decode cX2_faultOf 61 = .ok (.aload_n 0, 1) := by decide +kernel
theorem dX2_faultOf_62 : decode cX2_faultOf 62 = .ok (.invokevirtual 38, 3) := by decide +kernel
theorem dX2_faultOf_65 : decode cX2_faultOf 65 = .ok (.iinc 2 1, 3) := by decide +kernel
theorem dX2_faultOf_68 : decode cX2_faultOf 68 = .ok (.goto (-47), 3) := by decide +kernel
theorem dX2_faultOf_71 : decode cX2_faultOf 71 = .ok (.aload_n 0, 1) := by decide +kernel
theorem dX2_faultOf_72 : decode cX2_faultOf 72 = .ok (.getfield 15, 3) := by decide +kernel
theorem dX2_faultOf_75 : decode cX2_faultOf 75 = .ok (.ireturn, 1) := by decide +kernel
set_option maxHeartbeats 800000 in
set_option maxRecDepth 100000 in
theorem c_X2_faultOf {l : Launch} {ω : xO} (hc : xsh ω = clS) {ki vi : Nat → Nat} {p : Int} {M : xMem} (hφ : xph ω = xStr ki vi (xA ω)) (hb : BtO (btC M) (M 47 1)) (hp : 0 ≤ p ∧ p ≤ 8) : Ct l ω yX2_faultOf ({ frames := 8, cells := 0, slots := 0, locals := 173 } : Room) 3 1 [.ref (xad ω 49), .int (iI p)] M (some (.int (iI (fuR (btC M) 120 (0, 0, p, M 50))))) (rtM M (fuS (btC M) 120 (0, 0, p, M 50))) := by
  refine Ct.of (bytes := cX2_faultOf) (ret := (some .int)) (lv0 := [some (.ref (xad ω 49)), some (.int (iI p)), none]) m_cd_X2_faultOf m_in_X2 (by decide +kernel) (by decide +kernel) rfl rfl rfl rfl (fun hR => by have h := fuS_R hb 120 (0, 0, p, M 50) ⟨⟨Int.le_refl 0, hb.1.1⟩, ⟨by show (0 : Int) ≤ 0; omega, by show (0 : Int) ≤ 120; omega⟩, hp, hR 50⟩ (by show (0 : Int) + ((120 : Nat) : Int) ≤ 120; omega); have h2 := h.2.1; have h3 := h.2.2.1; have hR2 : xR (rsM M 0 (M 49 6) (M 49 7) (M 50)) := (by have e1 := tkB_x hb ⟨Int.le_refl 0, hb.1.1⟩; have e2 := tkE_x hb ⟨Int.le_refl 0, hb.1.1⟩; have e3 := tkV_R hb ⟨Int.le_refl 0, hb.1.1⟩; have e4 := tkS_R (btC M) 0; have e5 := hb.1; exact rr_R2 (by rw [rr_id]; exact hR) (by omega) (by omega) (by omega) (by omega)); exact rs_R hR2 hb h.1 (by omega) (by omega) h.2.2.2) ?_
  intro κ h he hR
  refine x_aload_n h dX2_faultOf_0 rfl ?_
  refine x_iconst h dX2_faultOf_1 ?_
  refine x_puti (j := 6) 6 h dX2_faultOf_2 (sC49 hc) rfl in_X2 rfl (by decide) m_fl_X2_28 tyX2_ok nmX2 rfl (tyX2_ok 6 (by decide)) rfl rfl (by omega) rfl ?_
  rw [show up M 49 6 0 = rrM M (M 49 1) (M 49 2) (M 49 3) (M 49 4) 0 (M 49 7) (M 50) from by conv => { lhs; rw [← rr_id M] }; exact rr_6]
  refine x_aload_n h dX2_faultOf_5 rfl ?_
  refine x_iload_n h dX2_faultOf_6 rfl ?_
  refine x_puti (j := 7) 7 h dX2_faultOf_7 (sC49 hc) rfl in_X2 rfl (by decide) m_fl_X2_31 tyX2_ok nmX2 rfl (tyX2_ok 7 (by decide)) rfl rfl (by omega) rfl ?_
  rw [rr_7]
  refine x_aload_n h dX2_faultOf_10 rfl ?_
  refine x_iconst h dX2_faultOf_11 ?_
  refine x_puti (j := 3) 3 h dX2_faultOf_12 (sC49 hc) rfl in_X2 rfl (by decide) m_fl_X2_18 tyX2_ok nmX2 rfl (tyX2_ok 3 (by decide)) rfl rfl (by omega) rfl ?_
  rw [rr_3]
  refine x_aload_n h dX2_faultOf_15 rfl ?_
  refine x_V0v h dX2_faultOf_16 m_ml_X2_38 m_im_X2_readToken m_se_X2_readToken (sC49 hc) rfl (by decide) rfl (c_X2_readToken hc hb ⟨Int.le_refl 0, hb.1.1⟩ (hR 49 1) (hR 49 2) (hR 49 4)) ?_
  refine x_iconst h dX2_faultOf_19 ?_
  refine x_istore_n h dX2_faultOf_20 rfl rfl ?_
  dsimp only [xset]
  refine x_mem (M' := rtM M (0, 0, p, M 50)) rfl ?_
  have HH : ∀ (d i : Nat) (r : RdS), i + d = 120 → r.2.1 = (i : Int) → RdR (M 47 1) r → fuR (btC M) d r = fuR (btC M) 120 (0, 0, p, M 50) → fuS (btC M) d r = fuS (btC M) 120 (0, 0, p, M 50) → X ω κ 21 [some (.ref (xad ω 49)), some (.int (iI p)), some (.int (iI (i : Int)))] [] (rtM M r) := by
    intro d
    induction d with
    | zero =>
      intro i r e er hr h1 h2
      have ei : i = 120 := by omega
      refine x_iload_n h dX2_faultOf_21 rfl ?_
      refine x_bipush h dX2_faultOf_22 (by decide) ?_
      refine x_icmp_ge h dX2_faultOf_24 (tgt := 71) (by decide) (by omega) (by omega) (fun q24 => ?_) (fun q24 => ?_)
      · refine x_aload_n h dX2_faultOf_71 rfl ?_
        refine x_geti (j := 2) 2 h dX2_faultOf_72 (sC49 hc) rfl in_X2 rfl (by decide) m_fl_X2_15 rfl (fun r72 => ?_)
        try simp only [rs_r1, rs_r2, rs_r3, rs_r4, rs_r6, rs_r7, rs_r50, rs_r47, rs_b, rt_1, rt_2] at r72 ⊢
        exact x_iret (ret := none) h he dX2_faultOf_75 rfl (by rw [← h1]; rfl) (by rw [← h2]; rfl)
      · exfalso; omega
    | succ d ih =>
      intro i r e er hr h1 h2
      obtain ⟨q, it, pe, pa⟩ := r
      have er2 : it = (i : Int) := er
      have hj := tjN_R hb hr (by show it < 120; omega)
      have hjS := tkS_R (btC M) (tjN (btC M) (q, it, pe, pa)).1
      rw [fuR] at h1
      rw [fuS] at h2
      obtain ⟨hq, hit0, hpe, hpa⟩ := hr
      have hit : 0 ≤ it ∧ it < 120 := by omega
      refine x_iload_n h dX2_faultOf_21 rfl ?_
      refine x_bipush h dX2_faultOf_22 (by decide) ?_
      refine x_icmp_ge h dX2_faultOf_24 (tgt := 71) (by decide) (by omega) (by omega) (fun q24 => ?_) (fun q24 => ?_)
      · exfalso; omega
      · refine x_aload_n h dX2_faultOf_27 rfl ?_
        refine x_V0i h dX2_faultOf_28 m_ml_X2_41 m_im_X2_takeItem m_se_X2_takeItem (sC49 hc) rfl (by decide) rfl (c_X2_takeItem hc hφ hb hq hit hpe hpa) ?_
        refine x_ifneB h dX2_faultOf_31 (tgt := 39) (by decide) (fun q31 => ?_) (fun q31 => ?_)
        · refine x_aload_n h dX2_faultOf_39 rfl ?_
          refine x_geti (j := 1) 1 h dX2_faultOf_40 (sC49 hc) rfl in_X2 rfl (by decide) m_fl_X2_11 rfl (fun r40 => ?_)
          try simp only [rs_r1, rs_r2, rs_r3, rs_r4, rs_r6, rs_r7, rs_r50, rs_r47, rs_b, rt_1, rt_2] at r40 ⊢
          refine x_if_ne h dX2_faultOf_43 (tgt := 48) (by decide) (by omega) (fun q43 => ?_) (fun q43 => ?_)
          · refine x_aload_n h dX2_faultOf_48 rfl ?_
            refine x_geti (j := 1) 1 h dX2_faultOf_49 (sC49 hc) rfl in_X2 rfl (by decide) m_fl_X2_11 rfl (fun r49 => ?_)
            try simp only [rs_r1, rs_r2, rs_r3, rs_r4, rs_r6, rs_r7, rs_r50, rs_r47, rs_b, rt_1, rt_2] at r49 ⊢
            refine x_iconst h dX2_faultOf_52 ?_
            refine x_icmp_eq h dX2_faultOf_53 (tgt := 61) (by decide) (by omega) (by omega) (fun q53 => ?_) (fun q53 => ?_)
            · refine x_aload_n h dX2_faultOf_61 rfl ?_
              refine x_V0v h dX2_faultOf_62 m_ml_X2_38 m_im_X2_readToken m_se_X2_readToken (sC49 hc) rfl (by decide) rfl (c_X2_readTokenS hc hb hj.1.1) ?_
              refine x_iinc h dX2_faultOf_65 rfl rfl rfl ?_
              dsimp only [xset]
              refine x_goto h dX2_faultOf_68 (tgt := 21) (by decide) ?_
              rw [tI_p q31, if_neg q43, if_pos q53] at h1
              rw [tI_p ⟨q31, q53⟩] at h2
              exact ih (i + 1) (tkE (btC M) (tjN (btC M) (q, it, pe, pa)).1, (tjN (btC M) (q, it, pe, pa)).2) (by omega) (by show (tjN (btC M) (q, it, pe, pa)).2.1 = ((i + 1 : Nat) : Int); rw [hj.2 q31]; show it + 1 = _; omega) ⟨tkE_R hb hj.1.1, hj.1.2⟩ h1 h2
            · refine x_aload_n h dX2_faultOf_56 rfl ?_
              refine x_geti (j := 2) 2 h dX2_faultOf_57 (sC49 hc) rfl in_X2 rfl (by decide) m_fl_X2_15 rfl (fun r57 => ?_)
              try simp only [rs_r1, rs_r2, rs_r3, rs_r4, rs_r6, rs_r7, rs_r50, rs_r47, rs_b, rt_1, rt_2] at r57 ⊢
              exact x_iret (ret := none) h he dX2_faultOf_60 rfl (by rw [← h1, tI_p q31, if_neg q43, if_neg q53]; try rfl) (by rw [← h2, tI_n (fun z => q53 z.2)])
          · refine x_iconst h dX2_faultOf_46 ?_
            exact x_iret (ret := none) h he dX2_faultOf_47 rfl (by rw [← h1, tI_p q31, if_pos q43]) (by rw [← h2, tI_n (fun z => by have := z.2; omega)])
        · refine x_aload_n h dX2_faultOf_34 rfl ?_
          refine x_geti (j := 2) 2 h dX2_faultOf_35 (sC49 hc) rfl in_X2 rfl (by decide) m_fl_X2_15 rfl (fun r35 => ?_)
          try simp only [rs_r1, rs_r2, rs_r3, rs_r4, rs_r6, rs_r7, rs_r50, rs_r47, rs_b, rt_1, rt_2] at r35 ⊢
          exact x_iret (ret := none) h he dX2_faultOf_38 rfl (by rw [← h1, tI_n q31]; try rfl) (by rw [← h2, tI_n (fun z => q31 z.1)])
  exact HH 120 0 (0, 0, p, M 50) (by omega) rfl ⟨⟨Int.le_refl 0, hb.1.1⟩, ⟨by show (0 : Int) ≤ 0; omega, by show (0 : Int) ≤ 120; omega⟩, hp, hR 50⟩ rfl rfl

