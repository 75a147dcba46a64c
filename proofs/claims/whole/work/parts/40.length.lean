/-! the reference: length, kindFor, lead -/
def lgN (M : xMem) (p n : Int) : xMem := up (up M 1 (113 + 8 * p + 5) n) 1 (113 + 8 * M 1 (113 + 8 * p + 3) + 5) n
theorem lgN_R {M : xMem} {p n : Int} (h : xR M) (hn : inR n) : xR (lgN M p n) := up_R (up_R h hn) hn
theorem lgN_y {M : xMem} {p n : Int} (hp : 0 ≤ p) (hm : 0 ≤ M 1 (113 + 8 * p + 3)) : wyM (lgN M p n) = wyM M := by unfold lgN; rw [wyM_up (by omega), wyM_up (by omega)]
theorem lgN_F {M : xMem} {p n : Int} (hp : 0 ≤ p) (hm : 0 ≤ M 1 (113 + 8 * p + 3)) (h : Fc M) : Fc (lgN M p n) := Fc_e1 (lgN_y hp hm) rfl rfl h
theorem lgN_I {M : xMem} {p n : Int} (hI : MInv M) (hp : 0 ≤ p ∧ p < M 1 1) (hm : 0 ≤ M 1 (113 + 8 * p + 3)) (hn : 0 ≤ n ∧ n ≤ 999) : MInv (lgN M p n) := by
  have h1 := hI.1
  have ip := hI.2.2.2 p hp.1 hp.2
  have e1 : up M 1 (113 + 8 * p + 5) n 1 1 = M 1 1 := up_nn (by omega)
  exact (hI.up1 hp (by unfold fOk; omega)).up1 (by rw [e1]; omega) (by unfold fOk; omega)
theorem lgN_n {M : xMem} {p n : Int} (hp : 0 ≤ p) (hm : 0 ≤ M 1 (113 + 8 * p + 3)) {j : Int} (hj : j < 113) : lgN M p n 1 j = M 1 j := by unfold lgN; rw [up_nn (by omega), up_nn (by omega)]
theorem lgN_m {M : xMem} {p n : Int} : lgN M p n 1 (113 + 8 * p + 3) = M 1 (113 + 8 * p + 3) := by unfold lgN; rw [up_nn (by omega), up_nn (by omega)]
theorem lg_q {M N : xMem} {p n k : Int} (h : QuR (lgN M p n) N) : QuR (lgN M p k) (lgN N p k) := by
  have em : N 1 (113 + 8 * p + 3) = M 1 (113 + 8 * p + 3) := by rw [h.1]; exact lgN_m
  refine ⟨?_, fun i a b c => ?_, h.2.2⟩
  · have e1 := h.1
    unfold lgN at e1 ⊢
    rw [em, up_s, up_s, up_s, up_s, e1, up_s, up_s]
    funext j
    unfold ur
    (repeat' split) <;> rfl
  · by_cases hi : i = 1
    · subst hi
      have e1 := h.1
      unfold lgN at e1 ⊢
      rw [em, up_s, up_s, up_s, up_s, e1, up_s, up_s]
      funext j
      unfold ur
      (repeat' split) <;> rfl
    · have := h.2.1 i a b c
      unfold lgN at this ⊢
      rw [up_n hi, up_n hi] at this ⊢
      rw [up_n hi, up_n hi]
      exact this
theorem lg_b {M N : xMem} {p n k : Int} (h : QuR (lgN M p n) N) (h1 : M 1 (113 + 8 * p + 5) = k) (h2 : M 1 (113 + 8 * M 1 (113 + 8 * p + 3) + 5) = k) : QuR M (lgN N p k) := by
  have q := lg_q (k := k) h
  have e : lgN M p k = M := by
    funext i
    by_cases hi : i = 1
    · subst hi
      unfold lgN
      rw [up_s, up_s]
      funext j
      unfold ur
      split
      · rename_i g; rw [g, h2]
      · split
        · rename_i g; rw [g, h1]
        · rfl
    · unfold lgN; rw [up_n hi, up_n hi]
  rw [e] at q
  exact q
noncomputable def lnF (M : xMem) (p : Int) : Nat → Nat → Int
  | 0, n => (n : Int)
  | k + 1, n => if nwhN (lgN M p n) p = 1000000 then lnF M p k (n + 1) else (n : Int)
noncomputable def lnN (M : xMem) (p : Int) : Int := lnF M p 100 0
noncomputable def nlnR (M : xMem) (p : Int) : Int := if 0 ≤ p ∧ p < M 1 1 then (if 0 ≤ M 1 (113 + 8 * p + 3) then (if 99 < lnN M p then -1000004 else lnN M p) else -1000004) else -1000001
noncomputable def nlnM (M : xMem) (p : Int) : xMem := if 0 ≤ p ∧ p < M 1 1 then (if 0 ≤ M 1 (113 + 8 * p + 3) then (if 99 < lnN M p then fnM M (-1000004) else M) else fnM M (-1000004)) else fnM M (-1000001)
theorem dX7_longer_0 : decode cX7_longer 0 = .ok (.aload_n 0, 1) := by decide +kernel
theorem dX7_longer_1 : decode cX7_longer 1 = .ok (.getfield 9, 3) := by decide +kernel
theorem dX7_longer_4 : decode cX7_longer 4 = .ok (.iload_n 1, 1) := by decide +kernel
theorem dX7_longer_5 : decode cX7_longer 5 = .ok (.iconst 5, 1) := by decide +kernel
theorem dX7_longer_6 : decode cX7_longer 6 = .ok (.invokestatic 119, 3) := by decide +kernel
theorem dX7_longer_9 : decode cX7_longer 9 = .ok (.iload_n 2, 1) := by decide +kernel
theorem dX7_longer_10 : decode cX7_longer 10 = .ok (.iastore, 1) := by decide +kernel
theorem dX7_longer_11 : decode cX7_longer 11 = .ok (.aload_n 0, 1) := by decide +kernel
theorem dX7_longer_12 : decode cX7_longer 12 = .ok (.getfield 9, 3) := by decide +kernel
theorem dX7_longer_15 : decode cX7_longer 15 = .ok (.aload_n 0, 1) := by decide +kernel
theorem dX7_longer_16 : decode cX7_longer 16 = .ok (.iload_n 1, 1) := by decide +kernel
theorem dX7_longer_17 : decode cX7_longer 17 = .ok (.iconst 3, 1) := by decide +kernel
theorem dX7_longer_18 : decode cX7_longer 18 = .ok (.invokevirtual 133, 3) := by decide +kernel
theorem dX7_longer_21 : decode cX7_longer 21 = .ok (.iconst 5, 1) := by decide +kernel
theorem dX7_longer_22 : decode cX7_longer 22 = .ok (.invokestatic 119, 3) := by decide +kernel
theorem dX7_longer_25 : decode cX7_longer 25 = .ok (.iload_n 2, 1) := by decide +kernel
theorem dX7_longer_26 : decode cX7_longer 26 = .ok (.iastore, 1) := by decide +kernel
theorem dX7_longer_27 : decode cX7_longer 27 = .ok (.return_, 1) := by decide +kernel
set_option maxHeartbeats 800000 in
set_option maxRecDepth 100000 in
theorem c_X7_longer {l : Launch} {ω : xO} {ks : Nat → Option Nat} (hm : xsh ω = mdS ks) {p n : Int} {M : xMem} (hI : MInv M) (hp : 0 ≤ p ∧ p < M 1 1) (hq : 0 ≤ M 1 (113 + 8 * p + 3)) (hn9 : inR n) : Ct l ω yX7_longer ({ frames := 2, cells := 0, slots := 0, locals := 43 } : Room) 3 2 [.ref (xad ω 0), .int (iI p), .int (iI n)] M none (lgN M p n) := by
  refine Ct.of (bytes := cX7_longer) (ret := none) (lv0 := [some (.ref (xad ω 0)), some (.int (iI p)), some (.int (iI n))]) m_cd_X7_longer m_in_X7 (by decide +kernel) (by decide +kernel) rfl rfl rfl rfl (fun hR => lgN_R hR hn9) ?_
  intro κ h he hR
  have hn := hI.1
  have hk := hI.2.1
  have hL := hI.2.2.1
  have ip := hI.2.2.2 p hp.1 hp.2
  have em : up M 1 (113 + 8 * p + 5) n 1 (113 + 8 * p + 3) = M 1 (113 + 8 * p + 3) := up_nn (by omega)
  refine x_aload_n h dX7_longer_0 rfl ?_
  refine x_getr (j := 0) (q := 1) h dX7_longer_1 (sM0 hm) rfl in_X7 rfl (by decide) m_fl_X7_9 ?_
  refine x_iload_n h dX7_longer_4 rfl ?_
  refine x_iconst h dX7_longer_5 ?_
  refine x_S2i h dX7_longer_6 m_ml_X7_119 m_st_X7_at (by decide) rfl (c_X7_at hm) ?_
  refine x_iload_n h dX7_longer_9 rfl ?_
  refine x_iastore h dX7_longer_10 (sM1 hm) (by omega) (by omega) ?_
  refine x_aload_n h dX7_longer_11 rfl ?_
  refine x_getr (j := 0) (q := 1) h dX7_longer_12 (sM0 hm) rfl in_X7 rfl (by decide) m_fl_X7_9 ?_
  refine x_aload_n h dX7_longer_15 rfl ?_
  refine x_iload_n h dX7_longer_16 rfl ?_
  refine x_iconst h dX7_longer_17 ?_
  refine x_V2i h dX7_longer_18 m_ml_X7_133 m_im_X7_personIs m_se_X7_personIs (sM0 hm) rfl (by decide) rfl (c_X7_personIs hm (by omega) (by omega)) ?_
  rw [em]
  refine x_iconst h dX7_longer_21 ?_
  refine x_S2i h dX7_longer_22 m_ml_X7_119 m_st_X7_at (by decide) rfl (c_X7_at hm) ?_
  refine x_iload_n h dX7_longer_25 rfl ?_
  refine x_iastore h dX7_longer_26 (sM1 hm) (by omega) (by omega) ?_
  exact x_vret h he dX7_longer_27 rfl

theorem dX7_length_0 : decode cX7_length 0 = .ok (.aload_n 0, 1) := by decide +kernel
theorem dX7_length_1 : decode cX7_length 1 = .ok (.iload_n 1, 1) := by decide +kernel
theorem dX7_length_2 : decode cX7_length 2 = .ok (.invokevirtual 148, 3) := by decide +kernel
theorem dX7_length_5 : decode cX7_length 5 = .ok (.ifCond .ne 10, 3) := by decide +kernel
theorem dX7_length_8 : decode cX7_length 8 = .ok (.aload_n 0, 1) := by decide +kernel
theorem dX7_length_9 : decode cX7_length 9 = .ok (.ldc 76, 2) := by decide +kernel
theorem dX7_length_11 : decode cX7_length 11 = .ok (.invokevirtual 101, 3) := by decide +kernel
theorem dX7_length_14 : decode cX7_length 14 = .ok (.ireturn, 1) := by decide +kernel
theorem dX7_length_15 : decode cX7_length 15 = .ok (.aload_n 0, 1) := by decide +kernel
theorem dX7_length_16 : decode cX7_length 16 = .ok (.iload_n 1, 1) := by decide +kernel
theorem dX7_length_17 : decode cX7_length 17 = .ok (.invokevirtual 142, 3) := by decide +kernel
theorem dX7_length_20 : decode cX7_length 20 = .ok (.ifCond .ne 10, 3) := by decide +kernel
theorem dX7_length_23 : decode cX7_length 23 = .ok (.aload_n 0, 1) := by decide +kernel
theorem dX7_length_24 : decode cX7_length 24 = .ok (.ldc 177, 2) := by decide +kernel
theorem dX7_length_26 : decode cX7_length 26 = .ok (.invokevirtual 101, 3) := by decide +kernel
theorem dX7_length_29 : decode cX7_length 29 = .ok (.ireturn, 1) := by decide +kernel
theorem dX7_length_30 : decode cX7_length 30 = .ok (.aload_n 0, 1) := by decide +kernel
theorem dX7_length_31 : decode cX7_length 31 = .ok (.iload_n 1, 1) := by decide +kernel
theorem dX7_length_32 : decode cX7_length 32 = .ok (.iconst 5, 1) := by decide +kernel
theorem dX7_length_33 : decode cX7_length 33 = .ok (.invokevirtual 133, 3) := by decide +kernel
theorem dX7_length_36 : decode cX7_length 36 = .ok (.istore_n 2, 1) := by decide +kernel
theorem dX7_length_37 : decode cX7_length 37 = .ok (.iconst 0, 1) := by decide +kernel
theorem dX7_length_38 : decode cX7_length 38 = .ok (.istore_n 3, 1) := by decide +kernel
theorem dX7_length_39 : decode cX7_length 39 = .ok (.aload_n 0, 1) := by decide +kernel
theorem dX7_length_40 : decode cX7_length 40 = .ok (.iload_n 1, 1) := by decide +kernel
theorem dX7_length_41 : decode cX7_length 41 = .ok (.iconst 0, 1) := by decide +kernel
theorem dX7_length_42 : decode cX7_length 42 = .ok (.invokevirtual 237, 3) := by decide +kernel
theorem dX7_length_45 : decode cX7_length 45 = .ok (.iload_n 3, 1) := by decide +kernel
theorem dX7_length_46 : decode cX7_length 46 = .ok (.bipush 99, 2) := by decide +kernel
theorem dX7_length_48 : decode cX7_length 48 = .ok (.if_icmp .gt 25, 3) := by decide +kernel
theorem dX7_length_51 : decode cX7_length 51 = .ok (.aload_n 0, 1) := by decide +kernel
theorem dX7_length_52 : decode cX7_length 52 = .ok (.iload_n 1, 1) := by decide +kernel
theorem dX7_length_53 : decode cX7_length 53 = .ok (.invokevirtual 225, 3) := by decide +kernel
theorem dX7_length_56 : decode cX7_length 56 = .ok (.ldc 224, 2) := by decide +kernel
theorem dX7_length_58 : decode cX7_length 58 = .ok (.if_icmp .ne 15, 3) := by decide +kernel
theorem dX7_length_61 : decode cX7_length 61 = .ok (.iinc 3 1, 3) := by decide +kernel
theorem dX7_length_64 : decode cX7_length 64 = .ok (.aload_n 0, 1) := by decide +kernel
theorem dX7_length_65 : decode cX7_length 65 = .ok (.iload_n 1, 1) := by decide +kernel
theorem dX7_length_66 : decode cX7_length 66 = .ok (.iload_n 3, 1) := by decide +kernel
theorem dX7_length_67 : decode cX7_length 67 = .ok (.invokevirtual 237, 3) := by decide +kernel
theorem dX7_length_70 : decode cX7_length 70 = .ok (.goto (-25), 3) := by decide +kernel
theorem dX7_length_73 : decode cX7_length 73 = .ok (.aload_n 0, 1) := by decide +kernel
theorem dX7_length_74 : decode cX7_length 74 = .ok (.iload_n 1, 1) := by decide +kernel
theorem dX7_length_75 : decode cX7_length 75 = .ok (.iload_n 2, 1) := by decide +kernel
theorem dX7_length_76 : decode cX7_length 76 = .ok (.invokevirtual 237, 3) := by decide +kernel
theorem dX7_length_79 : decode cX7_length 79 = .ok (.iload_n 3, 1) := by decide +kernel
theorem dX7_length_80 : decode cX7_length 80 = .ok (.bipush 99, 2) := by decide +kernel
theorem dX7_length_82 : decode cX7_length 82 = .ok (.if_icmp .le 12, 3) := by decide +kernel
theorem dX7_length_85 : decode cX7_length 85 = .ok (.aload_n 0, 1) := by decide +kernel
theorem dX7_length_86 : decode cX7_length 86 = .ok (.ldc 177, 2) := by decide +kernel
theorem dX7_length_88 : decode cX7_length 88 = .ok (.invokevirtual 101, 3) := by decide +kernel
theorem dX7_length_91 : decode cX7_length 91 = .ok (.goto 4, 3) := by decide +kernel
theorem dX7_length_94 : decode cX7_length 94 = .ok (.iload_n 3, 1) := by decide +kernel
theorem dX7_length_95 : decode cX7_length 95 = .ok (.ireturn, 1) := by decide +kernel
set_option maxHeartbeats 800000 in
set_option maxRecDepth 100000 in
theorem c_X7_length {l : Launch} {ω : xO} {ks : Nat → Option Nat} (hm : xsh ω = mdS ks) {p : Int} {M : xMem} (hI : MInv M) (hf : Fc M) (hp : inR p) (hcl : M 1 0 ≤ 1000000) (hs5 : 0 ≤ p → p < M 1 1 → 0 ≤ M 1 (113 + 8 * p + 3) → M 1 (113 + 8 * M 1 (113 + 8 * p + 3) + 5) = M 1 (113 + 8 * p + 5)) : Cq l ω yX7_length ({ frames := 8, cells := 0, slots := 0, locals := 179 } : Room) 4 1 [.ref (xad ω 0), .int (iI p)] M (pI1 (fun r N' => r = nlnR M p ∧ QuE (nlnM M p) N')) := by
  refine Cq.of (bytes := cX7_length) (ret := (some .int)) (lv0 := [some (.ref (xad ω 0)), some (.int (iI p)), none, none]) m_cd_X7_length m_in_X7 (by decide +kernel) (by decide +kernel) rfl rfl rfl rfl ?_
  intro κ h he hR
  have hn := hI.1
  refine x_aload_n h dX7_length_0 rfl ?_
  refine x_iload_n h dX7_length_1 rfl ?_
  refine x_V1i h dX7_length_2 m_ml_X7_148 m_im_X7_isPerson m_se_X7_isPerson (sM0 hm) rfl (by decide) rfl (c_X7_isPerson hm (by omega) (by omega)) ?_
  refine x_ifneB h dX7_length_5 (tgt := 15) (by decide) (fun q5 => ?_) (fun q5 => ?_)
  · refine x_aload_n h dX7_length_15 rfl ?_
    refine x_iload_n h dX7_length_16 rfl ?_
    refine x_V1i h dX7_length_17 m_ml_X7_142 m_im_X7_hasMate m_se_X7_hasMate (sM0 hm) rfl (by decide) rfl (c_X7_hasMate hm (by exact hI) (by first | omega | (simp only [ca_1]; omega))) ?_
    refine x_ifneB h dX7_length_20 (tgt := 30) (by decide) (fun q20 => ?_) (fun q20 => ?_)
    · refine x_aload_n h dX7_length_30 rfl ?_
      refine x_iload_n h dX7_length_31 rfl ?_
      refine x_iconst h dX7_length_32 ?_
      refine x_V2i h dX7_length_33 m_ml_X7_133 m_im_X7_personIs m_se_X7_personIs (sM0 hm) rfl (by decide) rfl (c_X7_personIs hm (by omega) (by omega)) ?_
      refine x_istore_n h dX7_length_36 rfl rfl ?_
      dsimp only [xset]
      refine x_iconst h dX7_length_37 ?_
      refine x_istore_n h dX7_length_38 rfl rfl ?_
      dsimp only [xset]
      refine x_aload_n h dX7_length_39 rfl ?_
      refine x_iload_n h dX7_length_40 rfl ?_
      refine x_iconst h dX7_length_41 ?_
      refine x_V2v h dX7_length_42 m_ml_X7_237 m_im_X7_longer m_se_X7_longer (sM0 hm) rfl (by decide) rfl (c_X7_longer hm (by exact hI) (by first | omega | (simp only [ca_1]; omega)) (by first | omega | (simp only [ca_1]; omega)) (by first | omega | (simp only [ca_1]; omega))) ?_
      have hm0 : 0 ≤ M 1 (113 + 8 * p + 3) := q20
      have hpp : 0 ≤ p ∧ p < M 1 1 := q5
      have ip := hI.2.2.2 p hpp.1 hpp.2
      have HH : ∀ (k n : Nat) (N : xMem), n + k = 100 → QuR (lgN M p n) N → Fc N → lnF M p k n = lnN M p → X ω κ 45 [some (.ref (xad ω 0)), some (.int (iI p)), some (.int (iI (M 1 (113 + 8 * p + 5)))), some (.int (iI (n : Int)))] [] N := by
        intro k
        induction k with
        | zero =>
          intro n N e hq hF hw
          unfold lnF at hw
          have hIN : MInv N := hq.inv (lgN_I hI hpp hm0 (by omega))
          have hn1 : N 1 1 = M 1 1 := by rw [hq.1]; exact lgN_n hpp.1 hm0 (by decide)
          have hk1 : N 1 0 = M 1 0 := by rw [hq.1]; exact lgN_n hpp.1 hm0 (by decide)
          have hm1 : N 1 (113 + 8 * p + 3) = M 1 (113 + 8 * p + 3) := by rw [hq.1]; exact lgN_m
          refine x_iload_n h dX7_length_45 rfl ?_
          refine x_bipush h dX7_length_46 (by decide) ?_
          refine x_icmp_gt h dX7_length_48 (tgt := 73) (by decide) (by omega) (by omega) (fun q48 => ?_) (fun q48 => ?_)
          · have hQB : QuR M (lgN N p (M 1 (113 + 8 * p + 5))) := lg_b hq rfl (hs5 hpp.1 hpp.2 hm0)
            have hFB : Fc (lgN N p (M 1 (113 + 8 * p + 5))) := lgN_F hpp.1 (by omega) hF
            refine x_aload_n h dX7_length_73 rfl ?_
            refine x_iload_n h dX7_length_74 rfl ?_
            refine x_iload_n h dX7_length_75 rfl ?_
            refine x_V2v h dX7_length_76 m_ml_X7_237 m_im_X7_longer m_se_X7_longer (sM0 hm) rfl (by decide) rfl (c_X7_longer hm hIN (by omega) (by omega) (by omega)) ?_
            refine x_iload_n h dX7_length_79 rfl ?_
            refine x_bipush h dX7_length_80 (by decide) ?_
            refine x_icmp_le h dX7_length_82 (tgt := 94) (by decide) (by omega) (by omega) (fun q82 => ?_) (fun q82 => ?_)
            · exfalso; omega
            · refine x_aload_n h dX7_length_85 rfl ?_
              refine x_ldc h m_k_X7_177 dX7_length_86 ?_
              refine x_V1i h dX7_length_88 m_ml_X7_101 m_im_X7_finding m_se_X7_finding (sM0 hm) rfl (by decide) rfl (c_X7_finding hm (by omega)) ?_
              refine x_goto h dX7_length_91 (tgt := 95) (by decide) ?_
              exact x_iretq h he dX7_length_95 ⟨by unfold nlnR; rw [if_pos hpp, if_pos hm0]; first | rw [if_pos (by omega)] | (rw [if_neg (by omega)]; omega), by unfold nlnM; rw [if_pos hpp, if_pos hm0]; first | (rw [if_pos (by omega)]; exact (QuE.fn ⟨hQB, hFB⟩)) | (rw [if_neg (by omega)]; exact ⟨hQB, hFB⟩)⟩
          · exfalso; omega
        | succ k ih =>
          intro n N e hq hF hw
          unfold lnF at hw
          have hIN : MInv N := hq.inv (lgN_I hI hpp hm0 (by omega))
          have hn1 : N 1 1 = M 1 1 := by rw [hq.1]; exact lgN_n hpp.1 hm0 (by decide)
          have hk1 : N 1 0 = M 1 0 := by rw [hq.1]; exact lgN_n hpp.1 hm0 (by decide)
          have hm1 : N 1 (113 + 8 * p + 3) = M 1 (113 + 8 * p + 3) := by rw [hq.1]; exact lgN_m
          have hcw := nwhN_c hq.1 p
          have hwR := nwhN_R N p
          refine x_iload_n h dX7_length_45 rfl ?_
          refine x_bipush h dX7_length_46 (by decide) ?_
          refine x_icmp_gt h dX7_length_48 (tgt := 73) (by decide) (by omega) (by omega) (fun q48 => ?_) (fun q48 => ?_)
          · exfalso; omega
          · refine x_aload_n h dX7_length_51 rfl ?_
            refine x_iload_n h dX7_length_52 rfl ?_
            refine x_Q1i h dX7_length_53 m_ml_X7_225 m_im_X7_whenThere m_se_X7_whenThere (sM0 hm) rfl (by decide) rfl (c_X7_whenThere hm hIN hF (by omega) (by omega)) (fun r53 N53 h53 => ?_)
            obtain ⟨rfl, hQ53⟩ := h53
            refine x_ldc h m_k_X7_224 dX7_length_56 ?_
            have hq2 : QuR (lgN M p (n : Int)) N53 := hq.tr hQ53.1
            have hm2 : N53 1 (113 + 8 * p + 3) = M 1 (113 + 8 * p + 3) := by rw [hq2.1]; exact lgN_m
            have hn2 : N53 1 1 = M 1 1 := by rw [hq2.1]; exact lgN_n hpp.1 hm0 (by decide)
            have hI2 : MInv N53 := hq2.inv (lgN_I hI hpp hm0 (by omega))
            have hQB : QuR M (lgN N53 p (M 1 (113 + 8 * p + 5))) := lg_b hq2 rfl (hs5 hpp.1 hpp.2 hm0)
            have hFB : Fc (lgN N53 p (M 1 (113 + 8 * p + 5))) := lgN_F hpp.1 (by omega) hQ53.2
            refine x_icmp_ne h dX7_length_58 (tgt := 73) (by decide) (by omega) (by omega) (fun q58 => ?_) (fun q58 => ?_)
            · refine x_aload_n h dX7_length_73 rfl ?_
              refine x_iload_n h dX7_length_74 rfl ?_
              refine x_iload_n h dX7_length_75 rfl ?_
              refine x_V2v h dX7_length_76 m_ml_X7_237 m_im_X7_longer m_se_X7_longer (sM0 hm) rfl (by decide) rfl (c_X7_longer hm hI2 (by omega) (by omega) (by omega)) ?_
              refine x_iload_n h dX7_length_79 rfl ?_
              refine x_bipush h dX7_length_80 (by decide) ?_
              refine x_icmp_le h dX7_length_82 (tgt := 94) (by decide) (by omega) (by omega) (fun q82 => ?_) (fun q82 => ?_)
              · refine x_iload_n h dX7_length_94 rfl ?_
                exact x_iretq h he dX7_length_95 ⟨by rw [if_neg (by omega)] at hw; unfold nlnR; rw [if_pos hpp, if_pos hm0]; first | rw [if_pos (by omega)] | (rw [if_neg (by omega)]; omega), by rw [if_neg (by omega)] at hw; unfold nlnM; rw [if_pos hpp, if_pos hm0]; first | (rw [if_pos (by omega)]; exact (QuE.fn ⟨hQB, hFB⟩)) | (rw [if_neg (by omega)]; exact ⟨hQB, hFB⟩)⟩
              · refine x_aload_n h dX7_length_85 rfl ?_
                refine x_ldc h m_k_X7_177 dX7_length_86 ?_
                refine x_V1i h dX7_length_88 m_ml_X7_101 m_im_X7_finding m_se_X7_finding (sM0 hm) rfl (by decide) rfl (c_X7_finding hm (by omega)) ?_
                try simp only [ca_ca, ca_1, dN_ca, wyM_ca, plN_ca, rpN_ca, ltN_ca, pmN_ca, wnN_ca, nbN_ca, ca_07, ca_08, ca_09, ca_010, beN_ca, ctN_ca, gonN_ca, mvN_ca, stN_ca, thN_ca, fnM_ca, tiN_ca, smN_ca, frN_ca, teN_ca]
                refine x_goto h dX7_length_91 (tgt := 95) (by decide) ?_
                exact x_iretq h he dX7_length_95 ⟨by rw [if_neg (by omega)] at hw; unfold nlnR; rw [if_pos hpp, if_pos hm0]; first | rw [if_pos (by omega)] | (rw [if_neg (by omega)]; omega), by rw [if_neg (by omega)] at hw; unfold nlnM; rw [if_pos hpp, if_pos hm0]; first | (rw [if_pos (by omega)]; exact (QuE.fn ⟨hQB, hFB⟩)) | (rw [if_neg (by omega)]; exact ⟨hQB, hFB⟩)⟩
            · refine x_iinc h dX7_length_61 rfl rfl rfl ?_
              dsimp only [xset]
              refine x_aload_n h dX7_length_64 rfl ?_
              refine x_iload_n h dX7_length_65 rfl ?_
              refine x_iload_n h dX7_length_66 rfl ?_
              refine x_V2v h dX7_length_67 m_ml_X7_237 m_im_X7_longer m_se_X7_longer (sM0 hm) rfl (by decide) rfl (c_X7_longer hm hI2 (by omega) (by omega) (by omega)) ?_
              refine x_goto h dX7_length_70 (tgt := 45) (by decide) ?_
              rw [if_pos (by omega)] at hw
              exact ih (n + 1) _ (by omega) (lg_q hq2) (lgN_F hpp.1 (by omega) hQ53.2) hw
      exact HH 100 0 _ (by omega) QuR.rf (lgN_F hpp.1 hm0 hf) rfl
    · refine x_aload_n h dX7_length_23 rfl ?_
      refine x_ldc h m_k_X7_177 dX7_length_24 ?_
      refine x_V1i h dX7_length_26 m_ml_X7_101 m_im_X7_finding m_se_X7_finding (sM0 hm) rfl (by decide) rfl (c_X7_finding hm (by omega)) ?_
      exact x_iretq h he dX7_length_29 ⟨by unfold nlnR; first | rw [if_neg (by omega)] | rw [if_pos (by omega), if_neg (by omega)], by unfold nlnM; first | (rw [if_neg (by omega)]; exact (QuE.rf hf).fn) | (rw [if_pos (by omega), if_neg (by omega)]; exact (QuE.rf hf).fn)⟩
  · refine x_aload_n h dX7_length_8 rfl ?_
    refine x_ldc h m_k_X7_76 dX7_length_9 ?_
    refine x_V1i h dX7_length_11 m_ml_X7_101 m_im_X7_finding m_se_X7_finding (sM0 hm) rfl (by decide) rfl (c_X7_finding hm (by omega)) ?_
    exact x_iretq h he dX7_length_14 ⟨by unfold nlnR; first | rw [if_neg (by omega)] | rw [if_pos (by omega), if_neg (by omega)], by unfold nlnM; first | (rw [if_neg (by omega)]; exact (QuE.rf hf).fn) | (rw [if_pos (by omega), if_neg (by omega)]; exact (QuE.rf hf).fn)⟩

/-- the first of so many with which, in one place of the row, one is there soonest -/
noncomputable def snG (M : xMem) (i p : Int) (v : Int) (st : Int × Int) : Int × Int := (if nwhN (up M 1 i v) p < st.2 then v else st.1, min st.2 (nwhN (up M 1 i v) p))
noncomputable def snN (M : xMem) (i p : Int) (n : Nat) : Int × Int := xfo (snG M i p) (-1, 1000000) n
theorem snN_s (M : xMem) (i p : Int) (n : Nat) : snN M i p (n + 1) = snG M i p (n : Int) (snN M i p n) := by
  unfold snN
  rw [xfo_s (snG M i p) (-1, 1000000) n]
theorem snN_R (M : xMem) (i p : Int) : ∀ n : Nat, (-1 ≤ (snN M i p n).1 ∧ (snN M i p n).1 < n) ∧ (0 ≤ (snN M i p n).2 ∧ (snN M i p n).2 ≤ 1000000) := by
  intro n
  induction n with
  | zero =>
    show (-1 ≤ (-1 : Int) ∧ (-1 : Int) < ((0 : Nat) : Int)) ∧ (0 ≤ (1000000 : Int) ∧ (1000000 : Int) ≤ 1000000)
    omega
  | succ n ih =>
    have := nwhN_R (up M 1 i (n : Int)) p
    rw [snN_s]
    unfold snG
    refine ⟨?_, ?_⟩
    · show -1 ≤ (if _ then _ else _) ∧ (if _ then _ else _) < _
      split <;> omega
    · show 0 ≤ min _ _ ∧ min _ _ ≤ _
      omega
noncomputable def snA (M : xMem) (i p : Int) (n : Int) : Int := if (snN M i p n.toNat).1 < 0 then -1000004 else (snN M i p n.toNat).1
noncomputable def snM (M : xMem) (i p : Int) (n : Int) : xMem := if (snN M i p n.toNat).1 < 0 then fnM M (-1000004) else M
theorem up_q {M N : xMem} {i z v : Int} (h : QuR (up M 1 i z) N) : QuR (up M 1 i v) (up N 1 i v) := by
  have key : up N 1 i v 1 = up M 1 i v 1 := by
    rw [up_s, up_s, h.1, up_s]
    funext j
    unfold ur
    split <;> rfl
  refine ⟨key, fun k a b c => ?_, h.2.2⟩
  by_cases hk : k = 1
  · subst hk; exact key
  · rw [up_n hk, up_n hk]
    have := h.2.1 k a b c
    rw [up_n hk] at this
    exact this
theorem up_b {M N : xMem} {i z : Int} (h : QuR (up M 1 i z) N) : QuR M (up N 1 i (M 1 i)) := by
  have := up_q (v := M 1 i) h
  rw [show up M 1 i (M 1 i) = M from by
    funext k
    by_cases hk : k = 1
    · subst hk; rw [up_s]; funext j; unfold ur; split
      · rename_i g; rw [g]
      · rfl
    · rw [up_n hk]] at this
  exact this
theorem up_self1 {M : xMem} {i : Int} : up M 1 i (M 1 i) = M := by
  funext k
  by_cases hk : k = 1
  · subst hk; rw [up_s]; funext j; unfold ur; split
    · rename_i g; rw [g]
    · rfl
  · rw [up_n hk]
theorem dX7_soonestWith_0 : decode cX7_soonestWith 0 = .ok (.aload_n 0, 1) := by decide +kernel
theorem dX7_soonestWith_1 : decode cX7_soonestWith 1 = .ok (.getfield 9, 3) := by decide +kernel
theorem dX7_soonestWith_4 : decode cX7_soonestWith 4 = .ok (.iload_n 1, 1) := by decide +kernel
theorem dX7_soonestWith_5 : decode cX7_soonestWith 5 = .ok (.iaload, 1) := by decide +kernel
theorem dX7_soonestWith_6 : decode cX7_soonestWith 6 = .ok (.istore 4, 2) := by decide +kernel
theorem dX7_soonestWith_8 : decode cX7_soonestWith 8 = .ok (.iconst (-1), 1) := by decide +kernel
theorem dX7_soonestWith_9 : decode cX7_soonestWith 9 = .ok (.istore 5, 2) := by decide +kernel
theorem dX7_soonestWith_11 : decode cX7_soonestWith 11 = .ok (.ldc 224, 2) := by decide +kernel
theorem dX7_soonestWith_13 : decode cX7_soonestWith 13 = .ok (.istore 6, 2) := by decide +kernel
theorem dX7_soonestWith_15 : decode cX7_soonestWith 15 = .ok (.iconst 0, 1) := by decide +kernel
theorem dX7_soonestWith_16 : decode cX7_soonestWith 16 = .ok (.istore 7, 2) := by decide +kernel
theorem dX7_soonestWith_18 : decode cX7_soonestWith 18 = .ok (.iload 7, 2) := by decide +kernel
theorem dX7_soonestWith_20 : decode cX7_soonestWith 20 = .ok (.iload_n 2, 1) := by decide +kernel
theorem dX7_soonestWith_21 : decode cX7_soonestWith 21 = .ok (.if_icmp .ge 49, 3) := by decide +kernel
theorem dX7_soonestWith_24 : decode cX7_soonestWith 24 = .ok (.aload_n 0, 1) := by decide +kernel
theorem dX7_soonestWith_25 : decode cX7_soonestWith 25 = .ok (.getfield 9, 3) := by decide +kernel
theorem dX7_soonestWith_28 : decode cX7_soonestWith 28 = .ok (.iload_n 1, 1) := by decide +kernel
theorem dX7_soonestWith_29 : decode cX7_soonestWith 29 = .ok (.iload 7, 2) := by decide +kernel
theorem dX7_soonestWith_31 : decode cX7_soonestWith 31 = .ok (.iastore, 1) := by decide +kernel
theorem dX7_soonestWith_32 : decode cX7_soonestWith 32 = .ok (.aload_n 0, 1) := by decide +kernel
theorem dX7_soonestWith_33 : decode cX7_soonestWith 33 = .ok (.iload_n 3, 1) := by decide +kernel
theorem dX7_soonestWith_34 : decode cX7_soonestWith 34 = .ok (.invokevirtual 225, 3) := by decide +kernel
theorem dX7_soonestWith_37 : decode cX7_soonestWith 37 = .ok (.istore 8, 2) := by decide +kernel
theorem dX7_soonestWith_39 : decode cX7_soonestWith 39 = .ok (.iload 8, 2) := by decide +kernel
theorem dX7_soonestWith_41 : decode cX7_soonestWith 41 = .ok (.iload 6, 2) := by decide +kernel
theorem dX7_soonestWith_43 : decode cX7_soonestWith 43 = .ok (.if_icmp .ge 8, 3) := by decide +kernel
theorem dX7_soonestWith_46 : decode cX7_soonestWith 46 = .ok (.iload 7, 2) := by decide +kernel
theorem dX7_soonestWith_48 : decode cX7_soonestWith 48 = .ok (.goto 5, 3) := by decide +kernel
theorem dX7_soonestWith_51 : decode cX7_soonestWith 51 = .ok (.iload 5, 2) := by decide +kernel
theorem dX7_soonestWith_53 : decode cX7_soonestWith 53 = .ok (.istore 5, 2) := by decide +kernel
theorem dX7_soonestWith_55 : decode cX7_soonestWith 55 = .ok (.iload 6, 2) := by decide +kernel
theorem dX7_soonestWith_57 : decode cX7_soonestWith 57 = .ok (.iload 8, 2) := by decide +kernel
theorem dX7_soonestWith_59 : decode cX7_soonestWith 59 = .ok (.invokestatic 108, 3) := by decide +kernel
theorem dX7_soonestWith_62 : decode cX7_soonestWith 62 = .ok (.istore 6, 2) := by decide +kernel
theorem dX7_soonestWith_64 : decode cX7_soonestWith 64 = .ok (.iinc 7 1, 3) := by decide +kernel
theorem dX7_soonestWith_67 : decode cX7_soonestWith 67 = .ok (.goto (-49), 3) := by decide +kernel
theorem dX7_soonestWith_70 : decode cX7_soonestWith 70 = .ok (.aload_n 0, 1) := by decide +kernel
theorem dX7_soonestWith_71 : decode cX7_soonestWith 71 = .ok (.getfield 9, 3) := by decide +kernel
theorem dX7_soonestWith_74 : decode cX7_soonestWith 74 = .ok (.iload_n 1, 1) := by decide +kernel
theorem dX7_soonestWith_75 : decode cX7_soonestWith 75 = .ok (.iload 4, 2) := by decide +kernel
theorem dX7_soonestWith_77 : decode cX7_soonestWith 77 = .ok (.iastore, 1) := by decide +kernel
theorem dX7_soonestWith_78 : decode cX7_soonestWith 78 = .ok (.iload 5, 2) := by decide +kernel
theorem dX7_soonestWith_80 : decode cX7_soonestWith 80 = .ok (.ifCond .ge 12, 3) := by decide +kernel
theorem dX7_soonestWith_83 : decode cX7_soonestWith 83 = .ok (.aload_n 0, 1) := by decide +kernel
theorem dX7_soonestWith_84 : decode cX7_soonestWith 84 = .ok (.ldc 177, 2) := by decide +kernel
theorem dX7_soonestWith_86 : decode cX7_soonestWith 86 = .ok (.invokevirtual 101, 3) := by decide +kernel
theorem dX7_soonestWith_89 : decode cX7_soonestWith 89 = .ok (.goto 5, 3) := by decide +kernel
theorem dX7_soonestWith_92 : decode cX7_soonestWith 92 = .ok (.iload 5, 2) := by decide +kernel
theorem dX7_soonestWith_94 : decode cX7_soonestWith 94 = .ok (.ireturn, 1) := by decide +kernel
set_option maxHeartbeats 800000 in
set_option maxRecDepth 100000 in
theorem c_X7_soonestWith {l : Launch} {ω : xO} {ks : Nat → Option Nat} (hm : xsh ω = mdS ks) {q g n p : Int} {M : xMem} (hI : MInv M) (hf : Fc M) (hqq : 0 ≤ q ∧ q < M 1 1) (hg : 0 ≤ g ∧ g < 8) (hn9 : 0 ≤ n ∧ n ≤ 10) (hv : ∀ v, 0 ≤ v → v < n → fOk (M 1 1) g v) (hz0 : fOk (M 1 1) g (M 1 (113 + 8 * q + g))) (hp : 0 ≤ p ∧ p < M 1 1) (hcl : M 1 0 ≤ 1000000) : Cq l ω yX7_soonestWith ({ frames := 8, cells := 0, slots := 0, locals := 179 } : Room) 9 3 [.ref (xad ω 0), .int (iI (113 + 8 * q + g)), .int (iI n), .int (iI p)] M (pI1 (fun r N' => r = snA M (113 + 8 * q + g) p n ∧ QuE (snM M (113 + 8 * q + g) p n) N')) := by
  refine Cq.of (bytes := cX7_soonestWith) (ret := (some .int)) (lv0 := [some (.ref (xad ω 0)), some (.int (iI (113 + 8 * q + g))), some (.int (iI n)), some (.int (iI p)), none, none, none, none, none]) m_cd_X7_soonestWith m_in_X7 (by decide +kernel) (by decide +kernel) rfl rfl rfl rfl ?_
  intro κ h he hR
  have hn := hI.1
  refine x_aload_n h dX7_soonestWith_0 rfl ?_
  refine x_getr (j := 0) (q := 1) h dX7_soonestWith_1 (sM0 hm) rfl in_X7 rfl (by decide) m_fl_X7_9 ?_
  refine x_iload_n h dX7_soonestWith_4 rfl ?_
  refine x_iaload h dX7_soonestWith_5 (sM1 hm) (by omega) (fun r5 => ?_)
  refine x_istore h dX7_soonestWith_6 rfl rfl ?_
  dsimp only [xset]
  refine x_iconst h dX7_soonestWith_8 ?_
  refine x_istore h dX7_soonestWith_9 rfl rfl ?_
  dsimp only [xset]
  refine x_ldc h m_k_X7_224 dX7_soonestWith_11 ?_
  refine x_istore h dX7_soonestWith_13 rfl rfl ?_
  dsimp only [xset]
  refine x_iconst h dX7_soonestWith_15 ?_
  refine x_istore h dX7_soonestWith_16 rfl rfl ?_
  dsimp only [xset]
  have HH : ∀ (k v : Nat) (N : xMem) (z : Int), v + k = n.toNat → fOk (M 1 1) g z → QuR (up M 1 (113 + 8 * q + g) z) N → Fc N → X ω κ 18 [some (.ref (xad ω 0)), some (.int (iI (113 + 8 * q + g))), some (.int (iI n)), some (.int (iI p)), some (.int (iI (M 1 (113 + 8 * q + g)))), some (.int (iI (snN M (113 + 8 * q + g) p v).1)), some (.int (iI (snN M (113 + 8 * q + g) p v).2)), some (.int (iI (v : Int))), none] [] N := by
    intro k
    induction k with
    | zero =>
      intro v N z e hz hq hF
      have ev : v = n.toNat := by omega
      subst ev
      have sr := snN_R M (113 + 8 * q + g) p n.toNat
      refine x_iload h dX7_soonestWith_18 rfl ?_
      refine x_iload_n h dX7_soonestWith_20 rfl ?_
      refine x_icmp_ge h dX7_soonestWith_21 (tgt := 70) (by decide) (by omega) (by omega) (fun q21 => ?_) (fun q21 => ?_)
      · refine x_aload_n h dX7_soonestWith_70 rfl ?_
        refine x_getr (j := 0) (q := 1) h dX7_soonestWith_71 (sM0 hm) rfl in_X7 rfl (by decide) m_fl_X7_9 ?_
        refine x_iload_n h dX7_soonestWith_74 rfl ?_
        refine x_iload h dX7_soonestWith_75 rfl ?_
        refine x_iastore h dX7_soonestWith_77 (sM1 hm) (by omega) (by omega) ?_
        have hQB : QuR M (up N 1 (113 + 8 * q + g) (M 1 (113 + 8 * q + g))) := up_b hq
        have hFB : Fc (up N 1 (113 + 8 * q + g) (M 1 (113 + 8 * q + g))) := Fc_e1 (wyM_up (by omega)) rfl rfl hF
        refine x_iload h dX7_soonestWith_78 rfl ?_
        refine x_if_ge h dX7_soonestWith_80 (tgt := 92) (by decide) (by omega) (fun q80 => ?_) (fun q80 => ?_)
        · refine x_iload h dX7_soonestWith_92 rfl ?_
          exact x_iretq h he dX7_soonestWith_94 ⟨by unfold snA; first | rw [if_pos (by omega)] | rw [if_neg (by omega)], by unfold snM; first | (rw [if_pos (by omega)]; exact (QuE.fn ⟨hQB, hFB⟩)) | (rw [if_neg (by omega)]; exact ⟨hQB, hFB⟩)⟩
        · refine x_aload_n h dX7_soonestWith_83 rfl ?_
          refine x_ldc h m_k_X7_177 dX7_soonestWith_84 ?_
          refine x_V1i h dX7_soonestWith_86 m_ml_X7_101 m_im_X7_finding m_se_X7_finding (sM0 hm) rfl (by decide) rfl (c_X7_finding hm (by omega)) ?_
          refine x_goto h dX7_soonestWith_89 (tgt := 94) (by decide) ?_
          exact x_iretq h he dX7_soonestWith_94 ⟨by unfold snA; first | rw [if_pos (by omega)] | rw [if_neg (by omega)], by unfold snM; first | (rw [if_pos (by omega)]; exact (QuE.fn ⟨hQB, hFB⟩)) | (rw [if_neg (by omega)]; exact ⟨hQB, hFB⟩)⟩
      · exfalso; omega
    | succ k ih =>
      intro v N z e hz hq hF
      have sr := snN_R M (113 + 8 * q + g) p v
      have hzv : fOk (M 1 1) g (v : Int) := hv (v : Int) (by omega) (by omega)
      have hq2 : QuR (up M 1 (113 + 8 * q + g) (v : Int)) (up N 1 (113 + 8 * q + g) (v : Int)) := up_q hq
      have hI2 : MInv (up N 1 (113 + 8 * q + g) (v : Int)) := hq2.inv (hI.up1 hqq hzv)
      have hn2 : up N 1 (113 + 8 * q + g) (v : Int) 1 1 = M 1 1 := by rw [hq2.1, up_nn (by omega)]
      have hk2 : up N 1 (113 + 8 * q + g) (v : Int) 1 0 = M 1 0 := by rw [hq2.1, up_nn (by omega)]
      have hF2 : Fc (up N 1 (113 + 8 * q + g) (v : Int)) := Fc_e1 (wyM_up (by omega)) rfl rfl hF
      have hcw := nwhN_c hq2.1 p
      have hwR := nwhN_R (up M 1 (113 + 8 * q + g) (v : Int)) p
      have ihv := ih (v + 1)
      rw [snN_s M (113 + 8 * q + g) p v] at ihv
      unfold snG at ihv
      refine x_iload h dX7_soonestWith_18 rfl ?_
      refine x_iload_n h dX7_soonestWith_20 rfl ?_
      refine x_icmp_ge h dX7_soonestWith_21 (tgt := 70) (by decide) (by omega) (by omega) (fun q21 => ?_) (fun q21 => ?_)
      · exfalso; omega
      · refine x_aload_n h dX7_soonestWith_24 rfl ?_
        refine x_getr (j := 0) (q := 1) h dX7_soonestWith_25 (sM0 hm) rfl in_X7 rfl (by decide) m_fl_X7_9 ?_
        refine x_iload_n h dX7_soonestWith_28 rfl ?_
        refine x_iload h dX7_soonestWith_29 rfl ?_
        refine x_iastore h dX7_soonestWith_31 (sM1 hm) (by omega) (by omega) ?_
        refine x_aload_n h dX7_soonestWith_32 rfl ?_
        refine x_iload_n h dX7_soonestWith_33 rfl ?_
        refine x_Q1i h dX7_soonestWith_34 m_ml_X7_225 m_im_X7_whenThere m_se_X7_whenThere (sM0 hm) rfl (by decide) rfl (c_X7_whenThere hm hI2 hF2 (by omega) (by omega)) (fun r34 N34 h34 => ?_)
        obtain ⟨rfl, hQ34⟩ := h34
        rw [hcw]
        refine x_istore h dX7_soonestWith_37 rfl rfl ?_
        dsimp only [xset]
        refine x_iload h dX7_soonestWith_39 rfl ?_
        refine x_iload h dX7_soonestWith_41 rfl ?_
        refine x_icmp_ge h dX7_soonestWith_43 (tgt := 51) (by decide) (by omega) (by omega) (fun q43 => ?_) (fun q43 => ?_)
        · refine x_iload h dX7_soonestWith_51 rfl ?_
          refine x_istore h dX7_soonestWith_53 rfl rfl ?_
          dsimp only [xset]
          refine x_iload h dX7_soonestWith_55 rfl ?_
          refine x_iload h dX7_soonestWith_57 rfl ?_
          refine x_min h dX7_soonestWith_59 m_ml_X7_108 rfl (by decide) (by omega) (by omega) ?_
          refine x_istore h dX7_soonestWith_62 rfl rfl ?_
          dsimp only [xset]
          refine x_iinc h dX7_soonestWith_64 rfl rfl rfl ?_
          dsimp only [xset]
          refine x_goto h dX7_soonestWith_67 (tgt := 18) (by decide) ?_
          refine x_drop 8 ?_
          dsimp only [xclr]
          first
            | (rw [if_neg (by omega)] at ihv; exact ihv _ _ (by omega) hzv (hq2.tr hQ34.1) hQ34.2)
            | (rw [if_pos (by omega)] at ihv; exact ihv _ _ (by omega) hzv (hq2.tr hQ34.1) hQ34.2)
        · refine x_iload h dX7_soonestWith_46 rfl ?_
          refine x_goto h dX7_soonestWith_48 (tgt := 53) (by decide) ?_
          refine x_istore h dX7_soonestWith_53 rfl rfl ?_
          dsimp only [xset]
          refine x_iload h dX7_soonestWith_55 rfl ?_
          refine x_iload h dX7_soonestWith_57 rfl ?_
          refine x_min h dX7_soonestWith_59 m_ml_X7_108 rfl (by decide) (by omega) (by omega) ?_
          refine x_istore h dX7_soonestWith_62 rfl rfl ?_
          dsimp only [xset]
          refine x_iinc h dX7_soonestWith_64 rfl rfl rfl ?_
          dsimp only [xset]
          refine x_goto h dX7_soonestWith_67 (tgt := 18) (by decide) ?_
          refine x_drop 8 ?_
          dsimp only [xclr]
          first
            | (rw [if_neg (by omega)] at ihv; exact ihv _ _ (by omega) hzv (hq2.tr hQ34.1) hQ34.2)
            | (rw [if_pos (by omega)] at ihv; exact ihv _ _ (by omega) hzv (hq2.tr hQ34.1) hQ34.2)
  exact HH n.toNat 0 M (M 1 (113 + 8 * q + g)) (by omega) hz0 (by rw [show up M 1 (113 + 8 * q + g) (M 1 (113 + 8 * q + g)) = M from up_self1]; exact QuR.rf) hf

noncomputable def nkiR (M : xMem) (p : Int) : Int := if 0 ≤ p ∧ p < M 1 1 then snA M (113 + 8 * p + 0) p 7 else -1000001
noncomputable def nkiM (M : xMem) (p : Int) : xMem := if 0 ≤ p ∧ p < M 1 1 then snM M (113 + 8 * p + 0) p 7 else fnM M (-1000001)
noncomputable def nleR (M : xMem) (p : Int) : Int := if 0 ≤ p ∧ p < M 1 1 then (if 0 ≤ M 1 (113 + 8 * p + 3) then snA M (113 + 8 * M 1 (113 + 8 * p + 3) + 2) p 10 else -1000004) else -1000001
noncomputable def nleM (M : xMem) (p : Int) : xMem := if 0 ≤ p ∧ p < M 1 1 then (if 0 ≤ M 1 (113 + 8 * p + 3) then snM M (113 + 8 * M 1 (113 + 8 * p + 3) + 2) p 10 else fnM M (-1000004)) else fnM M (-1000001)
theorem dX7_kindFor_0 : decode cX7_kindFor 0 = .ok (.aload_n 0, 1) := by decide +kernel
theorem dX7_kindFor_1 : decode cX7_kindFor 1 = .ok (.iload_n 1, 1) := by decide +kernel
theorem dX7_kindFor_2 : decode cX7_kindFor 2 = .ok (.invokevirtual 148, 3) := by decide +kernel
theorem dX7_kindFor_5 : decode cX7_kindFor 5 = .ok (.ifCond .eq 18, 3) := by decide +kernel
theorem dX7_kindFor_8 : decode cX7_kindFor 8 = .ok (.aload_n 0, 1) := by decide +kernel
theorem dX7_kindFor_9 : decode cX7_kindFor 9 = .ok (.iload_n 1, 1) := by decide +kernel
theorem dX7_kindFor_10 : decode cX7_kindFor 10 = .ok (.iconst 0, 1) := by decide +kernel
theorem dX7_kindFor_11 : decode cX7_kindFor 11 = .ok (.invokestatic 119, 3) := by decide +kernel
theorem dX7_kindFor_14 : decode cX7_kindFor 14 = .ok (.bipush 7, 2) := by decide +kernel
theorem dX7_kindFor_16 : decode cX7_kindFor 16 = .ok (.iload_n 1, 1) := by decide +kernel
theorem dX7_kindFor_17 : decode cX7_kindFor 17 = .ok (.invokevirtual 241, 3) := by decide +kernel
theorem dX7_kindFor_20 : decode cX7_kindFor 20 = .ok (.goto 9, 3) := by decide +kernel
theorem dX7_kindFor_23 : decode cX7_kindFor 23 = .ok (.aload_n 0, 1) := by decide +kernel
theorem dX7_kindFor_24 : decode cX7_kindFor 24 = .ok (.ldc 76, 2) := by decide +kernel
theorem dX7_kindFor_26 : decode cX7_kindFor 26 = .ok (.invokevirtual 101, 3) := by decide +kernel
theorem dX7_kindFor_29 : decode cX7_kindFor 29 = .ok (.ireturn, 1) := by decide +kernel
set_option maxHeartbeats 800000 in
set_option maxRecDepth 100000 in
theorem c_X7_kindFor {l : Launch} {ω : xO} {ks : Nat → Option Nat} (hm : xsh ω = mdS ks) {p : Int} {M : xMem} (hI : MInv M) (hf : Fc M) (hp : inR p) (hcl : M 1 0 ≤ 1000000) : Cq l ω yX7_kindFor ({ frames := 9, cells := 0, slots := 0, locals := 207 } : Room) 2 1 [.ref (xad ω 0), .int (iI p)] M (pI1 (fun r N' => r = nkiR M p ∧ QuE (nkiM M p) N')) := by
  refine Cq.of (bytes := cX7_kindFor) (ret := (some .int)) (lv0 := [some (.ref (xad ω 0)), some (.int (iI p))]) m_cd_X7_kindFor m_in_X7 (by decide +kernel) (by decide +kernel) rfl rfl rfl rfl ?_
  intro κ h he hR
  have hn := hI.1
  refine x_aload_n h dX7_kindFor_0 rfl ?_
  refine x_iload_n h dX7_kindFor_1 rfl ?_
  refine x_V1i h dX7_kindFor_2 m_ml_X7_148 m_im_X7_isPerson m_se_X7_isPerson (sM0 hm) rfl (by decide) rfl (c_X7_isPerson hm (by omega) (by omega)) ?_
  refine x_ifeqB h dX7_kindFor_5 (tgt := 23) (by decide) (fun q5 => ?_) (fun q5 => ?_)
  · refine x_aload_n h dX7_kindFor_23 rfl ?_
    refine x_ldc h m_k_X7_76 dX7_kindFor_24 ?_
    refine x_V1i h dX7_kindFor_26 m_ml_X7_101 m_im_X7_finding m_se_X7_finding (sM0 hm) rfl (by decide) rfl (c_X7_finding hm (by omega)) ?_
    exact x_iretq h he dX7_kindFor_29 ⟨by unfold nkiR; first | rw [if_pos (by omega)] | rw [if_neg (by omega)], by unfold nkiM; first | (rw [if_pos (by omega)]; assumption) | (rw [if_neg (by omega)]; exact (QuE.rf hf).fn)⟩
  · have ip := hI.2.2.2 p (by omega) (by omega)
    refine x_aload_n h dX7_kindFor_8 rfl ?_
    refine x_iload_n h dX7_kindFor_9 rfl ?_
    refine x_iconst h dX7_kindFor_10 ?_
    refine x_S2i h dX7_kindFor_11 m_ml_X7_119 m_st_X7_at (by decide) rfl (c_X7_at hm) ?_
    refine x_bipush h dX7_kindFor_14 (by decide) ?_
    refine x_iload_n h dX7_kindFor_16 rfl ?_
    refine x_Q3i h dX7_kindFor_17 m_ml_X7_241 m_im_X7_soonestWith m_se_X7_soonestWith (sM0 hm) rfl (by decide) rfl (c_X7_soonestWith hm hI hf (by omega) (by omega) (by omega) (by intro v v0 v1; unfold fOk; omega) (by unfold fOk; omega) (by omega) hcl) (fun r17 N17 h17 => ?_)
    obtain ⟨rfl, hQ17⟩ := h17
    refine x_goto h dX7_kindFor_20 (tgt := 29) (by decide) ?_
    exact x_iretq h he dX7_kindFor_29 ⟨by unfold nkiR; first | rw [if_pos (by omega)] | rw [if_neg (by omega)], by unfold nkiM; first | (rw [if_pos (by omega)]; assumption) | (rw [if_neg (by omega)]; exact (QuE.rf hf).fn)⟩

theorem dX7_lead_0 : decode cX7_lead 0 = .ok (.aload_n 0, 1) := by decide +kernel
theorem dX7_lead_1 : decode cX7_lead 1 = .ok (.iload_n 1, 1) := by decide +kernel
theorem dX7_lead_2 : decode cX7_lead 2 = .ok (.invokevirtual 148, 3) := by decide +kernel
theorem dX7_lead_5 : decode cX7_lead 5 = .ok (.ifCond .ne 10, 3) := by decide +kernel
theorem dX7_lead_8 : decode cX7_lead 8 = .ok (.aload_n 0, 1) := by decide +kernel
theorem dX7_lead_9 : decode cX7_lead 9 = .ok (.ldc 76, 2) := by decide +kernel
theorem dX7_lead_11 : decode cX7_lead 11 = .ok (.invokevirtual 101, 3) := by decide +kernel
theorem dX7_lead_14 : decode cX7_lead 14 = .ok (.ireturn, 1) := by decide +kernel
theorem dX7_lead_15 : decode cX7_lead 15 = .ok (.aload_n 0, 1) := by decide +kernel
theorem dX7_lead_16 : decode cX7_lead 16 = .ok (.iload_n 1, 1) := by decide +kernel
theorem dX7_lead_17 : decode cX7_lead 17 = .ok (.invokevirtual 142, 3) := by decide +kernel
theorem dX7_lead_20 : decode cX7_lead 20 = .ok (.ifCond .eq 23, 3) := by decide +kernel
theorem dX7_lead_23 : decode cX7_lead 23 = .ok (.aload_n 0, 1) := by decide +kernel
theorem dX7_lead_24 : decode cX7_lead 24 = .ok (.aload_n 0, 1) := by decide +kernel
theorem dX7_lead_25 : decode cX7_lead 25 = .ok (.iload_n 1, 1) := by decide +kernel
theorem dX7_lead_26 : decode cX7_lead 26 = .ok (.iconst 3, 1) := by decide +kernel
theorem dX7_lead_27 : decode cX7_lead 27 = .ok (.invokevirtual 133, 3) := by decide +kernel
theorem dX7_lead_30 : decode cX7_lead 30 = .ok (.iconst 2, 1) := by decide +kernel
theorem dX7_lead_31 : decode cX7_lead 31 = .ok (.invokestatic 119, 3) := by decide +kernel
theorem dX7_lead_34 : decode cX7_lead 34 = .ok (.bipush 10, 2) := by decide +kernel
theorem dX7_lead_36 : decode cX7_lead 36 = .ok (.iload_n 1, 1) := by decide +kernel
theorem dX7_lead_37 : decode cX7_lead 37 = .ok (.invokevirtual 241, 3) := by decide +kernel
theorem dX7_lead_40 : decode cX7_lead 40 = .ok (.goto 9, 3) := by decide +kernel
theorem dX7_lead_43 : decode cX7_lead 43 = .ok (.aload_n 0, 1) := by decide +kernel
theorem dX7_lead_44 : decode cX7_lead 44 = .ok (.ldc 177, 2) := by decide +kernel
theorem dX7_lead_46 : decode cX7_lead 46 = .ok (.invokevirtual 101, 3) := by decide +kernel
theorem dX7_lead_49 : decode cX7_lead 49 = .ok (.ireturn, 1) := by decide +kernel
set_option maxHeartbeats 800000 in
set_option maxRecDepth 100000 in
theorem c_X7_lead {l : Launch} {ω : xO} {ks : Nat → Option Nat} (hm : xsh ω = mdS ks) {p : Int} {M : xMem} (hI : MInv M) (hf : Fc M) (hp : inR p) (hcl : M 1 0 ≤ 1000000) : Cq l ω yX7_lead ({ frames := 9, cells := 0, slots := 0, locals := 207 } : Room) 2 1 [.ref (xad ω 0), .int (iI p)] M (pI1 (fun r N' => r = nleR M p ∧ QuE (nleM M p) N')) := by
  refine Cq.of (bytes := cX7_lead) (ret := (some .int)) (lv0 := [some (.ref (xad ω 0)), some (.int (iI p))]) m_cd_X7_lead m_in_X7 (by decide +kernel) (by decide +kernel) rfl rfl rfl rfl ?_
  intro κ h he hR
  have hn := hI.1
  refine x_aload_n h dX7_lead_0 rfl ?_
  refine x_iload_n h dX7_lead_1 rfl ?_
  refine x_V1i h dX7_lead_2 m_ml_X7_148 m_im_X7_isPerson m_se_X7_isPerson (sM0 hm) rfl (by decide) rfl (c_X7_isPerson hm (by omega) (by omega)) ?_
  refine x_ifneB h dX7_lead_5 (tgt := 15) (by decide) (fun q5 => ?_) (fun q5 => ?_)
  · have ip := hI.2.2.2 p (by omega) (by omega)
    refine x_aload_n h dX7_lead_15 rfl ?_
    refine x_iload_n h dX7_lead_16 rfl ?_
    refine x_V1i h dX7_lead_17 m_ml_X7_142 m_im_X7_hasMate m_se_X7_hasMate (sM0 hm) rfl (by decide) rfl (c_X7_hasMate hm (by exact hI) (by first | omega | (simp only [ca_1]; omega))) ?_
    refine x_ifeqB h dX7_lead_20 (tgt := 43) (by decide) (fun q20 => ?_) (fun q20 => ?_)
    · refine x_aload_n h dX7_lead_43 rfl ?_
      refine x_ldc h m_k_X7_177 dX7_lead_44 ?_
      refine x_V1i h dX7_lead_46 m_ml_X7_101 m_im_X7_finding m_se_X7_finding (sM0 hm) rfl (by decide) rfl (c_X7_finding hm (by omega)) ?_
      exact x_iretq h he dX7_lead_49 ⟨by unfold nleR; first | rw [if_neg (by omega)] | rw [if_pos (by omega), if_pos (by omega)] | rw [if_pos (by omega), if_neg (by omega)], by unfold nleM; first | (rw [if_neg (by omega)]; exact (QuE.rf hf).fn) | (rw [if_pos (by omega), if_pos (by omega)]; assumption) | (rw [if_pos (by omega), if_neg (by omega)]; exact (QuE.rf hf).fn)⟩
    · have im := hI.2.2.2 (M 1 (113 + 8 * p + 3)) (by omega) (by omega)
      refine x_aload_n h dX7_lead_23 rfl ?_
      refine x_aload_n h dX7_lead_24 rfl ?_
      refine x_iload_n h dX7_lead_25 rfl ?_
      refine x_iconst h dX7_lead_26 ?_
      refine x_V2i h dX7_lead_27 m_ml_X7_133 m_im_X7_personIs m_se_X7_personIs (sM0 hm) rfl (by decide) rfl (c_X7_personIs hm (by omega) (by omega)) ?_
      refine x_iconst h dX7_lead_30 ?_
      refine x_S2i h dX7_lead_31 m_ml_X7_119 m_st_X7_at (by decide) rfl (c_X7_at hm) ?_
      refine x_bipush h dX7_lead_34 (by decide) ?_
      refine x_iload_n h dX7_lead_36 rfl ?_
      refine x_Q3i h dX7_lead_37 m_ml_X7_241 m_im_X7_soonestWith m_se_X7_soonestWith (sM0 hm) rfl (by decide) rfl (c_X7_soonestWith hm hI hf (by omega) (by omega) (by omega) (by intro v v0 v1; unfold fOk; omega) (by unfold fOk; omega) (by omega) hcl) (fun r37 N37 h37 => ?_)
      obtain ⟨rfl, hQ37⟩ := h37
      refine x_goto h dX7_lead_40 (tgt := 49) (by decide) ?_
      exact x_iretq h he dX7_lead_49 ⟨by unfold nleR; first | rw [if_neg (by omega)] | rw [if_pos (by omega), if_pos (by omega)] | rw [if_pos (by omega), if_neg (by omega)], by unfold nleM; first | (rw [if_neg (by omega)]; exact (QuE.rf hf).fn) | (rw [if_pos (by omega), if_pos (by omega)]; assumption) | (rw [if_pos (by omega), if_neg (by omega)]; exact (QuE.rf hf).fn)⟩
  · refine x_aload_n h dX7_lead_8 rfl ?_
    refine x_ldc h m_k_X7_76 dX7_lead_9 ?_
    refine x_V1i h dX7_lead_11 m_ml_X7_101 m_im_X7_finding m_se_X7_finding (sM0 hm) rfl (by decide) rfl (c_X7_finding hm (by omega)) ?_
    try simp only [ca_ca, ca_1, dN_ca, wyM_ca, plN_ca, rpN_ca, ltN_ca, pmN_ca, wnN_ca, nbN_ca, ca_07, ca_08, ca_09, ca_010, beN_ca, ctN_ca, gonN_ca, mvN_ca, stN_ca, thN_ca, fnM_ca, tiN_ca, smN_ca, frN_ca, teN_ca]
    exact x_iretq h he dX7_lead_14 ⟨by unfold nleR; first | rw [if_neg (by omega)] | rw [if_pos (by omega), if_pos (by omega)] | rw [if_pos (by omega), if_neg (by omega)], by unfold nleM; first | (rw [if_neg (by omega)]; exact (QuE.rf hf).fn) | (rw [if_pos (by omega), if_pos (by omega)]; assumption) | (rw [if_pos (by omega), if_neg (by omega)]; exact (QuE.rf hf).fn)⟩
