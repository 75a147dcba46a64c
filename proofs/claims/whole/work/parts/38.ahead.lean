/-! the reference: what will be, all standing again as it stood -/
/-- N stands as M but for rows that only serve a search -/
def QuR (M N : xMem) : Prop := N 1 = M 1 ∧ (∀ k, k ≠ 0 → k ≠ 3 → k ≠ 5 → N k = M k) ∧ (∀ j, j ≠ 6 → j ≠ 7 → j ≠ 8 → j ≠ 9 → j ≠ 10 → N 0 j = M 0 j)
def QuE (M N : xMem) : Prop := QuR M N ∧ Fc N
theorem QuR.rf {M : xMem} : QuR M M := ⟨rfl, fun _ _ _ _ => rfl, fun _ _ _ _ _ _ => rfl⟩
theorem QuR.tr {M1 M2 M3 : xMem} (h1 : QuR M1 M2) (h2 : QuR M2 M3) : QuR M1 M3 := ⟨h2.1.trans h1.1, fun k a b c => (h2.2.1 k a b c).trans (h1.2.1 k a b c), fun j a b c d e => (h2.2.2 j a b c d e).trans (h1.2.2 j a b c d e)⟩
theorem QuR.y {M N : xMem} (h : QuR M N) : wyM N = wyM M := by unfold wyM; rw [h.1]
theorem MInv_c {M N : xMem} (e : N 1 = M 1) (h : MInv M) : MInv N := by
  have hy : wyM N = wyM M := by unfold wyM; rw [e]
  unfold MInv
  rw [e, hy]
  exact h
theorem QuR.inv {M N : xMem} (h : QuR M N) (hI : MInv M) : MInv N := MInv_c h.1 hI
theorem QuR.ca {M N : xMem} {f : Int} {d : Int → Int} (h : QuR M N) : QuR M (ca N f d) := ⟨h.1, fun k a b c => by rw [ca_n a c]; exact h.2.1 k a b c, fun j a b c d' e => by rw [ca_0 a]; exact h.2.2 j a b c d' e⟩
theorem QuR.fn {M N : xMem} {v : Int} (h : QuR M N) : QuR (fnM M v) (fnM N v) := by
  have h4 := h.2.1 4 (by decide) (by decide) (by decide)
  refine ⟨h.1, fun k a b c => ?_, fun j a b c d' e => h.2.2 j a b c d' e⟩
  by_cases hk : k = 4
  · subst hk
    unfold fnM
    rw [up_s, up_s, up_s, up_s, h4]
  · unfold fnM
    rw [up_n hk, up_n hk, up_n hk, up_n hk]
    exact h.2.1 k a b c
theorem QuR.up0 {M N : xMem} {i v : Int} (h : QuR M N) (hi : i = 7 ∨ i = 8 ∨ i = 9 ∨ i = 10) : QuR M (up N 0 i v) := ⟨h.1, fun k a b c => by rw [up_n a]; exact h.2.1 k a b c, fun j a b c d' e => by rw [up_nn (by omega)]; exact h.2.2 j a b c d' e⟩
theorem CaE.q {M N : xMem} (h : CaE M N) : QuE M N := by
  obtain ⟨f, d, rfl, hF⟩ := h
  exact ⟨QuR.rf.ca, hF⟩
/-- the row now copied aside and back -/
theorem back_1 {M A N : xMem} (hA : A 1 = M 1) (hA3 : A 3 = fiC (M 1) 177 (M 3)) (h : StN A N) : cyM N 3 1 1 = M 1 := by
  unfold cyM
  rw [upr_s, h.1 3 (by decide) (by decide), hA3]
  funext j
  unfold fiC
  by_cases hj : 0 ≤ j ∧ j < 177
  · rw [if_pos hj, if_pos hj]
  · rw [if_neg hj, h.2.2.1 j (by omega) (by omega), hA]
theorem back_q {M A N : xMem} {f : Int} {d : Int → Int} (hA : A 1 = M 1) (hA3 : A 3 = fiC (M 1) 177 (M 3)) (hAq : QuR M A) (h : StN A N) (hF : Fc (ca N f d)) : QuE M (cyM (ca N f d) 3 1) := by
  have e1 : cyM (ca N f d) 3 1 1 = M 1 := by
    show cyM N 3 1 1 = M 1
    exact back_1 hA hA3 h
  have hq : QuR M (cyM (ca N f d) 3 1) := by
    refine ⟨e1, fun k a b c => ?_, fun j a b c d' e => ?_⟩
    · by_cases hk : k = 1
      · subst hk; exact e1
      · unfold cyM
        rw [upr_n hk, ca_n a c, h.1 k a hk]
        exact hAq.2.1 k a b c
    · unfold cyM
      rw [upr_n (by decide), ca_0 a, h.2.1 j b c e]
      exact hAq.2.2 j a b c d' e
  refine ⟨hq, Fc_e1 (N := ca N f d) ?_ ?_ ?_ hF⟩
  · rw [hq.y, wyM_ca, h.y]; unfold wyM; rw [hA]
  · unfold cyM; rw [upr_n (by decide)]
  · unfold cyM; rw [upr_n (by decide)]
section CG
variable {M N : xMem}
theorem wyM_c (h : N 1 = M 1) : wyM N = wyM M := by unfold wyM; rw [h]
theorem dN_c (h : N 1 = M 1) : dN N = dN M := by unfold dN; rw [wyM_c h]
theorem rpN_c (h : N 1 = M 1) (p : Int) : rpN N p = rpN M p := by unfold rpN; rw [h]
theorem plN_c (h : N 1 = M 1) (p : Int) : plN N p = plN M p := by unfold plN; rw [h]
theorem ltN_c (h : N 1 = M 1) (p a m : Int) : ltN N p a m = ltN M p a m := by unfold ltN; rw [h, dN_c h, rpN_c h]
theorem pmN_c (h : N 1 = M 1) (p : Int) : pmN N p = pmN M p := by unfold pmN; rw [h]
theorem wnN_c (h : N 1 = M 1) (p : Int) : wnN N p = wnN M p := by unfold wnN; rw [h, dN_c h, wyM_c h]
theorem nbN_c (h : N 1 = M 1) (a c : Int) : nbN N a c = nbN M a c := by unfold nbN; rw [dN_c h, wyM_c h]
theorem beN_c (h : N 1 = M 1) (p : Int) : beN N p = beN M p := by unfold beN; rw [h, nbN_c h, wnN_c h]
theorem ctN_c (h : N 1 = M 1) (p : Int) : ctN N p = ctN M p := by unfold ctN; rw [h, dN_c h, plN_c h, plN_c h, beN_c h, wnN_c h, ltN_c h]
theorem gonN_c (h : N 1 = M 1) (p : Int) : gonN N p = gonN M p := by unfold gonN; rw [h, wnN_c h, pmN_c h, ltN_c h, ctN_c h]
theorem cnN_c (h : N 1 = M 1) (i : Int) : cnN N i 1 = cnN M i 1 := by unfold cnN; rw [up_s, up_s, h]
theorem tg0_c (h : N 1 = M 1) (p : Int) : tg0 N p 1 = tg0 M p 1 := by unfold tg0; rw [up_s, up_s, up_s, up_s, h, wnN_c h, beN_c h]
theorem mvN_c (h : N 1 = M 1) (p : Int) : mvN N p 1 = mvN M p 1 := by
  unfold mvN tI
  rw [wnN_c h, h, ltN_c h, pmN_c h, ctN_c h]
  split
  · exact h
  · split
    · show (up N 1 (113 + 8 * p + 1) (wnN N p)) 1 = (up M 1 (113 + 8 * p + 1) (wnN M p)) 1
      rw [up_s, up_s, h, wnN_c h]
    · split
      · show cnN (tg0 N p) (113 + 8 * N 1 (113 + 8 * p + 3) + 7) 1 = cnN (tg0 M p) (113 + 8 * M 1 (113 + 8 * p + 3) + 7) 1
        rw [h]
        exact cnN_c (tg0_c h p) _
      · exact cnN_c h _
theorem gwN_c (p : Int) : ∀ (n : Nat) (M N : xMem), N 1 = M 1 → gwN p n N 1 = gwN p n M 1 := by
  intro n
  induction n with
  | zero => intro M N h; exact h
  | succ n ih =>
    intro M N h
    unfold gwN tI
    rw [gonN_c h]
    split
    · exact ih _ _ (mvN_c h p)
    · exact mvN_c h p
theorem saN_c (h : N 1 = M 1) : ∀ n : Nat, saN N n 1 = saN M n 1 := by
  intro n
  induction n with
  | zero => exact h
  | succ n ih => rw [saN, saN, ih]; exact gwN_c _ _ _ _ ih
theorem stN_c (h : N 1 = M 1) : stN N 1 = stN M 1 := by
  have e : sa0 N 1 = sa0 M 1 := by
    unfold sa0
    rw [h]
    exact saN_c (M := up M 0 7 0) (N := up N 0 7 0) h _
  unfold stN
  rw [up_s, up_s, e]
theorem siN_c (h : N 1 = M 1) : ∀ n : Nat, siN N n 1 = siN M n 1 := by
  intro n
  induction n with
  | zero => exact h
  | succ n ih => exact stN_c ih
theorem thN_c (h : N 1 = M 1) : thN N = thN M := by unfold thN; rw [h]
end CG
/-- the first step, of at most so many more, behind which one is there -/
noncomputable def whF (M : xMem) (p : Int) : Nat → Nat → Int
  | 0, n => if siN M n 1 (113 + 8 * p + 1) = siN M n 1 (113 + 8 * p + 2) then (n : Int) else 1000000
  | k + 1, n => if siN M n 1 (113 + 8 * p + 1) = siN M n 1 (113 + 8 * p + 2) then (n : Int) else whF M p k (n + 1)
noncomputable def nwhN (M : xMem) (p : Int) : Int := whF M p 60 0
theorem whF_c {M N : xMem} (h : N 1 = M 1) (p : Int) : ∀ k n : Nat, whF N p k n = whF M p k n := by
  intro k
  induction k with
  | zero => intro n; unfold whF; rw [siN_c h]
  | succ k ih => intro n; unfold whF; rw [siN_c h, ih]
theorem nwhN_c {M N : xMem} (h : N 1 = M 1) (p : Int) : nwhN N p = nwhN M p := whF_c h p 60 0
theorem whF_R (M : xMem) (p : Int) : ∀ k n : Nat, n + k = 60 → (0 ≤ whF M p k n ∧ whF M p k n ≤ 60) ∨ whF M p k n = 1000000 := by
  intro k
  induction k with
  | zero => intro n h; unfold whF; split <;> omega
  | succ k ih => intro n h; unfold whF; split; omega; exact ih _ (by omega)
theorem nwhN_R (M : xMem) (p : Int) : (0 ≤ nwhN M p ∧ nwhN M p ≤ 60) ∨ nwhN M p = 1000000 := whF_R M p 60 0 (by omega)
theorem dX7_whenThere_0 : decode cX7_whenThere 0 = .ok (.aload_n 0, 1) := by decide +kernel
theorem dX7_whenThere_1 : decode cX7_whenThere 1 = .ok (.getfield 9, 3) := by decide +kernel
theorem dX7_whenThere_4 : decode cX7_whenThere 4 = .ok (.aload_n 0, 1) := by decide +kernel
theorem dX7_whenThere_5 : decode cX7_whenThere 5 = .ok (.getfield 16, 3) := by decide +kernel
theorem dX7_whenThere_8 : decode cX7_whenThere 8 = .ok (.invokestatic 77, 3) := by decide +kernel
theorem dX7_whenThere_11 : decode cX7_whenThere 11 = .ok (.iconst 0, 1) := by decide +kernel
theorem dX7_whenThere_12 : decode cX7_whenThere 12 = .ok (.istore_n 2, 1) := by decide +kernel
theorem dX7_whenThere_13 : decode cX7_whenThere 13 = .ok (.iload_n 2, 1) := by decide +kernel
theorem dX7_whenThere_14 : decode cX7_whenThere 14 = .ok (.bipush 60, 2) := by decide +kernel
theorem dX7_whenThere_16 : decode cX7_whenThere 16 = .ok (.if_icmp .ge 21, 3) := by decide +kernel
theorem dX7_whenThere_19 : decode cX7_whenThere 19 = .ok (.aload_n 0, 1) := by decide +kernel
theorem dX7_whenThere_20 : decode cX7_whenThere 20 = .ok (.iload_n 1, 1) := by decide +kernel
theorem dX7_whenThere_21 : decode cX7_whenThere 21 = .ok (.invokevirtual 211, 3) := by decide +kernel
theorem dX7_whenThere_24 : decode cX7_whenThere 24 = .ok (.ifCond .ne 13, 3) := by decide +kernel
theorem dX7_whenThere_27 : decode cX7_whenThere 27 = .ok (.aload_n 0, 1) := by decide +kernel
theorem dX7_whenThere_28 : decode cX7_whenThere 28 = .ok (.invokevirtual 204, 3) := by decide +kernel
theorem dX7_whenThere_31 : decode cX7_whenThere 31 = .ok (.iinc 2 1, 3) := by decide +kernel
theorem dX7_whenThere_34 : decode cX7_whenThere 34 = .ok (.goto (-21), 3) := by decide +kernel
theorem dX7_whenThere_37 : decode cX7_whenThere 37 = .ok (.aload_n 0, 1) := by decide +kernel
theorem dX7_whenThere_38 : decode cX7_whenThere 38 = .ok (.iload_n 1, 1) := by decide +kernel
theorem dX7_whenThere_39 : decode cX7_whenThere 39 = .ok (.invokevirtual 211, 3) := by decide +kernel
theorem dX7_whenThere_42 : decode cX7_whenThere 42 = .ok (.istore_n 3, 1) := by decide +kernel
theorem dX7_whenThere_43 : decode cX7_whenThere 43 = .ok (.aload_n 0, 1) := by decide +kernel
theorem dX7_whenThere_44 : decode cX7_whenThere 44 = .ok (.getfield 16, 3) := by decide +kernel
theorem dX7_whenThere_47 : decode cX7_whenThere 47 = .ok (.aload_n 0, 1) := by decide +kernel
theorem dX7_whenThere_48 : decode cX7_whenThere 48 = .ok (.getfield 9, 3) := by decide +kernel
theorem dX7_whenThere_51 : decode cX7_whenThere 51 = .ok (.invokestatic 77, 3) := by decide +kernel
theorem dX7_whenThere_54 : decode cX7_whenThere 54 = .ok (.iload_n 3, 1) := by decide +kernel
theorem dX7_whenThere_55 : decode cX7_whenThere 55 = .ok (.ifCond .eq 7, 3) := by decide +kernel
theorem dX7_whenThere_58 : decode cX7_whenThere 58 = .ok (.iload_n 2, 1) := by decide +kernel
theorem dX7_whenThere_59 : decode cX7_whenThere 59 = .ok (.goto 5, 3) := by decide +kernel
theorem dX7_whenThere_62 : decode cX7_whenThere 62 = .ok (.ldc 224, 2) := by decide +kernel
theorem dX7_whenThere_64 : decode cX7_whenThere 64 = .ok (.ireturn, 1) := by decide +kernel
set_option maxHeartbeats 800000 in
set_option maxRecDepth 100000 in
theorem c_X7_whenThere {l : Launch} {ω : xO} {ks : Nat → Option Nat} (hm : xsh ω = mdS ks) {p : Int} {M : xMem} (hI : MInv M) (hf : Fc M) (hp : 0 ≤ p ∧ p < M 1 1) (hcl : M 1 0 ≤ 1000000) : Cq l ω yX7_whenThere ({ frames := 7, cells := 0, slots := 0, locals := 156 } : Room) 4 1 [.ref (xad ω 0), .int (iI p)] M (pI1 (fun r N' => r = nwhN M p ∧ QuE M N')) := by
  refine Cq.of (bytes := cX7_whenThere) (ret := (some .int)) (lv0 := [some (.ref (xad ω 0)), some (.int (iI p)), none, none]) m_cd_X7_whenThere m_in_X7 (by decide +kernel) (by decide +kernel) rfl rfl rfl rfl ?_
  intro κ h he hR
  have hn := hI.1
  have hA : cyM M 1 3 1 = M 1 := by unfold cyM; rw [upr_n (by decide)]
  have hA3 : cyM M 1 3 3 = fiC (M 1) 177 (M 3) := by unfold cyM; rw [upr_s]
  have hAq : QuR M (cyM M 1 3) := ⟨hA, fun k a b c => by unfold cyM; rw [upr_n b], fun j a b c d e => by unfold cyM; rw [upr_n (by decide)]⟩
  have hAI : MInv (cyM M 1 3) := MInv_c hA hI
  have hAf : Fc (cyM M 1 3) := Fc_e1 (N := M) (wyM_c hA) (by unfold cyM; rw [upr_n (by decide)]) (by unfold cyM; rw [upr_n (by decide)]) hf
  refine x_aload_n h dX7_whenThere_0 rfl ?_
  refine x_getr (j := 0) (q := 1) h dX7_whenThere_1 (sM0 hm) rfl in_X7 rfl (by decide) m_fl_X7_9 ?_
  refine x_aload_n h dX7_whenThere_4 rfl ?_
  refine x_getr (j := 2) (q := 3) h dX7_whenThere_5 (sM0 hm) rfl in_X7 rfl (by decide) m_fl_X7_16 ?_
  refine x_S2v h dX7_whenThere_8 m_ml_X7_77 m_st_X7_copyRow (by decide) rfl (c_X7_copyRow hm (sM1 hm) (sM3 hm) (by decide)) ?_
  refine x_iconst h dX7_whenThere_11 ?_
  refine x_istore_n h dX7_whenThere_12 rfl rfl ?_
  dsimp only [xset]
  rw [← nwhN_c hA p] at he
  generalize cyM M 1 3 = A at hA hA3 hAq hAI hAf he ⊢
  refine x_mem (M' := ca (siN A 0) (A 0 6) (A 5)) (ca_self A).symm ?_
  have hf0 : Fc (ca (siN A 0) (A 0 6) (A 5)) := by rw [siN, ca_self]; exact hAf
  have hcA : A 1 0 = M 1 0 := by rw [hA]
  have HH : ∀ (k n : Nat) (f : Int) (d : Int → Int), n + k = 60 → Fc (ca (siN A n) f d) → whF A p k n = nwhN A p → X ω κ 13 [some (.ref (xad ω 0)), some (.int (iI p)), some (.int (iI (n : Int))), none] [] (ca (siN A n) f d) := by
    intro k
    induction k with
    | zero =>
      intro n f d e hc hw
      have hs := siN_I hAI n
      have hsn := hs.2.1.n
      rw [hA] at hsn
      unfold whF at hw
      refine x_iload_n h dX7_whenThere_13 rfl ?_
      refine x_bipush h dX7_whenThere_14 (by decide) ?_
      refine x_icmp_ge h dX7_whenThere_16 (tgt := 37) (by decide) (by omega) (by omega) (fun q16 => ?_) (fun q16 => ?_)
      · refine x_aload_n h dX7_whenThere_37 rfl ?_
        refine x_iload_n h dX7_whenThere_38 rfl ?_
        refine x_V1i h dX7_whenThere_39 m_ml_X7_211 m_im_X7_isThere m_se_X7_isThere (sM0 hm) rfl (by decide) rfl (c_X7_isThere hm (by exact hs.1) (by simp only [ca_1]; omega)) ?_
        try simp only [ca_ca, ca_1, dN_ca, wyM_ca, plN_ca, rpN_ca, ltN_ca, pmN_ca, wnN_ca, nbN_ca, ca_07, ca_08, ca_09, ca_010, beN_ca, ctN_ca, gonN_ca, mvN_ca, stN_ca, thN_ca, fnM_ca, tiN_ca, smN_ca, frN_ca, teN_ca]
        refine x_istore_n h dX7_whenThere_42 rfl rfl ?_
        dsimp only [xset]
        refine x_aload_n h dX7_whenThere_43 rfl ?_
        refine x_getr (j := 2) (q := 3) h dX7_whenThere_44 (sM0 hm) rfl in_X7 rfl (by decide) m_fl_X7_16 ?_
        refine x_aload_n h dX7_whenThere_47 rfl ?_
        refine x_getr (j := 0) (q := 1) h dX7_whenThere_48 (sM0 hm) rfl in_X7 rfl (by decide) m_fl_X7_9 ?_
        refine x_S2v h dX7_whenThere_51 m_ml_X7_77 m_st_X7_copyRow (by decide) rfl (c_X7_copyRow hm (sM3 hm) (sM1 hm) (by decide)) ?_
        refine x_iload_n h dX7_whenThere_54 rfl ?_
        try simp only [up_ca1, up_ca07, up_ca08, up_ca09, up_ca010, up_10, up_01, up_0709, up_0710, ca_ca, ca_1, dN_ca, wyM_ca, plN_ca, rpN_ca, ltN_ca, pmN_ca, wnN_ca, nbN_ca, ca_07, ca_08, ca_09, ca_010, beN_ca, ctN_ca, gonN_ca, mvN_ca]
        refine x_ifeqB h dX7_whenThere_55 (tgt := 62) (by decide) (fun q55 => ?_) (fun q55 => ?_)
        · refine x_ldc h m_k_X7_224 dX7_whenThere_62 ?_
          exact x_iretq h he dX7_whenThere_64 ⟨by first | rw [← hw, if_pos q55] | rw [← hw, if_neg q55], back_q hA hA3 hAq hs.2.1 hc⟩
        · refine x_iload_n h dX7_whenThere_58 rfl ?_
          refine x_goto h dX7_whenThere_59 (tgt := 64) (by decide) ?_
          exact x_iretq h he dX7_whenThere_64 ⟨by first | rw [← hw, if_pos q55] | rw [← hw, if_neg q55], back_q hA hA3 hAq hs.2.1 hc⟩
      · exfalso; omega
    | succ k ih =>
      intro n f d e hc hw
      have hs := siN_I hAI n
      have hsn := hs.2.1.n
      rw [hA] at hsn
      unfold whF at hw
      refine x_iload_n h dX7_whenThere_13 rfl ?_
      refine x_bipush h dX7_whenThere_14 (by decide) ?_
      refine x_icmp_ge h dX7_whenThere_16 (tgt := 37) (by decide) (by omega) (by omega) (fun q16 => ?_) (fun q16 => ?_)
      · exfalso; omega
      · refine x_aload_n h dX7_whenThere_19 rfl ?_
        refine x_iload_n h dX7_whenThere_20 rfl ?_
        refine x_V1i h dX7_whenThere_21 m_ml_X7_211 m_im_X7_isThere m_se_X7_isThere (sM0 hm) rfl (by decide) rfl (c_X7_isThere hm (by exact hs.1) (by simp only [ca_1]; omega)) ?_
        try simp only [ca_ca, ca_1, dN_ca, wyM_ca, plN_ca, rpN_ca, ltN_ca, pmN_ca, wnN_ca, nbN_ca, ca_07, ca_08, ca_09, ca_010, beN_ca, ctN_ca, gonN_ca, mvN_ca, stN_ca, thN_ca, fnM_ca, tiN_ca, smN_ca, frN_ca, teN_ca]
        try simp only [up_ca1, up_ca07, up_ca08, up_ca09, up_ca010, up_10, up_01, up_0709, up_0710, ca_ca, ca_1, dN_ca, wyM_ca, plN_ca, rpN_ca, ltN_ca, pmN_ca, wnN_ca, nbN_ca, ca_07, ca_08, ca_09, ca_010, beN_ca, ctN_ca, gonN_ca, mvN_ca]
        refine x_ifneB h dX7_whenThere_24 (tgt := 37) (by decide) (fun q24 => ?_) (fun q24 => ?_)
        · refine x_aload_n h dX7_whenThere_37 rfl ?_
          refine x_iload_n h dX7_whenThere_38 rfl ?_
          refine x_V1i h dX7_whenThere_39 m_ml_X7_211 m_im_X7_isThere m_se_X7_isThere (sM0 hm) rfl (by decide) rfl (c_X7_isThere hm (by exact hs.1) (by simp only [ca_1]; omega)) ?_
          try simp only [ca_ca, ca_1, dN_ca, wyM_ca, plN_ca, rpN_ca, ltN_ca, pmN_ca, wnN_ca, nbN_ca, ca_07, ca_08, ca_09, ca_010, beN_ca, ctN_ca, gonN_ca, mvN_ca, stN_ca, thN_ca, fnM_ca, tiN_ca, smN_ca, frN_ca, teN_ca]
          refine x_istore_n h dX7_whenThere_42 rfl rfl ?_
          dsimp only [xset]
          refine x_aload_n h dX7_whenThere_43 rfl ?_
          refine x_getr (j := 2) (q := 3) h dX7_whenThere_44 (sM0 hm) rfl in_X7 rfl (by decide) m_fl_X7_16 ?_
          refine x_aload_n h dX7_whenThere_47 rfl ?_
          refine x_getr (j := 0) (q := 1) h dX7_whenThere_48 (sM0 hm) rfl in_X7 rfl (by decide) m_fl_X7_9 ?_
          refine x_S2v h dX7_whenThere_51 m_ml_X7_77 m_st_X7_copyRow (by decide) rfl (c_X7_copyRow hm (sM3 hm) (sM1 hm) (by decide)) ?_
          refine x_iload_n h dX7_whenThere_54 rfl ?_
          try simp only [up_ca1, up_ca07, up_ca08, up_ca09, up_ca010, up_10, up_01, up_0709, up_0710, ca_ca, ca_1, dN_ca, wyM_ca, plN_ca, rpN_ca, ltN_ca, pmN_ca, wnN_ca, nbN_ca, ca_07, ca_08, ca_09, ca_010, beN_ca, ctN_ca, gonN_ca, mvN_ca]
          refine x_ifeqB h dX7_whenThere_55 (tgt := 62) (by decide) (fun q55 => ?_) (fun q55 => ?_)
          · exact absurd q24 q55
          · refine x_iload_n h dX7_whenThere_58 rfl ?_
            refine x_goto h dX7_whenThere_59 (tgt := 64) (by decide) ?_
            exact x_iretq h he dX7_whenThere_64 ⟨by first | rw [← hw, if_pos q55] | rw [← hw, if_neg q55], back_q hA hA3 hAq hs.2.1 hc⟩
        · refine x_aload_n h dX7_whenThere_27 rfl ?_
          refine x_Q0v h dX7_whenThere_28 m_ml_X7_204 m_im_X7_step m_se_X7_step (sM0 hm) rfl (by decide) rfl (c_X7_step hm (by exact hs.1) hc (by simp only [ca_1]; omega)) (fun N28 h28 => ?_)
          obtain ⟨f28, d28, rfl, c28⟩ := h28
          try simp only [ca_ca, ca_1, dN_ca, wyM_ca, plN_ca, rpN_ca, ltN_ca, pmN_ca, wnN_ca, nbN_ca, ca_07, ca_08, ca_09, ca_010, beN_ca, ctN_ca, gonN_ca, mvN_ca, stN_ca, thN_ca, fnM_ca, tiN_ca, smN_ca, frN_ca, teN_ca] at c28 ⊢
          refine x_iinc h dX7_whenThere_31 rfl rfl rfl ?_
          dsimp only [xset]
          refine x_goto h dX7_whenThere_34 (tgt := 13) (by decide) ?_
          rw [if_neg q24] at hw
          exact ih (n + 1) _ _ (by omega) (by assumption) hw
  exact HH 60 0 _ _ (by omega) hf0 rfl

theorem dX7_thereBehind_0 : decode cX7_thereBehind 0 = .ok (.aload_n 0, 1) := by decide +kernel
theorem dX7_thereBehind_1 : decode cX7_thereBehind 1 = .ok (.getfield 9, 3) := by decide +kernel
theorem dX7_thereBehind_4 : decode cX7_thereBehind 4 = .ok (.aload_n 0, 1) := by decide +kernel
theorem dX7_thereBehind_5 : decode cX7_thereBehind 5 = .ok (.getfield 16, 3) := by decide +kernel
theorem dX7_thereBehind_8 : decode cX7_thereBehind 8 = .ok (.invokestatic 77, 3) := by decide +kernel
theorem dX7_thereBehind_11 : decode cX7_thereBehind 11 = .ok (.aload_n 0, 1) := by decide +kernel
theorem dX7_thereBehind_12 : decode cX7_thereBehind 12 = .ok (.iload_n 1, 1) := by decide +kernel
theorem dX7_thereBehind_13 : decode cX7_thereBehind 13 = .ok (.invokevirtual 208, 3) := by decide +kernel
theorem dX7_thereBehind_16 : decode cX7_thereBehind 16 = .ok (.aload_n 0, 1) := by decide +kernel
theorem dX7_thereBehind_17 : decode cX7_thereBehind 17 = .ok (.aload_n 0, 1) := by decide +kernel
theorem dX7_thereBehind_18 : decode cX7_thereBehind 18 = .ok (.invokevirtual 214, 3) := by decide +kernel
theorem dX7_thereBehind_21 : decode cX7_thereBehind 21 = .ok (.invokevirtual 231, 3) := by decide +kernel
theorem dX7_thereBehind_24 : decode cX7_thereBehind 24 = .ok (.ireturn, 1) := by decide +kernel
set_option maxHeartbeats 800000 in
set_option maxRecDepth 100000 in
theorem c_X7_thereBehind {l : Launch} {ω : xO} {ks : Nat → Option Nat} (hm : xsh ω = mdS ks) {n : Int} {M : xMem} (hI : MInv M) (hf : Fc M) (hn9 : 0 ≤ n ∧ n ≤ 60) (hcl : M 1 0 ≤ 1000000) : Cq l ω yX7_thereBehind ({ frames := 8, cells := 0, slots := 0, locals := 178 } : Room) 2 1 [.ref (xad ω 0), .int (iI n)] M (pI1 (fun r N' => r = thN (siN M n.toNat) ∧ QuE M N')) := by
  refine Cq.of (bytes := cX7_thereBehind) (ret := (some .int)) (lv0 := [some (.ref (xad ω 0)), some (.int (iI n))]) m_cd_X7_thereBehind m_in_X7 (by decide +kernel) (by decide +kernel) rfl rfl rfl rfl ?_
  intro κ h he hR
  have hn := hI.1
  have hA : cyM M 1 3 1 = M 1 := by unfold cyM; rw [upr_n (by decide)]
  have hA3 : cyM M 1 3 3 = fiC (M 1) 177 (M 3) := by unfold cyM; rw [upr_s]
  have hAq : QuR M (cyM M 1 3) := ⟨hA, fun k a b c => by unfold cyM; rw [upr_n b], fun j a b c d e => by unfold cyM; rw [upr_n (by decide)]⟩
  have hAI : MInv (cyM M 1 3) := MInv_c hA hI
  have hAf : Fc (cyM M 1 3) := Fc_e1 (N := M) (wyM_c hA) (by unfold cyM; rw [upr_n (by decide)]) (by unfold cyM; rw [upr_n (by decide)]) hf
  have hs := siN_I hAI n.toNat
  have hcA : cyM M 1 3 1 0 = M 1 0 := by rw [hA]
  refine x_aload_n h dX7_thereBehind_0 rfl ?_
  refine x_getr (j := 0) (q := 1) h dX7_thereBehind_1 (sM0 hm) rfl in_X7 rfl (by decide) m_fl_X7_9 ?_
  refine x_aload_n h dX7_thereBehind_4 rfl ?_
  refine x_getr (j := 2) (q := 3) h dX7_thereBehind_5 (sM0 hm) rfl in_X7 rfl (by decide) m_fl_X7_16 ?_
  refine x_S2v h dX7_thereBehind_8 m_ml_X7_77 m_st_X7_copyRow (by decide) rfl (c_X7_copyRow hm (sM1 hm) (sM3 hm) (by decide)) ?_
  refine x_aload_n h dX7_thereBehind_11 rfl ?_
  refine x_iload_n h dX7_thereBehind_12 rfl ?_
  refine x_Q1v h dX7_thereBehind_13 m_ml_X7_208 m_im_X7_steps m_se_X7_steps (sM0 hm) rfl (by decide) rfl (c_X7_steps hm (by exact hAI) hAf (by omega) (by omega)) (fun N13 h13 => ?_)
  obtain ⟨f13, d13, rfl, c13⟩ := h13
  try simp only [ca_ca, ca_1, dN_ca, wyM_ca, plN_ca, rpN_ca, ltN_ca, pmN_ca, wnN_ca, nbN_ca, ca_07, ca_08, ca_09, ca_010, beN_ca, ctN_ca, gonN_ca, mvN_ca, stN_ca, thN_ca, fnM_ca, tiN_ca, smN_ca, frN_ca, teN_ca] at c13 ⊢
  refine x_aload_n h dX7_thereBehind_16 rfl ?_
  refine x_aload_n h dX7_thereBehind_17 rfl ?_
  refine x_V0i h dX7_thereBehind_18 m_ml_X7_214 m_im_X7_whoThere m_se_X7_whoThere (sM0 hm) rfl (by decide) rfl (c_X7_whoThere hm (by exact hs.1)) ?_
  try simp only [ca_ca, ca_1, dN_ca, wyM_ca, plN_ca, rpN_ca, ltN_ca, pmN_ca, wnN_ca, nbN_ca, ca_07, ca_08, ca_09, ca_010, beN_ca, ctN_ca, gonN_ca, mvN_ca, stN_ca, thN_ca, fnM_ca, tiN_ca, smN_ca, frN_ca, teN_ca]
  refine x_V1i h dX7_thereBehind_21 m_ml_X7_231 m_im_X7_putBack m_se_X7_putBack (sM0 hm) rfl (by decide) rfl (c_X7_putBack hm) ?_
  try simp only [ca_ca, ca_1, dN_ca, wyM_ca, plN_ca, rpN_ca, ltN_ca, pmN_ca, wnN_ca, nbN_ca, ca_07, ca_08, ca_09, ca_010, beN_ca, ctN_ca, gonN_ca, mvN_ca, stN_ca, thN_ca, fnM_ca, tiN_ca, smN_ca, frN_ca, teN_ca]
  exact x_iretq h he dX7_thereBehind_24 ⟨by rw [thN_c (siN_c hA _)], back_q hA hA3 hAq hs.2.1 (by assumption)⟩
