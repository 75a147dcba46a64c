/-! the reference: apart, kinds above, pulls, tugs that were told -/
def apN (M : xMem) (a c : Int) : Int := max (dN M (10 * M 1 (113 + 8 * a + 1) + M 1 (113 + 8 * c + 1))) (dN M (10 * M 1 (113 + 8 * a + 2) + M 1 (113 + 8 * c + 2)))
theorem apN_ca {N : xMem} {f a c : Int} {d : Int → Int} : apN (ca N f d) a c = apN N a c := rfl
def napR (M : xMem) (a c : Int) : Int := if (0 ≤ a ∧ a < M 1 1) ∧ (0 ≤ c ∧ c < M 1 1) ∧ a ≠ c then apN M a c else -1000001
def napM (M : xMem) (a c : Int) : xMem := if (0 ≤ a ∧ a < M 1 1) ∧ (0 ≤ c ∧ c < M 1 1) ∧ a ≠ c then M else fnM M (-1000001)
/-- under a kind: by climbing -/
def unF : Nat → Int → Int → Prop
  | 0, _, _ => False
  | d + 1, k, o => 0 ≤ k ∧ (k = o ∨ unF d (kaF k) o)
def dpF (k : Int) : Nat := if k < 0 then 0 else if k = 0 then 1 else if k = 1 ∨ k = 2 ∨ k = 5 then 2 else if k = 3 ∨ k = 6 then 3 else 4
theorem dpF_k {k : Int} (h : 0 ≤ k ∧ k ≤ 6) : dpF (kaF k) + 1 = dpF k ∧ -1 ≤ kaF k ∧ kaF k ≤ 6 := by
  rcases (show k = 0 ∨ k = 1 ∨ k = 2 ∨ k = 3 ∨ k = 4 ∨ k = 5 ∨ k = 6 by omega) with z | z | z | z | z | z | z <;> subst z <;> decide
/-- how much a set pulls; whom -/
def psN (M : xMem) (s : Int) (n : Nat) : Int := xfo (fun (p acc : Int) => if inS p s then acc + plN M p else acc) 0 n
def pdN (M : xMem) (s : Int) (n : Nat) : Int := xfo (fun (p acc : Int) => if ¬ inS p s ∧ plN M p < psN M s (M 1 1).toNat then bor acc (bshl 1 p) else acc) 0 n
def npuR (M : xMem) (s : Int) : Int := if 0 ≤ s ∧ s ≤ bshl 1 (M 1 1) - 1 then pdN M s (M 1 1).toNat else -1000001
def npuM (M : xMem) (s : Int) : xMem := if 0 ≤ s ∧ s ≤ bshl 1 (M 1 1) - 1 then M else fnM M (-1000001)
theorem psN_R {M : xMem} (hI : MInv M) (s : Int) : ∀ n : Nat, (n : Int) ≤ M 1 1 → 0 ≤ psN M s n ∧ psN M s n ≤ 28 * n := by
  intro n
  induction n with
  | zero => intro _; exact ⟨Int.le_refl _, by show (0 : Int) ≤ 28 * ((0 : Nat) : Int); omega⟩
  | succ n ih =>
    intro hn
    have := ih (by omega)
    have hp := plN_R hI (p := (n : Int)) ⟨by omega, by omega⟩
    unfold psN at this ⊢
    rw [xfo_s (fun (p acc : Int) => if inS p s then acc + plN M p else acc) 0 n]
    split <;> omega
theorem dX7_apartOf_0 : decode cX7_apartOf 0 = .ok (.aload_n 0, 1) := by decide +kernel
theorem dX7_apartOf_1 : decode cX7_apartOf 1 = .ok (.aload_n 0, 1) := by decide +kernel
theorem dX7_apartOf_2 : decode cX7_apartOf 2 = .ok (.iload_n 1, 1) := by decide +kernel
theorem dX7_apartOf_3 : decode cX7_apartOf 3 = .ok (.iconst 1, 1) := by decide +kernel
theorem dX7_apartOf_4 : decode cX7_apartOf 4 = .ok (.invokevirtual 133, 3) := by decide +kernel
theorem dX7_apartOf_7 : decode cX7_apartOf 7 = .ok (.aload_n 0, 1) := by decide +kernel
theorem dX7_apartOf_8 : decode cX7_apartOf 8 = .ok (.iload_n 2, 1) := by decide +kernel
theorem dX7_apartOf_9 : decode cX7_apartOf 9 = .ok (.iconst 1, 1) := by decide +kernel
theorem dX7_apartOf_10 : decode cX7_apartOf 10 = .ok (.invokevirtual 133, 3) := by decide +kernel
theorem dX7_apartOf_13 : decode cX7_apartOf 13 = .ok (.invokevirtual 116, 3) := by decide +kernel
theorem dX7_apartOf_16 : decode cX7_apartOf 16 = .ok (.aload_n 0, 1) := by decide +kernel
theorem dX7_apartOf_17 : decode cX7_apartOf 17 = .ok (.aload_n 0, 1) := by decide +kernel
theorem dX7_apartOf_18 : decode cX7_apartOf 18 = .ok (.iload_n 1, 1) := by decide +kernel
theorem dX7_apartOf_19 : decode cX7_apartOf 19 = .ok (.iconst 2, 1) := by decide +kernel
theorem dX7_apartOf_20 : decode cX7_apartOf 20 = .ok (.invokevirtual 133, 3) := by decide +kernel
theorem dX7_apartOf_23 : decode cX7_apartOf 23 = .ok (.aload_n 0, 1) := by decide +kernel
theorem dX7_apartOf_24 : decode cX7_apartOf 24 = .ok (.iload_n 2, 1) := by decide +kernel
theorem dX7_apartOf_25 : decode cX7_apartOf 25 = .ok (.iconst 2, 1) := by decide +kernel
theorem dX7_apartOf_26 : decode cX7_apartOf 26 = .ok (.invokevirtual 133, 3) := by decide +kernel
theorem dX7_apartOf_29 : decode cX7_apartOf 29 = .ok (.invokevirtual 116, 3) := by decide +kernel
theorem dX7_apartOf_32 : decode cX7_apartOf 32 = .ok (.invokestatic 136, 3) := by decide +kernel
theorem dX7_apartOf_35 : decode cX7_apartOf 35 = .ok (.ireturn, 1) := by decide +kernel
set_option maxHeartbeats 800000 in
set_option maxRecDepth 100000 in
theorem c_X7_apartOf {l : Launch} {ω : xO} {ks : Nat → Option Nat} (hm : xsh ω = mdS ks) {a c : Int} {M : xMem} (hI : MInv M) (hf : Fc M) (ha : 0 ≤ a ∧ a < M 1 1) (hc : 0 ≤ c ∧ c < M 1 1) : Cq l ω yX7_apartOf ({ frames := 3, cells := 0, slots := 0, locals := 67 } : Room) 3 2 [.ref (xad ω 0), .int (iI a), .int (iI c)] M (pI1 (fun r N' => r = apN M a c ∧ CaE M N')) := by
  refine Cq.of (bytes := cX7_apartOf) (ret := (some .int)) (lv0 := [some (.ref (xad ω 0)), some (.int (iI a)), some (.int (iI c))]) m_cd_X7_apartOf m_in_X7 (by decide +kernel) (by decide +kernel) rfl rfl rfl rfl ?_
  intro κ h he hR
  have hn := hI.1
  have hL := hI.2.2.1
  have ia := hI.2.2.2 a (by omega) (by omega)
  have ic := hI.2.2.2 c (by omega) (by omega)
  have d1 := dN_B hL (10 * M 1 (113 + 8 * a + 1) + M 1 (113 + 8 * c + 1)) (by omega) (by omega)
  have d2 := dN_B hL (10 * M 1 (113 + 8 * a + 2) + M 1 (113 + 8 * c + 2)) (by omega) (by omega)
  refine x_aload_n h dX7_apartOf_0 rfl ?_
  refine x_aload_n h dX7_apartOf_1 rfl ?_
  refine x_iload_n h dX7_apartOf_2 rfl ?_
  refine x_iconst h dX7_apartOf_3 ?_
  refine x_V2i h dX7_apartOf_4 m_ml_X7_133 m_im_X7_personIs m_se_X7_personIs (sM0 hm) rfl (by decide) rfl (c_X7_personIs hm (by omega) (by omega)) ?_
  refine x_aload_n h dX7_apartOf_7 rfl ?_
  refine x_iload_n h dX7_apartOf_8 rfl ?_
  refine x_iconst h dX7_apartOf_9 ?_
  refine x_V2i h dX7_apartOf_10 m_ml_X7_133 m_im_X7_personIs m_se_X7_personIs (sM0 hm) rfl (by decide) rfl (c_X7_personIs hm (by omega) (by omega)) ?_
  refine x_Q2i h dX7_apartOf_13 m_ml_X7_116 m_im_X7_farFrom m_se_X7_farFrom (sM0 hm) rfl (by decide) rfl (c_X7_farFrom hm (by exact hL) (by assumption) (by first | omega | (simp only [ca_1]; omega)) (by first | omega | (simp only [ca_1]; omega))) (fun r13 N13 h13 => ?_)
  obtain ⟨rfl, f13, d13, rfl, c13⟩ := h13
  try simp only [ca_ca, ca_1, dN_ca, wyM_ca, plN_ca, rpN_ca, ltN_ca, pmN_ca, wnN_ca, nbN_ca, ca_07, ca_08, ca_09, ca_010, beN_ca, ctN_ca, gonN_ca, mvN_ca, stN_ca, thN_ca, fnM_ca, tiN_ca, smN_ca, frN_ca, teN_ca, apN_ca] at c13 ⊢
  refine x_aload_n h dX7_apartOf_16 rfl ?_
  refine x_aload_n h dX7_apartOf_17 rfl ?_
  refine x_iload_n h dX7_apartOf_18 rfl ?_
  refine x_iconst h dX7_apartOf_19 ?_
  refine x_V2i h dX7_apartOf_20 m_ml_X7_133 m_im_X7_personIs m_se_X7_personIs (sM0 hm) rfl (by decide) rfl (c_X7_personIs hm (by omega) (by omega)) ?_
  try simp only [ca_ca, ca_1, dN_ca, wyM_ca, plN_ca, rpN_ca, ltN_ca, pmN_ca, wnN_ca, nbN_ca, ca_07, ca_08, ca_09, ca_010, beN_ca, ctN_ca, gonN_ca, mvN_ca, stN_ca, thN_ca, fnM_ca, tiN_ca, smN_ca, frN_ca, teN_ca, apN_ca]
  refine x_aload_n h dX7_apartOf_23 rfl ?_
  refine x_iload_n h dX7_apartOf_24 rfl ?_
  refine x_iconst h dX7_apartOf_25 ?_
  refine x_V2i h dX7_apartOf_26 m_ml_X7_133 m_im_X7_personIs m_se_X7_personIs (sM0 hm) rfl (by decide) rfl (c_X7_personIs hm (by omega) (by omega)) ?_
  try simp only [ca_ca, ca_1, dN_ca, wyM_ca, plN_ca, rpN_ca, ltN_ca, pmN_ca, wnN_ca, nbN_ca, ca_07, ca_08, ca_09, ca_010, beN_ca, ctN_ca, gonN_ca, mvN_ca, stN_ca, thN_ca, fnM_ca, tiN_ca, smN_ca, frN_ca, teN_ca, apN_ca]
  refine x_Q2i h dX7_apartOf_29 m_ml_X7_116 m_im_X7_farFrom m_se_X7_farFrom (sM0 hm) rfl (by decide) rfl (c_X7_farFrom hm (by exact hL) (by assumption) (by first | omega | (simp only [ca_1]; omega)) (by first | omega | (simp only [ca_1]; omega))) (fun r29 N29 h29 => ?_)
  obtain ⟨rfl, f29, d29, rfl, c29⟩ := h29
  try simp only [ca_ca, ca_1, dN_ca, wyM_ca, plN_ca, rpN_ca, ltN_ca, pmN_ca, wnN_ca, nbN_ca, ca_07, ca_08, ca_09, ca_010, beN_ca, ctN_ca, gonN_ca, mvN_ca, stN_ca, thN_ca, fnM_ca, tiN_ca, smN_ca, frN_ca, teN_ca, apN_ca] at c29 ⊢
  refine x_max h dX7_apartOf_32 m_ml_X7_136 rfl (by decide) (by omega) (by omega) ?_
  exact x_iretq h he dX7_apartOf_35 ⟨rfl, (by first | exact CaE.of (by assumption) | exact CaE.rf (by assumption))⟩

theorem dX7_apart_0 : decode cX7_apart 0 = .ok (.aload_n 0, 1) := by decide +kernel
theorem dX7_apart_1 : decode cX7_apart 1 = .ok (.iload_n 1, 1) := by decide +kernel
theorem dX7_apart_2 : decode cX7_apart 2 = .ok (.iload_n 2, 1) := by decide +kernel
theorem dX7_apart_3 : decode cX7_apart 3 = .ok (.invokevirtual 171, 3) := by decide +kernel
theorem dX7_apart_6 : decode cX7_apart 6 = .ok (.ifCond .eq 12, 3) := by decide +kernel
theorem dX7_apart_9 : decode cX7_apart 9 = .ok (.aload_n 0, 1) := by decide +kernel
theorem dX7_apart_10 : decode cX7_apart 10 = .ok (.iload_n 1, 1) := by decide +kernel
theorem dX7_apart_11 : decode cX7_apart 11 = .ok (.iload_n 2, 1) := by decide +kernel
theorem dX7_apart_12 : decode cX7_apart 12 = .ok (.invokevirtual 259, 3) := by decide +kernel
theorem dX7_apart_15 : decode cX7_apart 15 = .ok (.goto 9, 3) := by decide +kernel
theorem dX7_apart_18 : decode cX7_apart 18 = .ok (.aload_n 0, 1) := by decide +kernel
theorem dX7_apart_19 : decode cX7_apart 19 = .ok (.ldc 76, 2) := by decide +kernel
theorem dX7_apart_21 : decode cX7_apart 21 = .ok (.invokevirtual 101, 3) := by decide +kernel
theorem dX7_apart_24 : decode cX7_apart 24 = .ok (.ireturn, 1) := by decide +kernel
set_option maxHeartbeats 800000 in
set_option maxRecDepth 100000 in
theorem c_X7_apart {l : Launch} {ω : xO} {ks : Nat → Option Nat} (hm : xsh ω = mdS ks) {a c : Int} {M : xMem} (hI : MInv M) (hf : Fc M) (ha : inR a) (hc : inR c) : Cq l ω yX7_apart ({ frames := 4, cells := 0, slots := 0, locals := 89 } : Room) 3 2 [.ref (xad ω 0), .int (iI a), .int (iI c)] M (pI1 (fun r N' => r = napR M a c ∧ CaE (napM M a c) N')) := by
  refine Cq.of (bytes := cX7_apart) (ret := (some .int)) (lv0 := [some (.ref (xad ω 0)), some (.int (iI a)), some (.int (iI c))]) m_cd_X7_apart m_in_X7 (by decide +kernel) (by decide +kernel) rfl rfl rfl rfl ?_
  intro κ h he hR
  have hn := hI.1
  refine x_aload_n h dX7_apart_0 rfl ?_
  refine x_iload_n h dX7_apart_1 rfl ?_
  refine x_iload_n h dX7_apart_2 rfl ?_
  refine x_V2i h dX7_apart_3 m_ml_X7_171 m_im_X7_areTwo m_se_X7_areTwo (sM0 hm) rfl (by decide) rfl (c_X7_areTwo hm (by exact hI) (by first | omega | (simp only [ca_1]; omega)) (by first | omega | (simp only [ca_1]; omega))) ?_
  refine x_ifeqB h dX7_apart_6 (tgt := 18) (by decide) (fun q6 => ?_) (fun q6 => ?_)
  · refine x_aload_n h dX7_apart_18 rfl ?_
    refine x_ldc h m_k_X7_76 dX7_apart_19 ?_
    refine x_V1i h dX7_apart_21 m_ml_X7_101 m_im_X7_finding m_se_X7_finding (sM0 hm) rfl (by decide) rfl (c_X7_finding hm (by omega)) ?_
    exact x_iretq h he dX7_apart_24 ⟨by unfold napR; first | rw [if_pos (by omega)] | rw [if_neg (by omega)], by unfold napM; first | (rw [if_pos (by omega)]; exact CaE.of (by assumption)) | (rw [if_neg (by omega)]; exact CaE.rf1 fnM_y rfl rfl hf)⟩
  · refine x_aload_n h dX7_apart_9 rfl ?_
    refine x_iload_n h dX7_apart_10 rfl ?_
    refine x_iload_n h dX7_apart_11 rfl ?_
    refine x_Q2i h dX7_apart_12 m_ml_X7_259 m_im_X7_apartOf m_se_X7_apartOf (sM0 hm) rfl (by decide) rfl (c_X7_apartOf hm (by exact hI) (by assumption) (by first | omega | (simp only [ca_1]; omega)) (by first | omega | (simp only [ca_1]; omega))) (fun r12 N12 h12 => ?_)
    obtain ⟨rfl, f12, d12, rfl, c12⟩ := h12
    try simp only [ca_ca, ca_1, dN_ca, wyM_ca, plN_ca, rpN_ca, ltN_ca, pmN_ca, wnN_ca, nbN_ca, ca_07, ca_08, ca_09, ca_010, beN_ca, ctN_ca, gonN_ca, mvN_ca, stN_ca, thN_ca, fnM_ca, tiN_ca, smN_ca, frN_ca, teN_ca, apN_ca] at c12 ⊢
    refine x_goto h dX7_apart_15 (tgt := 24) (by decide) ?_
    exact x_iretq h he dX7_apart_24 ⟨by unfold napR; first | rw [if_pos (by omega)] | rw [if_neg (by omega)], by unfold napM; first | (rw [if_pos (by omega)]; exact CaE.of (by assumption)) | (rw [if_neg (by omega)]; exact CaE.rf1 fnM_y rfl rfl hf)⟩

theorem dX7_isLesser_0 : decode cX7_isLesser 0 = .ok (.aload_n 0, 1) := by decide +kernel
theorem dX7_isLesser_1 : decode cX7_isLesser 1 = .ok (.iload_n 1, 1) := by decide +kernel
theorem dX7_isLesser_2 : decode cX7_isLesser 2 = .ok (.iconst 3, 1) := by decide +kernel
theorem dX7_isLesser_3 : decode cX7_isLesser 3 = .ok (.invokevirtual 133, 3) := by decide +kernel
theorem dX7_isLesser_6 : decode cX7_isLesser 6 = .ok (.iload_n 1, 1) := by decide +kernel
theorem dX7_isLesser_7 : decode cX7_isLesser 7 = .ok (.if_icmp .le 7, 3) := by decide +kernel
theorem dX7_isLesser_10 : decode cX7_isLesser 10 = .ok (.iconst 1, 1) := by decide +kernel
theorem dX7_isLesser_11 : decode cX7_isLesser 11 = .ok (.goto 4, 3) := by decide +kernel
theorem dX7_isLesser_14 : decode cX7_isLesser 14 = .ok (.iconst 0, 1) := by decide +kernel
theorem dX7_isLesser_15 : decode cX7_isLesser 15 = .ok (.ireturn, 1) := by decide +kernel
set_option maxHeartbeats 800000 in
set_option maxRecDepth 100000 in
theorem c_X7_isLesser {l : Launch} {ω : xO} {ks : Nat → Option Nat} (hm : xsh ω = mdS ks) {p : Int} {M : xMem} (hI : MInv M) (hp : 0 ≤ p ∧ p < M 1 1) : Ct l ω yX7_isLesser ({ frames := 2, cells := 0, slots := 0, locals := 43 } : Room) 2 1 [.ref (xad ω 0), .int (iI p)] M (some (.int (iI (bI (p < M 1 (113 + 8 * p + 3)))))) M := by
  refine Ct.of (bytes := cX7_isLesser) (ret := (some .boolean)) (lv0 := [some (.ref (xad ω 0)), some (.int (iI p))]) m_cd_X7_isLesser m_in_X7 (by decide +kernel) (by decide +kernel) rfl rfl rfl rfl (fun hR => hR) ?_
  intro κ h he hR
  have hn := hI.1
  have hk := hI.2.1
  have hL := hI.2.2.1
  have ip := hI.2.2.2 p hp.1 hp.2
  refine x_aload_n h dX7_isLesser_0 rfl ?_
  refine x_iload_n h dX7_isLesser_1 rfl ?_
  refine x_iconst h dX7_isLesser_2 ?_
  refine x_V2i h dX7_isLesser_3 m_ml_X7_133 m_im_X7_personIs m_se_X7_personIs (sM0 hm) rfl (by decide) rfl (c_X7_personIs hm (by omega) (by omega)) ?_
  refine x_iload_n h dX7_isLesser_6 rfl ?_
  refine x_icmp_le h dX7_isLesser_7 (tgt := 14) (by decide) (by omega) (by omega) (fun q7 => ?_) (fun q7 => ?_)
  · refine x_iconst h dX7_isLesser_14 ?_
    exact x_zret h he dX7_isLesser_15 (by first | exact Or.inl rfl | exact Or.inr rfl | exact bI_01 _ | omega) rfl (by first | rfl | omega | exact (bI_t (by omega)).symm | exact (bI_f (by omega)).symm) rfl
  · refine x_iconst h dX7_isLesser_10 ?_
    refine x_goto h dX7_isLesser_11 (tgt := 15) (by decide) ?_
    exact x_zret h he dX7_isLesser_15 (by first | exact Or.inl rfl | exact Or.inr rfl | exact bI_01 _ | omega) rfl (by first | rfl | omega | exact (bI_t (by omega)).symm | exact (bI_f (by omega)).symm) rfl

theorem dX7_isUnder_0 : decode cX7_isUnder 0 = .ok (.iload_n 0, 1) := by decide +kernel
theorem dX7_isUnder_1 : decode cX7_isUnder 1 = .ok (.istore_n 2, 1) := by decide +kernel
theorem dX7_isUnder_2 : decode cX7_isUnder 2 = .ok (.iload_n 2, 1) := by decide +kernel
theorem dX7_isUnder_3 : decode cX7_isUnder 3 = .ok (.ifCond .lt 16, 3) := by decide +kernel
theorem dX7_isUnder_6 : decode cX7_isUnder 6 = .ok (.iload_n 2, 1) := by decide +kernel
theorem dX7_isUnder_7 : decode cX7_isUnder 7 = .ok (.iload_n 1, 1) := by decide +kernel
theorem dX7_isUnder_8 : decode cX7_isUnder 8 = .ok (.if_icmp .eq 11, 3) := by decide +kernel
theorem dX7_isUnder_11 : decode cX7_isUnder 11 = .ok (.iload_n 2, 1) := by decide +kernel
theorem dX7_isUnder_12 : decode cX7_isUnder 12 = .ok (.invokestatic 130, 3) := by decide +kernel
theorem dX7_isUnder_15 : decode cX7_isUnder 15 = .ok (.istore_n 2, 1) := by decide +kernel
theorem dX7_isUnder_16 : decode cX7_isUnder 16 = .ok (.goto (-14), 3) := by decide +kernel
theorem dX7_isUnder_19 : decode cX7_isUnder 19 = .ok (.iload_n 2, 1) := by decide +kernel
theorem dX7_isUnder_20 : decode cX7_isUnder 20 = .ok (.ifCond .lt 7, 3) := by decide +kernel
theorem dX7_isUnder_23 : decode cX7_isUnder 23 = .ok (.iconst 1, 1) := by decide +kernel
theorem dX7_isUnder_24 : decode cX7_isUnder 24 = .ok (.goto 4, 3) := by decide +kernel
theorem dX7_isUnder_27 : decode cX7_isUnder 27 = .ok (.iconst 0, 1) := by decide +kernel
theorem dX7_isUnder_28 : decode cX7_isUnder 28 = .ok (.ireturn, 1) := by decide +kernel
set_option maxHeartbeats 800000 in
set_option maxRecDepth 100000 in
theorem c_X7_isUnder {l : Launch} {ω : xO} {ks : Nat → Option Nat} (hm : xsh ω = mdS ks) {k0 o : Int} {M : xMem} (hk : 0 ≤ k0 ∧ k0 ≤ 6) (ho : inR o) : Ct l ω yX7_isUnder ({ frames := 1, cells := 0, slots := 0, locals := 20 } : Room) 3 2 [.int (iI k0), .int (iI o)] M (some (.int (iI (bI (unF (dpF k0) k0 o))))) M := by
  refine Ct.of (bytes := cX7_isUnder) (ret := (some .boolean)) (lv0 := [some (.int (iI k0)), some (.int (iI o)), none]) m_cd_X7_isUnder m_in_X7 (by decide +kernel) (by decide +kernel) rfl rfl rfl rfl (fun hR => hR) ?_
  intro κ h he hR
  refine x_iload_n h dX7_isUnder_0 rfl ?_
  refine x_istore_n h dX7_isUnder_1 rfl rfl ?_
  dsimp only [xset]
  have HH : ∀ (d : Nat) (k : Int), -1 ≤ k ∧ k ≤ 6 → dpF k = d → (unF d k o ↔ unF (dpF k0) k0 o) → X ω κ 2 [some (.int (iI k0)), some (.int (iI o)), some (.int (iI k))] [] M := by
    intro d
    induction d with
    | zero =>
      intro k hk hd hu
      have hk0 : k < 0 := by unfold dpF at hd; (repeat' split at hd) <;> omega
      have hz : ¬ unF (dpF k0) k0 o := fun z => hu.mpr z
      refine x_iload_n h dX7_isUnder_2 rfl ?_
      refine x_if_lt h dX7_isUnder_3 (tgt := 19) (by decide) (by omega) (fun q3 => ?_) (fun q3 => ?_)
      · refine x_iload_n h dX7_isUnder_19 rfl ?_
        refine x_if_lt h dX7_isUnder_20 (tgt := 27) (by decide) (by omega) (fun q20 => ?_) (fun q20 => ?_)
        · refine x_iconst h dX7_isUnder_27 ?_
          exact x_zret h he dX7_isUnder_28 (by first | exact Or.inl rfl | exact Or.inr rfl | exact bI_01 _ | omega) rfl (bI_f hz).symm rfl
        · exfalso; omega
      · exfalso; omega
    | succ d ih =>
      intro k hk hd hu
      have hk0 : 0 ≤ k := by rcases (show k < 0 ∨ 0 ≤ k by omega) with z | z; (unfold dpF at hd; rw [if_pos z] at hd; omega); exact z
      have hkk := dpF_k (k := k) ⟨hk0, by omega⟩
      rw [show unF (d + 1) k o = (0 ≤ k ∧ (k = o ∨ unF d (kaF k) o)) from rfl] at hu
      refine x_iload_n h dX7_isUnder_2 rfl ?_
      refine x_if_lt h dX7_isUnder_3 (tgt := 19) (by decide) (by omega) (fun q3 => ?_) (fun q3 => ?_)
      · exfalso; omega
      · refine x_iload_n h dX7_isUnder_6 rfl ?_
        refine x_iload_n h dX7_isUnder_7 rfl ?_
        refine x_icmp_eq h dX7_isUnder_8 (tgt := 19) (by decide) (by omega) (by omega) (fun q8 => ?_) (fun q8 => ?_)
        · refine x_iload_n h dX7_isUnder_19 rfl ?_
          refine x_if_lt h dX7_isUnder_20 (tgt := 27) (by decide) (by omega) (fun q20 => ?_) (fun q20 => ?_)
          · exfalso; omega
          · refine x_iconst h dX7_isUnder_23 ?_
            refine x_goto h dX7_isUnder_24 (tgt := 28) (by decide) ?_
            exact x_zret h he dX7_isUnder_28 (by first | exact Or.inl rfl | exact Or.inr rfl | exact bI_01 _ | omega) rfl (bI_t (hu.mp ⟨hk0, Or.inl q8⟩)).symm rfl
        · refine x_iload_n h dX7_isUnder_11 rfl ?_
          refine x_S1i h dX7_isUnder_12 m_ml_X7_130 m_st_X7_above (by decide) rfl (c_X7_above hm (by omega)) ?_
          refine x_istore_n h dX7_isUnder_15 rfl rfl ?_
          dsimp only [xset]
          refine x_goto h dX7_isUnder_16 (tgt := 2) (by decide) ?_
          exact ih _ (by omega) (by omega) ⟨fun z => hu.mp ⟨hk0, Or.inr z⟩, fun z => (hu.mpr z).2.resolve_left q8⟩
  exact HH (dpF k0) k0 (by omega) rfl Iff.rfl

theorem dX7_pulls_0 : decode cX7_pulls 0 = .ok (.iload_n 1, 1) := by decide +kernel
theorem dX7_pulls_1 : decode cX7_pulls 1 = .ok (.iconst 0, 1) := by decide +kernel
theorem dX7_pulls_2 : decode cX7_pulls 2 = .ok (.iconst 1, 1) := by decide +kernel
theorem dX7_pulls_3 : decode cX7_pulls 3 = .ok (.aload_n 0, 1) := by decide +kernel
theorem dX7_pulls_4 : decode cX7_pulls 4 = .ok (.getfield 9, 3) := by decide +kernel
theorem dX7_pulls_7 : decode cX7_pulls 7 = .ok (.iconst 1, 1) := by decide +kernel
theorem dX7_pulls_8 : decode cX7_pulls 8 = .ok (.iaload, 1) := by decide +kernel
theorem dX7_pulls_9 : decode cX7_pulls 9 = .ok (.ishl, 1) := by decide +kernel
theorem dX7_pulls_10 : decode cX7_pulls 10 = .ok (.iconst 1, 1) := by decide +kernel
theorem dX7_pulls_11 : decode cX7_pulls 11 = .ok (.isub, 1) := by decide +kernel
theorem dX7_pulls_12 : decode cX7_pulls 12 = .ok (.invokestatic 81, 3) := by decide +kernel
theorem dX7_pulls_15 : decode cX7_pulls 15 = .ok (.ifCond .ne 10, 3) := by decide +kernel
theorem dX7_pulls_18 : decode cX7_pulls 18 = .ok (.aload_n 0, 1) := by decide +kernel
theorem dX7_pulls_19 : decode cX7_pulls 19 = .ok (.ldc 76, 2) := by decide +kernel
theorem dX7_pulls_21 : decode cX7_pulls 21 = .ok (.invokevirtual 101, 3) := by decide +kernel
theorem dX7_pulls_24 : decode cX7_pulls 24 = .ok (.ireturn, 1) := by decide +kernel
theorem dX7_pulls_25 : decode cX7_pulls 25 = .ok (.iconst 0, 1) := by decide +kernel
theorem dX7_pulls_26 : decode cX7_pulls 26 = .ok (.istore_n 2, 1) := by decide +kernel
theorem dX7_pulls_27 : decode cX7_pulls 27 = .ok (.iconst 0, 1) := by decide +kernel
theorem dX7_pulls_28 : decode cX7_pulls 28 = .ok (.istore_n 3, 1) := by decide +kernel
theorem dX7_pulls_29 : decode cX7_pulls 29 = .ok (.iload_n 3, 1) := by decide +kernel
theorem dX7_pulls_30 : decode cX7_pulls 30 = .ok (.aload_n 0, 1) := by decide +kernel
theorem dX7_pulls_31 : decode cX7_pulls 31 = .ok (.getfield 9, 3) := by decide +kernel
theorem dX7_pulls_34 : decode cX7_pulls 34 = .ok (.iconst 1, 1) := by decide +kernel
theorem dX7_pulls_35 : decode cX7_pulls 35 = .ok (.iaload, 1) := by decide +kernel
theorem dX7_pulls_36 : decode cX7_pulls 36 = .ok (.if_icmp .ge 29, 3) := by decide +kernel
theorem dX7_pulls_39 : decode cX7_pulls 39 = .ok (.iload_n 2, 1) := by decide +kernel
theorem dX7_pulls_40 : decode cX7_pulls 40 = .ok (.iload_n 1, 1) := by decide +kernel
theorem dX7_pulls_41 : decode cX7_pulls 41 = .ok (.iload_n 3, 1) := by decide +kernel
theorem dX7_pulls_42 : decode cX7_pulls 42 = .ok (.invokestatic 247, 3) := by decide +kernel
theorem dX7_pulls_45 : decode cX7_pulls 45 = .ok (.ifCond .eq 11, 3) := by decide +kernel
theorem dX7_pulls_48 : decode cX7_pulls 48 = .ok (.aload_n 0, 1) := by decide +kernel
theorem dX7_pulls_49 : decode cX7_pulls 49 = .ok (.iload_n 3, 1) := by decide +kernel
theorem dX7_pulls_50 : decode cX7_pulls 50 = .ok (.invokevirtual 151, 3) := by decide +kernel
theorem dX7_pulls_53 : decode cX7_pulls 53 = .ok (.goto 4, 3) := by decide +kernel
theorem dX7_pulls_56 : decode cX7_pulls 56 = .ok (.iconst 0, 1) := by decide +kernel
theorem dX7_pulls_57 : decode cX7_pulls 57 = .ok (.iadd, 1) := by decide +kernel
theorem dX7_pulls_58 : decode cX7_pulls 58 = .ok (.istore_n 2, 1) := by decide +kernel
theorem dX7_pulls_59 : decode cX7_pulls 59 = .ok (.iinc 3 1, 3) := by decide +kernel
theorem dX7_pulls_62 : decode cX7_pulls 62 = .ok (.goto (-33), 3) := by decide +kernel
theorem dX7_pulls_65 : decode cX7_pulls 65 = .ok (.iconst 0, 1) := by decide +kernel
theorem dX7_pulls_66 : decode cX7_pulls 66 = .ok (.istore_n 3, 1) := by decide +kernel
theorem dX7_pulls_67 : decode cX7_pulls 67 = .ok (.iconst 0, 1) := by decide +kernel
theorem dX7_pulls_68 : decode cX7_pulls 68 = .ok (.istore 4, 2) := by decide +kernel
theorem dX7_pulls_70 : decode cX7_pulls 70 = .ok (.iload 4, 2) := by decide +kernel
theorem dX7_pulls_72 : decode cX7_pulls 72 = .ok (.aload_n 0, 1) := by decide +kernel
theorem dX7_pulls_73 : decode cX7_pulls 73 = .ok (.getfield 9, 3) := by decide +kernel
theorem dX7_pulls_76 : decode cX7_pulls 76 = .ok (.iconst 1, 1) := by decide +kernel
theorem dX7_pulls_77 : decode cX7_pulls 77 = .ok (.iaload, 1) := by decide +kernel
theorem dX7_pulls_78 : decode cX7_pulls 78 = .ok (.if_icmp .ge 39, 3) := by decide +kernel
theorem dX7_pulls_81 : decode cX7_pulls 81 = .ok (.iload_n 3, 1) := by decide +kernel
theorem dX7_pulls_82 : decode cX7_pulls 82 = .ok (.iload_n 1, 1) := by decide +kernel
theorem dX7_pulls_83 : decode cX7_pulls 83 = .ok (.iload 4, 2) := by decide +kernel
theorem dX7_pulls_85 : decode cX7_pulls 85 = .ok (.invokestatic 247, 3) := by decide +kernel
theorem dX7_pulls_88 : decode cX7_pulls 88 = .ok (.ifCond .ne 20, 3) := by decide +kernel
theorem dX7_pulls_91 : decode cX7_pulls 91 = .ok (.aload_n 0, 1) := by decide +kernel
theorem dX7_pulls_92 : decode cX7_pulls 92 = .ok (.iload 4, 2) := by decide +kernel
theorem dX7_pulls_94 : decode cX7_pulls 94 = .ok (.invokevirtual 151, 3) := by decide +kernel
theorem dX7_pulls_97 : decode cX7_pulls 97 = .ok (.iload_n 2, 1) := by decide +kernel
theorem dX7_pulls_98 : decode cX7_pulls 98 = .ok (.if_icmp .ge 10, 3) := by decide +kernel
theorem dX7_pulls_101 : decode cX7_pulls 101 = .ok (.iconst 1, 1) := by decide +kernel
theorem dX7_pulls_102 : decode cX7_pulls 102 = .ok (.iload 4, 2) := by decide +kernel
theorem dX7_pulls_104 : decode cX7_pulls 104 = .ok (.ishl, 1) := by decide +kernel
theorem dX7_pulls_105 : decode cX7_pulls 105 = .ok (.goto 4, 3) := by decide +kernel
theorem dX7_pulls_108 : decode cX7_pulls 108 = .ok (.iconst 0, 1) := by decide +kernel
theorem dX7_pulls_109 : decode cX7_pulls 109 = .ok (.ior, 1) := by decide +kernel
theorem dX7_pulls_110 : decode cX7_pulls 110 = .ok (.istore_n 3, 1) := by decide +kernel
theorem dX7_pulls_111 : decode cX7_pulls 111 = .ok (.iinc 4 1, 3) := by decide +kernel
theorem dX7_pulls_114 : decode cX7_pulls 114 = .ok (.goto (-44), 3) := by decide +kernel
theorem dX7_pulls_117 : decode cX7_pulls 117 = .ok (.iload_n 3, 1) := by decide +kernel
theorem dX7_pulls_118 : decode cX7_pulls 118 = .ok (.ireturn, 1) := by decide +kernel
set_option maxHeartbeats 800000 in
set_option maxRecDepth 100000 in
theorem c_X7_pulls {l : Launch} {ω : xO} {ks : Nat → Option Nat} (hm : xsh ω = mdS ks) {s : Int} {M : xMem} (hI : MInv M) (hs : inR s) : Ct l ω yX7_pulls ({ frames := 3, cells := 0, slots := 0, locals := 67 } : Room) 5 1 [.ref (xad ω 0), .int (iI s)] M (some (.int (iI (npuR M s)))) (npuM M s) := by
  refine Ct.of (bytes := cX7_pulls) (ret := (some .int)) (lv0 := [some (.ref (xad ω 0)), some (.int (iI s)), none, none, none]) m_cd_X7_pulls m_in_X7 (by decide +kernel) (by decide +kernel) rfl rfl rfl rfl (fun hR => by unfold npuM; split; exact hR; exact fnM_R hR) ?_
  intro κ h he hR
  have hn := hI.1
  have hev : 0 ≤ bshl 1 (M 1 1) - 1 ∧ bshl 1 (M 1 1) - 1 < 256 := evF_R hI.1
  refine x_iload_n h dX7_pulls_0 rfl ?_
  refine x_iconst h dX7_pulls_1 ?_
  refine x_iconst h dX7_pulls_2 ?_
  refine x_aload_n h dX7_pulls_3 rfl ?_
  refine x_getr (j := 0) (q := 1) h dX7_pulls_4 (sM0 hm) rfl in_X7 rfl (by decide) m_fl_X7_9 ?_
  refine x_iconst h dX7_pulls_7 ?_
  refine x_iaload h dX7_pulls_8 (sM1 hm) (by omega) (fun r8 => ?_)
  refine x_ishl h dX7_pulls_9 (fun r9 => ?_)
  refine x_iconst h dX7_pulls_10 ?_
  refine x_isub h dX7_pulls_11 ?_
  refine x_S3i h dX7_pulls_12 m_ml_X7_81 m_st_X7_within (by decide) rfl (c_X7_within hm (by omega) (by omega) (by omega)) ?_
  refine x_ifneB h dX7_pulls_15 (tgt := 25) (by decide) (fun q15 => ?_) (fun q15 => ?_)
  · refine x_iconst h dX7_pulls_25 ?_
    refine x_istore_n h dX7_pulls_26 rfl rfl ?_
    dsimp only [xset]
    refine x_iconst h dX7_pulls_27 ?_
    refine x_istore_n h dX7_pulls_28 rfl rfl ?_
    dsimp only [xset]
    refine loop_up (fun k => X ω κ 29 [some (.ref (xad ω 0)), some (.int (iI s)), some (.int (iI (psN M s k))), some (.int (iI (k : Int))), none] [] M) ((M 1 1).toNat) ?_ ?_
    · show X ω κ 29 [some (.ref (xad ω 0)), some (.int (iI s)), some (.int (iI (psN M s (M 1 1).toNat))), some (.int (iI (((M 1 1).toNat : Nat) : Int))), none] [] M
      have g0 : (((M 1 1).toNat : Nat) : Int) = M 1 1 := by omega
      refine x_iload_n h dX7_pulls_29 rfl ?_
      refine x_aload_n h dX7_pulls_30 rfl ?_
      refine x_getr (j := 0) (q := 1) h dX7_pulls_31 (sM0 hm) rfl in_X7 rfl (by decide) m_fl_X7_9 ?_
      refine x_iconst h dX7_pulls_34 ?_
      refine x_iaload h dX7_pulls_35 (sM1 hm) (by omega) (fun r35 => ?_)
      refine x_icmp_ge h dX7_pulls_36 (tgt := 65) (by decide) (by omega) (by omega) (fun q36 => ?_) (fun q36 => ?_)
      · refine x_iconst h dX7_pulls_65 ?_
        refine x_istore_n h dX7_pulls_66 rfl rfl ?_
        dsimp only [xset]
        refine x_iconst h dX7_pulls_67 ?_
        refine x_istore h dX7_pulls_68 rfl rfl ?_
        dsimp only [xset]
        refine loop_up (fun k => X ω κ 70 [some (.ref (xad ω 0)), some (.int (iI s)), some (.int (iI (psN M s (M 1 1).toNat))), some (.int (iI (pdN M s k))), some (.int (iI (k : Int)))] [] M) ((M 1 1).toNat) ?_ ?_
        · show X ω κ 70 [some (.ref (xad ω 0)), some (.int (iI s)), some (.int (iI (psN M s (M 1 1).toNat))), some (.int (iI (pdN M s (M 1 1).toNat))), some (.int (iI (((M 1 1).toNat : Nat) : Int)))] [] M
          have g0 : (((M 1 1).toNat : Nat) : Int) = M 1 1 := by omega
          refine x_iload h dX7_pulls_70 rfl ?_
          refine x_aload_n h dX7_pulls_72 rfl ?_
          refine x_getr (j := 0) (q := 1) h dX7_pulls_73 (sM0 hm) rfl in_X7 rfl (by decide) m_fl_X7_9 ?_
          refine x_iconst h dX7_pulls_76 ?_
          refine x_iaload h dX7_pulls_77 (sM1 hm) (by omega) (fun r77 => ?_)
          refine x_icmp_ge h dX7_pulls_78 (tgt := 117) (by decide) (by omega) (by omega) (fun q78 => ?_) (fun q78 => ?_)
          · refine x_iload_n h dX7_pulls_117 rfl ?_
            exact x_iret (ret := none) h he dX7_pulls_118 rfl (by unfold npuR; rw [if_pos q15]) (by unfold npuM; rw [if_pos q15])
          · exfalso; omega
        · intro k hk ihk
          replace ihk : X ω κ 70 [some (.ref (xad ω 0)), some (.int (iI s)), some (.int (iI (psN M s (M 1 1).toNat))), some (.int (iI (pdN M s (k + 1)))), some (.int (iI ((k + 1 : Nat) : Int)))] [] M := ihk
          show X ω κ 70 [some (.ref (xad ω 0)), some (.int (iI s)), some (.int (iI (psN M s (M 1 1).toNat))), some (.int (iI (pdN M s k))), some (.int (iI (k : Int)))] [] M
          have g0 : (k : Int) < M 1 1 := by omega
          have hpl := plN_R hI (p := (k : Int)) ⟨by omega, g0⟩
          have hps := psN_R hI s (M 1 1).toNat (by omega)
          refine x_iload h dX7_pulls_70 rfl ?_
          refine x_aload_n h dX7_pulls_72 rfl ?_
          refine x_getr (j := 0) (q := 1) h dX7_pulls_73 (sM0 hm) rfl in_X7 rfl (by decide) m_fl_X7_9 ?_
          refine x_iconst h dX7_pulls_76 ?_
          refine x_iaload h dX7_pulls_77 (sM1 hm) (by omega) (fun r77 => ?_)
          refine x_icmp_ge h dX7_pulls_78 (tgt := 117) (by decide) (by omega) (by omega) (fun q78 => ?_) (fun q78 => ?_)
          · exfalso; omega
          · refine x_iload_n h dX7_pulls_81 rfl ?_
            refine x_iload_n h dX7_pulls_82 rfl ?_
            refine x_iload h dX7_pulls_83 rfl ?_
            refine x_S2i h dX7_pulls_85 m_ml_X7_247 m_st_X7_has (by decide) rfl (c_X7_has hm) ?_
            refine x_ifneB h dX7_pulls_88 (tgt := 108) (by decide) (fun q88 => ?_) (fun q88 => ?_)
            · refine x_iconst h dX7_pulls_108 ?_
              refine x_ior h dX7_pulls_109 (fun r109 => ?_)
              refine x_istore_n h dX7_pulls_110 rfl rfl ?_
              dsimp only [xset]
              refine x_iinc h dX7_pulls_111 rfl rfl rfl ?_
              dsimp only [xset]
              refine x_goto h dX7_pulls_114 (tgt := 70) (by decide) ?_
              refine x_same ihk ?_ rfl rfl
              unfold pdN
              rw [xfo_s (fun (p acc : Int) => if ¬ inS p s ∧ plN M p < psN M s (M 1 1).toNat then bor acc (bshl 1 p) else acc) 0 k]
              first
                | (rw [if_pos (And.intro q88 (by omega))]; rfl)
                | (rw [if_neg (fun z => by omega), iI_bor0]; rfl)
                | (rw [if_neg (fun z => z.1 q88), iI_bor0]; rfl)
            · refine x_aload_n h dX7_pulls_91 rfl ?_
              refine x_iload h dX7_pulls_92 rfl ?_
              refine x_V1i h dX7_pulls_94 m_ml_X7_151 m_im_X7_pullsOf m_se_X7_pullsOf (sM0 hm) rfl (by decide) rfl (c_X7_pullsOf hm (by exact hI) (by first | omega | (simp only [ca_1]; omega))) ?_
              refine x_iload_n h dX7_pulls_97 rfl ?_
              refine x_icmp_ge h dX7_pulls_98 (tgt := 108) (by decide) (by omega) (by omega) (fun q98 => ?_) (fun q98 => ?_)
              · refine x_iconst h dX7_pulls_108 ?_
                refine x_ior h dX7_pulls_109 (fun r109 => ?_)
                refine x_istore_n h dX7_pulls_110 rfl rfl ?_
                dsimp only [xset]
                refine x_iinc h dX7_pulls_111 rfl rfl rfl ?_
                dsimp only [xset]
                refine x_goto h dX7_pulls_114 (tgt := 70) (by decide) ?_
                refine x_same ihk ?_ rfl rfl
                unfold pdN
                rw [xfo_s (fun (p acc : Int) => if ¬ inS p s ∧ plN M p < psN M s (M 1 1).toNat then bor acc (bshl 1 p) else acc) 0 k]
                first
                  | (rw [if_pos (And.intro q88 (by omega))]; rfl)
                  | (rw [if_neg (fun z => by omega), iI_bor0]; rfl)
                  | (rw [if_neg (fun z => z.1 q88), iI_bor0]; rfl)
              · refine x_iconst h dX7_pulls_101 ?_
                refine x_iload h dX7_pulls_102 rfl ?_
                refine x_ishl h dX7_pulls_104 (fun r104 => ?_)
                refine x_goto h dX7_pulls_105 (tgt := 109) (by decide) ?_
                refine x_ior h dX7_pulls_109 (fun r109 => ?_)
                refine x_istore_n h dX7_pulls_110 rfl rfl ?_
                dsimp only [xset]
                refine x_iinc h dX7_pulls_111 rfl rfl rfl ?_
                dsimp only [xset]
                refine x_goto h dX7_pulls_114 (tgt := 70) (by decide) ?_
                refine x_same ihk ?_ rfl rfl
                unfold pdN
                rw [xfo_s (fun (p acc : Int) => if ¬ inS p s ∧ plN M p < psN M s (M 1 1).toNat then bor acc (bshl 1 p) else acc) 0 k]
                first
                  | (rw [if_pos (And.intro q88 (by omega))]; rfl)
                  | (rw [if_neg (fun z => by omega), iI_bor0]; rfl)
                  | (rw [if_neg (fun z => z.1 q88), iI_bor0]; rfl)
      · exfalso; omega
    · intro k hk ihk
      replace ihk : X ω κ 29 [some (.ref (xad ω 0)), some (.int (iI s)), some (.int (iI (psN M s (k + 1)))), some (.int (iI ((k + 1 : Nat) : Int))), none] [] M := ihk
      show X ω κ 29 [some (.ref (xad ω 0)), some (.int (iI s)), some (.int (iI (psN M s k))), some (.int (iI (k : Int))), none] [] M
      have g0 : (k : Int) < M 1 1 := by omega
      refine x_iload_n h dX7_pulls_29 rfl ?_
      refine x_aload_n h dX7_pulls_30 rfl ?_
      refine x_getr (j := 0) (q := 1) h dX7_pulls_31 (sM0 hm) rfl in_X7 rfl (by decide) m_fl_X7_9 ?_
      refine x_iconst h dX7_pulls_34 ?_
      refine x_iaload h dX7_pulls_35 (sM1 hm) (by omega) (fun r35 => ?_)
      refine x_icmp_ge h dX7_pulls_36 (tgt := 65) (by decide) (by omega) (by omega) (fun q36 => ?_) (fun q36 => ?_)
      · exfalso; omega
      · refine x_iload_n h dX7_pulls_39 rfl ?_
        refine x_iload_n h dX7_pulls_40 rfl ?_
        refine x_iload_n h dX7_pulls_41 rfl ?_
        refine x_S2i h dX7_pulls_42 m_ml_X7_247 m_st_X7_has (by decide) rfl (c_X7_has hm) ?_
        refine x_ifeqB h dX7_pulls_45 (tgt := 56) (by decide) (fun q45 => ?_) (fun q45 => ?_)
        · refine x_iconst h dX7_pulls_56 ?_
          refine x_iadd h dX7_pulls_57 ?_
          refine x_istore_n h dX7_pulls_58 rfl rfl ?_
          dsimp only [xset]
          refine x_iinc h dX7_pulls_59 rfl rfl rfl ?_
          dsimp only [xset]
          refine x_goto h dX7_pulls_62 (tgt := 29) (by decide) ?_
          refine x_same ihk ?_ rfl rfl
          unfold psN
          rw [xfo_s (fun (p acc : Int) => if inS p s then acc + plN M p else acc) 0 k]
          first
            | (rw [if_pos q45]; rfl)
            | (rw [if_neg q45, Int.add_zero]; rfl)
        · refine x_aload_n h dX7_pulls_48 rfl ?_
          refine x_iload_n h dX7_pulls_49 rfl ?_
          refine x_V1i h dX7_pulls_50 m_ml_X7_151 m_im_X7_pullsOf m_se_X7_pullsOf (sM0 hm) rfl (by decide) rfl (c_X7_pullsOf hm (by exact hI) (by first | omega | (simp only [ca_1]; omega))) ?_
          refine x_goto h dX7_pulls_53 (tgt := 57) (by decide) ?_
          refine x_iadd h dX7_pulls_57 ?_
          refine x_istore_n h dX7_pulls_58 rfl rfl ?_
          dsimp only [xset]
          refine x_iinc h dX7_pulls_59 rfl rfl rfl ?_
          dsimp only [xset]
          refine x_goto h dX7_pulls_62 (tgt := 29) (by decide) ?_
          refine x_same ihk ?_ rfl rfl
          unfold psN
          rw [xfo_s (fun (p acc : Int) => if inS p s then acc + plN M p else acc) 0 k]
          first
            | (rw [if_pos q45]; rfl)
            | (rw [if_neg q45, Int.add_zero]; rfl)
  · refine x_aload_n h dX7_pulls_18 rfl ?_
    refine x_ldc h m_k_X7_76 dX7_pulls_19 ?_
    refine x_V1i h dX7_pulls_21 m_ml_X7_101 m_im_X7_finding m_se_X7_finding (sM0 hm) rfl (by decide) rfl (c_X7_finding hm (by omega)) ?_
    exact x_iret (ret := none) h he dX7_pulls_24 rfl (by unfold npuR; rw [if_neg q15]) (by unfold npuM; rw [if_neg q15])
