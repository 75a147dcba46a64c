/-! the class: stepsUntilThere; how many bits -/
abbrev thr (M : xMem) (b : Nat) (p : Int) : Prop := M (b + 2) p = M (b + 3) p
noncomputable def suN (b r : Nat) (p : Int) : Nat → Int → xMem → Int
  | 0, _, M => tI (thr M b p) 60 61
  | d + 1, i, M => tI (thr M b p) i (suN b r p d (i + 1) (stC b r M))
noncomputable def suM (b r : Nat) (p : Int) : Nat → xMem → xMem
  | 0, M => M
  | d + 1, M => tI (thr M b p) M (suM b r p d (stC b r M))
theorem suM_in {b r : Nat} {p : Int} (hb : pI b r) : ∀ (d : Nat) (M : xMem), PIn M b r → PIn (suM b r p d M) b r := by
  intro d
  induction d with
  | zero => intro M h; exact h
  | succ d ih =>
    intro M h
    unfold suM tI
    split
    · exact h
    · exact ih _ (stC_in hb h)
/-- what STEPS leave as it was -/
def StF (b : Nat) (M M' : xMem) : Prop := (∀ k, k ≠ b → k ≠ b + 2 → k ≠ b + 7 → k ≠ b + 8 → k ≠ b + 9 → M' k = M k) ∧ (∀ j, j ≠ 2 → j ≠ 12 → j ≠ 13 → M' b j = M b j)
theorem StF.tr {b : Nat} {M M1 M2 : xMem} (h1 : StF b M M1) (h2 : StF b M1 M2) : StF b M M2 := ⟨fun k a1 a2 a3 a4 a5 => (h2.1 k a1 a2 a3 a4 a5).trans (h1.1 k a1 a2 a3 a4 a5), fun j a1 a2 a3 => (h2.2 j a1 a2 a3).trans (h1.2 j a1 a2 a3)⟩
theorem StF.rf {b : Nat} {M : xMem} : StF b M M := ⟨fun _ _ _ _ _ _ => rfl, fun _ _ _ _ => rfl⟩
theorem stC_f {M : xMem} {b r : Nat} (hb : pI b r) (h : PIn M b r) : StF b M (stC b r M) := ⟨(stC_r hb h).1, (stC_r hb h).2.1⟩
theorem suM_f {b r : Nat} {p : Int} (hb : pI b r) : ∀ (d : Nat) (M : xMem), PIn M b r → StF b M (suM b r p d M) := by
  intro d
  induction d with
  | zero => intro M _; exact StF.rf
  | succ d ih =>
    intro M h
    unfold suM tI
    split
    · exact StF.rf
    · exact (stC_f hb h).tr (ih _ (stC_in hb h))
theorem PIn.has {M : xMem} {b r : Nat} {p : Int} (h : PIn M b r) (hp : 0 ≤ p ∧ p < M b 1) : clHas M b p := ⟨hp.1, hp.2, by have := h.2.1.1; omega⟩
theorem suN_R {b r : Nat} {p : Int} : ∀ (d : Nat) (i : Int) (M : xMem), 0 ≤ i → i + d ≤ 60 → 0 ≤ suN b r p d i M ∧ suN b r p d i M ≤ 61 := by
  intro d
  induction d with
  | zero => intro i M h0 h1; unfold suN tI; split <;> omega
  | succ d ih =>
    intro i M h0 h1
    unfold suN tI
    split
    · omega
    · exact ih (i + 1) _ (by omega) (by omega)
theorem dX1_stepsUntilThere_0 : decode cX1_stepsUntilThere 0 = .ok (.iconst 0, 1) := by decide +kernel
theorem dX1_stepsUntilThere_1 : decode cX1_stepsUntilThere 1 = .ok (.istore_n 2, 1) := by decide +kernel
theorem dX1_stepsUntilThere_2 : decode cX1_stepsUntilThere 2 = .ok (.iload_n 2, 1) := by decide +kernel
theorem dX1_stepsUntilThere_3 : decode cX1_stepsUntilThere 3 = .ok (.bipush 60, 2) := by decide +kernel
theorem dX1_stepsUntilThere_5 : decode cX1_stepsUntilThere 5 = .ok (.if_icmp .ge 24, 3) := by decide +kernel
theorem dX1_stepsUntilThere_8 : decode cX1_stepsUntilThere 8 = .ok (.aload_n 0, 1) := by decide +kernel
theorem dX1_stepsUntilThere_9 : decode cX1_stepsUntilThere 9 = .ok (.iload_n 1, 1) := by decide +kernel
theorem dX1_stepsUntilThere_10 : decode cX1_stepsUntilThere 10 = .ok (.invokevirtual 101, 3) := by decide +kernel
theorem dX1_stepsUntilThere_13 : decode cX1_stepsUntilThere 13 = .ok (.ifCond .eq 5, 3) := by decide +kernel
theorem dX1_stepsUntilThere_16 : decode cX1_stepsUntilThere 16 = .ok (.iload_n 2, 1) := by decide +kernel
theorem dX1_stepsUntilThere_17 : decode cX1_stepsUntilThere 17 = .ok (.ireturn, 1) := by decide +kernel
theorem dX1_stepsUntilThere_18 : decode cX1_stepsUntilThere 18 = .ok (.aload_n 0, 1) := by decide +kernel
theorem dX1_stepsUntilThere_19 : decode cX1_stepsUntilThere 19 = .ok (.iconst 1, 1) := by decide +kernel
theorem dX1_stepsUntilThere_20 : decode cX1_stepsUntilThere 20 = .ok (.invokevirtual 129, 3) := by decide +kernel
theorem dX1_stepsUntilThere_23 : decode cX1_stepsUntilThere 23 = .ok (.iinc 2 1, 3) := by decide +kernel
theorem dX1_stepsUntilThere_26 : decode cX1_stepsUntilThere 26 = .ok (.goto (-24), 3) := by decide +kernel
theorem dX1_stepsUntilThere_29 : decode cX1_stepsUntilThere 29 = .ok (.aload_n 0, 1) := by decide +kernel
theorem dX1_stepsUntilThere_30 : decode cX1_stepsUntilThere 30 = .ok (.iload_n 1, 1) := by decide +kernel
theorem dX1_stepsUntilThere_31 : decode cX1_stepsUntilThere 31 = .ok (.invokevirtual 101, 3) := by decide +kernel
theorem dX1_stepsUntilThere_34 : decode cX1_stepsUntilThere 34 = .ok (.ifCond .eq 8, 3) := by decide +kernel
theorem dX1_stepsUntilThere_37 : decode cX1_stepsUntilThere 37 = .ok (.bipush 60, 2) := by decide +kernel
theorem dX1_stepsUntilThere_39 : decode cX1_stepsUntilThere 39 = .ok (.goto 5, 3) := by decide +kernel
theorem dX1_stepsUntilThere_42 : decode cX1_stepsUntilThere 42 = .ok (.bipush 61, 2) := by decide +kernel
theorem dX1_stepsUntilThere_44 : decode cX1_stepsUntilThere 44 = .ok (.ireturn, 1) := by decide +kernel
set_option maxHeartbeats 4000000 in
set_option maxRecDepth 100000 in
theorem c_X1_stepsUntilThere {l : Launch} {ω : xO} (hc : xsh ω = clS) {b r : Nat} {p : Int} {M : xMem} (hb : pI b r) (hin : PIn M b r) (hp : clHas M b p) : Ct l ω yX1_stepsUntilThere ({ frames := 5, cells := 0, slots := 0, locals := 118 } : Room) 3 1 [.ref (xad ω b), .int (iI p)] M (some (.int (iI (suN b r p 60 0 M)))) (suM b r p 60 M) := by
  refine Ct.of (bytes := cX1_stepsUntilThere) (ret := (some .int)) (lv0 := [some (.ref (xad ω b)), some (.int (iI p)), none]) m_cd_X1_stepsUntilThere m_in_X1 (by decide +kernel) (by decide +kernel) rfl rfl rfl rfl (fun hR => (suM_in hb 60 M hin).1) ?_
  intro κ h he hR
  refine x_iconst h dX1_stepsUntilThere_0 ?_
  refine x_istore_n h dX1_stepsUntilThere_1 rfl rfl ?_
  dsimp only [xset]
  have H : ∀ (d : Nat) (M' : xMem) (i : Int), 0 ≤ i → i + d = 60 → PIn M' b r → clHas M' b p → suN b r p d i M' = suN b r p 60 0 M → suM b r p d M' = suM b r p 60 M → X ω κ 2 [some (.ref (xad ω b)), some (.int (iI p)), some (.int (iI i))] [] M' := by
    intro d
    induction d with
    | zero =>
      intro M' i hi0 hid hin' hp' e e2
      have hI := hin'.2.1
      refine x_iload_n h dX1_stepsUntilThere_2 rfl ?_
      refine x_bipush h dX1_stepsUntilThere_3 (by decide) ?_
      refine x_icmp_ge h dX1_stepsUntilThere_5 (tgt := 29) (by decide) (by omega) (by omega) (fun q5 => ?_) (fun q5 => ?_)
      · refine x_aload_n h dX1_stepsUntilThere_29 rfl ?_
        refine x_iload_n h dX1_stepsUntilThere_30 rfl ?_
        refine x_V1i h dX1_stepsUntilThere_31 m_ml_X1_101 m_im_X1_isThere m_se_X1_isThere (sPe hc hb) rfl (by decide) rfl (c_X1_isThere hc hb (by omega)) ?_
        refine x_ifeqB h dX1_stepsUntilThere_34 (tgt := 42) (by decide) (fun q34 => ?_) (fun q34 => ?_)
        · refine x_bipush h dX1_stepsUntilThere_42 (by decide) ?_
          exact x_iret (ret := none) h he dX1_stepsUntilThere_44 rfl (by first | (rw [← e, suN, tI_p (by assumption)]) | (rw [← e, suN, tI_n (by assumption)])) e2
        · refine x_bipush h dX1_stepsUntilThere_37 (by decide) ?_
          refine x_goto h dX1_stepsUntilThere_39 (tgt := 44) (by decide) ?_
          exact x_iret (ret := none) h he dX1_stepsUntilThere_44 rfl (by first | (rw [← e, suN, tI_p (by assumption)]) | (rw [← e, suN, tI_n (by assumption)])) e2
      · exfalso; omega
    | succ d ih =>
      intro M' i hi0 hid hin' hp' e e2
      have hI := hin'.2.1
      refine x_iload_n h dX1_stepsUntilThere_2 rfl ?_
      refine x_bipush h dX1_stepsUntilThere_3 (by decide) ?_
      refine x_icmp_ge h dX1_stepsUntilThere_5 (tgt := 29) (by decide) (by omega) (by omega) (fun q5 => ?_) (fun q5 => ?_)
      · exfalso; omega
      · refine x_aload_n h dX1_stepsUntilThere_8 rfl ?_
        refine x_iload_n h dX1_stepsUntilThere_9 rfl ?_
        refine x_V1i h dX1_stepsUntilThere_10 m_ml_X1_101 m_im_X1_isThere m_se_X1_isThere (sPe hc hb) rfl (by decide) rfl (c_X1_isThere hc hb (by omega)) ?_
        refine x_ifeqB h dX1_stepsUntilThere_13 (tgt := 18) (by decide) (fun q13 => ?_) (fun q13 => ?_)
        · refine x_aload_n h dX1_stepsUntilThere_18 rfl ?_
          refine x_iconst h dX1_stepsUntilThere_19 ?_
          refine x_V1v h dX1_stepsUntilThere_20 m_ml_X1_129 m_im_X1_takeSteps m_se_X1_takeSteps (sPe hc hb) rfl (by decide) rfl (c_X1_takeSteps hc hb hin' (by decide)) ?_
          refine x_iinc h dX1_stepsUntilThere_23 rfl rfl rfl ?_
          dsimp only [xset]
          refine x_goto h dX1_stepsUntilThere_26 (tgt := 2) (by decide) ?_
          exact ih (stC b r M') (i + 1) (by omega) (by omega) (stC_in hb hin') ((stC_in hb hin').has (by have := (stC_f hb hin').2 1 (by omega) (by omega) (by omega); unfold clHas at hp'; omega)) (by rw [← e, suN, tI_n q13]) (by rw [← e2, suM, tI_n q13])
        · refine x_iload_n h dX1_stepsUntilThere_16 rfl ?_
          exact x_iret (ret := none) h he dX1_stepsUntilThere_17 rfl (by rw [← e, suN, tI_p q13]) (by rw [← e2, suM, tI_p q13])
  exact H 60 M 0 (by omega) (by omega) hin hp rfl rfl

def bc1 (a : Int) : Int := a - band (bushr a 1) 1431655765
def bc2 (a : Int) : Int := band a 858993459 + band (bushr a 2) 858993459
def bc3 (a : Int) : Int := band (a + bushr a 4) 252645135
def bc4 (a : Int) : Int := a + bushr a 8
def bc5 (a : Int) : Int := a + bushr a 16
def bcF (a : Int) : Int := band (bc5 (bc4 (bc3 (bc2 (bc1 a))))) 63
/-- how many of the lowest eight bits -/
def pc8 (a : Int) : Int := a % 2 + a / 2 % 2 + a / 4 % 2 + a / 8 % 2 + a / 16 % 2 + a / 32 % 2 + a / 64 % 2 + a / 128 % 2
theorem bcF_8n : ∀ n, n < 256 → bcF ((n : Nat) : Int) = pc8 ((n : Nat) : Int) := by
  have : (List.range 256).all (fun n => decide (bcF ((n : Nat) : Int) = pc8 ((n : Nat) : Int))) = true := by decide +kernel
  intro n hn
  exact of_decide_eq_true (List.all_eq_true.mp this n (List.mem_range.mpr hn))
theorem bcF_8 {a : Int} (h : 0 ≤ a ∧ a < 256) : bcF a = pc8 a := by
  obtain ⟨n, rfl⟩ : ∃ n : Nat, a = (n : Int) := ⟨a.toNat, by omega⟩
  exact bcF_8n n (by omega)
theorem pc8_R {a : Int} : 0 ≤ pc8 a ∧ pc8 a ≤ 8 := by unfold pc8; omega

theorem dJ6_bitCount_0f7a4_0 : decode cJ6_bitCount_0f7a4 0 = .ok (.iload_n 0, 1) := by decide +kernel
theorem dJ6_bitCount_0f7a4_1 : decode cJ6_bitCount_0f7a4 1 = .ok (.iload_n 0, 1) := by decide +kernel
theorem dJ6_bitCount_0f7a4_2 : decode cJ6_bitCount_0f7a4 2 = .ok (.iconst 1, 1) := by decide +kernel
theorem dJ6_bitCount_0f7a4_3 : decode cJ6_bitCount_0f7a4 3 = .ok (.iushr, 1) := by decide +kernel
theorem dJ6_bitCount_0f7a4_4 : decode cJ6_bitCount_0f7a4 4 = .ok (.ldc_w 265, 3) := by decide +kernel
theorem dJ6_bitCount_0f7a4_7 : decode cJ6_bitCount_0f7a4 7 = .ok (.iand, 1) := by decide +kernel
theorem dJ6_bitCount_0f7a4_8 : decode cJ6_bitCount_0f7a4 8 = .ok (.isub, 1) := by decide +kernel
theorem dJ6_bitCount_0f7a4_9 : decode cJ6_bitCount_0f7a4 9 = .ok (.istore_n 0, 1) := by decide +kernel
theorem dJ6_bitCount_0f7a4_10 : decode cJ6_bitCount_0f7a4 10 = .ok (.iload_n 0, 1) := by decide +kernel
theorem dJ6_bitCount_0f7a4_11 : decode cJ6_bitCount_0f7a4 11 = .ok (.ldc_w 266, 3) := by decide +kernel
theorem dJ6_bitCount_0f7a4_14 : decode cJ6_bitCount_0f7a4 14 = .ok (.iand, 1) := by decide +kernel
theorem dJ6_bitCount_0f7a4_15 : decode cJ6_bitCount_0f7a4 15 = .ok (.iload_n 0, 1) := by decide +kernel
theorem dJ6_bitCount_0f7a4_16 : decode cJ6_bitCount_0f7a4 16 = .ok (.iconst 2, 1) := by decide +kernel
theorem dJ6_bitCount_0f7a4_17 : decode cJ6_bitCount_0f7a4 17 = .ok (.iushr, 1) := by decide +kernel
theorem dJ6_bitCount_0f7a4_18 : decode cJ6_bitCount_0f7a4 18 = .ok (.ldc_w 266, 3) := by decide +kernel
theorem dJ6_bitCount_0f7a4_21 : decode cJ6_bitCount_0f7a4 21 = .ok (.iand, 1) := by decide +kernel
theorem dJ6_bitCount_0f7a4_22 : decode cJ6_bitCount_0f7a4 22 = .ok (.iadd, 1) := by decide +kernel
theorem dJ6_bitCount_0f7a4_23 : decode cJ6_bitCount_0f7a4 23 = .ok (.istore_n 0, 1) := by decide +kernel
theorem dJ6_bitCount_0f7a4_24 : decode cJ6_bitCount_0f7a4 24 = .ok (.iload_n 0, 1) := by decide +kernel
theorem dJ6_bitCount_0f7a4_25 : decode cJ6_bitCount_0f7a4 25 = .ok (.iload_n 0, 1) := by decide +kernel
theorem dJ6_bitCount_0f7a4_26 : decode cJ6_bitCount_0f7a4 26 = .ok (.iconst 4, 1) := by decide +kernel
theorem dJ6_bitCount_0f7a4_27 : decode cJ6_bitCount_0f7a4 27 = .ok (.iushr, 1) := by decide +kernel
theorem dJ6_bitCount_0f7a4_28 : decode cJ6_bitCount_0f7a4 28 = .ok (.iadd, 1) := by decide +kernel
theorem dJ6_bitCount_0f7a4_29 : decode cJ6_bitCount_0f7a4 29 = .ok (.ldc_w 267, 3) := by decide +kernel
theorem dJ6_bitCount_0f7a4_32 : decode cJ6_bitCount_0f7a4 32 = .ok (.iand, 1) := by decide +kernel
theorem dJ6_bitCount_0f7a4_33 : decode cJ6_bitCount_0f7a4 33 = .ok (.istore_n 0, 1) := by decide +kernel
theorem dJ6_bitCount_0f7a4_34 : decode cJ6_bitCount_0f7a4 34 = .ok (.iload_n 0, 1) := by decide +kernel
theorem dJ6_bitCount_0f7a4_35 : decode cJ6_bitCount_0f7a4 35 = .ok (.iload_n 0, 1) := by decide +kernel
theorem dJ6_bitCount_0f7a4_36 : decode cJ6_bitCount_0f7a4 36 = .ok (.bipush 8, 2) := by decide +kernel
theorem dJ6_bitCount_0f7a4_38 : decode cJ6_bitCount_0f7a4 38 = .ok (.iushr, 1) := by decide +kernel
theorem dJ6_bitCount_0f7a4_39 : decode cJ6_bitCount_0f7a4 39 = .ok (.iadd, 1) := by decide +kernel
theorem dJ6_bitCount_0f7a4_40 : decode cJ6_bitCount_0f7a4 40 = .ok (.istore_n 0, 1) := by decide +kernel
theorem dJ6_bitCount_0f7a4_41 : decode cJ6_bitCount_0f7a4 41 = .ok (.iload_n 0, 1) := by decide +kernel
theorem dJ6_bitCount_0f7a4_42 : decode cJ6_bitCount_0f7a4 42 = .ok (.iload_n 0, 1) := by decide +kernel
theorem dJ6_bitCount_0f7a4_43 : decode cJ6_bitCount_0f7a4 43 = .ok (.bipush 16, 2) := by decide +kernel
theorem dJ6_bitCount_0f7a4_45 : decode cJ6_bitCount_0f7a4 45 = .ok (.iushr, 1) := by decide +kernel
theorem dJ6_bitCount_0f7a4_46 : decode cJ6_bitCount_0f7a4 46 = .ok (.iadd, 1) := by decide +kernel
theorem dJ6_bitCount_0f7a4_47 : decode cJ6_bitCount_0f7a4 47 = .ok (.istore_n 0, 1) := by decide +kernel
theorem dJ6_bitCount_0f7a4_48 : decode cJ6_bitCount_0f7a4 48 = .ok (.iload_n 0, 1) := by decide +kernel
theorem dJ6_bitCount_0f7a4_49 : decode cJ6_bitCount_0f7a4 49 = .ok (.bipush 63, 2) := by decide +kernel
theorem dJ6_bitCount_0f7a4_51 : decode cJ6_bitCount_0f7a4 51 = .ok (.iand, 1) := by decide +kernel
theorem dJ6_bitCount_0f7a4_52 : decode cJ6_bitCount_0f7a4 52 = .ok (.ireturn, 1) := by decide +kernel
set_option maxHeartbeats 4000000 in
set_option maxRecDepth 100000 in
theorem c_J6_bitCount_0f7a4 {l : Launch} {ω : xO}  {a : Int} {M : xMem} (ha : 0 ≤ a ∧ a < 256) : Ct l ω yJ6_bitCount_0f7a4 ({ frames := 0, cells := 0, slots := 0, locals := 0 } : Room) 1 1 [.int (iI a)] M (some (.int (iI (pc8 a)))) M := by
  refine Ct.of (bytes := cJ6_bitCount_0f7a4) (ret := (some .int)) (lv0 := [some (.int (iI a))]) m_cd_J6_bitCount_0f7a4 m_in_J6 (by decide +kernel) (by decide +kernel) rfl rfl rfl rfl (fun hR => hR) ?_
  intro κ h he hR
  refine x_iload_n h dJ6_bitCount_0f7a4_0 rfl ?_
  refine x_iload_n h dJ6_bitCount_0f7a4_1 rfl ?_
  refine x_iconst h dJ6_bitCount_0f7a4_2 ?_
  refine x_iushr h dJ6_bitCount_0f7a4_3 (fun r3 => ?_)
  refine x_ldcw h m_k_J6_265 dJ6_bitCount_0f7a4_4 ?_
  refine x_iand h dJ6_bitCount_0f7a4_7 (fun r7 => ?_)
  refine x_isub h dJ6_bitCount_0f7a4_8 ?_
  refine x_istore_n h dJ6_bitCount_0f7a4_9 rfl rfl ?_
  dsimp only [xset]
  refine x_iload_n h dJ6_bitCount_0f7a4_10 rfl ?_
  refine x_ldcw h m_k_J6_266 dJ6_bitCount_0f7a4_11 ?_
  refine x_iand h dJ6_bitCount_0f7a4_14 (fun r14 => ?_)
  refine x_iload_n h dJ6_bitCount_0f7a4_15 rfl ?_
  refine x_iconst h dJ6_bitCount_0f7a4_16 ?_
  refine x_iushr h dJ6_bitCount_0f7a4_17 (fun r17 => ?_)
  refine x_ldcw h m_k_J6_266 dJ6_bitCount_0f7a4_18 ?_
  refine x_iand h dJ6_bitCount_0f7a4_21 (fun r21 => ?_)
  refine x_iadd h dJ6_bitCount_0f7a4_22 ?_
  refine x_istore_n h dJ6_bitCount_0f7a4_23 rfl rfl ?_
  dsimp only [xset]
  refine x_iload_n h dJ6_bitCount_0f7a4_24 rfl ?_
  refine x_iload_n h dJ6_bitCount_0f7a4_25 rfl ?_
  refine x_iconst h dJ6_bitCount_0f7a4_26 ?_
  refine x_iushr h dJ6_bitCount_0f7a4_27 (fun r27 => ?_)
  refine x_iadd h dJ6_bitCount_0f7a4_28 ?_
  refine x_ldcw h m_k_J6_267 dJ6_bitCount_0f7a4_29 ?_
  refine x_iand h dJ6_bitCount_0f7a4_32 (fun r32 => ?_)
  refine x_istore_n h dJ6_bitCount_0f7a4_33 rfl rfl ?_
  dsimp only [xset]
  refine x_iload_n h dJ6_bitCount_0f7a4_34 rfl ?_
  refine x_iload_n h dJ6_bitCount_0f7a4_35 rfl ?_
  refine x_bipush h dJ6_bitCount_0f7a4_36 (by decide) ?_
  refine x_iushr h dJ6_bitCount_0f7a4_38 (fun r38 => ?_)
  refine x_iadd h dJ6_bitCount_0f7a4_39 ?_
  refine x_istore_n h dJ6_bitCount_0f7a4_40 rfl rfl ?_
  dsimp only [xset]
  refine x_iload_n h dJ6_bitCount_0f7a4_41 rfl ?_
  refine x_iload_n h dJ6_bitCount_0f7a4_42 rfl ?_
  refine x_bipush h dJ6_bitCount_0f7a4_43 (by decide) ?_
  refine x_iushr h dJ6_bitCount_0f7a4_45 (fun r45 => ?_)
  refine x_iadd h dJ6_bitCount_0f7a4_46 ?_
  refine x_istore_n h dJ6_bitCount_0f7a4_47 rfl rfl ?_
  dsimp only [xset]
  refine x_iload_n h dJ6_bitCount_0f7a4_48 rfl ?_
  refine x_bipush h dJ6_bitCount_0f7a4_49 (by decide) ?_
  refine x_iand h dJ6_bitCount_0f7a4_51 (fun r51 => ?_)
  exact x_iret (ret := none) h he dJ6_bitCount_0f7a4_52 rfl (by rw [← bcF_8 ha]; rfl) rfl
