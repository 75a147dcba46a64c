/-! the reference: pairs: the lowest, without; load -/
theorem inS_ex : ∀ n, 0 < n → n < 256 → ∃ p, p < 8 ∧ inS ((p : Nat) : Int) ((n : Nat) : Int) := by
  have : (List.range 256).all (fun n => (n == 0) || (List.range 8).any (fun p => decide (inS ((p : Nat) : Int) ((n : Nat) : Int)))) = true := by decide +kernel
  intro n h0 hn
  have h := List.all_eq_true.mp this n (List.mem_range.mpr hn)
  rw [Bool.or_eq_true] at h
  rcases h with h | h
  · have := eq_of_beq h; omega
  · obtain ⟨p, hp, h2⟩ := List.any_eq_true.mp h
    exact ⟨p, List.mem_range.mp hp, of_decide_eq_true h2⟩
noncomputable def lowN (s : Int) : Int := fsF (fun p => inS p s) 8 0 0
theorem lowN_x {s : Int} (hs : 0 < s ∧ s < 256) : (0 ≤ lowN s ∧ lowN s < 8) ∧ inS (lowN s) s ∧ ∀ q, 0 ≤ q → q < lowN s → ¬ inS q s := by
  obtain ⟨n, rfl⟩ : ∃ n : Nat, s = (n : Int) := ⟨s.toNat, by omega⟩
  obtain ⟨p, hp, hi⟩ := inS_ex n (by omega) (by omega)
  rcases first_or (fun j => inS ((j : Nat) : Int) (n : Int)) 8 with ⟨j, j1, j2, j3⟩ | hno
  · have hl : lowN (n : Int) = (j : Int) := by
      unfold lowN
      exact fsF_first 8 0 0 (j : Int) (by omega) (by omega) j2 (fun q q0 q1 => by have := j3 q.toNat (by omega); rwa [show ((q.toNat : Nat) : Int) = q by omega] at this)
    rw [hl]
    exact ⟨⟨by omega, by omega⟩, j2, fun q q0 q1 => by have := j3 q.toNat (by omega); rwa [show ((q.toNat : Nat) : Int) = q by omega] at this⟩
  · exact absurd hi (hno p hp)
noncomputable def wiN (s o : Int) : Int := band (band s (bxor (bshl 1 (lowN s)) (-1))) (bxor (bshl 1 o) (-1))
theorem wiN_R {s : Int} (h : 0 ≤ s ∧ s < 256) (o : Int) : 0 ≤ wiN s o ∧ wiN s o < 256 := band_255 (band_255 h _) _
noncomputable def mbN (s o : Int) : Prop := inS o s ∧ (o ≠ lowN s ∨ pc8 s % 2 = 1)
noncomputable def lwN (M : xMem) (s o : Int) : Int := (if o = lowN s then 0 else apN M (lowN s) o) + M 7 (wiN s o)
def ldR (s : Int) : Nat → Nat → xMem → Int
  | 0, n, _ => (n : Int)
  | k + 1, n, M => if (n : Int) < M 13 s ∧ (n : Int) < M 1 1 ∧ plc (M 14 (40 * s + n)) then ldR s k (n + 1) (up M 1 (113 + 8 * (n : Int) + 2) (M 14 (40 * s + n))) else (n : Int)
def ldX (s : Int) : Nat → Nat → xMem → xMem
  | 0, _, M => M
  | k + 1, n, M => if (n : Int) < M 13 s ∧ (n : Int) < M 1 1 ∧ plc (M 14 (40 * s + n)) then ldX s k (n + 1) (up M 1 (113 + 8 * (n : Int) + 2) (M 14 (40 * s + n))) else M
def nloR (M : xMem) (s : Int) : Int := if 0 ≤ s ∧ s ≤ 3 then (if M 12 s = 0 then -1000006 else ldR s 8 0 M) else -1000001
def nloM (M : xMem) (s : Int) : xMem := if 0 ≤ s ∧ s ≤ 3 then (if M 12 s = 0 then fnM M (-1000006) else ldX s 8 0 M) else fnM M (-1000001)
theorem ldX_R (s : Int) : ∀ (k n : Nat) (M : xMem), xR M → xR (ldX s k n M) := by
  intro k
  induction k with
  | zero => intro n M h; exact h
  | succ k ih =>
    intro n M h
    unfold ldX
    split
    · exact ih _ _ (up_R h (h 14 _))
    · exact h
theorem dX7_lowest_0 : decode cX7_lowest 0 = .ok (.iconst 0, 1) := by decide +kernel
theorem dX7_lowest_1 : decode cX7_lowest 1 = .ok (.istore_n 1, 1) := by decide +kernel
theorem dX7_lowest_2 : decode cX7_lowest 2 = .ok (.iload_n 0, 1) := by decide +kernel
theorem dX7_lowest_3 : decode cX7_lowest 3 = .ok (.iload_n 1, 1) := by decide +kernel
theorem dX7_lowest_4 : decode cX7_lowest 4 = .ok (.invokestatic 247, 3) := by decide +kernel
theorem dX7_lowest_7 : decode cX7_lowest 7 = .ok (.ifCond .ne 9, 3) := by decide +kernel
theorem dX7_lowest_10 : decode cX7_lowest 10 = .ok (.iinc 1 1, 3) := by decide +kernel
theorem dX7_lowest_13 : decode cX7_lowest 13 = .ok (.goto (-11), 3) := by decide +kernel
theorem dX7_lowest_16 : decode cX7_lowest 16 = .ok (.iload_n 1, 1) := by decide +kernel
theorem dX7_lowest_17 : decode cX7_lowest 17 = .ok (.ireturn, 1) := by decide +kernel
set_option maxHeartbeats 800000 in
set_option maxRecDepth 100000 in
theorem c_X7_lowest {l : Launch} {ω : xO} {ks : Nat → Option Nat} (hm : xsh ω = mdS ks) {s : Int} {M : xMem} (hs : 0 < s ∧ s < 256) : Ct l ω yX7_lowest ({ frames := 1, cells := 0, slots := 0, locals := 21 } : Room) 2 1 [.int (iI s)] M (some (.int (iI (lowN s)))) M := by
  refine Ct.of (bytes := cX7_lowest) (ret := (some .int)) (lv0 := [some (.int (iI s)), none]) m_cd_X7_lowest m_in_X7 (by decide +kernel) (by decide +kernel) rfl rfl rfl rfl (fun hR => hR) ?_
  intro κ h he hR
  refine x_iconst h dX7_lowest_0 ?_
  refine x_istore_n h dX7_lowest_1 rfl rfl ?_
  dsimp only [xset]
  obtain ⟨hx, hi, hno⟩ := lowN_x hs
  have HH : ∀ (k : Nat) (p : Int), 0 ≤ p → p + k = lowN s → X ω κ 2 [some (.int (iI s)), some (.int (iI p))] [] M := by
    intro k
    induction k with
    | zero =>
      intro p p0 e
      have ep : p = lowN s := by omega
      subst ep
      refine x_iload_n h dX7_lowest_2 rfl ?_
      refine x_iload_n h dX7_lowest_3 rfl ?_
      refine x_S2i h dX7_lowest_4 m_ml_X7_247 m_st_X7_has (by decide) rfl (c_X7_has hm) ?_
      refine x_ifneB h dX7_lowest_7 (tgt := 16) (by decide) (fun q7 => ?_) (fun q7 => ?_)
      · refine x_iload_n h dX7_lowest_16 rfl ?_
        exact x_iret (ret := none) h he dX7_lowest_17 rfl rfl rfl
      · exact absurd hi q7
    | succ k ih =>
      intro p p0 e
      have hn := hno p p0 (by omega)
      refine x_iload_n h dX7_lowest_2 rfl ?_
      refine x_iload_n h dX7_lowest_3 rfl ?_
      refine x_S2i h dX7_lowest_4 m_ml_X7_247 m_st_X7_has (by decide) rfl (c_X7_has hm) ?_
      refine x_ifneB h dX7_lowest_7 (tgt := 16) (by decide) (fun q7 => ?_) (fun q7 => ?_)
      · exact absurd q7 hn
      · refine x_iinc h dX7_lowest_10 rfl rfl rfl ?_
        dsimp only [xset]
        refine x_goto h dX7_lowest_13 (tgt := 2) (by decide) ?_
        exact ih (p + 1) (by omega) (by omega)
  exact HH (lowN s).toNat 0 (by omega) (by omega)

theorem dX7_without_0 : decode cX7_without 0 = .ok (.iload_n 0, 1) := by decide +kernel
theorem dX7_without_1 : decode cX7_without 1 = .ok (.iconst 1, 1) := by decide +kernel
theorem dX7_without_2 : decode cX7_without 2 = .ok (.iload_n 0, 1) := by decide +kernel
theorem dX7_without_3 : decode cX7_without 3 = .ok (.invokestatic 262, 3) := by decide +kernel
theorem dX7_without_6 : decode cX7_without 6 = .ok (.ishl, 1) := by decide +kernel
theorem dX7_without_7 : decode cX7_without 7 = .ok (.iconst (-1), 1) := by decide +kernel
theorem dX7_without_8 : decode cX7_without 8 = .ok (.ixor, 1) := by decide +kernel
theorem dX7_without_9 : decode cX7_without 9 = .ok (.iand, 1) := by decide +kernel
theorem dX7_without_10 : decode cX7_without 10 = .ok (.iconst 1, 1) := by decide +kernel
theorem dX7_without_11 : decode cX7_without 11 = .ok (.iload_n 1, 1) := by decide +kernel
theorem dX7_without_12 : decode cX7_without 12 = .ok (.ishl, 1) := by decide +kernel
theorem dX7_without_13 : decode cX7_without 13 = .ok (.iconst (-1), 1) := by decide +kernel
theorem dX7_without_14 : decode cX7_without 14 = .ok (.ixor, 1) := by decide +kernel
theorem dX7_without_15 : decode cX7_without 15 = .ok (.iand, 1) := by decide +kernel
theorem dX7_without_16 : decode cX7_without 16 = .ok (.ireturn, 1) := by decide +kernel
set_option maxHeartbeats 800000 in
set_option maxRecDepth 100000 in
theorem c_X7_without {l : Launch} {ω : xO} {ks : Nat → Option Nat} (hm : xsh ω = mdS ks) {s o : Int} {M : xMem} (hs : 0 < s ∧ s < 256) : Ct l ω yX7_without ({ frames := 2, cells := 0, slots := 0, locals := 42 } : Room) 2 2 [.int (iI s), .int (iI o)] M (some (.int (iI (wiN s o)))) M := by
  refine Ct.of (bytes := cX7_without) (ret := (some .int)) (lv0 := [some (.int (iI s)), some (.int (iI o))]) m_cd_X7_without m_in_X7 (by decide +kernel) (by decide +kernel) rfl rfl rfl rfl (fun hR => hR) ?_
  intro κ h he hR
  refine x_iload_n h dX7_without_0 rfl ?_
  refine x_iconst h dX7_without_1 ?_
  refine x_iload_n h dX7_without_2 rfl ?_
  refine x_S1i h dX7_without_3 m_ml_X7_262 m_st_X7_lowest (by decide) rfl (c_X7_lowest hm (by omega)) ?_
  refine x_ishl h dX7_without_6 (fun r6 => ?_)
  refine x_iconst h dX7_without_7 ?_
  refine x_ixor h dX7_without_8 (fun r8 => ?_)
  refine x_iand h dX7_without_9 (fun r9 => ?_)
  refine x_iconst h dX7_without_10 ?_
  refine x_iload_n h dX7_without_11 rfl ?_
  refine x_ishl h dX7_without_12 (fun r12 => ?_)
  refine x_iconst h dX7_without_13 ?_
  refine x_ixor h dX7_without_14 (fun r14 => ?_)
  refine x_iand h dX7_without_15 (fun r15 => ?_)
  exact x_iret (ret := none) h he dX7_without_16 rfl rfl rfl

theorem dX7_mayBe_0 : decode cX7_mayBe 0 = .ok (.iload_n 1, 1) := by decide +kernel
theorem dX7_mayBe_1 : decode cX7_mayBe 1 = .ok (.iload_n 2, 1) := by decide +kernel
theorem dX7_mayBe_2 : decode cX7_mayBe 2 = .ok (.invokestatic 247, 3) := by decide +kernel
theorem dX7_mayBe_5 : decode cX7_mayBe 5 = .ok (.ifCond .eq 25, 3) := by decide +kernel
theorem dX7_mayBe_8 : decode cX7_mayBe 8 = .ok (.iload_n 2, 1) := by decide +kernel
theorem dX7_mayBe_9 : decode cX7_mayBe 9 = .ok (.iload_n 1, 1) := by decide +kernel
theorem dX7_mayBe_10 : decode cX7_mayBe 10 = .ok (.invokestatic 262, 3) := by decide +kernel
theorem dX7_mayBe_13 : decode cX7_mayBe 13 = .ok (.if_icmp .ne 13, 3) := by decide +kernel
theorem dX7_mayBe_16 : decode cX7_mayBe 16 = .ok (.iload_n 1, 1) := by decide +kernel
theorem dX7_mayBe_17 : decode cX7_mayBe 17 = .ok (.invokestatic 253, 3) := by decide +kernel
theorem dX7_mayBe_20 : decode cX7_mayBe 20 = .ok (.iconst 2, 1) := by decide +kernel
theorem dX7_mayBe_21 : decode cX7_mayBe 21 = .ok (.irem, 1) := by decide +kernel
theorem dX7_mayBe_22 : decode cX7_mayBe 22 = .ok (.iconst 1, 1) := by decide +kernel
theorem dX7_mayBe_23 : decode cX7_mayBe 23 = .ok (.if_icmp .ne 7, 3) := by decide +kernel
theorem dX7_mayBe_26 : decode cX7_mayBe 26 = .ok (.iconst 1, 1) := by decide +kernel
theorem dX7_mayBe_27 : decode cX7_mayBe 27 = .ok (.goto 4, 3) := by decide +kernel
theorem dX7_mayBe_30 : decode cX7_mayBe 30 = .ok (.iconst 0, 1) := by decide +kernel
theorem dX7_mayBe_31 : decode cX7_mayBe 31 = .ok (.ireturn, 1) := by decide +kernel
set_option maxHeartbeats 800000 in
set_option maxRecDepth 100000 in
theorem c_X7_mayBe {l : Launch} {ω : xO} {ks : Nat → Option Nat} (hm : xsh ω = mdS ks) {s o : Int} {M : xMem} (hs : 0 < s ∧ s < 256) (ho : inR o) : Ct l ω yX7_mayBe ({ frames := 2, cells := 0, slots := 0, locals := 42 } : Room) 3 2 [.ref (xad ω 0), .int (iI s), .int (iI o)] M (some (.int (iI (bI (mbN s o))))) M := by
  refine Ct.of (bytes := cX7_mayBe) (ret := (some .boolean)) (lv0 := [some (.ref (xad ω 0)), some (.int (iI s)), some (.int (iI o))]) m_cd_X7_mayBe m_in_X7 (by decide +kernel) (by decide +kernel) rfl rfl rfl rfl (fun hR => hR) ?_
  intro κ h he hR
  have hl := (lowN_x hs).1
  have hp8 := pc8_R (a := s)
  have e1 : brem (pc8 s) 2 = pc8 s % 2 := brem_p (by omega) (by decide)
  refine x_iload_n h dX7_mayBe_0 rfl ?_
  refine x_iload_n h dX7_mayBe_1 rfl ?_
  refine x_S2i h dX7_mayBe_2 m_ml_X7_247 m_st_X7_has (by decide) rfl (c_X7_has hm) ?_
  refine x_ifeqB h dX7_mayBe_5 (tgt := 30) (by decide) (fun q5 => ?_) (fun q5 => ?_)
  · refine x_iconst h dX7_mayBe_30 ?_
    exact x_zret h he dX7_mayBe_31 (by first | exact Or.inl rfl | exact Or.inr rfl | exact bI_01 _ | omega) rfl (by first | exact (bI_t (show mbN s o from ⟨by assumption, Or.inl (by assumption)⟩)).symm | exact (bI_t (show mbN s o from ⟨by assumption, Or.inr (by assumption)⟩)).symm | exact (bI_f (show ¬ mbN s o from fun z => absurd z.1 (by assumption))).symm | exact (bI_f (show ¬ mbN s o from fun z => z.2.elim (fun y => y (by assumption)) (by assumption))).symm) rfl
  · refine x_iload_n h dX7_mayBe_8 rfl ?_
    refine x_iload_n h dX7_mayBe_9 rfl ?_
    refine x_S1i h dX7_mayBe_10 m_ml_X7_262 m_st_X7_lowest (by decide) rfl (c_X7_lowest hm (by omega)) ?_
    refine x_icmp_ne h dX7_mayBe_13 (tgt := 26) (by decide) (by omega) (by omega) (fun q13 => ?_) (fun q13 => ?_)
    · refine x_iconst h dX7_mayBe_26 ?_
      refine x_goto h dX7_mayBe_27 (tgt := 31) (by decide) ?_
      exact x_zret h he dX7_mayBe_31 (by first | exact Or.inl rfl | exact Or.inr rfl | exact bI_01 _ | omega) rfl (by first | exact (bI_t (show mbN s o from ⟨by assumption, Or.inl (by assumption)⟩)).symm | exact (bI_t (show mbN s o from ⟨by assumption, Or.inr (by assumption)⟩)).symm | exact (bI_f (show ¬ mbN s o from fun z => absurd z.1 (by assumption))).symm | exact (bI_f (show ¬ mbN s o from fun z => z.2.elim (fun y => y (by assumption)) (by assumption))).symm) rfl
    · refine x_iload_n h dX7_mayBe_16 rfl ?_
      refine x_S1i h dX7_mayBe_17 m_ml_X7_253 m_st_X7_bits (by decide) rfl (c_X7_bits hm (by omega)) ?_
      refine x_iconst h dX7_mayBe_20 ?_
      refine x_irem h dX7_mayBe_21 (by omega) (fun r21 => ?_)
      rw [e1]
      refine x_iconst h dX7_mayBe_22 ?_
      refine x_icmp_ne h dX7_mayBe_23 (tgt := 30) (by decide) (by omega) (by omega) (fun q23 => ?_) (fun q23 => ?_)
      · refine x_iconst h dX7_mayBe_30 ?_
        exact x_zret h he dX7_mayBe_31 (by first | exact Or.inl rfl | exact Or.inr rfl | exact bI_01 _ | omega) rfl (by first | exact (bI_t (show mbN s o from ⟨by assumption, Or.inl (by assumption)⟩)).symm | exact (bI_t (show mbN s o from ⟨by assumption, Or.inr (by assumption)⟩)).symm | exact (bI_f (show ¬ mbN s o from fun z => absurd z.1 (by assumption))).symm | exact (bI_f (show ¬ mbN s o from fun z => z.2.elim (fun y => y (by assumption)) (by assumption))).symm) rfl
      · refine x_iconst h dX7_mayBe_26 ?_
        refine x_goto h dX7_mayBe_27 (tgt := 31) (by decide) ?_
        exact x_zret h he dX7_mayBe_31 (by first | exact Or.inl rfl | exact Or.inr rfl | exact bI_01 _ | omega) rfl (by first | exact (bI_t (show mbN s o from ⟨by assumption, Or.inl (by assumption)⟩)).symm | exact (bI_t (show mbN s o from ⟨by assumption, Or.inr (by assumption)⟩)).symm | exact (bI_f (show ¬ mbN s o from fun z => absurd z.1 (by assumption))).symm | exact (bI_f (show ¬ mbN s o from fun z => z.2.elim (fun y => y (by assumption)) (by assumption))).symm) rfl

theorem dX7_load_0 : decode cX7_load 0 = .ok (.iload_n 1, 1) := by decide +kernel
theorem dX7_load_1 : decode cX7_load 1 = .ok (.invokestatic 280, 3) := by decide +kernel
theorem dX7_load_4 : decode cX7_load 4 = .ok (.ifCond .ne 10, 3) := by decide +kernel
theorem dX7_load_7 : decode cX7_load 7 = .ok (.aload_n 0, 1) := by decide +kernel
theorem dX7_load_8 : decode cX7_load 8 = .ok (.ldc 76, 2) := by decide +kernel
theorem dX7_load_10 : decode cX7_load 10 = .ok (.invokevirtual 101, 3) := by decide +kernel
theorem dX7_load_13 : decode cX7_load 13 = .ok (.ireturn, 1) := by decide +kernel
theorem dX7_load_14 : decode cX7_load 14 = .ok (.aload_n 0, 1) := by decide +kernel
theorem dX7_load_15 : decode cX7_load 15 = .ok (.getfield 60, 3) := by decide +kernel
theorem dX7_load_18 : decode cX7_load 18 = .ok (.iload_n 1, 1) := by decide +kernel
theorem dX7_load_19 : decode cX7_load 19 = .ok (.iaload, 1) := by decide +kernel
theorem dX7_load_20 : decode cX7_load 20 = .ok (.ifCond .ne 11, 3) := by decide +kernel
theorem dX7_load_23 : decode cX7_load 23 = .ok (.aload_n 0, 1) := by decide +kernel
theorem dX7_load_24 : decode cX7_load 24 = .ok (.ldc_w 283, 3) := by decide +kernel
theorem dX7_load_27 : decode cX7_load 27 = .ok (.invokevirtual 101, 3) := by decide +kernel
theorem dX7_load_30 : decode cX7_load 30 = .ok (.ireturn, 1) := by decide +kernel
theorem dX7_load_31 : decode cX7_load 31 = .ok (.iconst 0, 1) := by decide +kernel
theorem dX7_load_32 : decode cX7_load 32 = .ok (.istore_n 2, 1) := by decide +kernel
theorem dX7_load_33 : decode cX7_load 33 = .ok (.iload_n 2, 1) := by decide +kernel
theorem dX7_load_34 : decode cX7_load 34 = .ok (.aload_n 0, 1) := by decide +kernel
theorem dX7_load_35 : decode cX7_load 35 = .ok (.getfield 63, 3) := by decide +kernel
theorem dX7_load_38 : decode cX7_load 38 = .ok (.iload_n 1, 1) := by decide +kernel
theorem dX7_load_39 : decode cX7_load 39 = .ok (.iaload, 1) := by decide +kernel
theorem dX7_load_40 : decode cX7_load 40 = .ok (.if_icmp .ge 55, 3) := by decide +kernel
theorem dX7_load_43 : decode cX7_load 43 = .ok (.aload_n 0, 1) := by decide +kernel
theorem dX7_load_44 : decode cX7_load 44 = .ok (.iload_n 2, 1) := by decide +kernel
theorem dX7_load_45 : decode cX7_load 45 = .ok (.invokevirtual 148, 3) := by decide +kernel
theorem dX7_load_48 : decode cX7_load 48 = .ok (.ifCond .eq 47, 3) := by decide +kernel
theorem dX7_load_51 : decode cX7_load 51 = .ok (.aload_n 0, 1) := by decide +kernel
theorem dX7_load_52 : decode cX7_load 52 = .ok (.getfield 66, 3) := by decide +kernel
theorem dX7_load_55 : decode cX7_load 55 = .ok (.bipush 40, 2) := by decide +kernel
theorem dX7_load_57 : decode cX7_load 57 = .ok (.iload_n 1, 1) := by decide +kernel
theorem dX7_load_58 : decode cX7_load 58 = .ok (.imul, 1) := by decide +kernel
theorem dX7_load_59 : decode cX7_load 59 = .ok (.iload_n 2, 1) := by decide +kernel
theorem dX7_load_60 : decode cX7_load 60 = .ok (.iadd, 1) := by decide +kernel
theorem dX7_load_61 : decode cX7_load 61 = .ok (.iaload, 1) := by decide +kernel
theorem dX7_load_62 : decode cX7_load 62 = .ok (.invokestatic 93, 3) := by decide +kernel
theorem dX7_load_65 : decode cX7_load 65 = .ok (.ifCond .eq 30, 3) := by decide +kernel
theorem dX7_load_68 : decode cX7_load 68 = .ok (.aload_n 0, 1) := by decide +kernel
theorem dX7_load_69 : decode cX7_load 69 = .ok (.getfield 9, 3) := by decide +kernel
theorem dX7_load_72 : decode cX7_load 72 = .ok (.iload_n 2, 1) := by decide +kernel
theorem dX7_load_73 : decode cX7_load 73 = .ok (.iconst 2, 1) := by decide +kernel
theorem dX7_load_74 : decode cX7_load 74 = .ok (.invokestatic 119, 3) := by decide +kernel
theorem dX7_load_77 : decode cX7_load 77 = .ok (.aload_n 0, 1) := by decide +kernel
theorem dX7_load_78 : decode cX7_load 78 = .ok (.getfield 66, 3) := by decide +kernel
theorem dX7_load_81 : decode cX7_load 81 = .ok (.bipush 40, 2) := by decide +kernel
theorem dX7_load_83 : decode cX7_load 83 = .ok (.iload_n 1, 1) := by decide +kernel
theorem dX7_load_84 : decode cX7_load 84 = .ok (.imul, 1) := by decide +kernel
theorem dX7_load_85 : decode cX7_load 85 = .ok (.iload_n 2, 1) := by decide +kernel
theorem dX7_load_86 : decode cX7_load 86 = .ok (.iadd, 1) := by decide +kernel
theorem dX7_load_87 : decode cX7_load 87 = .ok (.iaload, 1) := by decide +kernel
theorem dX7_load_88 : decode cX7_load 88 = .ok (.iastore, 1) := by decide +kernel
theorem dX7_load_89 : decode cX7_load 89 = .ok (.iinc 2 1, 3) := by decide +kernel
theorem dX7_load_92 : decode cX7_load 92 = .ok (.goto (-59), 3) := by decide +kernel
theorem dX7_load_95 : decode cX7_load 95 = .ok (.iload_n 2, 1) := by decide +kernel
theorem dX7_load_96 : decode cX7_load 96 = .ok (.ireturn, 1) := by decide +kernel
set_option maxHeartbeats 800000 in
set_option maxRecDepth 100000 in
theorem c_X7_load {l : Launch} {ω : xO} {ks : Nat → Option Nat} (hm : xsh ω = mdS ks) {s : Int} {M : xMem} (hI : MInv M) (hz : ∀ t, 0 ≤ t → t < 4 → 0 ≤ M 13 t ∧ M 13 t ≤ 40) (hs : inR s) : Ct l ω yX7_load ({ frames := 2, cells := 0, slots := 0, locals := 43 } : Room) 3 1 [.ref (xad ω 0), .int (iI s)] M (some (.int (iI (nloR M s)))) (nloM M s) := by
  refine Ct.of (bytes := cX7_load) (ret := (some .int)) (lv0 := [some (.ref (xad ω 0)), some (.int (iI s)), none]) m_cd_X7_load m_in_X7 (by decide +kernel) (by decide +kernel) rfl rfl rfl rfl (fun hR => by unfold nloM; (repeat' split) <;> first | exact fnM_R hR | exact ldX_R _ _ _ _ hR) ?_
  intro κ h he hR
  have hn := hI.1
  have hzs := hz s
  have r12 : inR (M 12 s) := hR 12 s
  refine x_iload_n h dX7_load_0 rfl ?_
  refine x_S1i h dX7_load_1 m_ml_X7_280 m_st_X7_isSheet (by decide) rfl (c_X7_isSheet hm (by omega)) ?_
  refine x_ifneB h dX7_load_4 (tgt := 14) (by decide) (fun q4 => ?_) (fun q4 => ?_)
  · refine x_aload_n h dX7_load_14 rfl ?_
    refine x_getr (j := 26) (q := 12) h dX7_load_15 (sM0 hm) rfl in_X7 rfl (by decide) m_fl_X7_60 ?_
    refine x_iload_n h dX7_load_18 rfl ?_
    refine x_iaload h dX7_load_19 (sM12 hm) (by omega) (fun r19 => ?_)
    refine x_if_ne h dX7_load_20 (tgt := 31) (by decide) (by omega) (fun q20 => ?_) (fun q20 => ?_)
    · refine x_iconst h dX7_load_31 ?_
      refine x_istore_n h dX7_load_32 rfl rfl ?_
      dsimp only [xset]
      generalize hR8 : ldR s 8 0 M = rr
      generalize hX8 : ldX s 8 0 M = xx
      have HH : ∀ (k n : Nat) (N : xMem), n + k = 8 → xR N → (∀ i, i ≠ 1 → N i = M i) → N 1 1 = M 1 1 → ldR s k n N = rr → ldX s k n N = xx → X ω κ 33 [some (.ref (xad ω 0)), some (.int (iI s)), some (.int (iI (n : Int)))] [] N := by
        intro k
        induction k with
        | zero =>
          intro n N e hRN ho hn1 h1 h2
          unfold ldR at h1
          unfold ldX at h2
          have e12 : N 12 = M 12 := ho 12 (by decide)
          have e13 : N 13 = M 13 := ho 13 (by decide)
          have e14 : N 14 = M 14 := ho 14 (by decide)
          have r13 : inR (N 13 s) := hRN 13 s
          have r14 : inR (N 14 (40 * s + n)) := hRN 14 _
          rw [show N 13 s = M 13 s by rw [e13]] at r13
          refine x_iload_n h dX7_load_33 rfl ?_
          refine x_aload_n h dX7_load_34 rfl ?_
          refine x_getr (j := 27) (q := 13) h dX7_load_35 (sM0 hm) rfl in_X7 rfl (by decide) m_fl_X7_63 ?_
          refine x_iload_n h dX7_load_38 rfl ?_
          refine x_iaload h dX7_load_39 (sM13 hm) (by omega) (fun r39 => ?_)
          rw [e13]
          refine x_icmp_ge h dX7_load_40 (tgt := 95) (by decide) (by omega) (by omega) (fun q40 => ?_) (fun q40 => ?_)
          · refine x_iload_n h dX7_load_95 rfl ?_
            exact x_iret (ret := none) h he dX7_load_96 rfl (by unfold nloR; rw [if_pos (by omega), if_neg (by omega), hR8, ← h1]) (by unfold nloM; rw [if_pos (by omega), if_neg (by omega), hX8, ← h2])
          · refine x_aload_n h dX7_load_43 rfl ?_
            refine x_iload_n h dX7_load_44 rfl ?_
            refine x_V1i h dX7_load_45 m_ml_X7_148 m_im_X7_isPerson m_se_X7_isPerson (sM0 hm) rfl (by decide) rfl (c_X7_isPerson hm (by omega) (by omega)) ?_
            refine x_ifeqB h dX7_load_48 (tgt := 95) (by decide) (fun q48 => ?_) (fun q48 => ?_)
            · refine x_iload_n h dX7_load_95 rfl ?_
              exact x_iret (ret := none) h he dX7_load_96 rfl (by unfold nloR; rw [if_pos (by omega), if_neg (by omega), hR8, ← h1]) (by unfold nloM; rw [if_pos (by omega), if_neg (by omega), hX8, ← h2])
            · exfalso; omega
        | succ k ih =>
          intro n N e hRN ho hn1 h1 h2
          unfold ldR at h1
          unfold ldX at h2
          have e12 : N 12 = M 12 := ho 12 (by decide)
          have e13 : N 13 = M 13 := ho 13 (by decide)
          have e14 : N 14 = M 14 := ho 14 (by decide)
          have r13 : inR (N 13 s) := hRN 13 s
          have r14 : inR (N 14 (40 * s + n)) := hRN 14 _
          rw [show N 13 s = M 13 s by rw [e13]] at r13
          rw [e13] at h1 h2
          refine x_iload_n h dX7_load_33 rfl ?_
          refine x_aload_n h dX7_load_34 rfl ?_
          refine x_getr (j := 27) (q := 13) h dX7_load_35 (sM0 hm) rfl in_X7 rfl (by decide) m_fl_X7_63 ?_
          refine x_iload_n h dX7_load_38 rfl ?_
          refine x_iaload h dX7_load_39 (sM13 hm) (by omega) (fun r39 => ?_)
          rw [e13]
          refine x_icmp_ge h dX7_load_40 (tgt := 95) (by decide) (by omega) (by omega) (fun q40 => ?_) (fun q40 => ?_)
          · rw [if_neg (by omega)] at h1 h2
            refine x_iload_n h dX7_load_95 rfl ?_
            exact x_iret (ret := none) h he dX7_load_96 rfl (by unfold nloR; rw [if_pos (by omega), if_neg (by omega), hR8, ← h1]) (by unfold nloM; rw [if_pos (by omega), if_neg (by omega), hX8, ← h2])
          · refine x_aload_n h dX7_load_43 rfl ?_
            refine x_iload_n h dX7_load_44 rfl ?_
            refine x_V1i h dX7_load_45 m_ml_X7_148 m_im_X7_isPerson m_se_X7_isPerson (sM0 hm) rfl (by decide) rfl (c_X7_isPerson hm (by omega) (by omega)) ?_
            refine x_ifeqB h dX7_load_48 (tgt := 95) (by decide) (fun q48 => ?_) (fun q48 => ?_)
            · rw [if_neg (by omega)] at h1 h2
              refine x_iload_n h dX7_load_95 rfl ?_
              exact x_iret (ret := none) h he dX7_load_96 rfl (by unfold nloR; rw [if_pos (by omega), if_neg (by omega), hR8, ← h1]) (by unfold nloM; rw [if_pos (by omega), if_neg (by omega), hX8, ← h2])
            · refine x_aload_n h dX7_load_51 rfl ?_
              refine x_getr (j := 28) (q := 14) h dX7_load_52 (sM0 hm) rfl in_X7 rfl (by decide) m_fl_X7_66 ?_
              refine x_bipush h dX7_load_55 (by decide) ?_
              refine x_iload_n h dX7_load_57 rfl ?_
              refine x_imul h dX7_load_58 ?_
              refine x_iload_n h dX7_load_59 rfl ?_
              refine x_iadd h dX7_load_60 ?_
              refine x_iaload h dX7_load_61 (sM14 hm) (by omega) (fun r61 => ?_)
              refine x_S1i h dX7_load_62 m_ml_X7_93 m_st_X7_isPlace (by decide) rfl (c_X7_isPlace hm (by omega)) ?_
              refine x_ifeqB h dX7_load_65 (tgt := 95) (by decide) (fun q65 => ?_) (fun q65 => ?_)
              · rw [if_neg (by omega)] at h1 h2
                refine x_iload_n h dX7_load_95 rfl ?_
                exact x_iret (ret := none) h he dX7_load_96 rfl (by unfold nloR; rw [if_pos (by omega), if_neg (by omega), hR8, ← h1]) (by unfold nloM; rw [if_pos (by omega), if_neg (by omega), hX8, ← h2])
              · refine x_aload_n h dX7_load_68 rfl ?_
                refine x_getr (j := 0) (q := 1) h dX7_load_69 (sM0 hm) rfl in_X7 rfl (by decide) m_fl_X7_9 ?_
                refine x_iload_n h dX7_load_72 rfl ?_
                refine x_iconst h dX7_load_73 ?_
                refine x_S2i h dX7_load_74 m_ml_X7_119 m_st_X7_at (by decide) rfl (c_X7_at hm) ?_
                refine x_aload_n h dX7_load_77 rfl ?_
                refine x_getr (j := 28) (q := 14) h dX7_load_78 (sM0 hm) rfl in_X7 rfl (by decide) m_fl_X7_66 ?_
                refine x_bipush h dX7_load_81 (by decide) ?_
                refine x_iload_n h dX7_load_83 rfl ?_
                refine x_imul h dX7_load_84 ?_
                refine x_iload_n h dX7_load_85 rfl ?_
                refine x_iadd h dX7_load_86 ?_
                refine x_iaload h dX7_load_87 (sM14 hm) (by omega) (fun r87 => ?_)
                refine x_iastore h dX7_load_88 (sM1 hm) (by omega) (hRN 14 _) ?_
                refine x_iinc h dX7_load_89 rfl rfl rfl ?_
                dsimp only [xset]
                refine x_goto h dX7_load_92 (tgt := 33) (by decide) ?_
                rw [if_pos (by omega)] at h1 h2
                exact ih (n + 1) _ (by omega) (up_R hRN (hRN 14 _)) (fun i hi => (up_n hi).trans (ho i hi)) ((up_nn (by omega)).trans hn1) h1 h2
      exact HH 8 0 M (by omega) hR (fun _ _ => rfl) rfl hR8 hX8
    · refine x_aload_n h dX7_load_23 rfl ?_
      refine x_ldcw h m_k_X7_283 dX7_load_24 ?_
      refine x_V1i h dX7_load_27 m_ml_X7_101 m_im_X7_finding m_se_X7_finding (sM0 hm) rfl (by decide) rfl (c_X7_finding hm (by omega)) ?_
      exact x_iret (ret := none) h he dX7_load_30 rfl (by unfold nloR; first | rw [if_neg (by omega)] | rw [if_pos (by omega), if_pos (by omega)]) (by unfold nloM; first | rw [if_neg (by omega)] | rw [if_pos (by omega), if_pos (by omega)])
  · refine x_aload_n h dX7_load_7 rfl ?_
    refine x_ldc h m_k_X7_76 dX7_load_8 ?_
    refine x_V1i h dX7_load_10 m_ml_X7_101 m_im_X7_finding m_se_X7_finding (sM0 hm) rfl (by decide) rfl (c_X7_finding hm (by omega)) ?_
    exact x_iret (ret := none) h he dX7_load_13 rfl (by unfold nloR; first | rw [if_neg (by omega)] | rw [if_pos (by omega), if_pos (by omega)]) (by unfold nloM; first | rw [if_neg (by omega)] | rw [if_pos (by omega), if_pos (by omega)])
