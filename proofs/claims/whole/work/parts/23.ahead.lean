/-! the class: its own methods, two: what will be -/
noncomputable abbrev whN (M : xMem) (p : Int) : Int := suN 31 1 p 60 0 (trC M)
noncomputable abbrev whM (M : xMem) (p : Int) : xMem := suM 31 1 p 60 (trC M)
theorem H31 : pI 31 1 := Or.inr (Or.inr ⟨rfl, rfl⟩)
theorem H11 : pI 11 1 := Or.inl ⟨rfl, rfl⟩
noncomputable def whenR (M : xMem) (p : Int) : Int := if clHas M 11 p then (if whN M p = 61 then -1000004 else whN M p) else -1000001
noncomputable def whenM (M : xMem) (p : Int) : xMem := if clHas M 11 p then (if whN M p = 61 then fndC (whM M p) 3 else whM M p) else fndC M 0
theorem dX6_when_0 : decode cX6_when 0 = .ok (.aload_n 0, 1) := by decide +kernel
theorem dX6_when_1 : decode cX6_when 1 = .ok (.getfield 21, 3) := by decide +kernel
theorem dX6_when_4 : decode cX6_when 4 = .ok (.iload_n 1, 1) := by decide +kernel
theorem dX6_when_5 : decode cX6_when 5 = .ok (.invokevirtual 120, 3) := by decide +kernel
theorem dX6_when_8 : decode cX6_when 8 = .ok (.ifCond .ne 9, 3) := by decide +kernel
theorem dX6_when_11 : decode cX6_when 11 = .ok (.aload_n 0, 1) := by decide +kernel
theorem dX6_when_12 : decode cX6_when 12 = .ok (.iconst 0, 1) := by decide +kernel
theorem dX6_when_13 : decode cX6_when 13 = .ok (.invokevirtual 95, 3) := by decide +kernel
theorem dX6_when_16 : decode cX6_when 16 = .ok (.ireturn, 1) := by decide +kernel
theorem dX6_when_17 : decode cX6_when 17 = .ok (.aload_n 0, 1) := by decide +kernel
theorem dX6_when_18 : decode cX6_when 18 = .ok (.getfield 49, 3) := by decide +kernel
theorem dX6_when_21 : decode cX6_when 21 = .ok (.aload_n 0, 1) := by decide +kernel
theorem dX6_when_22 : decode cX6_when 22 = .ok (.getfield 21, 3) := by decide +kernel
theorem dX6_when_25 : decode cX6_when 25 = .ok (.invokevirtual 204, 3) := by decide +kernel
theorem dX6_when_28 : decode cX6_when 28 = .ok (.aload_n 0, 1) := by decide +kernel
theorem dX6_when_29 : decode cX6_when 29 = .ok (.getfield 49, 3) := by decide +kernel
theorem dX6_when_32 : decode cX6_when 32 = .ok (.iload_n 1, 1) := by decide +kernel
theorem dX6_when_33 : decode cX6_when 33 = .ok (.invokevirtual 208, 3) := by decide +kernel
theorem dX6_when_36 : decode cX6_when 36 = .ok (.istore_n 2, 1) := by decide +kernel
theorem dX6_when_37 : decode cX6_when 37 = .ok (.iload_n 2, 1) := by decide +kernel
theorem dX6_when_38 : decode cX6_when 38 = .ok (.bipush 61, 2) := by decide +kernel
theorem dX6_when_40 : decode cX6_when 40 = .ok (.if_icmp .ne 11, 3) := by decide +kernel
theorem dX6_when_43 : decode cX6_when 43 = .ok (.aload_n 0, 1) := by decide +kernel
theorem dX6_when_44 : decode cX6_when 44 = .ok (.iconst 3, 1) := by decide +kernel
theorem dX6_when_45 : decode cX6_when 45 = .ok (.invokevirtual 95, 3) := by decide +kernel
theorem dX6_when_48 : decode cX6_when 48 = .ok (.goto 4, 3) := by decide +kernel
theorem dX6_when_51 : decode cX6_when 51 = .ok (.iload_n 2, 1) := by decide +kernel
theorem dX6_when_52 : decode cX6_when 52 = .ok (.ireturn, 1) := by decide +kernel
set_option maxHeartbeats 4000000 in
set_option maxRecDepth 100000 in
theorem c_X6_when {l : Launch} {ω : xO} (hc : xsh ω = clS) {p : Int} {M : xMem} (hJ : CInv M) (h_p : inR p) : Ct l ω yX6_when ({ frames := 6, cells := 0, slots := 0, locals := 140 } : Room) 3 1 [.ref (xad ω 0), .int (iI p)] M (some (.int (iI (whenR M p)))) (whenM M p) := by
  refine Ct.of (bytes := cX6_when) (ret := (some .int)) (lv0 := [some (.ref (xad ω 0)), some (.int (iI p)), none]) m_cd_X6_when m_in_X6 (by decide +kernel) (by decide +kernel) rfl rfl rfl rfl (fun hR => by have hT := trC_in hR hJ.1 hJ.2.1; unfold whenM; (repeat' split) <;> first | exact fndC_R hR | exact fndC_R (suM_in H31 60 _ hT).1 | exact (suM_in H31 60 _ hT).1) ?_
  intro κ h he hR
  have hI := hJ.1
  have hD := hJ.2.1
  have hL := hJ.2.2.1
  have hn := hI.1
  have hck := hI.2.1
  have hT := trC_in hR hI hD
  have g1 := suN_R (b := 31) (r := 1) (p := p) 60 0 (bcC M 31 11) (by omega) (by omega)
  refine x_aload_n h dX6_when_0 rfl ?_
  refine x_getr (j := 1) (q := 11) h dX6_when_1 (sC0 hc) rfl in_X6 rfl (by decide) m_fl_X6_21 ?_
  refine x_iload_n h dX6_when_4 rfl ?_
  refine x_V1i h dX6_when_5 m_ml_X6_120 m_im_X1_has m_se_X1_has (sPe hc ((Or.inl ⟨rfl, rfl⟩))) rfl (by decide) rfl (c_X1_has hc (Or.inl ⟨rfl, rfl⟩) (by omega)) ?_
  refine x_ifneB h dX6_when_8 (tgt := 17) (by decide) (fun q8 => ?_) (fun q8 => ?_)
  · refine x_aload_n h dX6_when_17 rfl ?_
    refine x_getr (j := 9) (q := 31) h dX6_when_18 (sC0 hc) rfl in_X6 rfl (by decide) m_fl_X6_49 ?_
    refine x_aload_n h dX6_when_21 rfl ?_
    refine x_getr (j := 1) (q := 11) h dX6_when_22 (sC0 hc) rfl in_X6 rfl (by decide) m_fl_X6_21 ?_
    refine x_V1v h dX6_when_25 m_ml_X6_204 m_im_X1_become m_se_X1_become (sPe hc ((Or.inr (Or.inr ⟨rfl, rfl⟩)))) rfl (by decide) rfl (c_X1_become hc ((Or.inr (Or.inr ⟨rfl, rfl⟩))) ((Or.inl ⟨rfl, rfl⟩))) ?_
    refine x_aload_n h dX6_when_28 rfl ?_
    refine x_getr (j := 9) (q := 31) h dX6_when_29 (sC0 hc) rfl in_X6 rfl (by decide) m_fl_X6_49 ?_
    refine x_iload_n h dX6_when_32 rfl ?_
    refine x_V1i h dX6_when_33 m_ml_X6_208 m_im_X1_stepsUntilThere m_se_X1_stepsUntilThere (sPe hc ((Or.inr (Or.inr ⟨rfl, rfl⟩)))) rfl (by decide) rfl (c_X1_stepsUntilThere hc H31 hT (by rw [trC_has]; exact q8)) ?_
    refine x_istore_n h dX6_when_36 rfl rfl ?_
    dsimp only [xset]
    refine x_iload_n h dX6_when_37 rfl ?_
    refine x_bipush h dX6_when_38 (by decide) ?_
    refine x_icmp_ne h dX6_when_40 (tgt := 51) (by decide) (by omega) (by omega) (fun q40 => ?_) (fun q40 => ?_)
    · refine x_iload_n h dX6_when_51 rfl ?_
      exact x_iret (ret := none) h he dX6_when_52 rfl (by unfold whenR; (repeat (first | rw [if_pos (by first | assumption | omega)] | rw [if_neg (by first | assumption | omega)])) <;> first | rfl | omega) (by unfold whenM; (repeat (first | rw [if_pos (by first | assumption | omega)] | rw [if_neg (by first | assumption | omega)])) <;> first | rfl | omega)
    · refine x_aload_n h dX6_when_43 rfl ?_
      refine x_iconst h dX6_when_44 ?_
      refine x_V1i h dX6_when_45 m_ml_X6_95 m_im_X6_found m_se_X6_found (sC0 hc) rfl (by decide) rfl (c_X6_found hc (by omega)) ?_
      refine x_goto h dX6_when_48 (tgt := 52) (by decide) ?_
      exact x_iret (ret := none) h he dX6_when_52 rfl (by unfold whenR; (repeat (first | rw [if_pos (by first | assumption | omega)] | rw [if_neg (by first | assumption | omega)])) <;> first | rfl | omega) (by unfold whenM; (repeat (first | rw [if_pos (by first | assumption | omega)] | rw [if_neg (by first | assumption | omega)])) <;> first | rfl | omega)
  · refine x_aload_n h dX6_when_11 rfl ?_
    refine x_iconst h dX6_when_12 ?_
    refine x_V1i h dX6_when_13 m_ml_X6_95 m_im_X6_found m_se_X6_found (sC0 hc) rfl (by decide) rfl (c_X6_found hc (by omega)) ?_
    exact x_iret (ret := none) h he dX6_when_16 rfl (by unfold whenR; (repeat (first | rw [if_pos (by first | assumption | omega)] | rw [if_neg (by first | assumption | omega)])) <;> first | rfl | omega) (by unfold whenM; (repeat (first | rw [if_pos (by first | assumption | omega)] | rw [if_neg (by first | assumption | omega)])) <;> first | rfl | omega)

noncomputable def aheadR (M : xMem) (n : Int) : Int := if 0 ≤ n ∧ n ≤ 60 then thS (tkC 31 1 (trC M) n.toNat) 31 else -1000001
noncomputable def aheadM (M : xMem) (n : Int) : xMem := if 0 ≤ n ∧ n ≤ 60 then tkC 31 1 (trC M) n.toNat else fndC M 0
theorem dX6_ahead_0 : decode cX6_ahead 0 = .ok (.iload_n 1, 1) := by decide +kernel
theorem dX6_ahead_1 : decode cX6_ahead 1 = .ok (.ifCond .lt 9, 3) := by decide +kernel
theorem dX6_ahead_4 : decode cX6_ahead 4 = .ok (.iload_n 1, 1) := by decide +kernel
theorem dX6_ahead_5 : decode cX6_ahead 5 = .ok (.bipush 60, 2) := by decide +kernel
theorem dX6_ahead_7 : decode cX6_ahead 7 = .ok (.if_icmp .le 9, 3) := by decide +kernel
theorem dX6_ahead_10 : decode cX6_ahead 10 = .ok (.aload_n 0, 1) := by decide +kernel
theorem dX6_ahead_11 : decode cX6_ahead 11 = .ok (.iconst 0, 1) := by decide +kernel
theorem dX6_ahead_12 : decode cX6_ahead 12 = .ok (.invokevirtual 95, 3) := by decide +kernel
theorem dX6_ahead_15 : decode cX6_ahead 15 = .ok (.ireturn, 1) := by decide +kernel
theorem dX6_ahead_16 : decode cX6_ahead 16 = .ok (.aload_n 0, 1) := by decide +kernel
theorem dX6_ahead_17 : decode cX6_ahead 17 = .ok (.getfield 49, 3) := by decide +kernel
theorem dX6_ahead_20 : decode cX6_ahead 20 = .ok (.aload_n 0, 1) := by decide +kernel
theorem dX6_ahead_21 : decode cX6_ahead 21 = .ok (.getfield 21, 3) := by decide +kernel
theorem dX6_ahead_24 : decode cX6_ahead 24 = .ok (.invokevirtual 204, 3) := by decide +kernel
theorem dX6_ahead_27 : decode cX6_ahead 27 = .ok (.aload_n 0, 1) := by decide +kernel
theorem dX6_ahead_28 : decode cX6_ahead 28 = .ok (.getfield 49, 3) := by decide +kernel
theorem dX6_ahead_31 : decode cX6_ahead 31 = .ok (.iload_n 1, 1) := by decide +kernel
theorem dX6_ahead_32 : decode cX6_ahead 32 = .ok (.invokevirtual 186, 3) := by decide +kernel
theorem dX6_ahead_35 : decode cX6_ahead 35 = .ok (.aload_n 0, 1) := by decide +kernel
theorem dX6_ahead_36 : decode cX6_ahead 36 = .ok (.getfield 49, 3) := by decide +kernel
theorem dX6_ahead_39 : decode cX6_ahead 39 = .ok (.invokevirtual 189, 3) := by decide +kernel
theorem dX6_ahead_42 : decode cX6_ahead 42 = .ok (.ireturn, 1) := by decide +kernel
set_option maxHeartbeats 4000000 in
set_option maxRecDepth 100000 in
theorem c_X6_ahead {l : Launch} {ω : xO} (hc : xsh ω = clS) {n : Int} {M : xMem} (hJ : CInv M) (h_n : inR n) : Ct l ω yX6_ahead ({ frames := 5, cells := 0, slots := 0, locals := 118 } : Room) 2 1 [.ref (xad ω 0), .int (iI n)] M (some (.int (iI (aheadR M n)))) (aheadM M n) := by
  refine Ct.of (bytes := cX6_ahead) (ret := (some .int)) (lv0 := [some (.ref (xad ω 0)), some (.int (iI n))]) m_cd_X6_ahead m_in_X6 (by decide +kernel) (by decide +kernel) rfl rfl rfl rfl (fun hR => by have hT := trC_in hR hJ.1 hJ.2.1; unfold aheadM; split; exact (tkC_in H31 hT n.toNat).1; exact fndC_R hR) ?_
  intro κ h he hR
  have hI := hJ.1
  have hD := hJ.2.1
  have hL := hJ.2.2.1
  have hn := hI.1
  have hck := hI.2.1
  have hT := trC_in hR hI hD
  refine x_iload_n h dX6_ahead_0 rfl ?_
  refine x_if_lt h dX6_ahead_1 (tgt := 10) (by decide) (by omega) (fun q1 => ?_) (fun q1 => ?_)
  · refine x_aload_n h dX6_ahead_10 rfl ?_
    refine x_iconst h dX6_ahead_11 ?_
    refine x_V1i h dX6_ahead_12 m_ml_X6_95 m_im_X6_found m_se_X6_found (sC0 hc) rfl (by decide) rfl (c_X6_found hc (by omega)) ?_
    exact x_iret (ret := none) h he dX6_ahead_15 rfl (by unfold aheadR; (repeat (first | rw [if_pos (by first | assumption | omega)] | rw [if_neg (by first | assumption | omega)])) <;> first | rfl | omega) (by unfold aheadM; (repeat (first | rw [if_pos (by first | assumption | omega)] | rw [if_neg (by first | assumption | omega)])) <;> first | rfl | omega)
  · refine x_iload_n h dX6_ahead_4 rfl ?_
    refine x_bipush h dX6_ahead_5 (by decide) ?_
    refine x_icmp_le h dX6_ahead_7 (tgt := 16) (by decide) (by omega) (by omega) (fun q7 => ?_) (fun q7 => ?_)
    · refine x_aload_n h dX6_ahead_16 rfl ?_
      refine x_getr (j := 9) (q := 31) h dX6_ahead_17 (sC0 hc) rfl in_X6 rfl (by decide) m_fl_X6_49 ?_
      refine x_aload_n h dX6_ahead_20 rfl ?_
      refine x_getr (j := 1) (q := 11) h dX6_ahead_21 (sC0 hc) rfl in_X6 rfl (by decide) m_fl_X6_21 ?_
      refine x_V1v h dX6_ahead_24 m_ml_X6_204 m_im_X1_become m_se_X1_become (sPe hc ((Or.inr (Or.inr ⟨rfl, rfl⟩)))) rfl (by decide) rfl (c_X1_become hc ((Or.inr (Or.inr ⟨rfl, rfl⟩))) ((Or.inl ⟨rfl, rfl⟩))) ?_
      refine x_aload_n h dX6_ahead_27 rfl ?_
      refine x_getr (j := 9) (q := 31) h dX6_ahead_28 (sC0 hc) rfl in_X6 rfl (by decide) m_fl_X6_49 ?_
      refine x_iload_n h dX6_ahead_31 rfl ?_
      refine x_V1v h dX6_ahead_32 m_ml_X6_186 m_im_X1_takeSteps m_se_X1_takeSteps (sPe hc ((Or.inr (Or.inr ⟨rfl, rfl⟩)))) rfl (by decide) rfl (c_X1_takeSteps hc H31 hT (by omega)) ?_
      refine x_aload_n h dX6_ahead_35 rfl ?_
      refine x_getr (j := 9) (q := 31) h dX6_ahead_36 (sC0 hc) rfl in_X6 rfl (by decide) m_fl_X6_49 ?_
      refine x_V0i h dX6_ahead_39 m_ml_X6_189 m_im_X1_thereSet m_se_X1_thereSet (sPe hc ((Or.inr (Or.inr ⟨rfl, rfl⟩)))) rfl (by decide) rfl (c_X1_thereSet hc H31 (tkC_in H31 hT n.toNat).2.1) ?_
      exact x_iret (ret := none) h he dX6_ahead_42 rfl (by unfold aheadR; (repeat (first | rw [if_pos (by first | assumption | omega)] | rw [if_neg (by first | assumption | omega)])) <;> first | rfl | omega) (by unfold aheadM; (repeat (first | rw [if_pos (by first | assumption | omega)] | rw [if_neg (by first | assumption | omega)])) <;> first | rfl | omega)
    · refine x_aload_n h dX6_ahead_10 rfl ?_
      refine x_iconst h dX6_ahead_11 ?_
      refine x_V1i h dX6_ahead_12 m_ml_X6_95 m_im_X6_found m_se_X6_found (sC0 hc) rfl (by decide) rfl (c_X6_found hc (by omega)) ?_
      exact x_iret (ret := none) h he dX6_ahead_15 rfl (by unfold aheadR; (repeat (first | rw [if_pos (by first | assumption | omega)] | rw [if_neg (by first | assumption | omega)])) <;> first | rfl | omega) (by unfold aheadM; (repeat (first | rw [if_pos (by first | assumption | omega)] | rw [if_neg (by first | assumption | omega)])) <;> first | rfl | omega)

noncomputable def heN : Nat → xMem → Int
  | 0, _ => -1000004
  | d + 1, M => tI (stC 31 1 M 31 13 = -1) (heN d (stC 31 1 M)) (stC 31 1 M 31 13)
noncomputable def heM : Nat → xMem → xMem
  | 0, M => fndC M 3
  | d + 1, M => tI (stC 31 1 M 31 13 = -1) (heM d (stC 31 1 M)) (stC 31 1 M)
theorem heM_R : ∀ (d : Nat) (M : xMem), PIn M 31 1 → xR (heM d M) := by
  intro d
  induction d with
  | zero => intro M h; exact fndC_R h.1
  | succ d ih =>
    intro M h
    unfold heM tI
    split
    · exact ih _ (stC_in H31 h)
    · exact (stC_in H31 h).1
noncomputable def slN : Nat → Int → xMem → Int
  | 0, _, _ => -1000004
  | d + 1, i, M => tI (stC 31 1 M 31 12 = 0) i (slN d (i + 1) (stC 31 1 M))
noncomputable def slM : Nat → xMem → xMem
  | 0, M => fndC M 3
  | d + 1, M => tI (stC 31 1 M 31 12 = 0) (stC 31 1 M) (slM d (stC 31 1 M))
theorem slM_R : ∀ (d : Nat) (M : xMem), PIn M 31 1 → xR (slM d M) := by
  intro d
  induction d with
  | zero => intro M h; exact fndC_R h.1
  | succ d ih =>
    intro M h
    unfold slM tI
    split
    · exact (stC_in H31 h).1
    · exact ih _ (stC_in H31 h)
noncomputable def heldR (M : xMem) : Int := heN 60 (trC M)
noncomputable def heldM (M : xMem) : xMem := heM 60 (trC M)
theorem dX6_held_0 : decode cX6_held 0 = .ok (.aload_n 0, 1) := by decide +kernel
theorem dX6_held_1 : decode cX6_held 1 = .ok (.getfield 49, 3) := by decide +kernel
theorem dX6_held_4 : decode cX6_held 4 = .ok (.aload_n 0, 1) := by decide +kernel
theorem dX6_held_5 : decode cX6_held 5 = .ok (.getfield 21, 3) := by decide +kernel
theorem dX6_held_8 : decode cX6_held 8 = .ok (.invokevirtual 204, 3) := by decide +kernel
theorem dX6_held_11 : decode cX6_held 11 = .ok (.iconst 0, 1) := by decide +kernel
theorem dX6_held_12 : decode cX6_held 12 = .ok (.istore_n 1, 1) := by decide +kernel
theorem dX6_held_13 : decode cX6_held 13 = .ok (.iload_n 1, 1) := by decide +kernel
theorem dX6_held_14 : decode cX6_held 14 = .ok (.bipush 60, 2) := by decide +kernel
theorem dX6_held_16 : decode cX6_held 16 = .ok (.if_icmp .ge 36, 3) := by decide +kernel
theorem dX6_held_19 : decode cX6_held 19 = .ok (.aload_n 0, 1) := by decide +kernel
theorem dX6_held_20 : decode cX6_held 20 = .ok (.getfield 49, 3) := by decide +kernel
theorem dX6_held_23 : decode cX6_held 23 = .ok (.iconst 1, 1) := by decide +kernel
theorem dX6_held_24 : decode cX6_held 24 = .ok (.invokevirtual 186, 3) := by decide +kernel
theorem dX6_held_27 : decode cX6_held 27 = .ok (.aload_n 0, 1) := by decide +kernel
theorem dX6_held_28 : decode cX6_held 28 = .ok (.getfield 49, 3) := by decide +kernel
theorem dX6_held_31 : decode cX6_held 31 = .ok (.invokevirtual 211, 3) := by decide +kernel
theorem dX6_held_34 : decode cX6_held 34 = .ok (.iconst (-1), 1) := by decide +kernel
theorem dX6_held_35 : decode cX6_held 35 = .ok (.if_icmp .eq 11, 3) := by decide +kernel
theorem dX6_held_38 : decode cX6_held 38 = .ok (.aload_n 0, 1) := by decide +kernel
theorem dX6_held_39 : decode cX6_held 39 = .ok (.getfield 49, 3) := by decide +kernel
theorem dX6_held_42 : decode cX6_held 42 = .ok (.invokevirtual 211, 3) := by decide +kernel
theorem dX6_held_45 : decode cX6_held 45 = .ok (.ireturn, 1) := by decide +kernel
theorem dX6_held_46 : decode cX6_held 46 = .ok (.iinc 1 1, 3) := by decide +kernel
theorem dX6_held_49 : decode cX6_held 49 = .ok (.goto (-36), 3) := by decide +kernel
theorem dX6_held_52 : decode cX6_held 52 = .ok (.aload_n 0, 1) := by decide +kernel
theorem dX6_held_53 : decode cX6_held 53 = .ok (.iconst 3, 1) := by decide +kernel
theorem dX6_held_54 : decode cX6_held 54 = .ok (.invokevirtual 95, 3) := by decide +kernel
theorem dX6_held_57 : decode cX6_held 57 = .ok (.ireturn, 1) := by decide +kernel
set_option maxHeartbeats 4000000 in
set_option maxRecDepth 100000 in
theorem c_X6_held {l : Launch} {ω : xO} (hc : xsh ω = clS)  {M : xMem} (hJ : CInv M)  : Ct l ω yX6_held ({ frames := 5, cells := 0, slots := 0, locals := 118 } : Room) 2 0 [.ref (xad ω 0)] M (some (.int (iI (heldR M)))) (heldM M) := by
  refine Ct.of (bytes := cX6_held) (ret := (some .int)) (lv0 := [some (.ref (xad ω 0)), none]) m_cd_X6_held m_in_X6 (by decide +kernel) (by decide +kernel) rfl rfl rfl rfl (fun hR => heM_R 60 _ (trC_in hR hJ.1 hJ.2.1)) ?_
  intro κ h he hR
  have hI := hJ.1
  have hD := hJ.2.1
  have hL := hJ.2.2.1
  have hn := hI.1
  have hck := hI.2.1
  have hT := trC_in hR hI hD
  refine x_aload_n h dX6_held_0 rfl ?_
  refine x_getr (j := 9) (q := 31) h dX6_held_1 (sC0 hc) rfl in_X6 rfl (by decide) m_fl_X6_49 ?_
  refine x_aload_n h dX6_held_4 rfl ?_
  refine x_getr (j := 1) (q := 11) h dX6_held_5 (sC0 hc) rfl in_X6 rfl (by decide) m_fl_X6_21 ?_
  refine x_V1v h dX6_held_8 m_ml_X6_204 m_im_X1_become m_se_X1_become (sPe hc ((Or.inr (Or.inr ⟨rfl, rfl⟩)))) rfl (by decide) rfl (c_X1_become hc ((Or.inr (Or.inr ⟨rfl, rfl⟩))) ((Or.inl ⟨rfl, rfl⟩))) ?_
  refine x_iconst h dX6_held_11 ?_
  refine x_istore_n h dX6_held_12 rfl rfl ?_
  dsimp only [xset]
  have H : ∀ (d : Nat) (M' : xMem) (i : Int), 0 ≤ i → i + d = 60 → PIn M' 31 1 → heN d M' = heldR M → heM d M' = heldM M → X ω κ 13 [some (.ref (xad ω 0)), some (.int (iI i))] [] M' := by
    intro d
    induction d with
    | zero =>
      intro M' i hi0 hid hin' e e2
      refine x_iload_n h dX6_held_13 rfl ?_
      refine x_bipush h dX6_held_14 (by decide) ?_
      refine x_icmp_ge h dX6_held_16 (tgt := 52) (by decide) (by omega) (by omega) (fun q16 => ?_) (fun q16 => ?_)
      · refine x_aload_n h dX6_held_52 rfl ?_
        refine x_iconst h dX6_held_53 ?_
        refine x_V1i h dX6_held_54 m_ml_X6_95 m_im_X6_found m_se_X6_found (sC0 hc) rfl (by decide) rfl (c_X6_found hc (by omega)) ?_
        exact x_iret (ret := none) h he dX6_held_57 rfl (by rw [← e]; rfl) e2
      · exfalso; omega
    | succ d ih =>
      intro M' i hi0 hid hin' e e2
      have hst := stC_in H31 hin'
      have g13 := hst.1 31 13
      have g12 := hst.1 31 12
      refine x_iload_n h dX6_held_13 rfl ?_
      refine x_bipush h dX6_held_14 (by decide) ?_
      refine x_icmp_ge h dX6_held_16 (tgt := 52) (by decide) (by omega) (by omega) (fun q16 => ?_) (fun q16 => ?_)
      · exfalso; omega
      · refine x_aload_n h dX6_held_19 rfl ?_
        refine x_getr (j := 9) (q := 31) h dX6_held_20 (sC0 hc) rfl in_X6 rfl (by decide) m_fl_X6_49 ?_
        refine x_iconst h dX6_held_23 ?_
        refine x_V1v h dX6_held_24 m_ml_X6_186 m_im_X1_takeSteps m_se_X1_takeSteps (sPe hc ((Or.inr (Or.inr ⟨rfl, rfl⟩)))) rfl (by decide) rfl (c_X1_takeSteps hc H31 hin' (by decide)) ?_
        refine x_mem (M' := stC 31 1 M') rfl ?_
        refine x_aload_n h dX6_held_27 rfl ?_
        refine x_getr (j := 9) (q := 31) h dX6_held_28 (sC0 hc) rfl in_X6 rfl (by decide) m_fl_X6_49 ?_
        refine x_V0i h dX6_held_31 m_ml_X6_211 m_im_X1_firstHeld m_se_X1_firstHeld (sPe hc ((Or.inr (Or.inr ⟨rfl, rfl⟩)))) rfl (by decide) rfl (c_X1_firstHeld hc ((Or.inr (Or.inr ⟨rfl, rfl⟩)))) ?_
        refine x_iconst h dX6_held_34 ?_
        refine x_icmp_eq h dX6_held_35 (tgt := 46) (by decide) (by omega) (by omega) (fun q35 => ?_) (fun q35 => ?_)
        · refine x_iinc h dX6_held_46 rfl rfl rfl ?_
          dsimp only [xset]
          refine x_goto h dX6_held_49 (tgt := 13) (by decide) ?_
          exact ih (stC 31 1 M') (i + 1) (by omega) (by omega) hst (by rw [← e, heN, tI_p q35]) (by rw [← e2, heM, tI_p q35])
        · refine x_aload_n h dX6_held_38 rfl ?_
          refine x_getr (j := 9) (q := 31) h dX6_held_39 (sC0 hc) rfl in_X6 rfl (by decide) m_fl_X6_49 ?_
          refine x_V0i h dX6_held_42 m_ml_X6_211 m_im_X1_firstHeld m_se_X1_firstHeld (sPe hc ((Or.inr (Or.inr ⟨rfl, rfl⟩)))) rfl (by decide) rfl (c_X1_firstHeld hc ((Or.inr (Or.inr ⟨rfl, rfl⟩)))) ?_
          exact x_iret (ret := none) h he dX6_held_45 rfl (by rw [← e, heN, tI_n q35]) (by rw [← e2, heM, tI_n q35])
  exact H 60 (trC M) 0 (by omega) (by omega) hT rfl rfl

noncomputable def stillR (M : xMem) : Int := slN 61 0 (trC M)
noncomputable def stillM (M : xMem) : xMem := slM 61 (trC M)
theorem dX6_still_0 : decode cX6_still 0 = .ok (.aload_n 0, 1) := by decide +kernel
theorem dX6_still_1 : decode cX6_still 1 = .ok (.getfield 49, 3) := by decide +kernel
theorem dX6_still_4 : decode cX6_still 4 = .ok (.aload_n 0, 1) := by decide +kernel
theorem dX6_still_5 : decode cX6_still 5 = .ok (.getfield 21, 3) := by decide +kernel
theorem dX6_still_8 : decode cX6_still 8 = .ok (.invokevirtual 204, 3) := by decide +kernel
theorem dX6_still_11 : decode cX6_still 11 = .ok (.iconst 0, 1) := by decide +kernel
theorem dX6_still_12 : decode cX6_still 12 = .ok (.istore_n 1, 1) := by decide +kernel
theorem dX6_still_13 : decode cX6_still 13 = .ok (.iload_n 1, 1) := by decide +kernel
theorem dX6_still_14 : decode cX6_still 14 = .ok (.bipush 60, 2) := by decide +kernel
theorem dX6_still_16 : decode cX6_still 16 = .ok (.if_icmp .gt 29, 3) := by decide +kernel
theorem dX6_still_19 : decode cX6_still 19 = .ok (.aload_n 0, 1) := by decide +kernel
theorem dX6_still_20 : decode cX6_still 20 = .ok (.getfield 49, 3) := by decide +kernel
theorem dX6_still_23 : decode cX6_still 23 = .ok (.iconst 1, 1) := by decide +kernel
theorem dX6_still_24 : decode cX6_still 24 = .ok (.invokevirtual 186, 3) := by decide +kernel
theorem dX6_still_27 : decode cX6_still 27 = .ok (.aload_n 0, 1) := by decide +kernel
theorem dX6_still_28 : decode cX6_still 28 = .ok (.getfield 49, 3) := by decide +kernel
theorem dX6_still_31 : decode cX6_still 31 = .ok (.invokevirtual 214, 3) := by decide +kernel
theorem dX6_still_34 : decode cX6_still 34 = .ok (.ifCond .ne 5, 3) := by decide +kernel
theorem dX6_still_37 : decode cX6_still 37 = .ok (.iload_n 1, 1) := by decide +kernel
theorem dX6_still_38 : decode cX6_still 38 = .ok (.ireturn, 1) := by decide +kernel
theorem dX6_still_39 : decode cX6_still 39 = .ok (.iinc 1 1, 3) := by decide +kernel
theorem dX6_still_42 : decode cX6_still 42 = .ok (.goto (-29), 3) := by decide +kernel
theorem dX6_still_45 : decode cX6_still 45 = .ok (.aload_n 0, 1) := by decide +kernel
theorem dX6_still_46 : decode cX6_still 46 = .ok (.iconst 3, 1) := by decide +kernel
theorem dX6_still_47 : decode cX6_still 47 = .ok (.invokevirtual 95, 3) := by decide +kernel
theorem dX6_still_50 : decode cX6_still 50 = .ok (.ireturn, 1) := by decide +kernel
set_option maxHeartbeats 4000000 in
set_option maxRecDepth 100000 in
theorem c_X6_still {l : Launch} {ω : xO} (hc : xsh ω = clS)  {M : xMem} (hJ : CInv M)  : Ct l ω yX6_still ({ frames := 5, cells := 0, slots := 0, locals := 118 } : Room) 2 0 [.ref (xad ω 0)] M (some (.int (iI (stillR M)))) (stillM M) := by
  refine Ct.of (bytes := cX6_still) (ret := (some .int)) (lv0 := [some (.ref (xad ω 0)), none]) m_cd_X6_still m_in_X6 (by decide +kernel) (by decide +kernel) rfl rfl rfl rfl (fun hR => slM_R 61 _ (trC_in hR hJ.1 hJ.2.1)) ?_
  intro κ h he hR
  have hI := hJ.1
  have hD := hJ.2.1
  have hL := hJ.2.2.1
  have hn := hI.1
  have hck := hI.2.1
  have hT := trC_in hR hI hD
  refine x_aload_n h dX6_still_0 rfl ?_
  refine x_getr (j := 9) (q := 31) h dX6_still_1 (sC0 hc) rfl in_X6 rfl (by decide) m_fl_X6_49 ?_
  refine x_aload_n h dX6_still_4 rfl ?_
  refine x_getr (j := 1) (q := 11) h dX6_still_5 (sC0 hc) rfl in_X6 rfl (by decide) m_fl_X6_21 ?_
  refine x_V1v h dX6_still_8 m_ml_X6_204 m_im_X1_become m_se_X1_become (sPe hc ((Or.inr (Or.inr ⟨rfl, rfl⟩)))) rfl (by decide) rfl (c_X1_become hc ((Or.inr (Or.inr ⟨rfl, rfl⟩))) ((Or.inl ⟨rfl, rfl⟩))) ?_
  refine x_iconst h dX6_still_11 ?_
  refine x_istore_n h dX6_still_12 rfl rfl ?_
  dsimp only [xset]
  have H : ∀ (d : Nat) (M' : xMem) (i : Int), 0 ≤ i → i + d = 61 → PIn M' 31 1 → slN d i M' = stillR M → slM d M' = stillM M → X ω κ 13 [some (.ref (xad ω 0)), some (.int (iI i))] [] M' := by
    intro d
    induction d with
    | zero =>
      intro M' i hi0 hid hin' e e2
      refine x_iload_n h dX6_still_13 rfl ?_
      refine x_bipush h dX6_still_14 (by decide) ?_
      refine x_icmp_gt h dX6_still_16 (tgt := 45) (by decide) (by omega) (by omega) (fun q16 => ?_) (fun q16 => ?_)
      · refine x_aload_n h dX6_still_45 rfl ?_
        refine x_iconst h dX6_still_46 ?_
        refine x_V1i h dX6_still_47 m_ml_X6_95 m_im_X6_found m_se_X6_found (sC0 hc) rfl (by decide) rfl (c_X6_found hc (by omega)) ?_
        exact x_iret (ret := none) h he dX6_still_50 rfl (by rw [← e]; rfl) e2
      · exfalso; omega
    | succ d ih =>
      intro M' i hi0 hid hin' e e2
      have hst := stC_in H31 hin'
      have g13 := hst.1 31 13
      have g12 := hst.1 31 12
      refine x_iload_n h dX6_still_13 rfl ?_
      refine x_bipush h dX6_still_14 (by decide) ?_
      refine x_icmp_gt h dX6_still_16 (tgt := 45) (by decide) (by omega) (by omega) (fun q16 => ?_) (fun q16 => ?_)
      · exfalso; omega
      · refine x_aload_n h dX6_still_19 rfl ?_
        refine x_getr (j := 9) (q := 31) h dX6_still_20 (sC0 hc) rfl in_X6 rfl (by decide) m_fl_X6_49 ?_
        refine x_iconst h dX6_still_23 ?_
        refine x_V1v h dX6_still_24 m_ml_X6_186 m_im_X1_takeSteps m_se_X1_takeSteps (sPe hc ((Or.inr (Or.inr ⟨rfl, rfl⟩)))) rfl (by decide) rfl (c_X1_takeSteps hc H31 hin' (by decide)) ?_
        refine x_mem (M' := stC 31 1 M') rfl ?_
        refine x_aload_n h dX6_still_27 rfl ?_
        refine x_getr (j := 9) (q := 31) h dX6_still_28 (sC0 hc) rfl in_X6 rfl (by decide) m_fl_X6_49 ?_
        refine x_V0i h dX6_still_31 m_ml_X6_214 m_im_X1_moves m_se_X1_moves (sPe hc ((Or.inr (Or.inr ⟨rfl, rfl⟩)))) rfl (by decide) rfl (c_X1_moves hc ((Or.inr (Or.inr ⟨rfl, rfl⟩)))) ?_
        refine x_if_ne h dX6_still_34 (tgt := 39) (by decide) (by omega) (fun q34 => ?_) (fun q34 => ?_)
        · refine x_iinc h dX6_still_39 rfl rfl rfl ?_
          dsimp only [xset]
          refine x_goto h dX6_still_42 (tgt := 13) (by decide) ?_
          exact ih (stC 31 1 M') (i + 1) (by omega) (by omega) hst (by rw [← e, slN, tI_n q34]) (by rw [← e2, slM, tI_n q34])
        · refine x_iload_n h dX6_still_37 rfl ?_
          exact x_iret (ret := none) h he dX6_still_38 rfl (by rw [← e, slN, tI_p q34]) (by rw [← e2, slM, tI_p q34])
  exact H 61 (trC M) 0 (by omega) (by omega) hT rfl rfl

/-- one is tried with a rope of a length -/
noncomputable abbrev lgC (M : xMem) (p i : Int) : xMem := joiC (trC M) 31 p (M (11 + 4) p) i
noncomputable def leN (p : Int) : Nat → Int → xMem → Int
  | 0, _, _ => -1000004
  | d + 1, i, M => tI (suN 31 1 p 60 0 (lgC M p i) = 61) (leN p d (i + 1) (suM 31 1 p 60 (lgC M p i))) i
noncomputable def leM (p : Int) : Nat → Int → xMem → xMem
  | 0, _, M => fndC M 3
  | d + 1, i, M => tI (suN 31 1 p 60 0 (lgC M p i) = 61) (leM p d (i + 1) (suM 31 1 p 60 (lgC M p i))) (suM 31 1 p 60 (lgC M p i))
theorem lgC_in {M : xMem} {p i : Int} (hR : xR M) (hJ : CInv M) (hp : clHas M 11 p) (hm : clHas M 11 (M (11 + 4) p)) (hi : 0 ≤ i ∧ i ≤ 999) : PIn (lgC M p i) 31 1 := by
  have hT := trC_in hR hJ.1 hJ.2.1
  refine PIn_of ?_ (PeInv_joi hT.2.1 (by rw [trC_has]; exact hp) (by rw [trC_has]; exact hm) hi) hT (fun k h1 h2 => ?_)
  · unfold lgC joiC
    exact up_R (up_R (up_R (up_R (prtC_R (prtC_R hT.1)) (hR _ _)) (by omega)) (by omega)) (by omega)
  · unfold lgC joiC
    rw [up_n (by omega), up_n (by omega), up_n (by omega), up_n (by omega), prtC_n (by omega), prtC_n (by omega)]
theorem lgC_1 {M : xMem} {p i : Int} : lgC M p i 31 1 = M 11 1 := by
  unfold lgC joiC
  rw [up_n (by omega), up_n (by omega), up_n (by omega), up_n (by omega), prtC_n (by omega), prtC_n (by omega)]
  exact trC_1
theorem lgC_e {M : xMem} {p i : Int} : TrE M (lgC M p i) := TrE.joi trC_e
theorem suT_e {M M' : xMem} {p : Int} {d : Nat} (h : TrE M M') (hin : PIn M' 31 1) : TrE M (suM 31 1 p d M') := h.tr (TrE.of_f (suM_f H31 d M' hin))
theorem leM_R {p : Int} : ∀ (d : Nat) (i : Int) (M : xMem), xR M → CInv M → clHas M 11 p → clHas M 11 (M (11 + 4) p) → 0 ≤ i → i + d ≤ 999 → xR (leM p d i M) := by
  intro d
  induction d with
  | zero => intro i M h _ _ _ _ _; exact fndC_R h
  | succ d ih =>
    intro i M hR hJ hp hm h0 h1
    have hin := lgC_in hR hJ hp hm (i := i) (by omega)
    have he := suT_e (p := p) (d := 60) (lgC_e (M := M) (p := p) (i := i)) hin
    unfold leM tI
    split
    · refine ih (i + 1) _ (suM_in H31 60 _ hin).1 (hJ.e he) ?_ ?_ (by omega) (by omega)
      · unfold clHas; rw [he 11 (by omega)]; exact hp
      · unfold clHas; rw [he 11 (by omega), he (11 + 4) (by omega)]; exact hm
    · exact (suM_in H31 60 _ hin).1
noncomputable def lengthR (M : xMem) (p : Int) : Int := if clHas M 11 p then (if clHas M 11 (M (11 + 4) p) then leN p 100 0 M else -1000004) else -1000001
noncomputable def lengthM (M : xMem) (p : Int) : xMem := if clHas M 11 p then (if clHas M 11 (M (11 + 4) p) then leM p 100 0 M else fndC M 3) else fndC M 0
theorem dX6_length_0 : decode cX6_length 0 = .ok (.aload_n 0, 1) := by decide +kernel
theorem dX6_length_1 : decode cX6_length 1 = .ok (.getfield 21, 3) := by decide +kernel
theorem dX6_length_4 : decode cX6_length 4 = .ok (.iload_n 1, 1) := by decide +kernel
theorem dX6_length_5 : decode cX6_length 5 = .ok (.invokevirtual 120, 3) := by decide +kernel
theorem dX6_length_8 : decode cX6_length 8 = .ok (.ifCond .ne 9, 3) := by decide +kernel
theorem dX6_length_11 : decode cX6_length 11 = .ok (.aload_n 0, 1) := by decide +kernel
theorem dX6_length_12 : decode cX6_length 12 = .ok (.iconst 0, 1) := by decide +kernel
theorem dX6_length_13 : decode cX6_length 13 = .ok (.invokevirtual 95, 3) := by decide +kernel
theorem dX6_length_16 : decode cX6_length 16 = .ok (.ireturn, 1) := by decide +kernel
theorem dX6_length_17 : decode cX6_length 17 = .ok (.aload_n 0, 1) := by decide +kernel
theorem dX6_length_18 : decode cX6_length 18 = .ok (.getfield 21, 3) := by decide +kernel
theorem dX6_length_21 : decode cX6_length 21 = .ok (.iload_n 1, 1) := by decide +kernel
theorem dX6_length_22 : decode cX6_length 22 = .ok (.invokevirtual 172, 3) := by decide +kernel
theorem dX6_length_25 : decode cX6_length 25 = .ok (.ifCond .ne 9, 3) := by decide +kernel
theorem dX6_length_28 : decode cX6_length 28 = .ok (.aload_n 0, 1) := by decide +kernel
theorem dX6_length_29 : decode cX6_length 29 = .ok (.iconst 3, 1) := by decide +kernel
theorem dX6_length_30 : decode cX6_length 30 = .ok (.invokevirtual 95, 3) := by decide +kernel
theorem dX6_length_33 : decode cX6_length 33 = .ok (.ireturn, 1) := by decide +kernel
theorem dX6_length_34 : decode cX6_length 34 = .ok (.iconst 0, 1) := by decide +kernel
theorem dX6_length_35 : decode cX6_length 35 = .ok (.istore_n 2, 1) := by decide +kernel
theorem dX6_length_36 : decode cX6_length 36 = .ok (.iload_n 2, 1) := by decide +kernel
theorem dX6_length_37 : decode cX6_length 37 = .ok (.bipush 99, 2) := by decide +kernel
theorem dX6_length_39 : decode cX6_length 39 = .ok (.if_icmp .gt 52, 3) := by decide +kernel
theorem dX6_length_42 : decode cX6_length 42 = .ok (.aload_n 0, 1) := by decide +kernel
theorem dX6_length_43 : decode cX6_length 43 = .ok (.getfield 49, 3) := by decide +kernel
theorem dX6_length_46 : decode cX6_length 46 = .ok (.aload_n 0, 1) := by decide +kernel
theorem dX6_length_47 : decode cX6_length 47 = .ok (.getfield 21, 3) := by decide +kernel
theorem dX6_length_50 : decode cX6_length 50 = .ok (.invokevirtual 204, 3) := by decide +kernel
theorem dX6_length_53 : decode cX6_length 53 = .ok (.aload_n 0, 1) := by decide +kernel
theorem dX6_length_54 : decode cX6_length 54 = .ok (.getfield 49, 3) := by decide +kernel
theorem dX6_length_57 : decode cX6_length 57 = .ok (.iload_n 1, 1) := by decide +kernel
theorem dX6_length_58 : decode cX6_length 58 = .ok (.aload_n 0, 1) := by decide +kernel
theorem dX6_length_59 : decode cX6_length 59 = .ok (.getfield 21, 3) := by decide +kernel
theorem dX6_length_62 : decode cX6_length 62 = .ok (.iload_n 1, 1) := by decide +kernel
theorem dX6_length_63 : decode cX6_length 63 = .ok (.invokevirtual 132, 3) := by decide +kernel
theorem dX6_length_66 : decode cX6_length 66 = .ok (.iload_n 2, 1) := by decide +kernel
theorem dX6_length_67 : decode cX6_length 67 = .ok (.invokevirtual 169, 3) := by decide +kernel
theorem dX6_length_70 : decode cX6_length 70 = .ok (.aload_n 0, 1) := by decide +kernel
theorem dX6_length_71 : decode cX6_length 71 = .ok (.getfield 49, 3) := by decide +kernel
theorem dX6_length_74 : decode cX6_length 74 = .ok (.iload_n 1, 1) := by decide +kernel
theorem dX6_length_75 : decode cX6_length 75 = .ok (.invokevirtual 208, 3) := by decide +kernel
theorem dX6_length_78 : decode cX6_length 78 = .ok (.bipush 61, 2) := by decide +kernel
theorem dX6_length_80 : decode cX6_length 80 = .ok (.if_icmp .eq 5, 3) := by decide +kernel
theorem dX6_length_83 : decode cX6_length 83 = .ok (.iload_n 2, 1) := by decide +kernel
theorem dX6_length_84 : decode cX6_length 84 = .ok (.ireturn, 1) := by decide +kernel
theorem dX6_length_85 : decode cX6_length 85 = .ok (.iinc 2 1, 3) := by decide +kernel
theorem dX6_length_88 : decode cX6_length 88 = .ok (.goto (-52), 3) := by decide +kernel
theorem dX6_length_91 : decode cX6_length 91 = .ok (.aload_n 0, 1) := by decide +kernel
theorem dX6_length_92 : decode cX6_length 92 = .ok (.iconst 3, 1) := by decide +kernel
theorem dX6_length_93 : decode cX6_length 93 = .ok (.invokevirtual 95, 3) := by decide +kernel
theorem dX6_length_96 : decode cX6_length 96 = .ok (.ireturn, 1) := by decide +kernel
set_option maxHeartbeats 4000000 in
set_option maxRecDepth 100000 in
theorem c_X6_length {l : Launch} {ω : xO} (hc : xsh ω = clS) {p : Int} {M : xMem} (hJ : CInv M) (h_p : inR p) (hsy : ∀ p, clHas M 11 p → p ≠ M (11 + 4) p) : Ct l ω yX6_length ({ frames := 6, cells := 0, slots := 0, locals := 140 } : Room) 3 1 [.ref (xad ω 0), .int (iI p)] M (some (.int (iI (lengthR M p)))) (lengthM M p) := by
  refine Ct.of (bytes := cX6_length) (ret := (some .int)) (lv0 := [some (.ref (xad ω 0)), some (.int (iI p)), none]) m_cd_X6_length m_in_X6 (by decide +kernel) (by decide +kernel) rfl rfl rfl rfl (fun hR => by unfold lengthM; (repeat' split) <;> first | exact fndC_R hR | exact leM_R 100 0 M hR hJ (by assumption) (by assumption) (by omega) (by omega)) ?_
  intro κ h he hR
  have hI := hJ.1
  have hD := hJ.2.1
  have hL := hJ.2.2.1
  have hn := hI.1
  have hck := hI.2.1
  refine x_aload_n h dX6_length_0 rfl ?_
  refine x_getr (j := 1) (q := 11) h dX6_length_1 (sC0 hc) rfl in_X6 rfl (by decide) m_fl_X6_21 ?_
  refine x_iload_n h dX6_length_4 rfl ?_
  refine x_V1i h dX6_length_5 m_ml_X6_120 m_im_X1_has m_se_X1_has (sPe hc ((Or.inl ⟨rfl, rfl⟩))) rfl (by decide) rfl (c_X1_has hc (Or.inl ⟨rfl, rfl⟩) (by omega)) ?_
  refine x_ifneB h dX6_length_8 (tgt := 17) (by decide) (fun q8 => ?_) (fun q8 => ?_)
  · refine x_aload_n h dX6_length_17 rfl ?_
    refine x_getr (j := 1) (q := 11) h dX6_length_18 (sC0 hc) rfl in_X6 rfl (by decide) m_fl_X6_21 ?_
    refine x_iload_n h dX6_length_21 rfl ?_
    refine x_V1i h dX6_length_22 m_ml_X6_172 m_im_X1_isTied m_se_X1_isTied (sPe hc ((Or.inl ⟨rfl, rfl⟩))) rfl (by decide) rfl (c_X1_isTied hc ((Or.inl ⟨rfl, rfl⟩)) (by omega)) ?_
    refine x_ifneB h dX6_length_25 (tgt := 34) (by decide) (fun q25 => ?_) (fun q25 => ?_)
    · refine x_iconst h dX6_length_34 ?_
      refine x_istore_n h dX6_length_35 rfl rfl ?_
      dsimp only [xset]
      have H : ∀ (d : Nat) (M' : xMem) (i : Int), 0 ≤ i → i + d = 100 → xR M' → CInv M' → p ≠ M' (11 + 4) p → clHas M' 11 p → clHas M' 11 (M' (11 + 4) p) → leN p d i M' = leN p 100 0 M → leM p d i M' = leM p 100 0 M → X ω κ 36 [some (.ref (xad ω 0)), some (.int (iI p)), some (.int (iI i))] [] M' := by
        intro d
        induction d with
        | zero =>
          intro M' i hi0 hid hR' hJ' hne' hp' hm' e e2
          refine x_iload_n h dX6_length_36 rfl ?_
          refine x_bipush h dX6_length_37 (by decide) ?_
          refine x_icmp_gt h dX6_length_39 (tgt := 91) (by decide) (by omega) (by omega) (fun q39 => ?_) (fun q39 => ?_)
          · refine x_aload_n h dX6_length_91 rfl ?_
            refine x_iconst h dX6_length_92 ?_
            refine x_V1i h dX6_length_93 m_ml_X6_95 m_im_X6_found m_se_X6_found (sC0 hc) rfl (by decide) rfl (c_X6_found hc (by omega)) ?_
            exact x_iret (ret := none) h he dX6_length_96 rfl (by unfold lengthR; rw [if_pos q8, if_pos q25, ← e]; rfl) (by unfold lengthM; rw [if_pos q8, if_pos q25, ← e2]; rfl)
          · exfalso; omega
        | succ d ih =>
          intro M' i hi0 hid hR' hJ' hne' hp' hm' e e2
          have hin := lgC_in hR' hJ' hp' hm' (i := i) (by omega)
          have hee := suT_e (p := p) (d := 60) (lgC_e (M := M') (p := p) (i := i)) hin
          have g1 := suN_R (b := 31) (r := 1) (p := p) 60 0 (joiC (bcC M' 31 11) 31 p (M' (11 + 4) p) i) (by omega) (by omega)
          have em : bcC M' 31 11 (11 + 4) = M' (11 + 4) := trC_n (by omega)
          have hpT : clHas (bcC M' 31 11) 11 p := by unfold clHas; rw [show bcC M' 31 11 11 = M' 11 from trC_n (by omega)]; exact hp'
          have hp31 : clHas (joiC (bcC M' 31 11) 31 p (M' (11 + 4) p) i) 31 p := by have := lgC_1 (M := M') (p := p) (i := i); unfold clHas; rw [show joiC (bcC M' 31 11) 31 p (M' (11 + 4) p) i 31 1 = M' 11 1 from this]; exact hp'
          refine x_iload_n h dX6_length_36 rfl ?_
          refine x_bipush h dX6_length_37 (by decide) ?_
          refine x_icmp_gt h dX6_length_39 (tgt := 91) (by decide) (by omega) (by omega) (fun q39 => ?_) (fun q39 => ?_)
          · exfalso; omega
          · refine x_aload_n h dX6_length_42 rfl ?_
            refine x_getr (j := 9) (q := 31) h dX6_length_43 (sC0 hc) rfl in_X6 rfl (by decide) m_fl_X6_49 ?_
            refine x_aload_n h dX6_length_46 rfl ?_
            refine x_getr (j := 1) (q := 11) h dX6_length_47 (sC0 hc) rfl in_X6 rfl (by decide) m_fl_X6_21 ?_
            refine x_V1v h dX6_length_50 m_ml_X6_204 m_im_X1_become m_se_X1_become (sPe hc ((Or.inr (Or.inr ⟨rfl, rfl⟩)))) rfl (by decide) rfl (c_X1_become hc ((Or.inr (Or.inr ⟨rfl, rfl⟩))) ((Or.inl ⟨rfl, rfl⟩))) ?_
            refine x_aload_n h dX6_length_53 rfl ?_
            refine x_getr (j := 9) (q := 31) h dX6_length_54 (sC0 hc) rfl in_X6 rfl (by decide) m_fl_X6_49 ?_
            refine x_iload_n h dX6_length_57 rfl ?_
            refine x_aload_n h dX6_length_58 rfl ?_
            refine x_getr (j := 1) (q := 11) h dX6_length_59 (sC0 hc) rfl in_X6 rfl (by decide) m_fl_X6_21 ?_
            refine x_iload_n h dX6_length_62 rfl ?_
            refine x_V1i h dX6_length_63 m_ml_X6_132 m_im_X1_mateOf m_se_X1_mateOf (sPe hc ((Or.inl ⟨rfl, rfl⟩))) rfl (by decide) rfl (c_X1_mateOf hc H11 hpT) ?_
            rw [em]
            refine x_iload_n h dX6_length_66 rfl ?_
            refine x_V3v h dX6_length_67 m_ml_X6_169 m_im_X1_join m_se_X1_join (sPe hc ((Or.inr (Or.inr ⟨rfl, rfl⟩)))) rfl (by decide) rfl (c_X1_join hc H31 (by rw [trC_has]; exact hp') (by rw [trC_has]; exact hm') (by omega) hne') ?_
            refine x_aload_n h dX6_length_70 rfl ?_
            refine x_getr (j := 9) (q := 31) h dX6_length_71 (sC0 hc) rfl in_X6 rfl (by decide) m_fl_X6_49 ?_
            refine x_iload_n h dX6_length_74 rfl ?_
            refine x_V1i h dX6_length_75 m_ml_X6_208 m_im_X1_stepsUntilThere m_se_X1_stepsUntilThere (sPe hc ((Or.inr (Or.inr ⟨rfl, rfl⟩)))) rfl (by decide) rfl (c_X1_stepsUntilThere hc H31 hin hp31) ?_
            refine x_bipush h dX6_length_78 (by decide) ?_
            refine x_icmp_eq h dX6_length_80 (tgt := 85) (by decide) (by omega) (by omega) (fun q80 => ?_) (fun q80 => ?_)
            · refine x_iinc h dX6_length_85 rfl rfl rfl ?_
              dsimp only [xset]
              refine x_goto h dX6_length_88 (tgt := 36) (by decide) ?_
              refine ih (suM 31 1 p 60 (lgC M' p i)) (i + 1) (by omega) (by omega) (suM_in H31 60 _ hin).1 (hJ'.e hee) (by rw [hee (11 + 4) (by omega)]; exact hne') ?_ ?_ (by rw [← e, leN, tI_p q80]) (by rw [← e2, leM, tI_p q80])
              · unfold clHas; rw [hee 11 (by omega)]; exact hp'
              · unfold clHas; rw [hee 11 (by omega), hee (11 + 4) (by omega)]; exact hm'
            · refine x_iload_n h dX6_length_83 rfl ?_
              exact x_iret (ret := none) h he dX6_length_84 rfl (by unfold lengthR; rw [if_pos q8, if_pos q25, ← e, leN, tI_n q80]) (by unfold lengthM; rw [if_pos q8, if_pos q25, ← e2, leM, tI_n q80])
      exact H 100 M 0 (by omega) (by omega) hR hJ (hsy p q8) q8 q25 rfl rfl
    · refine x_aload_n h dX6_length_28 rfl ?_
      refine x_iconst h dX6_length_29 ?_
      refine x_V1i h dX6_length_30 m_ml_X6_95 m_im_X6_found m_se_X6_found (sC0 hc) rfl (by decide) rfl (c_X6_found hc (by omega)) ?_
      exact x_iret (ret := none) h he dX6_length_33 rfl (by unfold lengthR; (repeat (first | rw [if_pos (by first | assumption | omega)] | rw [if_neg (by first | assumption | omega)])) <;> first | rfl | omega) (by unfold lengthM; (repeat (first | rw [if_pos (by first | assumption | omega)] | rw [if_neg (by first | assumption | omega)])) <;> first | rfl | omega)
  · refine x_aload_n h dX6_length_11 rfl ?_
    refine x_iconst h dX6_length_12 ?_
    refine x_V1i h dX6_length_13 m_ml_X6_95 m_im_X6_found m_se_X6_found (sC0 hc) rfl (by decide) rfl (c_X6_found hc (by omega)) ?_
    exact x_iret (ret := none) h he dX6_length_16 rfl (by unfold lengthR; (repeat (first | rw [if_pos (by first | assumption | omega)] | rw [if_neg (by first | assumption | omega)])) <;> first | rfl | omega) (by unfold lengthM; (repeat (first | rw [if_pos (by first | assumption | omega)] | rw [if_neg (by first | assumption | omega)])) <;> first | rfl | omega)
