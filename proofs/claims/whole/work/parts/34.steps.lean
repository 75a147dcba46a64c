/-! the reference: a step of all; who is where -/
noncomputable def gwN (p : Int) : Nat → xMem → xMem
  | 0, M => M
  | n + 1, M => tI (gonN M p) (gwN p n (mvN M p)) (mvN M p)
noncomputable def saN (M : xMem) : Nat → xMem
  | 0 => M
  | k + 1 => gwN (k : Int) (goF (saN M k 1 (113 + 8 * (k : Int) + 0))).toNat (saN M k)
noncomputable def sa0 (M : xMem) : xMem := saN (up M 0 7 0) (M 1 1).toNat
noncomputable def stN (M : xMem) : xMem := up (sa0 M) 1 0 (sa0 M 1 0 + 1)
noncomputable def siN (M : xMem) : Nat → xMem
  | 0 => M
  | k + 1 => stN (siN M k)
theorem gwN_ca {f p : Int} {d : Int → Int} : ∀ (n : Nat) (M : xMem), gwN p n (ca M f d) = ca (gwN p n M) f d := by
  intro n
  induction n with
  | zero => intro M; rfl
  | succ n ih =>
    intro M
    unfold gwN
    rw [gonN_ca, mvN_ca, ih]
    unfold tI
    split <;> rfl
theorem saN_ca {f : Int} {d : Int → Int} {M : xMem} : ∀ (n : Nat), saN (ca M f d) n = ca (saN M n) f d := by
  intro n
  induction n with
  | zero => rfl
  | succ n ih => rw [saN, saN, ih, ca_1, gwN_ca]
theorem stN_ca {f : Int} {d : Int → Int} {M : xMem} : stN (ca M f d) = ca (stN M) f d := by
  unfold stN sa0
  rw [up_ca07, ca_1, saN_ca, ca_1, up_ca1]
theorem siN_ca {f : Int} {d : Int → Int} {M : xMem} : ∀ n : Nat, siN (ca M f d) n = ca (siN M n) f d := by
  intro n
  induction n with
  | zero => rfl
  | succ n ih => rw [siN, siN, ih, stN_ca]
theorem MvR.n {M M' : xMem} (h : MvR M M') : M' 1 1 = M 1 1 := h.2.2.1 1 (by decide)
theorem MvR.c {M M' : xMem} (h : MvR M M') : M' 1 0 = M 1 0 := h.2.2.1 0 (by decide)
theorem MvR.y {M M' : xMem} (h : MvR M M') : wyM M' = wyM M := by
  funext j
  unfold wyM
  by_cases hj : 0 ≤ j ∧ j < 100
  · rw [if_pos hj, if_pos hj, h.2.2.1 _ (by omega)]
  · rw [if_neg hj, if_neg hj]
theorem gwN_I {p : Int} : ∀ (n : Nat) (M : xMem), MInv M → (0 ≤ p ∧ p < M 1 1) → MInv (gwN p n M) ∧ MvR M (gwN p n M) := by
  intro n
  induction n with
  | zero => intro M h _; exact ⟨h, MvR.rf⟩
  | succ n ih =>
    intro M h hp
    have h2 := mvN_I h hp
    have h3 := mvN_r h hp
    unfold gwN tI
    split
    · have := ih _ h2 (by rw [h3.n]; exact hp)
      exact ⟨this.1, h3.tr this.2⟩
    · exact ⟨h2, h3⟩
theorem saN_I {M : xMem} (h : MInv M) : ∀ (n : Nat), (n : Int) ≤ M 1 1 → MInv (saN M n) ∧ MvR M (saN M n) := by
  intro n
  induction n with
  | zero => intro _; exact ⟨h, MvR.rf⟩
  | succ n ih =>
    intro hn
    have h2 := ih (by omega)
    have h3 := gwN_I (p := (n : Int)) (goF (saN M n 1 (113 + 8 * (n : Int) + 0))).toNat (saN M n) h2.1 (by rw [h2.2.n]; omega)
    exact ⟨h3.1, h2.2.tr h3.2⟩
theorem sa0_I {M : xMem} (h : MInv M) : MInv (sa0 M) ∧ MvR M (sa0 M) := by
  have h1 := h.1
  have := saN_I (M := up M 0 7 0) h.up0 (M 1 1).toNat (by rw [up_01]; omega)
  exact ⟨this.1, (MvR.rf.up0 (by omega)).tr this.2⟩
/-- what steps may change -/
def StN (M M' : xMem) : Prop := (∀ k, k ≠ 0 → k ≠ 1 → M' k = M k) ∧ (∀ j, j ≠ 7 → j ≠ 8 → j ≠ 10 → M' 0 j = M 0 j) ∧ (∀ j, j ≠ 0 → (j < 113 ∨ 177 ≤ j) → M' 1 j = M 1 j) ∧ ∀ q g, 0 ≤ q → q < 8 → (g = 0 ∨ g = 2 ∨ g = 3 ∨ g = 4 ∨ g = 5) → M' 1 (113 + 8 * q + g) = M 1 (113 + 8 * q + g)
theorem StN.rf {M : xMem} : StN M M := ⟨fun _ _ _ => rfl, fun _ _ _ _ => rfl, fun _ _ _ => rfl, fun _ _ _ _ _ => rfl⟩
theorem StN.tr {M1 M2 M3 : xMem} (h1 : StN M1 M2) (h2 : StN M2 M3) : StN M1 M3 := ⟨fun k a b => (h2.1 k a b).trans (h1.1 k a b), fun j a b c => (h2.2.1 j a b c).trans (h1.2.1 j a b c), fun j a b => (h2.2.2.1 j a b).trans (h1.2.2.1 j a b), fun q g a b c => (h2.2.2.2 q g a b c).trans (h1.2.2.2 q g a b c)⟩
theorem StN.n {M M' : xMem} (h : StN M M') : M' 1 1 = M 1 1 := h.2.2.1 1 (by decide) (by decide)
theorem StN.y {M M' : xMem} (h : StN M M') : wyM M' = wyM M := by
  funext j
  unfold wyM
  by_cases hj : 0 ≤ j ∧ j < 100
  · rw [if_pos hj, if_pos hj, h.2.2.1 _ (by omega) (by omega)]
  · rw [if_neg hj, if_neg hj]
theorem MInv.clk {M : xMem} {v : Int} (h : MInv M) (hv : 0 ≤ v) : MInv (up M 1 0 v) := by
  refine ⟨?_, ?_, ?_, ?_⟩
  · rw [up_nn (by omega)]; exact h.1
  · rw [up_ss]; exact hv
  · rw [wyM_up (by omega)]; exact h.2.2.1
  · intro q q0 q1
    rw [up_nn (by omega)] at q1
    have i := h.2.2.2 q q0 q1
    rw [show up M 1 0 v 1 1 = M 1 1 from up_nn (by omega)]
    rw [up_nn (by omega), up_nn (by omega), up_nn (by omega), up_nn (by omega), up_nn (by omega), up_nn (by omega), up_nn (by omega), up_nn (by omega)]
    exact i
theorem stN_I {M : xMem} (h : MInv M) : MInv (stN M) ∧ StN M (stN M) ∧ stN M 1 0 = M 1 0 + 1 := by
  have hs := sa0_I h
  have hc := hs.2.c
  have h0 := h.2.1
  refine ⟨hs.1.clk (by omega), ⟨fun k a b => ?_, fun j a b c => ?_, fun j a b => ?_, fun q g a b c => ?_⟩, ?_⟩
  · unfold stN; rw [up_n b]; exact hs.2.1 k a b
  · exact hs.2.2.1 j a b c
  · unfold stN; rw [up_nn (by omega)]; exact hs.2.2.2.1 j b
  · unfold stN; rw [up_nn (by omega)]; exact hs.2.2.2.2 q g a b c
  · unfold stN; rw [up_ss, hc]
theorem siN_I {M : xMem} (h : MInv M) : ∀ n : Nat, MInv (siN M n) ∧ StN M (siN M n) ∧ siN M n 1 0 = M 1 0 + n := by
  intro n
  induction n with
  | zero => exact ⟨h, StN.rf, by rw [siN]; omega⟩
  | succ n ih =>
    have := stN_I ih.1
    exact ⟨this.1, ih.2.1.tr this.2.1, by rw [siN, this.2.2, ih.2.2]; omega⟩
theorem iI_bor0 (a : Int) : iI (bor a 0) = iI a := by
  unfold bor
  rw [show iI 0 = 0 from rfl, show iI a ||| (0 : Int32) = iI a from by simp, iI_of]
def thN (M : xMem) : Int := xfo (fun (p acc : Int) => if M 1 (113 + 8 * p + 1) = M 1 (113 + 8 * p + 2) then bor acc (bshl 1 p) else acc) 0 (M 1 1).toNat
def tiN (M : xMem) : Int := xfo (fun (p acc : Int) => if 0 ≤ M 1 (113 + 8 * p + 3) ∧ dN M (10 * M 1 (113 + 8 * p + 1) + pmN M p) = rpN M p then bor acc (bshl 1 p) else acc) 0 (M 1 1).toNat
def smN (M : xMem) (g : Int) : Int := xfo (fun (p acc : Int) => acc + M 1 (113 + 8 * p + g)) 0 (M 1 1).toNat
theorem thN_ca {N : xMem} {f : Int} {d : Int → Int} : thN (ca N f d) = thN N := rfl
theorem dX7_step_0 : decode cX7_step 0 = .ok (.aload_n 0, 1) := by decide +kernel
theorem dX7_step_1 : decode cX7_step 1 = .ok (.iconst 0, 1) := by decide +kernel
theorem dX7_step_2 : decode cX7_step 2 = .ok (.putfield 181, 3) := by decide +kernel
theorem dX7_step_5 : decode cX7_step 5 = .ok (.iconst 0, 1) := by decide +kernel
theorem dX7_step_6 : decode cX7_step 6 = .ok (.istore_n 1, 1) := by decide +kernel
theorem dX7_step_7 : decode cX7_step 7 = .ok (.iload_n 1, 1) := by decide +kernel
theorem dX7_step_8 : decode cX7_step 8 = .ok (.aload_n 0, 1) := by decide +kernel
theorem dX7_step_9 : decode cX7_step 9 = .ok (.getfield 9, 3) := by decide +kernel
theorem dX7_step_12 : decode cX7_step 12 = .ok (.iconst 1, 1) := by decide +kernel
theorem dX7_step_13 : decode cX7_step 13 = .ok (.iaload, 1) := by decide +kernel
theorem dX7_step_14 : decode cX7_step 14 = .ok (.if_icmp .ge 37, 3) := by decide +kernel
theorem dX7_step_17 : decode cX7_step 17 = .ok (.iconst 1, 1) := by decide +kernel
theorem dX7_step_18 : decode cX7_step 18 = .ok (.istore_n 2, 1) := by decide +kernel
theorem dX7_step_19 : decode cX7_step 19 = .ok (.aload_n 0, 1) := by decide +kernel
theorem dX7_step_20 : decode cX7_step 20 = .ok (.iload_n 1, 1) := by decide +kernel
theorem dX7_step_21 : decode cX7_step 21 = .ok (.invokevirtual 154, 3) := by decide +kernel
theorem dX7_step_24 : decode cX7_step 24 = .ok (.istore_n 3, 1) := by decide +kernel
theorem dX7_step_25 : decode cX7_step 25 = .ok (.iload_n 3, 1) := by decide +kernel
theorem dX7_step_26 : decode cX7_step 26 = .ok (.ifCond .le 19, 3) := by decide +kernel
theorem dX7_step_29 : decode cX7_step 29 = .ok (.iload_n 2, 1) := by decide +kernel
theorem dX7_step_30 : decode cX7_step 30 = .ok (.ifCond .eq 15, 3) := by decide +kernel
theorem dX7_step_33 : decode cX7_step 33 = .ok (.aload_n 0, 1) := by decide +kernel
theorem dX7_step_34 : decode cX7_step 34 = .ok (.iload_n 1, 1) := by decide +kernel
theorem dX7_step_35 : decode cX7_step 35 = .ok (.invokevirtual 201, 3) := by decide +kernel
theorem dX7_step_38 : decode cX7_step 38 = .ok (.istore_n 2, 1) := by decide +kernel
theorem dX7_step_39 : decode cX7_step 39 = .ok (.iinc 3 (-1), 3) := by decide +kernel
theorem dX7_step_42 : decode cX7_step 42 = .ok (.goto (-17), 3) := by decide +kernel
theorem dX7_step_45 : decode cX7_step 45 = .ok (.iinc 1 1, 3) := by decide +kernel
theorem dX7_step_48 : decode cX7_step 48 = .ok (.goto (-41), 3) := by decide +kernel
theorem dX7_step_51 : decode cX7_step 51 = .ok (.aload_n 0, 1) := by decide +kernel
theorem dX7_step_52 : decode cX7_step 52 = .ok (.getfield 9, 3) := by decide +kernel
theorem dX7_step_55 : decode cX7_step 55 = .ok (.iconst 0, 1) := by decide +kernel
theorem dX7_step_56 : decode cX7_step 56 = .ok (.dup2, 1) := by decide +kernel
theorem dX7_step_57 : decode cX7_step 57 = .ok (.iaload, 1) := by decide +kernel
theorem dX7_step_58 : decode cX7_step 58 = .ok (.iconst 1, 1) := by decide +kernel
theorem dX7_step_59 : decode cX7_step 59 = .ok (.iadd, 1) := by decide +kernel
theorem dX7_step_60 : decode cX7_step 60 = .ok (.iastore, 1) := by decide +kernel
theorem dX7_step_61 : decode cX7_step 61 = .ok (.return_, 1) := by decide +kernel
set_option maxHeartbeats 800000 in
set_option maxRecDepth 100000 in
theorem c_X7_step {l : Launch} {ω : xO} {ks : Nat → Option Nat} (hm : xsh ω = mdS ks)  {M : xMem} (hI : MInv M) (hf : Fc M) (hcl : M 1 0 ≤ 2000000) : Cq l ω yX7_step ({ frames := 6, cells := 0, slots := 0, locals := 133 } : Room) 4 0 [.ref (xad ω 0)] M (pV1 (fun N' => CaE (stN M) N')) := by
  refine Cq.of (bytes := cX7_step) (ret := none) (lv0 := [some (.ref (xad ω 0)), none, none, none]) m_cd_X7_step m_in_X7 (by decide +kernel) (by decide +kernel) rfl rfl rfl rfl ?_
  intro κ h he hR
  have hn := hI.1
  have hk := hI.2.1
  refine x_aload_n h dX7_step_0 rfl ?_
  refine x_iconst h dX7_step_1 ?_
  refine x_puti (j := 7) 7 h dX7_step_2 (sM0 hm) rfl in_X7 rfl (by decide) m_fl_X7_181 tyX7_ok nmX7 rfl (tyX7_ok 7 (by decide)) rfl rfl (by omega) rfl ?_
  refine x_iconst h dX7_step_5 ?_
  refine x_istore_n h dX7_step_6 rfl rfl ?_
  dsimp only [xset]
  refine x_mem (M' := ca (saN (up M 0 7 0) 0) (M 0 6) (M 5)) (by show up M 0 7 0 = ca (up M 0 7 0) (M 0 6) (M 5); rw [← up_ca07, ca_self]) ?_
  have hf0 : Fc (ca (saN (up M 0 7 0) 0) (M 0 6) (M 5)) := Fc_e (N := M) rfl (by rw [ca_self]; exact hf)
  have HH : ∀ (k j : Nat) (f : Int) (d : Int → Int), j + k = (M 1 1).toNat → Fc (ca (saN (up M 0 7 0) j) f d) → X ω κ 7 [some (.ref (xad ω 0)), some (.int (iI (j : Int))), none, none] [] (ca (saN (up M 0 7 0) j) f d) := by
    intro k
    induction k with
    | zero =>
      intro j f d e hc
      have ej : j = (M 1 1).toNat := by omega
      subst ej
      have hs := saN_I (M := up M 0 7 0) hI.up0 (M 1 1).toNat (by rw [up_01]; omega)
      have hsn : saN (up M 0 7 0) (M 1 1).toNat 1 1 = M 1 1 := hs.2.n
      have hsc : saN (up M 0 7 0) (M 1 1).toNat 1 0 = M 1 0 := hs.2.c
      have hst : stN M = up (saN (up M 0 7 0) (M 1 1).toNat) 1 0 (saN (up M 0 7 0) (M 1 1).toNat 1 0 + 1) := rfl
      clear hs
      have hnn : (((M 1 1).toNat : Nat) : Int) = M 1 1 := by omega
      rw [hst] at he
      generalize saN (up M 0 7 0) (M 1 1).toNat = N at hc hsn hsc he ⊢
      clear hst hf0
      refine x_iload_n h dX7_step_7 rfl ?_
      refine x_aload_n h dX7_step_8 rfl ?_
      refine x_getr (j := 0) (q := 1) h dX7_step_9 (sM0 hm) rfl in_X7 rfl (by decide) m_fl_X7_9 ?_
      refine x_iconst h dX7_step_12 ?_
      refine x_iaload h dX7_step_13 (sM1 hm) (by omega) (fun r13 => ?_)
      try simp only [up_ca1, up_ca07, up_ca08, up_ca09, up_ca010, up_10, up_01, up_0709, up_0710, ca_ca, ca_1, dN_ca, wyM_ca, plN_ca, rpN_ca, ltN_ca, pmN_ca, wnN_ca, nbN_ca, ca_07, ca_08, ca_09, ca_010, beN_ca, ctN_ca, gonN_ca, mvN_ca]
      rw [hsn]
      refine x_icmp_ge h dX7_step_14 (tgt := 51) (by decide) (by omega) (by omega) (fun q14 => ?_) (fun q14 => ?_)
      · refine x_aload_n h dX7_step_51 rfl ?_
        refine x_getr (j := 0) (q := 1) h dX7_step_52 (sM0 hm) rfl in_X7 rfl (by decide) m_fl_X7_9 ?_
        refine x_iconst h dX7_step_55 ?_
        refine x_dup2 h dX7_step_56 rfl rfl ?_
        refine x_iaload h dX7_step_57 (sM1 hm) (by omega) (fun r57 => ?_)
        try simp only [up_ca1, up_ca07, up_ca08, up_ca09, up_ca010, up_10, up_01, up_0709, up_0710, ca_ca, ca_1, dN_ca, wyM_ca, plN_ca, rpN_ca, ltN_ca, pmN_ca, wnN_ca, nbN_ca, ca_07, ca_08, ca_09, ca_010, beN_ca, ctN_ca, gonN_ca, mvN_ca]
        refine x_iconst h dX7_step_58 ?_
        refine x_iadd h dX7_step_59 ?_
        refine x_iastore h dX7_step_60 (sM1 hm) (by omega) (by omega) ?_
        try simp only [up_ca1, up_ca07, up_ca08, up_ca09, up_ca010, up_10, up_01, up_0709, up_0710, ca_ca, ca_1, dN_ca, wyM_ca, plN_ca, rpN_ca, ltN_ca, pmN_ca, wnN_ca, nbN_ca, ca_07, ca_08, ca_09, ca_010, beN_ca, ctN_ca, gonN_ca, mvN_ca]
        exact x_vretq h he dX7_step_61 ⟨f, d, rfl, Fc_e (N := N) (wyM_up (Or.inl (by decide))) hc⟩
      · exfalso; omega
    | succ k ih =>
      intro j f d e hc
      have hj : (j : Int) < M 1 1 := by omega
      have hs := saN_I (M := up M 0 7 0) hI.up0 j (by rw [up_01]; omega)
      have hsn : saN (up M 0 7 0) j 1 1 = M 1 1 := hs.2.n
      have hsI := hs.1
      have ihj := ih (j + 1)
      rw [show saN (up M 0 7 0) (j + 1) = gwN (j : Int) (goF (saN (up M 0 7 0) j 1 (113 + 8 * (j : Int) + 0))).toNat (saN (up M 0 7 0) j) from rfl] at ihj
      generalize saN (up M 0 7 0) j = N at hc hsI hsn ihj ⊢
      have inp := hsI.2.2.2 (j : Int) (by omega) (by omega)
      generalize hT : gwN (j : Int) (goF (N 1 (113 + 8 * (j : Int) + 0))).toNat N = T at ihj
      have K : ∀ (u v f : Int) (d : Int → Int), Fc (ca T f d) → X ω κ 45 [some (.ref (xad ω 0)), some (.int (iI (j : Int))), some (.int (iI u)), some (.int (iI v))] [] (ca T f d) := by
        intro u v f d hc
        refine x_iinc h dX7_step_45 rfl rfl rfl ?_
        dsimp only [xset]
        refine x_goto h dX7_step_48 (tgt := 7) (by decide) ?_
        refine x_drop 2 ?_
        refine x_drop 3 ?_
        dsimp only [xclr]
        exact ihj _ _ (by omega) hc
      have H0 : ∀ (v f : Int) (d : Int → Int), inR v → Fc (ca T f d) → X ω κ 25 [some (.ref (xad ω 0)), some (.int (iI (j : Int))), some (.int (iI 0)), some (.int (iI v))] [] (ca T f d) := by
        intro v f d hv hc
        refine x_iload_n h dX7_step_25 rfl ?_
        refine x_if_le h dX7_step_26 (tgt := 45) (by decide) (by omega) (fun q26 => ?_) (fun q26 => ?_)
        · exact K _ _ _ _ hc
        · refine x_iload_n h dX7_step_29 rfl ?_
          refine x_if_eq h dX7_step_30 (tgt := 45) (by decide) (by omega) (fun q30 => ?_) (fun q30 => ?_)
          · exact K _ _ _ _ hc
          · exfalso; omega
      have H : ∀ (m : Nat) (N : xMem) (f : Int) (d : Int → Int), m ≤ 10 → MInv N → N 1 1 = M 1 1 → Fc (ca N f d) → gwN (j : Int) m N = T → X ω κ 25 [some (.ref (xad ω 0)), some (.int (iI (j : Int))), some (.int (iI 1)), some (.int (iI (m : Int)))] [] (ca N f d) := by
        intro m
        induction m with
        | zero =>
          intro N f d hm9 hI2 hn2 hc hT2
          have : N = T := hT2
          subst this
          refine x_iload_n h dX7_step_25 rfl ?_
          refine x_if_le h dX7_step_26 (tgt := 45) (by decide) (by omega) (fun q26 => ?_) (fun q26 => ?_)
          · exact K _ _ _ _ hc
          · exfalso; omega
        | succ m ihm =>
          intro N f d hm9 hI2 hn2 hc hT2
          refine x_iload_n h dX7_step_25 rfl ?_
          refine x_if_le h dX7_step_26 (tgt := 45) (by decide) (by omega) (fun q26 => ?_) (fun q26 => ?_)
          · exfalso; omega
          · refine x_iload_n h dX7_step_29 rfl ?_
            refine x_if_eq h dX7_step_30 (tgt := 45) (by decide) (by omega) (fun q30 => ?_) (fun q30 => ?_)
            · exfalso; omega
            · refine x_aload_n h dX7_step_33 rfl ?_
              refine x_iload_n h dX7_step_34 rfl ?_
              refine x_Q1i h dX7_step_35 m_ml_X7_201 m_im_X7_movesOn m_se_X7_movesOn (sM0 hm) rfl (by decide) rfl (c_X7_movesOn hm (by exact hI2) hc (by first | omega | (simp only [ca_1]; omega))) (fun r35 N35 h35 => ?_)
              obtain ⟨rfl, f35, d35, rfl, c35⟩ := h35
              try simp only [ca_ca, ca_1, dN_ca, wyM_ca, plN_ca, rpN_ca, ltN_ca, pmN_ca, wnN_ca, nbN_ca, ca_07, ca_08, ca_09, ca_010, beN_ca, ctN_ca, gonN_ca, mvN_ca, stN_ca, thN_ca] at c35 ⊢
              refine x_istore_n h dX7_step_38 rfl rfl ?_
              dsimp only [xset]
              refine x_iinc h dX7_step_39 rfl rfl rfl ?_
              dsimp only [xset]
              refine x_goto h dX7_step_42 (tgt := 25) (by decide) ?_
              rw [show (((m + 1 : Nat) : Int) + -1) = (m : Int) by omega]
              unfold gwN at hT2
              by_cases hg : gonN N (j : Int)
              · rw [tI_p hg] at hT2
                rw [bI_t hg]
                exact ihm _ _ _ (by omega) (mvN_I hI2 (by omega)) (by rw [(mvN_r hI2 (by omega)).n]; exact hn2) (by assumption) hT2
              · rw [tI_n hg] at hT2
                rw [bI_f hg]
                subst hT2
                exact H0 _ _ _ (by omega) (by assumption)
      refine x_iload_n h dX7_step_7 rfl ?_
      refine x_aload_n h dX7_step_8 rfl ?_
      refine x_getr (j := 0) (q := 1) h dX7_step_9 (sM0 hm) rfl in_X7 rfl (by decide) m_fl_X7_9 ?_
      refine x_iconst h dX7_step_12 ?_
      refine x_iaload h dX7_step_13 (sM1 hm) (by omega) (fun r13 => ?_)
      try simp only [up_ca1, up_ca07, up_ca08, up_ca09, up_ca010, up_10, up_01, up_0709, up_0710, ca_ca, ca_1, dN_ca, wyM_ca, plN_ca, rpN_ca, ltN_ca, pmN_ca, wnN_ca, nbN_ca, ca_07, ca_08, ca_09, ca_010, beN_ca, ctN_ca, gonN_ca, mvN_ca]
      rw [hsn]
      refine x_icmp_ge h dX7_step_14 (tgt := 51) (by decide) (by omega) (by omega) (fun q14 => ?_) (fun q14 => ?_)
      · exfalso; omega
      · refine x_iconst h dX7_step_17 ?_
        refine x_istore_n h dX7_step_18 rfl rfl ?_
        dsimp only [xset]
        refine x_aload_n h dX7_step_19 rfl ?_
        refine x_iload_n h dX7_step_20 rfl ?_
        refine x_V1i h dX7_step_21 m_ml_X7_154 m_im_X7_goesOf m_se_X7_goesOf (sM0 hm) rfl (by decide) rfl (c_X7_goesOf hm (by exact hsI) (by first | omega | (simp only [ca_1]; omega))) ?_
        try simp only [up_ca1, up_ca07, up_ca08, up_ca09, up_ca010, up_10, up_01, up_0709, up_0710, ca_ca, ca_1, dN_ca, wyM_ca, plN_ca, rpN_ca, ltN_ca, pmN_ca, wnN_ca, nbN_ca, ca_07, ca_08, ca_09, ca_010, beN_ca, ctN_ca, gonN_ca, mvN_ca]
        rw [show goF (N 1 (113 + 8 * (j : Int) + 0)) = (((goF (N 1 (113 + 8 * (j : Int) + 0))).toNat : Nat) : Int) by unfold goF; (repeat' split) <;> rfl]
        refine x_istore_n h dX7_step_24 rfl rfl ?_
        dsimp only [xset]
        exact H _ N _ _ (by unfold goF; (repeat' split) <;> decide) hsI hsn hc hT
  exact HH (M 1 1).toNat 0 _ _ (by omega) hf0

theorem dX7_steps_0 : decode cX7_steps 0 = .ok (.iconst 0, 1) := by decide +kernel
theorem dX7_steps_1 : decode cX7_steps 1 = .ok (.istore_n 2, 1) := by decide +kernel
theorem dX7_steps_2 : decode cX7_steps 2 = .ok (.iload_n 2, 1) := by decide +kernel
theorem dX7_steps_3 : decode cX7_steps 3 = .ok (.iload_n 1, 1) := by decide +kernel
theorem dX7_steps_4 : decode cX7_steps 4 = .ok (.if_icmp .ge 13, 3) := by decide +kernel
theorem dX7_steps_7 : decode cX7_steps 7 = .ok (.aload_n 0, 1) := by decide +kernel
theorem dX7_steps_8 : decode cX7_steps 8 = .ok (.invokevirtual 204, 3) := by decide +kernel
theorem dX7_steps_11 : decode cX7_steps 11 = .ok (.iinc 2 1, 3) := by decide +kernel
theorem dX7_steps_14 : decode cX7_steps 14 = .ok (.goto (-12), 3) := by decide +kernel
theorem dX7_steps_17 : decode cX7_steps 17 = .ok (.return_, 1) := by decide +kernel
set_option maxHeartbeats 800000 in
set_option maxRecDepth 100000 in
theorem c_X7_steps {l : Launch} {ω : xO} {ks : Nat → Option Nat} (hm : xsh ω = mdS ks) {n : Int} {M : xMem} (hI : MInv M) (hf : Fc M) (hn0 : 0 ≤ n ∧ n ≤ 1000) (hcl : M 1 0 ≤ 1000000) : Cq l ω yX7_steps ({ frames := 7, cells := 0, slots := 0, locals := 156 } : Room) 3 1 [.ref (xad ω 0), .int (iI n)] M (pV1 (fun N' => CaE (siN M n.toNat) N')) := by
  refine Cq.of (bytes := cX7_steps) (ret := none) (lv0 := [some (.ref (xad ω 0)), some (.int (iI n)), none]) m_cd_X7_steps m_in_X7 (by decide +kernel) (by decide +kernel) rfl rfl rfl rfl ?_
  intro κ h he hR
  refine x_iconst h dX7_steps_0 ?_
  refine x_istore_n h dX7_steps_1 rfl rfl ?_
  dsimp only [xset]
  refine x_mem (M' := ca (siN M 0) (M 0 6) (M 5)) (ca_self M).symm ?_
  have hf0 : Fc (ca (siN M 0) (M 0 6) (M 5)) := by rw [siN, ca_self]; exact hf
  have HH : ∀ (k j : Nat) (f : Int) (d : Int → Int), j + k = n.toNat → Fc (ca (siN M j) f d) → X ω κ 2 [some (.ref (xad ω 0)), some (.int (iI n)), some (.int (iI (j : Int)))] [] (ca (siN M j) f d) := by
    intro k
    induction k with
    | zero =>
      intro j f d e hc
      refine x_iload_n h dX7_steps_2 rfl ?_
      refine x_iload_n h dX7_steps_3 rfl ?_
      refine x_icmp_ge h dX7_steps_4 (tgt := 17) (by decide) (by omega) (by omega) (fun q4 => ?_) (fun q4 => ?_)
      · exact x_vretq h he dX7_steps_17 ⟨_, _, by rw [show n.toNat = j by omega], hc⟩
      · exfalso; omega
    | succ k ih =>
      intro j f d e hc
      have hs := siN_I hI j
      refine x_iload_n h dX7_steps_2 rfl ?_
      refine x_iload_n h dX7_steps_3 rfl ?_
      refine x_icmp_ge h dX7_steps_4 (tgt := 17) (by decide) (by omega) (by omega) (fun q4 => ?_) (fun q4 => ?_)
      · exfalso; omega
      · refine x_aload_n h dX7_steps_7 rfl ?_
        refine x_Q0v h dX7_steps_8 m_ml_X7_204 m_im_X7_step m_se_X7_step (sM0 hm) rfl (by decide) rfl (c_X7_step hm (by exact hs.1) hc (by simp only [ca_1]; omega)) (fun N8 h8 => ?_)
        obtain ⟨f8, d8, rfl, c8⟩ := h8
        try simp only [ca_ca, ca_1, dN_ca, wyM_ca, plN_ca, rpN_ca, ltN_ca, pmN_ca, wnN_ca, nbN_ca, ca_07, ca_08, ca_09, ca_010, beN_ca, ctN_ca, gonN_ca, mvN_ca, stN_ca, thN_ca] at c8 ⊢
        refine x_iinc h dX7_steps_11 rfl rfl rfl ?_
        dsimp only [xset]
        refine x_goto h dX7_steps_14 (tgt := 2) (by decide) ?_
        exact ih (j + 1) _ _ (by omega) (by assumption)
  exact HH n.toNat 0 _ _ (by omega) hf0

theorem dX7_isThere_0 : decode cX7_isThere 0 = .ok (.aload_n 0, 1) := by decide +kernel
theorem dX7_isThere_1 : decode cX7_isThere 1 = .ok (.iload_n 1, 1) := by decide +kernel
theorem dX7_isThere_2 : decode cX7_isThere 2 = .ok (.iconst 1, 1) := by decide +kernel
theorem dX7_isThere_3 : decode cX7_isThere 3 = .ok (.invokevirtual 133, 3) := by decide +kernel
theorem dX7_isThere_6 : decode cX7_isThere 6 = .ok (.aload_n 0, 1) := by decide +kernel
theorem dX7_isThere_7 : decode cX7_isThere 7 = .ok (.iload_n 1, 1) := by decide +kernel
theorem dX7_isThere_8 : decode cX7_isThere 8 = .ok (.iconst 2, 1) := by decide +kernel
theorem dX7_isThere_9 : decode cX7_isThere 9 = .ok (.invokevirtual 133, 3) := by decide +kernel
theorem dX7_isThere_12 : decode cX7_isThere 12 = .ok (.if_icmp .ne 7, 3) := by decide +kernel
theorem dX7_isThere_15 : decode cX7_isThere 15 = .ok (.iconst 1, 1) := by decide +kernel
theorem dX7_isThere_16 : decode cX7_isThere 16 = .ok (.goto 4, 3) := by decide +kernel
theorem dX7_isThere_19 : decode cX7_isThere 19 = .ok (.iconst 0, 1) := by decide +kernel
theorem dX7_isThere_20 : decode cX7_isThere 20 = .ok (.ireturn, 1) := by decide +kernel
set_option maxHeartbeats 800000 in
set_option maxRecDepth 100000 in
theorem c_X7_isThere {l : Launch} {ω : xO} {ks : Nat → Option Nat} (hm : xsh ω = mdS ks) {p : Int} {M : xMem} (hI : MInv M) (hp : 0 ≤ p ∧ p < M 1 1) : Ct l ω yX7_isThere ({ frames := 2, cells := 0, slots := 0, locals := 43 } : Room) 2 1 [.ref (xad ω 0), .int (iI p)] M (some (.int (iI (bI (M 1 (113 + 8 * p + 1) = M 1 (113 + 8 * p + 2)))))) M := by
  refine Ct.of (bytes := cX7_isThere) (ret := (some .boolean)) (lv0 := [some (.ref (xad ω 0)), some (.int (iI p))]) m_cd_X7_isThere m_in_X7 (by decide +kernel) (by decide +kernel) rfl rfl rfl rfl (fun hR => hR) ?_
  intro κ h he hR
  have hn := hI.1
  have hk := hI.2.1
  have hL := hI.2.2.1
  have ip := hI.2.2.2 p hp.1 hp.2
  refine x_aload_n h dX7_isThere_0 rfl ?_
  refine x_iload_n h dX7_isThere_1 rfl ?_
  refine x_iconst h dX7_isThere_2 ?_
  refine x_V2i h dX7_isThere_3 m_ml_X7_133 m_im_X7_personIs m_se_X7_personIs (sM0 hm) rfl (by decide) rfl (c_X7_personIs hm (by omega) (by omega)) ?_
  refine x_aload_n h dX7_isThere_6 rfl ?_
  refine x_iload_n h dX7_isThere_7 rfl ?_
  refine x_iconst h dX7_isThere_8 ?_
  refine x_V2i h dX7_isThere_9 m_ml_X7_133 m_im_X7_personIs m_se_X7_personIs (sM0 hm) rfl (by decide) rfl (c_X7_personIs hm (by omega) (by omega)) ?_
  refine x_icmp_ne h dX7_isThere_12 (tgt := 19) (by decide) (by omega) (by omega) (fun q12 => ?_) (fun q12 => ?_)
  · refine x_iconst h dX7_isThere_19 ?_
    exact x_zret h he dX7_isThere_20 (by first | exact Or.inl rfl | exact Or.inr rfl | exact bI_01 _ | omega) rfl (by first | rfl | omega | exact (bI_t (by omega)).symm | exact (bI_f (by omega)).symm) rfl
  · refine x_iconst h dX7_isThere_15 ?_
    refine x_goto h dX7_isThere_16 (tgt := 20) (by decide) ?_
    exact x_zret h he dX7_isThere_20 (by first | exact Or.inl rfl | exact Or.inr rfl | exact bI_01 _ | omega) rfl (by first | rfl | omega | exact (bI_t (by omega)).symm | exact (bI_f (by omega)).symm) rfl
