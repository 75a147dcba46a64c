/-! the class: its own methods, three: kinds, leads, cuts -/
noncomputable abbrev kfS (p : Int) (M : xMem) (k : Int) : xMem := up (bcC M 31 11) (31 + 1) p k
noncomputable abbrev ldS (p : Int) (M : xMem) (k : Int) : xMem := up (bcC M 31 11) (31 + 3) (M (11 + 4) p) k
noncomputable def sfG (T : xMem → Int → xMem) (p : Int) (k : Int) (st : Int × Int × xMem) : Int × Int × xMem :=
  (if suN 31 1 p 60 0 (T st.2.2 k) < st.2.1 then k else st.1, if suN 31 1 p 60 0 (T st.2.2 k) < st.2.1 then suN 31 1 p 60 0 (T st.2.2 k) else st.2.1, suM 31 1 p 60 (T st.2.2 k))
noncomputable def sfF (T : xMem → Int → xMem) (p : Int) (M : xMem) (n : Nat) : Int × Int × xMem := xfo (sfG T p) (-1, 61, M) n
theorem sfF_s (T : xMem → Int → xMem) (p : Int) (M : xMem) (n : Nat) : sfF T p M (n + 1) = sfG T p (n : Int) (sfF T p M n) := by
  unfold sfF
  rw [xfo_s (sfG T p) (-1, 61, M) n]
theorem kfS_in {M : xMem} {p k : Int} (hR : xR M) (hJ : CInv M) (hp : clHas M 11 p) (hk : 0 ≤ k ∧ k ≤ 6) : PIn (kfS p M k) 31 1 ∧ TrE M (kfS p M k) ∧ clHas (kfS p M k) 31 p := by
  have hT := trC_in hR hJ.1 hJ.2.1
  refine ⟨PIn_of (up_R hT.1 (by omega)) (PeInv_up hT.2.1 (by omega)) hT (fun k h1 h2 => up_n (by omega)), trC_e.up (by omega), ?_⟩
  unfold clHas kfS
  rw [up_n (by omega)]
  have := trC_1 (M := M)
  rw [show bcC M 31 11 31 1 = M 11 1 from this]
  exact hp
theorem ldS_in {M : xMem} {p k : Int} (hR : xR M) (hJ : CInv M) (hp : clHas M 11 p) (hk : 0 ≤ k ∧ k < 10) : PIn (ldS p M k) 31 1 ∧ TrE M (ldS p M k) ∧ clHas (ldS p M k) 31 p := by
  have hT := trC_in hR hJ.1 hJ.2.1
  refine ⟨PIn_of (up_R hT.1 (by omega)) (PeInv_up hT.2.1 (by omega)) hT (fun k h1 h2 => up_n (by omega)), trC_e.up (by omega), ?_⟩
  unfold clHas ldS
  rw [up_n (by omega)]
  have := trC_1 (M := M)
  rw [show bcC M 31 11 31 1 = M 11 1 from this]
  exact hp
/-- what is so before each kind, each place, is tried -/
def SfO (M : xMem) (p : Int) (n : Int) (st : Int × Int × xMem) : Prop := TrE M st.2.2 ∧ xR st.2.2 ∧ (0 ≤ st.2.1 ∧ st.2.1 ≤ 61) ∧ (-1 ≤ st.1 ∧ st.1 < n) ∧ clHas st.2.2 11 p
theorem sfG_o {T : xMem → Int → xMem} {M : xMem} {p : Int} {n : Int} {st : Int × Int × xMem} (h : SfO M p n st) (hn : 0 ≤ n) (hT : PIn (T st.2.2 n) 31 1 ∧ TrE st.2.2 (T st.2.2 n) ∧ clHas (T st.2.2 n) 31 p) : SfO M p (n + 1) (sfG T p n st) := by
  obtain ⟨h1, h2, h3, h4, h5⟩ := h
  have g := suN_R (b := 31) (r := 1) (p := p) 60 0 (T st.2.2 n) (by omega) (by omega)
  have he := suT_e (p := p) (d := 60) hT.2.1 hT.1
  refine ⟨h1.tr he, (suM_in H31 60 _ hT.1).1, ?_, ?_, ?_⟩
  · unfold sfG; dsimp only; split <;> omega
  · unfold sfG; dsimp only; split <;> omega
  · unfold sfG clHas; dsimp only; rw [he 11 (by omega)]; exact h5
theorem kfF_o {M : xMem} {p : Int} (hR : xR M) (hJ : CInv M) (hp : clHas M 11 p) : ∀ n : Nat, n ≤ 7 → SfO M p (n : Int) (sfF (kfS p) p M n) := by
  intro n
  induction n with
  | zero => intro _; exact ⟨TrE.rf, hR, ⟨by show (0 : Int) ≤ 61; decide, by show (61 : Int) ≤ 61; decide⟩, ⟨by show (-1 : Int) ≤ -1; decide, by show (-1 : Int) < 0; decide⟩, hp⟩
  | succ n ih =>
    intro hn
    have h := ih (by omega)
    rw [sfF_s]
    exact sfG_o h (by omega) (kfS_in h.2.1 (hJ.e h.1) h.2.2.2.2 (by omega))
theorem ldF_o {M : xMem} {p : Int} (hR : xR M) (hJ : CInv M) (hp : clHas M 11 p) : ∀ n : Nat, n ≤ 10 → SfO M p (n : Int) (sfF (ldS p) p M n) := by
  intro n
  induction n with
  | zero => intro _; exact ⟨TrE.rf, hR, ⟨by show (0 : Int) ≤ 61; decide, by show (61 : Int) ≤ 61; decide⟩, ⟨by show (-1 : Int) ≤ -1; decide, by show (-1 : Int) < 0; decide⟩, hp⟩
  | succ n ih =>
    intro hn
    have h := ih (by omega)
    rw [sfF_s]
    exact sfG_o h (by omega) (ldS_in h.2.1 (hJ.e h.1) h.2.2.2.2 (by omega))
theorem clHas_e {M M1 : xMem} {b c : Nat} {p : Int} (e : M1 c 1 = M b 1) (h : clHas M b p) : clHas M1 c p := by unfold clHas; rw [e]; exact h
noncomputable def kindForR (M : xMem) (p : Int) : Int := if clHas M 11 p then (if (sfF (kfS p) p M 7).2.1 = 61 then -1000004 else (sfF (kfS p) p M 7).1) else -1000001
noncomputable def kindForM (M : xMem) (p : Int) : xMem := if clHas M 11 p then (if (sfF (kfS p) p M 7).2.1 = 61 then fndC (sfF (kfS p) p M 7).2.2 3 else (sfF (kfS p) p M 7).2.2) else fndC M 0
theorem dX6_kindFor_0 : decode cX6_kindFor 0 = .ok (.aload_n 0, 1) := by decide +kernel
theorem dX6_kindFor_1 : decode cX6_kindFor 1 = .ok (.getfield 21, 3) := by decide +kernel
theorem dX6_kindFor_4 : decode cX6_kindFor 4 = .ok (.iload_n 1, 1) := by decide +kernel
theorem dX6_kindFor_5 : decode cX6_kindFor 5 = .ok (.invokevirtual 120, 3) := by decide +kernel
theorem dX6_kindFor_8 : decode cX6_kindFor 8 = .ok (.ifCond .ne 9, 3) := by decide +kernel
theorem dX6_kindFor_11 : decode cX6_kindFor 11 = .ok (.aload_n 0, 1) := by decide +kernel
theorem dX6_kindFor_12 : decode cX6_kindFor 12 = .ok (.iconst 0, 1) := by decide +kernel
theorem dX6_kindFor_13 : decode cX6_kindFor 13 = .ok (.invokevirtual 95, 3) := by decide +kernel
theorem dX6_kindFor_16 : decode cX6_kindFor 16 = .ok (.ireturn, 1) := by decide +kernel
theorem dX6_kindFor_17 : decode cX6_kindFor 17 = .ok (.iconst (-1), 1) := by decide +kernel
theorem dX6_kindFor_18 : decode cX6_kindFor 18 = .ok (.istore_n 2, 1) := by decide +kernel
theorem dX6_kindFor_19 : decode cX6_kindFor 19 = .ok (.bipush 61, 2) := by decide +kernel
theorem dX6_kindFor_21 : decode cX6_kindFor 21 = .ok (.istore_n 3, 1) := by decide +kernel
theorem dX6_kindFor_22 : decode cX6_kindFor 22 = .ok (.iconst 0, 1) := by decide +kernel
theorem dX6_kindFor_23 : decode cX6_kindFor 23 = .ok (.istore 4, 2) := by decide +kernel
theorem dX6_kindFor_25 : decode cX6_kindFor 25 = .ok (.iload 4, 2) := by decide +kernel
theorem dX6_kindFor_27 : decode cX6_kindFor 27 = .ok (.bipush 7, 2) := by decide +kernel
theorem dX6_kindFor_29 : decode cX6_kindFor 29 = .ok (.if_icmp .ge 53, 3) := by decide +kernel
theorem dX6_kindFor_32 : decode cX6_kindFor 32 = .ok (.aload_n 0, 1) := by decide +kernel
theorem dX6_kindFor_33 : decode cX6_kindFor 33 = .ok (.getfield 49, 3) := by decide +kernel
theorem dX6_kindFor_36 : decode cX6_kindFor 36 = .ok (.aload_n 0, 1) := by decide +kernel
theorem dX6_kindFor_37 : decode cX6_kindFor 37 = .ok (.getfield 21, 3) := by decide +kernel
theorem dX6_kindFor_40 : decode cX6_kindFor 40 = .ok (.invokevirtual 204, 3) := by decide +kernel
theorem dX6_kindFor_43 : decode cX6_kindFor 43 = .ok (.aload_n 0, 1) := by decide +kernel
theorem dX6_kindFor_44 : decode cX6_kindFor 44 = .ok (.getfield 49, 3) := by decide +kernel
theorem dX6_kindFor_47 : decode cX6_kindFor 47 = .ok (.iload_n 1, 1) := by decide +kernel
theorem dX6_kindFor_48 : decode cX6_kindFor 48 = .ok (.iload 4, 2) := by decide +kernel
theorem dX6_kindFor_50 : decode cX6_kindFor 50 = .ok (.invokevirtual 150, 3) := by decide +kernel
theorem dX6_kindFor_53 : decode cX6_kindFor 53 = .ok (.pop, 1) := by decide +kernel
theorem dX6_kindFor_54 : decode cX6_kindFor 54 = .ok (.aload_n 0, 1) := by decide +kernel
theorem dX6_kindFor_55 : decode cX6_kindFor 55 = .ok (.getfield 49, 3) := by decide +kernel
theorem dX6_kindFor_58 : decode cX6_kindFor 58 = .ok (.iload_n 1, 1) := by decide +kernel
theorem dX6_kindFor_59 : decode cX6_kindFor 59 = .ok (.invokevirtual 208, 3) := by decide +kernel
theorem dX6_kindFor_62 : decode cX6_kindFor 62 = .ok (.istore 5, 2) := by decide +kernel
theorem dX6_kindFor_64 : decode cX6_kindFor 64 = .ok (.iload 5, 2) := by decide +kernel
theorem dX6_kindFor_66 : decode cX6_kindFor 66 = .ok (.iload_n 3, 1) := by decide +kernel
theorem dX6_kindFor_67 : decode cX6_kindFor 67 = .ok (.if_icmp .ge 9, 3) := by decide +kernel
theorem dX6_kindFor_70 : decode cX6_kindFor 70 = .ok (.iload 5, 2) := by decide +kernel
theorem dX6_kindFor_72 : decode cX6_kindFor 72 = .ok (.istore_n 3, 1) := by decide +kernel
theorem dX6_kindFor_73 : decode cX6_kindFor 73 = .ok (.iload 4, 2) := by decide +kernel
theorem dX6_kindFor_75 : decode cX6_kindFor 75 = .ok (.istore_n 2, 1) := by decide +kernel
theorem dX6_kindFor_76 : decode cX6_kindFor 76 = .ok (.iinc 4 1, 3) := by decide +kernel
theorem dX6_kindFor_79 : decode cX6_kindFor 79 = .ok (.goto (-54), 3) := by decide +kernel
theorem dX6_kindFor_82 : decode cX6_kindFor 82 = .ok (.iload_n 3, 1) := by decide +kernel
theorem dX6_kindFor_83 : decode cX6_kindFor 83 = .ok (.bipush 61, 2) := by decide +kernel
theorem dX6_kindFor_85 : decode cX6_kindFor 85 = .ok (.if_icmp .ne 11, 3) := by decide +kernel
theorem dX6_kindFor_88 : decode cX6_kindFor 88 = .ok (.aload_n 0, 1) := by decide +kernel
theorem dX6_kindFor_89 : decode cX6_kindFor 89 = .ok (.iconst 3, 1) := by decide +kernel
theorem dX6_kindFor_90 : decode cX6_kindFor 90 = .ok (.invokevirtual 95, 3) := by decide +kernel
theorem dX6_kindFor_93 : decode cX6_kindFor 93 = .ok (.goto 4, 3) := by decide +kernel
theorem dX6_kindFor_96 : decode cX6_kindFor 96 = .ok (.iload_n 2, 1) := by decide +kernel
theorem dX6_kindFor_97 : decode cX6_kindFor 97 = .ok (.ireturn, 1) := by decide +kernel
set_option maxHeartbeats 4000000 in
set_option maxRecDepth 100000 in
theorem c_X6_kindFor {l : Launch} {ω : xO} (hc : xsh ω = clS) {p : Int} {M : xMem} (hJ : CInv M) (h_p : inR p) : Ct l ω yX6_kindFor ({ frames := 6, cells := 0, slots := 0, locals := 140 } : Room) 6 1 [.ref (xad ω 0), .int (iI p)] M (some (.int (iI (kindForR M p)))) (kindForM M p) := by
  refine Ct.of (bytes := cX6_kindFor) (ret := (some .int)) (lv0 := [some (.ref (xad ω 0)), some (.int (iI p)), none, none, none, none]) m_cd_X6_kindFor m_in_X6 (by decide +kernel) (by decide +kernel) rfl rfl rfl rfl (fun hR => by unfold kindForM; (repeat' split) <;> first | exact fndC_R hR | exact fndC_R (kfF_o hR hJ (by assumption) 7 (by omega)).2.1 | exact (kfF_o hR hJ (by assumption) 7 (by omega)).2.1) ?_
  intro κ h he hR
  have hI := hJ.1
  have hD := hJ.2.1
  have hL := hJ.2.2.1
  have hn := hI.1
  have hck := hI.2.1
  refine x_aload_n h dX6_kindFor_0 rfl ?_
  refine x_getr (j := 1) (q := 11) h dX6_kindFor_1 (sC0 hc) rfl in_X6 rfl (by decide) m_fl_X6_21 ?_
  refine x_iload_n h dX6_kindFor_4 rfl ?_
  refine x_V1i h dX6_kindFor_5 m_ml_X6_120 m_im_X1_has m_se_X1_has (sPe hc ((Or.inl ⟨rfl, rfl⟩))) rfl (by decide) rfl (c_X1_has hc (Or.inl ⟨rfl, rfl⟩) (by omega)) ?_
  refine x_ifneB h dX6_kindFor_8 (tgt := 17) (by decide) (fun q8 => ?_) (fun q8 => ?_)
  · refine x_iconst h dX6_kindFor_17 ?_
    refine x_istore_n h dX6_kindFor_18 rfl rfl ?_
    dsimp only [xset]
    refine x_bipush h dX6_kindFor_19 (by decide) ?_
    refine x_istore_n h dX6_kindFor_21 rfl rfl ?_
    dsimp only [xset]
    refine x_iconst h dX6_kindFor_22 ?_
    refine x_istore h dX6_kindFor_23 rfl rfl ?_
    dsimp only [xset]
    refine loop_up (fun k => X ω κ 25 [some (.ref (xad ω 0)), some (.int (iI p)), some (.int (iI (sfF (kfS p) p M k).1)), some (.int (iI (sfF (kfS p) p M k).2.1)), some (.int (iI (k : Int))), none] [] ((sfF (kfS p) p M k).2.2)) 7 ?_ ?_
    · show X ω κ 25 [some (.ref (xad ω 0)), some (.int (iI p)), some (.int (iI (sfF (kfS p) p M 7).1)), some (.int (iI (sfF (kfS p) p M 7).2.1)), some (.int (iI ((7 : Nat) : Int))), none] [] ((sfF (kfS p) p M 7).2.2)
      have ho := kfF_o hR hJ q8 7 (by omega)
      have ho3 := ho.2.2.1
      have ho4 := ho.2.2.2.1
      refine x_iload h dX6_kindFor_25 rfl ?_
      refine x_bipush h dX6_kindFor_27 (by decide) ?_
      refine x_icmp_ge h dX6_kindFor_29 (tgt := 82) (by decide) (by omega) (by omega) (fun q29 => ?_) (fun q29 => ?_)
      · refine x_iload_n h dX6_kindFor_82 rfl ?_
        refine x_bipush h dX6_kindFor_83 (by decide) ?_
        refine x_icmp_ne h dX6_kindFor_85 (tgt := 96) (by decide) (by omega) (by omega) (fun q85 => ?_) (fun q85 => ?_)
        · refine x_iload_n h dX6_kindFor_96 rfl ?_
          exact x_iret (ret := none) h he dX6_kindFor_97 rfl (by unfold kindForR; rw [if_pos q8]; first | (rw [if_pos q85] <;> rfl) | rw [if_neg q85]) (by unfold kindForM; rw [if_pos q8]; first | rw [if_pos q85] | rw [if_neg q85])
        · refine x_aload_n h dX6_kindFor_88 rfl ?_
          refine x_iconst h dX6_kindFor_89 ?_
          refine x_V1i h dX6_kindFor_90 m_ml_X6_95 m_im_X6_found m_se_X6_found (sC0 hc) rfl (by decide) rfl (c_X6_found hc (by omega)) ?_
          refine x_goto h dX6_kindFor_93 (tgt := 97) (by decide) ?_
          exact x_iret (ret := none) h he dX6_kindFor_97 rfl (by unfold kindForR; rw [if_pos q8]; first | (rw [if_pos q85] <;> rfl) | rw [if_neg q85]) (by unfold kindForM; rw [if_pos q8]; first | rw [if_pos q85] | rw [if_neg q85])
      · exfalso; omega
    · intro k hk ihk
      replace ihk : X ω κ 25 [some (.ref (xad ω 0)), some (.int (iI p)), some (.int (iI (sfF (kfS p) p M (k + 1)).1)), some (.int (iI (sfF (kfS p) p M (k + 1)).2.1)), some (.int (iI ((k + 1 : Nat) : Int))), none] [] ((sfF (kfS p) p M (k + 1)).2.2) := ihk
      show X ω κ 25 [some (.ref (xad ω 0)), some (.int (iI p)), some (.int (iI (sfF (kfS p) p M k).1)), some (.int (iI (sfF (kfS p) p M k).2.1)), some (.int (iI (k : Int))), none] [] ((sfF (kfS p) p M k).2.2)
      have ho := kfF_o hR hJ q8 k (by omega)
      revert ihk
      rw [sfF_s]
      generalize sfF (kfS p) p M k = st at ho ⊢
      intro ihk
      obtain ⟨he1, hR1, hf1, hb1, hp1⟩ := ho
      have hJ1 := hJ.e he1
      have hs := kfS_in hR1 hJ1 hp1 (k := (k : Int)) (by omega)
      have g1 := suN_R (b := 31) (r := 1) (p := p) 60 0 (kfS p st.2.2 (k : Int)) (by omega) (by omega)
      have e11 : bcC st.2.2 31 11 11 = st.2.2 11 := trC_n (by omega)
      have e31 : bcC st.2.2 31 11 31 1 = st.2.2 11 1 := trC_1
      have em : bcC st.2.2 31 11 (11 + 4) = st.2.2 (11 + 4) := trC_n (by omega)
      refine x_iload h dX6_kindFor_25 rfl ?_
      refine x_bipush h dX6_kindFor_27 (by decide) ?_
      refine x_icmp_ge h dX6_kindFor_29 (tgt := 82) (by decide) (by omega) (by omega) (fun q29 => ?_) (fun q29 => ?_)
      · exfalso; omega
      · refine x_aload_n h dX6_kindFor_32 rfl ?_
        refine x_getr (j := 9) (q := 31) h dX6_kindFor_33 (sC0 hc) rfl in_X6 rfl (by decide) m_fl_X6_49 ?_
        refine x_aload_n h dX6_kindFor_36 rfl ?_
        refine x_getr (j := 1) (q := 11) h dX6_kindFor_37 (sC0 hc) rfl in_X6 rfl (by decide) m_fl_X6_21 ?_
        refine x_V1v h dX6_kindFor_40 m_ml_X6_204 m_im_X1_become m_se_X1_become (sPe hc ((Or.inr (Or.inr ⟨rfl, rfl⟩)))) rfl (by decide) rfl (c_X1_become hc ((Or.inr (Or.inr ⟨rfl, rfl⟩))) ((Or.inl ⟨rfl, rfl⟩))) ?_
        refine x_aload_n h dX6_kindFor_43 rfl ?_
        refine x_getr (j := 9) (q := 31) h dX6_kindFor_44 (sC0 hc) rfl in_X6 rfl (by decide) m_fl_X6_49 ?_
        refine x_iload_n h dX6_kindFor_47 rfl ?_
        refine x_iload h dX6_kindFor_48 rfl ?_
        refine x_V2i h dX6_kindFor_50 m_ml_X6_150 m_im_X1_setKind m_se_X1_setKind (sPe hc ((Or.inr (Or.inr ⟨rfl, rfl⟩)))) rfl (by decide) rfl (c_X1_setKind hc H31 (clHas_e e31 hp1) (by omega)) ?_
        refine x_pop h dX6_kindFor_53 rfl ?_
        refine x_mem (M' := kfS p st.2.2 (k : Int)) rfl ?_
        refine x_aload_n h dX6_kindFor_54 rfl ?_
        refine x_getr (j := 9) (q := 31) h dX6_kindFor_55 (sC0 hc) rfl in_X6 rfl (by decide) m_fl_X6_49 ?_
        refine x_iload_n h dX6_kindFor_58 rfl ?_
        refine x_V1i h dX6_kindFor_59 m_ml_X6_208 m_im_X1_stepsUntilThere m_se_X1_stepsUntilThere (sPe hc ((Or.inr (Or.inr ⟨rfl, rfl⟩)))) rfl (by decide) rfl (c_X1_stepsUntilThere hc H31 hs.1 hs.2.2) ?_
        refine x_istore h dX6_kindFor_62 rfl rfl ?_
        dsimp only [xset]
        refine x_iload h dX6_kindFor_64 rfl ?_
        refine x_iload_n h dX6_kindFor_66 rfl ?_
        refine x_icmp_ge h dX6_kindFor_67 (tgt := 76) (by decide) (by first | omega | exact ⟨by have := g1; omega, by have := g1; omega⟩) (by first | omega | exact ⟨by have := g1; omega, by have := g1; omega⟩) (fun q67 => ?_) (fun q67 => ?_)
        · refine x_iinc h dX6_kindFor_76 rfl rfl rfl ?_
          dsimp only [xset]
          refine x_goto h dX6_kindFor_79 (tgt := 25) (by decide) ?_
          refine x_drop 5 ?_
          dsimp only [xclr]
          first
            | exact x_same ihk (by unfold sfG; dsimp only; simp only [if_pos (Int.not_le.mp q67)] <;> rfl) rfl rfl
            | exact x_same ihk (by unfold sfG; dsimp only; simp only [if_neg (Int.not_lt.mpr q67)] <;> rfl) rfl rfl
        · refine x_iload h dX6_kindFor_70 rfl ?_
          refine x_istore_n h dX6_kindFor_72 rfl rfl ?_
          dsimp only [xset]
          refine x_iload h dX6_kindFor_73 rfl ?_
          refine x_istore_n h dX6_kindFor_75 rfl rfl ?_
          dsimp only [xset]
          refine x_iinc h dX6_kindFor_76 rfl rfl rfl ?_
          dsimp only [xset]
          refine x_goto h dX6_kindFor_79 (tgt := 25) (by decide) ?_
          refine x_drop 5 ?_
          dsimp only [xclr]
          first
            | exact x_same ihk (by unfold sfG; dsimp only; simp only [if_pos (Int.not_le.mp q67)] <;> rfl) rfl rfl
            | exact x_same ihk (by unfold sfG; dsimp only; simp only [if_neg (Int.not_lt.mpr q67)] <;> rfl) rfl rfl
  · refine x_aload_n h dX6_kindFor_11 rfl ?_
    refine x_iconst h dX6_kindFor_12 ?_
    refine x_V1i h dX6_kindFor_13 m_ml_X6_95 m_im_X6_found m_se_X6_found (sC0 hc) rfl (by decide) rfl (c_X6_found hc (by omega)) ?_
    exact x_iret (ret := none) h he dX6_kindFor_16 rfl (by unfold kindForR; (repeat (first | rw [if_pos (by first | assumption | omega)] | rw [if_neg (by first | assumption | omega)])) <;> first | rfl | omega) (by unfold kindForM; (repeat (first | rw [if_pos (by first | assumption | omega)] | rw [if_neg (by first | assumption | omega)])) <;> first | rfl | omega)

noncomputable def leadR (M : xMem) (p : Int) : Int := if clHas M 11 p then (if clHas M 11 (M (11 + 4) p) then (if (sfF (ldS p) p M 10).2.1 = 61 then -1000004 else (sfF (ldS p) p M 10).1) else -1000004) else -1000001
noncomputable def leadM (M : xMem) (p : Int) : xMem := if clHas M 11 p then (if clHas M 11 (M (11 + 4) p) then (if (sfF (ldS p) p M 10).2.1 = 61 then fndC (sfF (ldS p) p M 10).2.2 3 else (sfF (ldS p) p M 10).2.2) else fndC M 3) else fndC M 0
theorem dX6_lead_0 : decode cX6_lead 0 = .ok (.aload_n 0, 1) := by decide +kernel
theorem dX6_lead_1 : decode cX6_lead 1 = .ok (.getfield 21, 3) := by decide +kernel
theorem dX6_lead_4 : decode cX6_lead 4 = .ok (.iload_n 1, 1) := by decide +kernel
theorem dX6_lead_5 : decode cX6_lead 5 = .ok (.invokevirtual 120, 3) := by decide +kernel
theorem dX6_lead_8 : decode cX6_lead 8 = .ok (.ifCond .ne 9, 3) := by decide +kernel
theorem dX6_lead_11 : decode cX6_lead 11 = .ok (.aload_n 0, 1) := by decide +kernel
theorem dX6_lead_12 : decode cX6_lead 12 = .ok (.iconst 0, 1) := by decide +kernel
theorem dX6_lead_13 : decode cX6_lead 13 = .ok (.invokevirtual 95, 3) := by decide +kernel
theorem dX6_lead_16 : decode cX6_lead 16 = .ok (.ireturn, 1) := by decide +kernel
theorem dX6_lead_17 : decode cX6_lead 17 = .ok (.aload_n 0, 1) := by decide +kernel
theorem dX6_lead_18 : decode cX6_lead 18 = .ok (.getfield 21, 3) := by decide +kernel
theorem dX6_lead_21 : decode cX6_lead 21 = .ok (.iload_n 1, 1) := by decide +kernel
theorem dX6_lead_22 : decode cX6_lead 22 = .ok (.invokevirtual 172, 3) := by decide +kernel
theorem dX6_lead_25 : decode cX6_lead 25 = .ok (.ifCond .ne 9, 3) := by decide +kernel
theorem dX6_lead_28 : decode cX6_lead 28 = .ok (.aload_n 0, 1) := by decide +kernel
theorem dX6_lead_29 : decode cX6_lead 29 = .ok (.iconst 3, 1) := by decide +kernel
theorem dX6_lead_30 : decode cX6_lead 30 = .ok (.invokevirtual 95, 3) := by decide +kernel
theorem dX6_lead_33 : decode cX6_lead 33 = .ok (.ireturn, 1) := by decide +kernel
theorem dX6_lead_34 : decode cX6_lead 34 = .ok (.iconst (-1), 1) := by decide +kernel
theorem dX6_lead_35 : decode cX6_lead 35 = .ok (.istore_n 2, 1) := by decide +kernel
theorem dX6_lead_36 : decode cX6_lead 36 = .ok (.bipush 61, 2) := by decide +kernel
theorem dX6_lead_38 : decode cX6_lead 38 = .ok (.istore_n 3, 1) := by decide +kernel
theorem dX6_lead_39 : decode cX6_lead 39 = .ok (.iconst 0, 1) := by decide +kernel
theorem dX6_lead_40 : decode cX6_lead 40 = .ok (.istore 4, 2) := by decide +kernel
theorem dX6_lead_42 : decode cX6_lead 42 = .ok (.iload 4, 2) := by decide +kernel
theorem dX6_lead_44 : decode cX6_lead 44 = .ok (.bipush 10, 2) := by decide +kernel
theorem dX6_lead_46 : decode cX6_lead 46 = .ok (.if_icmp .ge 60, 3) := by decide +kernel
theorem dX6_lead_49 : decode cX6_lead 49 = .ok (.aload_n 0, 1) := by decide +kernel
theorem dX6_lead_50 : decode cX6_lead 50 = .ok (.getfield 49, 3) := by decide +kernel
theorem dX6_lead_53 : decode cX6_lead 53 = .ok (.aload_n 0, 1) := by decide +kernel
theorem dX6_lead_54 : decode cX6_lead 54 = .ok (.getfield 21, 3) := by decide +kernel
theorem dX6_lead_57 : decode cX6_lead 57 = .ok (.invokevirtual 204, 3) := by decide +kernel
theorem dX6_lead_60 : decode cX6_lead 60 = .ok (.aload_n 0, 1) := by decide +kernel
theorem dX6_lead_61 : decode cX6_lead 61 = .ok (.getfield 49, 3) := by decide +kernel
theorem dX6_lead_64 : decode cX6_lead 64 = .ok (.aload_n 0, 1) := by decide +kernel
theorem dX6_lead_65 : decode cX6_lead 65 = .ok (.getfield 21, 3) := by decide +kernel
theorem dX6_lead_68 : decode cX6_lead 68 = .ok (.iload_n 1, 1) := by decide +kernel
theorem dX6_lead_69 : decode cX6_lead 69 = .ok (.invokevirtual 132, 3) := by decide +kernel
theorem dX6_lead_72 : decode cX6_lead 72 = .ok (.iload 4, 2) := by decide +kernel
theorem dX6_lead_74 : decode cX6_lead 74 = .ok (.invokevirtual 156, 3) := by decide +kernel
theorem dX6_lead_77 : decode cX6_lead 77 = .ok (.pop, 1) := by decide +kernel
theorem dX6_lead_78 : decode cX6_lead 78 = .ok (.aload_n 0, 1) := by decide +kernel
theorem dX6_lead_79 : decode cX6_lead 79 = .ok (.getfield 49, 3) := by decide +kernel
theorem dX6_lead_82 : decode cX6_lead 82 = .ok (.iload_n 1, 1) := by decide +kernel
theorem dX6_lead_83 : decode cX6_lead 83 = .ok (.invokevirtual 208, 3) := by decide +kernel
theorem dX6_lead_86 : decode cX6_lead 86 = .ok (.istore 5, 2) := by decide +kernel
theorem dX6_lead_88 : decode cX6_lead 88 = .ok (.iload 5, 2) := by decide +kernel
theorem dX6_lead_90 : decode cX6_lead 90 = .ok (.iload_n 3, 1) := by decide +kernel
theorem dX6_lead_91 : decode cX6_lead 91 = .ok (.if_icmp .ge 9, 3) := by decide +kernel
theorem dX6_lead_94 : decode cX6_lead 94 = .ok (.iload 5, 2) := by decide +kernel
theorem dX6_lead_96 : decode cX6_lead 96 = .ok (.istore_n 3, 1) := by decide +kernel
theorem dX6_lead_97 : decode cX6_lead 97 = .ok (.iload 4, 2) := by decide +kernel
theorem dX6_lead_99 : decode cX6_lead 99 = .ok (.istore_n 2, 1) := by decide +kernel
theorem dX6_lead_100 : decode cX6_lead 100 = .ok (.iinc 4 1, 3) := by decide +kernel
theorem dX6_lead_103 : decode cX6_lead 103 = .ok (.goto (-61), 3) := by decide +kernel
theorem dX6_lead_106 : decode cX6_lead 106 = .ok (.iload_n 3, 1) := by decide +kernel
theorem dX6_lead_107 : decode cX6_lead 107 = .ok (.bipush 61, 2) := by decide +kernel
theorem dX6_lead_109 : decode cX6_lead 109 = .ok (.if_icmp .ne 11, 3) := by decide +kernel
theorem dX6_lead_112 : decode cX6_lead 112 = .ok (.aload_n 0, 1) := by decide +kernel
theorem dX6_lead_113 : decode cX6_lead 113 = .ok (.iconst 3, 1) := by decide +kernel
theorem dX6_lead_114 : decode cX6_lead 114 = .ok (.invokevirtual 95, 3) := by decide +kernel
theorem dX6_lead_117 : decode cX6_lead 117 = .ok (.goto 4, 3) := by decide +kernel
theorem dX6_lead_120 : decode cX6_lead 120 = .ok (.iload_n 2, 1) := by decide +kernel
theorem dX6_lead_121 : decode cX6_lead 121 = .ok (.ireturn, 1) := by decide +kernel
set_option maxHeartbeats 4000000 in
set_option maxRecDepth 100000 in
theorem c_X6_lead {l : Launch} {ω : xO} (hc : xsh ω = clS) {p : Int} {M : xMem} (hJ : CInv M) (h_p : inR p) : Ct l ω yX6_lead ({ frames := 6, cells := 0, slots := 0, locals := 140 } : Room) 6 1 [.ref (xad ω 0), .int (iI p)] M (some (.int (iI (leadR M p)))) (leadM M p) := by
  refine Ct.of (bytes := cX6_lead) (ret := (some .int)) (lv0 := [some (.ref (xad ω 0)), some (.int (iI p)), none, none, none, none]) m_cd_X6_lead m_in_X6 (by decide +kernel) (by decide +kernel) rfl rfl rfl rfl (fun hR => by unfold leadM; (repeat' split) <;> first | exact fndC_R hR | exact fndC_R (ldF_o hR hJ (by assumption) 10 (by omega)).2.1 | exact (ldF_o hR hJ (by assumption) 10 (by omega)).2.1) ?_
  intro κ h he hR
  have hI := hJ.1
  have hD := hJ.2.1
  have hL := hJ.2.2.1
  have hn := hI.1
  have hck := hI.2.1
  refine x_aload_n h dX6_lead_0 rfl ?_
  refine x_getr (j := 1) (q := 11) h dX6_lead_1 (sC0 hc) rfl in_X6 rfl (by decide) m_fl_X6_21 ?_
  refine x_iload_n h dX6_lead_4 rfl ?_
  refine x_V1i h dX6_lead_5 m_ml_X6_120 m_im_X1_has m_se_X1_has (sPe hc ((Or.inl ⟨rfl, rfl⟩))) rfl (by decide) rfl (c_X1_has hc (Or.inl ⟨rfl, rfl⟩) (by omega)) ?_
  refine x_ifneB h dX6_lead_8 (tgt := 17) (by decide) (fun q8 => ?_) (fun q8 => ?_)
  · refine x_aload_n h dX6_lead_17 rfl ?_
    refine x_getr (j := 1) (q := 11) h dX6_lead_18 (sC0 hc) rfl in_X6 rfl (by decide) m_fl_X6_21 ?_
    refine x_iload_n h dX6_lead_21 rfl ?_
    refine x_V1i h dX6_lead_22 m_ml_X6_172 m_im_X1_isTied m_se_X1_isTied (sPe hc ((Or.inl ⟨rfl, rfl⟩))) rfl (by decide) rfl (c_X1_isTied hc ((Or.inl ⟨rfl, rfl⟩)) (by omega)) ?_
    refine x_ifneB h dX6_lead_25 (tgt := 34) (by decide) (fun q25 => ?_) (fun q25 => ?_)
    · refine x_iconst h dX6_lead_34 ?_
      refine x_istore_n h dX6_lead_35 rfl rfl ?_
      dsimp only [xset]
      refine x_bipush h dX6_lead_36 (by decide) ?_
      refine x_istore_n h dX6_lead_38 rfl rfl ?_
      dsimp only [xset]
      refine x_iconst h dX6_lead_39 ?_
      refine x_istore h dX6_lead_40 rfl rfl ?_
      dsimp only [xset]
      refine loop_up (fun k => X ω κ 42 [some (.ref (xad ω 0)), some (.int (iI p)), some (.int (iI (sfF (ldS p) p M k).1)), some (.int (iI (sfF (ldS p) p M k).2.1)), some (.int (iI (k : Int))), none] [] ((sfF (ldS p) p M k).2.2)) 10 ?_ ?_
      · show X ω κ 42 [some (.ref (xad ω 0)), some (.int (iI p)), some (.int (iI (sfF (ldS p) p M 10).1)), some (.int (iI (sfF (ldS p) p M 10).2.1)), some (.int (iI ((10 : Nat) : Int))), none] [] ((sfF (ldS p) p M 10).2.2)
        have ho := ldF_o hR hJ q8 10 (by omega)
        have ho3 := ho.2.2.1
        have ho4 := ho.2.2.2.1
        refine x_iload h dX6_lead_42 rfl ?_
        refine x_bipush h dX6_lead_44 (by decide) ?_
        refine x_icmp_ge h dX6_lead_46 (tgt := 106) (by decide) (by omega) (by omega) (fun q46 => ?_) (fun q46 => ?_)
        · refine x_iload_n h dX6_lead_106 rfl ?_
          refine x_bipush h dX6_lead_107 (by decide) ?_
          refine x_icmp_ne h dX6_lead_109 (tgt := 120) (by decide) (by omega) (by omega) (fun q109 => ?_) (fun q109 => ?_)
          · refine x_iload_n h dX6_lead_120 rfl ?_
            exact x_iret (ret := none) h he dX6_lead_121 rfl (by unfold leadR; rw [if_pos q8, if_pos q25]; first | (rw [if_pos q109] <;> rfl) | rw [if_neg q109]) (by unfold leadM; rw [if_pos q8, if_pos q25]; first | rw [if_pos q109] | rw [if_neg q109])
          · refine x_aload_n h dX6_lead_112 rfl ?_
            refine x_iconst h dX6_lead_113 ?_
            refine x_V1i h dX6_lead_114 m_ml_X6_95 m_im_X6_found m_se_X6_found (sC0 hc) rfl (by decide) rfl (c_X6_found hc (by omega)) ?_
            refine x_goto h dX6_lead_117 (tgt := 121) (by decide) ?_
            exact x_iret (ret := none) h he dX6_lead_121 rfl (by unfold leadR; rw [if_pos q8, if_pos q25]; first | (rw [if_pos q109] <;> rfl) | rw [if_neg q109]) (by unfold leadM; rw [if_pos q8, if_pos q25]; first | rw [if_pos q109] | rw [if_neg q109])
        · exfalso; omega
      · intro k hk ihk
        replace ihk : X ω κ 42 [some (.ref (xad ω 0)), some (.int (iI p)), some (.int (iI (sfF (ldS p) p M (k + 1)).1)), some (.int (iI (sfF (ldS p) p M (k + 1)).2.1)), some (.int (iI ((k + 1 : Nat) : Int))), none] [] ((sfF (ldS p) p M (k + 1)).2.2) := ihk
        show X ω κ 42 [some (.ref (xad ω 0)), some (.int (iI p)), some (.int (iI (sfF (ldS p) p M k).1)), some (.int (iI (sfF (ldS p) p M k).2.1)), some (.int (iI (k : Int))), none] [] ((sfF (ldS p) p M k).2.2)
        have ho := ldF_o hR hJ q8 k (by omega)
        revert ihk
        rw [sfF_s]
        generalize sfF (ldS p) p M k = st at ho ⊢
        intro ihk
        obtain ⟨he1, hR1, hf1, hb1, hp1⟩ := ho
        have hJ1 := hJ.e he1
        have hs := ldS_in hR1 hJ1 hp1 (k := (k : Int)) (by omega)
        have g1 := suN_R (b := 31) (r := 1) (p := p) 60 0 (ldS p st.2.2 (k : Int)) (by omega) (by omega)
        have e11 : bcC st.2.2 31 11 11 = st.2.2 11 := trC_n (by omega)
        have e31 : bcC st.2.2 31 11 31 1 = st.2.2 11 1 := trC_1
        have em : bcC st.2.2 31 11 (11 + 4) = st.2.2 (11 + 4) := trC_n (by omega)
        refine x_iload h dX6_lead_42 rfl ?_
        refine x_bipush h dX6_lead_44 (by decide) ?_
        refine x_icmp_ge h dX6_lead_46 (tgt := 106) (by decide) (by omega) (by omega) (fun q46 => ?_) (fun q46 => ?_)
        · exfalso; omega
        · refine x_aload_n h dX6_lead_49 rfl ?_
          refine x_getr (j := 9) (q := 31) h dX6_lead_50 (sC0 hc) rfl in_X6 rfl (by decide) m_fl_X6_49 ?_
          refine x_aload_n h dX6_lead_53 rfl ?_
          refine x_getr (j := 1) (q := 11) h dX6_lead_54 (sC0 hc) rfl in_X6 rfl (by decide) m_fl_X6_21 ?_
          refine x_V1v h dX6_lead_57 m_ml_X6_204 m_im_X1_become m_se_X1_become (sPe hc ((Or.inr (Or.inr ⟨rfl, rfl⟩)))) rfl (by decide) rfl (c_X1_become hc ((Or.inr (Or.inr ⟨rfl, rfl⟩))) ((Or.inl ⟨rfl, rfl⟩))) ?_
          refine x_aload_n h dX6_lead_60 rfl ?_
          refine x_getr (j := 9) (q := 31) h dX6_lead_61 (sC0 hc) rfl in_X6 rfl (by decide) m_fl_X6_49 ?_
          refine x_aload_n h dX6_lead_64 rfl ?_
          refine x_getr (j := 1) (q := 11) h dX6_lead_65 (sC0 hc) rfl in_X6 rfl (by decide) m_fl_X6_21 ?_
          refine x_iload_n h dX6_lead_68 rfl ?_
          refine x_V1i h dX6_lead_69 m_ml_X6_132 m_im_X1_mateOf m_se_X1_mateOf (sPe hc ((Or.inl ⟨rfl, rfl⟩))) rfl (by decide) rfl (c_X1_mateOf hc H11 (clHas_e (by rw [e11]) hp1)) ?_
          rw [em]
          have hm1 : clHas st.2.2 11 (st.2.2 (11 + 4) p) := by unfold clHas; rw [he1 11 (by omega), he1 (11 + 4) (by omega)]; exact q25
          refine x_iload h dX6_lead_72 rfl ?_
          refine x_V2i h dX6_lead_74 m_ml_X6_156 m_im_X1_setErrand m_se_X1_setErrand (sPe hc ((Or.inr (Or.inr ⟨rfl, rfl⟩)))) rfl (by decide) rfl (c_X1_setErrand hc H31 (clHas_e e31 hm1) (by omega)) ?_
          refine x_pop h dX6_lead_77 rfl ?_
          refine x_mem (M' := ldS p st.2.2 (k : Int)) rfl ?_
          refine x_aload_n h dX6_lead_78 rfl ?_
          refine x_getr (j := 9) (q := 31) h dX6_lead_79 (sC0 hc) rfl in_X6 rfl (by decide) m_fl_X6_49 ?_
          refine x_iload_n h dX6_lead_82 rfl ?_
          refine x_V1i h dX6_lead_83 m_ml_X6_208 m_im_X1_stepsUntilThere m_se_X1_stepsUntilThere (sPe hc ((Or.inr (Or.inr ⟨rfl, rfl⟩)))) rfl (by decide) rfl (c_X1_stepsUntilThere hc H31 hs.1 hs.2.2) ?_
          refine x_istore h dX6_lead_86 rfl rfl ?_
          dsimp only [xset]
          refine x_iload h dX6_lead_88 rfl ?_
          refine x_iload_n h dX6_lead_90 rfl ?_
          refine x_icmp_ge h dX6_lead_91 (tgt := 100) (by decide) (by first | omega | exact ⟨by have := g1; omega, by have := g1; omega⟩) (by first | omega | exact ⟨by have := g1; omega, by have := g1; omega⟩) (fun q91 => ?_) (fun q91 => ?_)
          · refine x_iinc h dX6_lead_100 rfl rfl rfl ?_
            dsimp only [xset]
            refine x_goto h dX6_lead_103 (tgt := 42) (by decide) ?_
            refine x_drop 5 ?_
            dsimp only [xclr]
            first
              | exact x_same ihk (by unfold sfG; dsimp only; simp only [if_pos (Int.not_le.mp q91)] <;> rfl) rfl rfl
              | exact x_same ihk (by unfold sfG; dsimp only; simp only [if_neg (Int.not_lt.mpr q91)] <;> rfl) rfl rfl
          · refine x_iload h dX6_lead_94 rfl ?_
            refine x_istore_n h dX6_lead_96 rfl rfl ?_
            dsimp only [xset]
            refine x_iload h dX6_lead_97 rfl ?_
            refine x_istore_n h dX6_lead_99 rfl rfl ?_
            dsimp only [xset]
            refine x_iinc h dX6_lead_100 rfl rfl rfl ?_
            dsimp only [xset]
            refine x_goto h dX6_lead_103 (tgt := 42) (by decide) ?_
            refine x_drop 5 ?_
            dsimp only [xclr]
            first
              | exact x_same ihk (by unfold sfG; dsimp only; simp only [if_pos (Int.not_le.mp q91)] <;> rfl) rfl rfl
              | exact x_same ihk (by unfold sfG; dsimp only; simp only [if_neg (Int.not_lt.mpr q91)] <;> rfl) rfl rfl
    · refine x_aload_n h dX6_lead_28 rfl ?_
      refine x_iconst h dX6_lead_29 ?_
      refine x_V1i h dX6_lead_30 m_ml_X6_95 m_im_X6_found m_se_X6_found (sC0 hc) rfl (by decide) rfl (c_X6_found hc (by omega)) ?_
      exact x_iret (ret := none) h he dX6_lead_33 rfl (by unfold leadR; (repeat (first | rw [if_pos (by first | assumption | omega)] | rw [if_neg (by first | assumption | omega)])) <;> first | rfl | omega) (by unfold leadM; (repeat (first | rw [if_pos (by first | assumption | omega)] | rw [if_neg (by first | assumption | omega)])) <;> first | rfl | omega)
  · refine x_aload_n h dX6_lead_11 rfl ?_
    refine x_iconst h dX6_lead_12 ?_
    refine x_V1i h dX6_lead_13 m_ml_X6_95 m_im_X6_found m_se_X6_found (sC0 hc) rfl (by decide) rfl (c_X6_found hc (by omega)) ?_
    exact x_iret (ret := none) h he dX6_lead_16 rfl (by unfold leadR; (repeat (first | rw [if_pos (by first | assumption | omega)] | rw [if_neg (by first | assumption | omega)])) <;> first | rfl | omega) (by unfold leadM; (repeat (first | rw [if_pos (by first | assumption | omega)] | rw [if_neg (by first | assumption | omega)])) <;> first | rfl | omega)

noncomputable def pcG (s q : Int) (T : xMem) : xMem := tI (inS q s) (prtC T 31 q) T
noncomputable def pcF (s : Int) (T : xMem) (n : Nat) : xMem := xfo (pcG s) T n
theorem pcF_s (s : Int) (T : xMem) (n : Nat) : pcF s T (n + 1) = pcG s (n : Int) (pcF s T n) := by
  unfold pcF
  rw [xfo_s (pcG s) T n]
theorem pcF_in {s : Int} {T : xMem} (h : PIn T 31 1) : ∀ n : Nat, PIn (pcF s T n) 31 1 ∧ (∀ k, k ≠ 31 + 4 → pcF s T n k = T k) := by
  intro n
  induction n with
  | zero => exact ⟨h, fun _ _ => rfl⟩
  | succ n ih =>
    rw [pcF_s]
    unfold pcG tI
    split
    · exact ⟨PIn_of (prtC_R ih.1.1) (PeInv_prt ih.1.2.1) ih.1 (fun k h1 h2 => prtC_n (by omega)), fun k hk => by rw [prtC_n hk]; exact ih.2 k hk⟩
    · exact ih
noncomputable def tcM (M : xMem) (s : Int) : xMem := tkC 31 1 (pcF s (bcC M 31 11) 8) 60
noncomputable def tcN (M : xMem) (s : Int) : Int := pc8 (thS (tcM M s) 31)
theorem tcM_in {M : xMem} {s : Int} (hR : xR M) (hJ : CInv M) : PIn (tcM M s) 31 1 ∧ TrE M (tcM M s) := by
  have hT := trC_in hR hJ.1 hJ.2.1
  have hP := pcF_in (s := s) hT 8
  have hK := tkC_r H31 hP.1 60
  refine ⟨tkC_in H31 hP.1 60, fun k hk => ?_⟩
  unfold tcM
  rw [hK.1 k (by omega) (by omega) (by omega) (by omega) (by omega), hP.2 k (by omega)]
  exact trC_n (by omega)
abbrev sOk (M : xMem) (s : Int) : Prop := (0 ≤ s ∧ s < 256) ∧ ∀ q, 0 ≤ q → q < 8 → inS q s → q < M 11 1
theorem dX6_thereAfterCuts_0 : decode cX6_thereAfterCuts 0 = .ok (.aload_n 0, 1) := by decide +kernel
theorem dX6_thereAfterCuts_1 : decode cX6_thereAfterCuts 1 = .ok (.getfield 49, 3) := by decide +kernel
theorem dX6_thereAfterCuts_4 : decode cX6_thereAfterCuts 4 = .ok (.aload_n 0, 1) := by decide +kernel
theorem dX6_thereAfterCuts_5 : decode cX6_thereAfterCuts 5 = .ok (.getfield 21, 3) := by decide +kernel
theorem dX6_thereAfterCuts_8 : decode cX6_thereAfterCuts 8 = .ok (.invokevirtual 204, 3) := by decide +kernel
theorem dX6_thereAfterCuts_11 : decode cX6_thereAfterCuts 11 = .ok (.iconst 0, 1) := by decide +kernel
theorem dX6_thereAfterCuts_12 : decode cX6_thereAfterCuts 12 = .ok (.istore_n 2, 1) := by decide +kernel
theorem dX6_thereAfterCuts_13 : decode cX6_thereAfterCuts 13 = .ok (.iload_n 2, 1) := by decide +kernel
theorem dX6_thereAfterCuts_14 : decode cX6_thereAfterCuts 14 = .ok (.bipush 8, 2) := by decide +kernel
theorem dX6_thereAfterCuts_16 : decode cX6_thereAfterCuts 16 = .ok (.if_icmp .ge 25, 3) := by decide +kernel
theorem dX6_thereAfterCuts_19 : decode cX6_thereAfterCuts 19 = .ok (.iload_n 2, 1) := by decide +kernel
theorem dX6_thereAfterCuts_20 : decode cX6_thereAfterCuts 20 = .ok (.iload_n 1, 1) := by decide +kernel
theorem dX6_thereAfterCuts_21 : decode cX6_thereAfterCuts 21 = .ok (.invokestatic 231, 3) := by decide +kernel
theorem dX6_thereAfterCuts_24 : decode cX6_thereAfterCuts 24 = .ok (.ifCond .eq 11, 3) := by decide +kernel
theorem dX6_thereAfterCuts_27 : decode cX6_thereAfterCuts 27 = .ok (.aload_n 0, 1) := by decide +kernel
theorem dX6_thereAfterCuts_28 : decode cX6_thereAfterCuts 28 = .ok (.getfield 49, 3) := by decide +kernel
theorem dX6_thereAfterCuts_31 : decode cX6_thereAfterCuts 31 = .ok (.iload_n 2, 1) := by decide +kernel
theorem dX6_thereAfterCuts_32 : decode cX6_thereAfterCuts 32 = .ok (.invokevirtual 175, 3) := by decide +kernel
theorem dX6_thereAfterCuts_35 : decode cX6_thereAfterCuts 35 = .ok (.iinc 2 1, 3) := by decide +kernel
theorem dX6_thereAfterCuts_38 : decode cX6_thereAfterCuts 38 = .ok (.goto (-25), 3) := by decide +kernel
theorem dX6_thereAfterCuts_41 : decode cX6_thereAfterCuts 41 = .ok (.aload_n 0, 1) := by decide +kernel
theorem dX6_thereAfterCuts_42 : decode cX6_thereAfterCuts 42 = .ok (.getfield 49, 3) := by decide +kernel
theorem dX6_thereAfterCuts_45 : decode cX6_thereAfterCuts 45 = .ok (.bipush 60, 2) := by decide +kernel
theorem dX6_thereAfterCuts_47 : decode cX6_thereAfterCuts 47 = .ok (.invokevirtual 186, 3) := by decide +kernel
theorem dX6_thereAfterCuts_50 : decode cX6_thereAfterCuts 50 = .ok (.aload_n 0, 1) := by decide +kernel
theorem dX6_thereAfterCuts_51 : decode cX6_thereAfterCuts 51 = .ok (.getfield 49, 3) := by decide +kernel
theorem dX6_thereAfterCuts_54 : decode cX6_thereAfterCuts 54 = .ok (.invokevirtual 189, 3) := by decide +kernel
theorem dX6_thereAfterCuts_57 : decode cX6_thereAfterCuts 57 = .ok (.invokestatic 223, 3) := by decide +kernel
theorem dX6_thereAfterCuts_60 : decode cX6_thereAfterCuts 60 = .ok (.ireturn, 1) := by decide +kernel
set_option maxHeartbeats 4000000 in
set_option maxRecDepth 100000 in
theorem c_X6_thereAfterCuts {l : Launch} {ω : xO} (hc : xsh ω = clS) {s : Int} {M : xMem} (hJ : CInv M) (hs : sOk M s) : Ct l ω yX6_thereAfterCuts ({ frames := 5, cells := 0, slots := 0, locals := 118 } : Room) 3 1 [.ref (xad ω 0), .int (iI s)] M (some (.int (iI (tcN M s)))) (tcM M s) := by
  refine Ct.of (bytes := cX6_thereAfterCuts) (ret := (some .int)) (lv0 := [some (.ref (xad ω 0)), some (.int (iI s)), none]) m_cd_X6_thereAfterCuts m_in_X6 (by decide +kernel) (by decide +kernel) rfl rfl rfl rfl (fun hR => (tcM_in hR hJ).1.1) ?_
  intro κ h he hR
  have hI := hJ.1
  have hD := hJ.2.1
  have hL := hJ.2.2.1
  have hn := hI.1
  have hck := hI.2.1
  have hT := trC_in hR hI hD
  refine x_aload_n h dX6_thereAfterCuts_0 rfl ?_
  refine x_getr (j := 9) (q := 31) h dX6_thereAfterCuts_1 (sC0 hc) rfl in_X6 rfl (by decide) m_fl_X6_49 ?_
  refine x_aload_n h dX6_thereAfterCuts_4 rfl ?_
  refine x_getr (j := 1) (q := 11) h dX6_thereAfterCuts_5 (sC0 hc) rfl in_X6 rfl (by decide) m_fl_X6_21 ?_
  refine x_V1v h dX6_thereAfterCuts_8 m_ml_X6_204 m_im_X1_become m_se_X1_become (sPe hc ((Or.inr (Or.inr ⟨rfl, rfl⟩)))) rfl (by decide) rfl (c_X1_become hc ((Or.inr (Or.inr ⟨rfl, rfl⟩))) ((Or.inl ⟨rfl, rfl⟩))) ?_
  refine x_iconst h dX6_thereAfterCuts_11 ?_
  refine x_istore_n h dX6_thereAfterCuts_12 rfl rfl ?_
  dsimp only [xset]
  refine loop_up (fun k => X ω κ 13 [some (.ref (xad ω 0)), some (.int (iI s)), some (.int (iI (k : Int)))] [] (pcF s (bcC M 31 11) k)) 8 ?_ ?_
  · show X ω κ 13 [some (.ref (xad ω 0)), some (.int (iI s)), some (.int (iI ((8 : Nat) : Int)))] [] (pcF s (bcC M 31 11) 8)
    have hP := pcF_in (s := s) hT 8
    have hK := tkC_in H31 hP.1 60
    have hth := thS_R (M := tcM M s) (b := 31) hK.2.1.1
    refine x_iload_n h dX6_thereAfterCuts_13 rfl ?_
    refine x_bipush h dX6_thereAfterCuts_14 (by decide) ?_
    refine x_icmp_ge h dX6_thereAfterCuts_16 (tgt := 41) (by decide) (by omega) (by omega) (fun q16 => ?_) (fun q16 => ?_)
    · refine x_aload_n h dX6_thereAfterCuts_41 rfl ?_
      refine x_getr (j := 9) (q := 31) h dX6_thereAfterCuts_42 (sC0 hc) rfl in_X6 rfl (by decide) m_fl_X6_49 ?_
      refine x_bipush h dX6_thereAfterCuts_45 (by decide) ?_
      refine x_V1v h dX6_thereAfterCuts_47 m_ml_X6_186 m_im_X1_takeSteps m_se_X1_takeSteps (sPe hc ((Or.inr (Or.inr ⟨rfl, rfl⟩)))) rfl (by decide) rfl (c_X1_takeSteps hc H31 hP.1 (by decide)) ?_
      refine x_aload_n h dX6_thereAfterCuts_50 rfl ?_
      refine x_getr (j := 9) (q := 31) h dX6_thereAfterCuts_51 (sC0 hc) rfl in_X6 rfl (by decide) m_fl_X6_49 ?_
      refine x_V0i h dX6_thereAfterCuts_54 m_ml_X6_189 m_im_X1_thereSet m_se_X1_thereSet (sPe hc ((Or.inr (Or.inr ⟨rfl, rfl⟩)))) rfl (by decide) rfl (c_X1_thereSet hc H31 hK.2.1) ?_
      refine x_S1i h dX6_thereAfterCuts_57 m_ml_X6_223 m_st_J6_bitCount_0f7a4 (by decide) rfl (c_J6_bitCount_0f7a4 hth) ?_
      exact x_iret (ret := none) h he dX6_thereAfterCuts_60 rfl rfl rfl
    · exfalso; omega
  · intro k hk ihk
    replace ihk : X ω κ 13 [some (.ref (xad ω 0)), some (.int (iI s)), some (.int (iI ((k + 1 : Nat) : Int)))] [] (pcF s (bcC M 31 11) (k + 1)) := ihk
    show X ω κ 13 [some (.ref (xad ω 0)), some (.int (iI s)), some (.int (iI (k : Int)))] [] (pcF s (bcC M 31 11) k)
    have hP := pcF_in (s := s) hT k
    have e31 : pcF s (bcC M 31 11) k 31 1 = M 11 1 := by rw [hP.2 31 (by omega)]; exact trC_1
    refine x_iload_n h dX6_thereAfterCuts_13 rfl ?_
    refine x_bipush h dX6_thereAfterCuts_14 (by decide) ?_
    refine x_icmp_ge h dX6_thereAfterCuts_16 (tgt := 41) (by decide) (by omega) (by omega) (fun q16 => ?_) (fun q16 => ?_)
    · exfalso; omega
    · refine x_iload_n h dX6_thereAfterCuts_19 rfl ?_
      refine x_iload_n h dX6_thereAfterCuts_20 rfl ?_
      refine x_S2i h dX6_thereAfterCuts_21 m_ml_X6_231 m_st_X6_isIn (by decide) rfl (c_X6_isIn hc) ?_
      refine x_ifeqB h dX6_thereAfterCuts_24 (tgt := 35) (by decide) (fun q24 => ?_) (fun q24 => ?_)
      · refine x_iinc h dX6_thereAfterCuts_35 rfl rfl rfl ?_
        dsimp only [xset]
        refine x_goto h dX6_thereAfterCuts_38 (tgt := 13) (by decide) ?_
        first
          | exact x_same ihk rfl rfl (by rw [pcF_s]; unfold pcG; rw [tI_p q24])
          | exact x_same ihk rfl rfl (by rw [pcF_s]; unfold pcG; rw [tI_n q24])
      · refine x_aload_n h dX6_thereAfterCuts_27 rfl ?_
        refine x_getr (j := 9) (q := 31) h dX6_thereAfterCuts_28 (sC0 hc) rfl in_X6 rfl (by decide) m_fl_X6_49 ?_
        refine x_iload_n h dX6_thereAfterCuts_31 rfl ?_
        refine x_V1v h dX6_thereAfterCuts_32 m_ml_X6_175 m_im_X1_part m_se_X1_part (sPe hc ((Or.inr (Or.inr ⟨rfl, rfl⟩)))) rfl (by decide) rfl (c_X1_part hc H31 (by have := hs.2 (k : Int) (by omega) (by omega) q24; exact ⟨by omega, by omega, by omega⟩)) ?_
        refine x_iinc h dX6_thereAfterCuts_35 rfl rfl rfl ?_
        dsimp only [xset]
        refine x_goto h dX6_thereAfterCuts_38 (tgt := 13) (by decide) ?_
        first
          | exact x_same ihk rfl rfl (by rw [pcF_s]; unfold pcG; rw [tI_p q24])
          | exact x_same ihk rfl rfl (by rw [pcF_s]; unfold pcG; rw [tI_n q24])

noncomputable def cuG (R : Int) (k : Int) (st : Int × Int × xMem) : Int × Int × xMem :=
  tI (band (k + 1) R = k + 1) (tI (st.2.1 < tcN st.2.2 (k + 1) ∨ (tcN st.2.2 (k + 1) = st.2.1 ∧ pc8 (k + 1) < pc8 st.1)) (k + 1) st.1, tI (st.2.1 < tcN st.2.2 (k + 1) ∨ (tcN st.2.2 (k + 1) = st.2.1 ∧ pc8 (k + 1) < pc8 st.1)) (tcN st.2.2 (k + 1)) st.2.1, tcM st.2.2 (k + 1)) st
noncomputable def cuF (M : xMem) (n : Nat) : Int × Int × xMem := xfo (cuG (lmS M 11)) (0, tcN M 0, tcM M 0) n
theorem cuF_s (M : xMem) (n : Nat) : cuF M (n + 1) = cuG (lmS M 11) (n : Int) (cuF M n) := by
  unfold cuF
  rw [xfo_s (cuG (lmS M 11)) (0, tcN M 0, tcM M 0) n]
def CuO (M : xMem) (st : Int × Int × xMem) : Prop := TrE M st.2.2 ∧ xR st.2.2 ∧ (0 ≤ st.2.1 ∧ st.2.1 ≤ 8) ∧ sOk M st.1
theorem sOk_0 {M : xMem} : sOk M 0 := ⟨⟨by decide, by decide⟩, fun q h1 h2 h3 => absurd h3 (inS_0 ⟨h1, h2⟩)⟩
theorem sOk_band {M : xMem} {s : Int} (hI : PeInv M 11) (hs : 0 ≤ s ∧ s < 256) (h : band s (lmS M 11) = s) : sOk M s := by
  obtain ⟨h1, h2⟩ := lmS_R (M := M) (b := 11) hI.1
  refine ⟨hs, fun q a1 a2 a3 => ?_⟩
  rw [← h] at a3
  exact ((h2 q ⟨a1, a2⟩).mp ((inS_band hs h1 ⟨a1, a2⟩).mp a3).2).1
theorem cuF_o {M : xMem} (hR : xR M) (hJ : CInv M) : ∀ n : Nat, n ≤ 255 → CuO M (cuF M n) := by
  intro n
  induction n with
  | zero =>
    intro _
    have h := tcM_in (s := 0) hR hJ
    exact ⟨h.2, h.1.1, pc8_R, sOk_0⟩
  | succ n ih =>
    intro hn
    have ho := ih (by omega)
    rw [cuF_s]
    generalize cuF M n = st at ho ⊢
    obtain ⟨h1, h2, h3, h4⟩ := ho
    unfold cuG
    by_cases hb : band ((n : Int) + 1) (lmS M 11) = (n : Int) + 1
    · rw [tI_p hb]
      have h := tcM_in (s := (n : Int) + 1) h2 (hJ.e h1)
      refine ⟨h1.tr h.2, h.1.1, ?_, ?_⟩
      · dsimp only
        unfold tI
        split
        · exact pc8_R
        · exact h3
      · dsimp only
        unfold tI
        split
        · exact sOk_band hJ.1 (by omega) hb
        · exact h4
    · rw [tI_n hb]
      exact ⟨h1, h2, h3, h4⟩
theorem dX6_cuts_0 : decode cX6_cuts 0 = .ok (.aload_n 0, 1) := by decide +kernel
theorem dX6_cuts_1 : decode cX6_cuts 1 = .ok (.getfield 21, 3) := by decide +kernel
theorem dX6_cuts_4 : decode cX6_cuts 4 = .ok (.invokevirtual 217, 3) := by decide +kernel
theorem dX6_cuts_7 : decode cX6_cuts 7 = .ok (.istore_n 1, 1) := by decide +kernel
theorem dX6_cuts_8 : decode cX6_cuts 8 = .ok (.iconst 0, 1) := by decide +kernel
theorem dX6_cuts_9 : decode cX6_cuts 9 = .ok (.istore_n 2, 1) := by decide +kernel
theorem dX6_cuts_10 : decode cX6_cuts 10 = .ok (.aload_n 0, 1) := by decide +kernel
theorem dX6_cuts_11 : decode cX6_cuts 11 = .ok (.iconst 0, 1) := by decide +kernel
theorem dX6_cuts_12 : decode cX6_cuts 12 = .ok (.invokevirtual 220, 3) := by decide +kernel
theorem dX6_cuts_15 : decode cX6_cuts 15 = .ok (.istore_n 3, 1) := by decide +kernel
theorem dX6_cuts_16 : decode cX6_cuts 16 = .ok (.iconst 1, 1) := by decide +kernel
theorem dX6_cuts_17 : decode cX6_cuts 17 = .ok (.istore 4, 2) := by decide +kernel
theorem dX6_cuts_19 : decode cX6_cuts 19 = .ok (.iload 4, 2) := by decide +kernel
theorem dX6_cuts_21 : decode cX6_cuts 21 = .ok (.sipush 256, 3) := by decide +kernel
theorem dX6_cuts_24 : decode cX6_cuts 24 = .ok (.if_icmp .ge 68, 3) := by decide +kernel
theorem dX6_cuts_27 : decode cX6_cuts 27 = .ok (.iload 4, 2) := by decide +kernel
theorem dX6_cuts_29 : decode cX6_cuts 29 = .ok (.iload_n 1, 1) := by decide +kernel
theorem dX6_cuts_30 : decode cX6_cuts 30 = .ok (.iand, 1) := by decide +kernel
theorem dX6_cuts_31 : decode cX6_cuts 31 = .ok (.iload 4, 2) := by decide +kernel
theorem dX6_cuts_33 : decode cX6_cuts 33 = .ok (.if_icmp .ne 53, 3) := by decide +kernel
theorem dX6_cuts_36 : decode cX6_cuts 36 = .ok (.aload_n 0, 1) := by decide +kernel
theorem dX6_cuts_37 : decode cX6_cuts 37 = .ok (.iload 4, 2) := by decide +kernel
theorem dX6_cuts_39 : decode cX6_cuts 39 = .ok (.invokevirtual 220, 3) := by decide +kernel
theorem dX6_cuts_42 : decode cX6_cuts 42 = .ok (.istore 5, 2) := by decide +kernel
theorem dX6_cuts_44 : decode cX6_cuts 44 = .ok (.iload 4, 2) := by decide +kernel
theorem dX6_cuts_46 : decode cX6_cuts 46 = .ok (.invokestatic 223, 3) := by decide +kernel
theorem dX6_cuts_49 : decode cX6_cuts 49 = .ok (.iload_n 2, 1) := by decide +kernel
theorem dX6_cuts_50 : decode cX6_cuts 50 = .ok (.invokestatic 223, 3) := by decide +kernel
theorem dX6_cuts_53 : decode cX6_cuts 53 = .ok (.if_icmp .ge 7, 3) := by decide +kernel
theorem dX6_cuts_56 : decode cX6_cuts 56 = .ok (.iconst 1, 1) := by decide +kernel
theorem dX6_cuts_57 : decode cX6_cuts 57 = .ok (.goto 4, 3) := by decide +kernel
theorem dX6_cuts_60 : decode cX6_cuts 60 = .ok (.iconst 0, 1) := by decide +kernel
theorem dX6_cuts_61 : decode cX6_cuts 61 = .ok (.istore 6, 2) := by decide +kernel
theorem dX6_cuts_63 : decode cX6_cuts 63 = .ok (.iload 5, 2) := by decide +kernel
theorem dX6_cuts_65 : decode cX6_cuts 65 = .ok (.iload_n 3, 1) := by decide +kernel
theorem dX6_cuts_66 : decode cX6_cuts 66 = .ok (.if_icmp .gt 14, 3) := by decide +kernel
theorem dX6_cuts_69 : decode cX6_cuts 69 = .ok (.iload 5, 2) := by decide +kernel
theorem dX6_cuts_71 : decode cX6_cuts 71 = .ok (.iload_n 3, 1) := by decide +kernel
theorem dX6_cuts_72 : decode cX6_cuts 72 = .ok (.if_icmp .ne 14, 3) := by decide +kernel
theorem dX6_cuts_75 : decode cX6_cuts 75 = .ok (.iload 6, 2) := by decide +kernel
theorem dX6_cuts_77 : decode cX6_cuts 77 = .ok (.ifCond .eq 9, 3) := by decide +kernel
theorem dX6_cuts_80 : decode cX6_cuts 80 = .ok (.iload 5, 2) := by decide +kernel
theorem dX6_cuts_82 : decode cX6_cuts 82 = .ok (.istore_n 3, 1) := by decide +kernel
theorem dX6_cuts_83 : decode cX6_cuts 83 = .ok (.iload 4, 2) := by decide +kernel
theorem dX6_cuts_85 : decode cX6_cuts 85 = .ok (.istore_n 2, 1) := by decide +kernel
theorem dX6_cuts_86 : decode cX6_cuts 86 = .ok (.iinc 4 1, 3) := by decide +kernel
theorem dX6_cuts_89 : decode cX6_cuts 89 = .ok (.goto (-70), 3) := by decide +kernel
theorem dX6_cuts_92 : decode cX6_cuts 92 = .ok (.iload_n 2, 1) := by decide +kernel
theorem dX6_cuts_93 : decode cX6_cuts 93 = .ok (.ireturn, 1) := by decide +kernel
set_option maxHeartbeats 4000000 in
set_option maxRecDepth 100000 in
theorem c_X6_cuts {l : Launch} {ω : xO} (hc : xsh ω = clS)  {M : xMem} (hJ : CInv M) : Ct l ω yX6_cuts ({ frames := 6, cells := 0, slots := 0, locals := 140 } : Room) 7 0 [.ref (xad ω 0)] M (some (.int (iI ((cuF M 255).1)))) ((cuF M 255).2.2) := by
  refine Ct.of (bytes := cX6_cuts) (ret := (some .int)) (lv0 := [some (.ref (xad ω 0)), none, none, none, none, none, none]) m_cd_X6_cuts m_in_X6 (by decide +kernel) (by decide +kernel) rfl rfl rfl rfl (fun hR => (cuF_o hR hJ 255 (by omega)).2.1) ?_
  intro κ h he hR
  have hI := hJ.1
  have hD := hJ.2.1
  have hL := hJ.2.2.1
  have hn := hI.1
  have hck := hI.2.1
  have hl := (lmS_R (M := M) (b := 11) hn).1
  refine x_aload_n h dX6_cuts_0 rfl ?_
  refine x_getr (j := 1) (q := 11) h dX6_cuts_1 (sC0 hc) rfl in_X6 rfl (by decide) m_fl_X6_21 ?_
  refine x_V0i h dX6_cuts_4 m_ml_X6_217 m_im_X1_lesserMates m_se_X1_lesserMates (sPe hc ((Or.inl ⟨rfl, rfl⟩))) rfl (by decide) rfl (c_X1_lesserMates hc ((Or.inl ⟨rfl, rfl⟩)) hI) ?_
  refine x_istore_n h dX6_cuts_7 rfl rfl ?_
  dsimp only [xset]
  refine x_iconst h dX6_cuts_8 ?_
  refine x_istore_n h dX6_cuts_9 rfl rfl ?_
  dsimp only [xset]
  refine x_aload_n h dX6_cuts_10 rfl ?_
  refine x_iconst h dX6_cuts_11 ?_
  refine x_V1i h dX6_cuts_12 m_ml_X6_220 m_im_X6_thereAfterCuts m_se_X6_thereAfterCuts (sC0 hc) rfl (by decide) rfl (c_X6_thereAfterCuts hc hJ sOk_0) ?_
  refine x_istore_n h dX6_cuts_15 rfl rfl ?_
  dsimp only [xset]
  refine x_iconst h dX6_cuts_16 ?_
  refine x_istore h dX6_cuts_17 rfl rfl ?_
  dsimp only [xset]
  refine x_same (lv' := [some (.ref (xad ω 0)), some (.int (iI (lmS M 11))), some (.int (iI (cuF M 0).1)), some (.int (iI (cuF M 0).2.1)), some (.int (iI (((0 : Nat) : Int) + 1))), none, none]) (st' := []) (M' := (cuF M 0).2.2) ?_ rfl rfl rfl
  refine loop_up (fun k => X ω κ 19 [some (.ref (xad ω 0)), some (.int (iI (lmS M 11))), some (.int (iI (cuF M k).1)), some (.int (iI (cuF M k).2.1)), some (.int (iI ((k : Int) + 1))), none, none] [] ((cuF M k).2.2)) 255 ?_ ?_
  · show X ω κ 19 [some (.ref (xad ω 0)), some (.int (iI (lmS M 11))), some (.int (iI (cuF M 255).1)), some (.int (iI (cuF M 255).2.1)), some (.int (iI (((255 : Nat) : Int) + 1))), none, none] [] ((cuF M 255).2.2)
    refine x_iload h dX6_cuts_19 rfl ?_
    refine x_sipush h dX6_cuts_21 (by decide) ?_
    refine x_icmp_ge h dX6_cuts_24 (tgt := 92) (by decide) (by omega) (by omega) (fun q24 => ?_) (fun q24 => ?_)
    · refine x_iload_n h dX6_cuts_92 rfl ?_
      exact x_iret (ret := none) h he dX6_cuts_93 rfl rfl rfl
    · exfalso; omega
  · intro k hk ihk
    replace ihk : X ω κ 19 [some (.ref (xad ω 0)), some (.int (iI (lmS M 11))), some (.int (iI (cuF M (k + 1)).1)), some (.int (iI (cuF M (k + 1)).2.1)), some (.int (iI (((k + 1 : Nat) : Int) + 1))), none, none] [] ((cuF M (k + 1)).2.2) := ihk
    show X ω κ 19 [some (.ref (xad ω 0)), some (.int (iI (lmS M 11))), some (.int (iI (cuF M k).1)), some (.int (iI (cuF M k).2.1)), some (.int (iI ((k : Int) + 1))), none, none] [] ((cuF M k).2.2)
    have ho := cuF_o hR hJ k (by omega)
    revert ihk
    rw [cuF_s]
    generalize cuF M k = st at ho ⊢
    intro ihk
    obtain ⟨he1, hR1, hm1, hs1⟩ := ho
    have hJ1 := hJ.e he1
    have p1 := pc8_R (a := (k : Int) + 1)
    have p2 := pc8_R (a := st.1)
    have p3 : 0 ≤ tcN st.2.2 ((k : Int) + 1) ∧ tcN st.2.2 ((k : Int) + 1) ≤ 8 := pc8_R
    refine x_iload h dX6_cuts_19 rfl ?_
    refine x_sipush h dX6_cuts_21 (by decide) ?_
    refine x_icmp_ge h dX6_cuts_24 (tgt := 92) (by decide) (by omega) (by omega) (fun q24 => ?_) (fun q24 => ?_)
    · exfalso; omega
    · refine x_iload h dX6_cuts_27 rfl ?_
      refine x_iload_n h dX6_cuts_29 rfl ?_
      refine x_iand h dX6_cuts_30 (fun r30 => ?_)
      refine x_iload h dX6_cuts_31 rfl ?_
      refine x_icmp_ne h dX6_cuts_33 (tgt := 86) (by decide) (by omega) (by omega) (fun q33 => ?_) (fun q33 => ?_)
      · refine x_iinc h dX6_cuts_86 rfl rfl rfl ?_
        dsimp only [xset]
        refine x_goto h dX6_cuts_89 (tgt := 19) (by decide) ?_
        refine x_drop 5 ?_
        dsimp only [xclr]
        refine x_drop 6 ?_
        dsimp only [xclr]
        first
          | (exfalso; omega)
          | exact x_same ihk (by rw [cuG, tI_n q33]; rfl) rfl (by rw [cuG, tI_n q33])
          | (have hy : (st.2.1 < tcN st.2.2 ((k : Int) + 1) ∨ (tcN st.2.2 ((k : Int) + 1) = st.2.1 ∧ pc8 ((k : Int) + 1) < pc8 st.1)) := by omega
             exact x_same ihk (by rw [cuG, tI_p q33, tI_p hy, tI_p hy]; rfl) rfl (by rw [cuG, tI_p q33]))
          | (have hy : ¬ (st.2.1 < tcN st.2.2 ((k : Int) + 1) ∨ (tcN st.2.2 ((k : Int) + 1) = st.2.1 ∧ pc8 ((k : Int) + 1) < pc8 st.1)) := by omega
             exact x_same ihk (by rw [cuG, tI_p q33, tI_n hy, tI_n hy]; rfl) rfl (by rw [cuG, tI_p q33]))
      · refine x_aload_n h dX6_cuts_36 rfl ?_
        refine x_iload h dX6_cuts_37 rfl ?_
        refine x_V1i h dX6_cuts_39 m_ml_X6_220 m_im_X6_thereAfterCuts m_se_X6_thereAfterCuts (sC0 hc) rfl (by decide) rfl (c_X6_thereAfterCuts hc hJ1 ⟨by omega, by rw [he1 11 (by omega)]; exact (sOk_band hI (by omega) q33).2⟩) ?_
        refine x_istore h dX6_cuts_42 rfl rfl ?_
        dsimp only [xset]
        refine x_iload h dX6_cuts_44 rfl ?_
        refine x_S1i h dX6_cuts_46 m_ml_X6_223 m_st_J6_bitCount_0f7a4 (by decide) rfl (c_J6_bitCount_0f7a4 (by omega)) ?_
        refine x_iload_n h dX6_cuts_49 rfl ?_
        refine x_S1i h dX6_cuts_50 m_ml_X6_223 m_st_J6_bitCount_0f7a4 (by decide) rfl (c_J6_bitCount_0f7a4 hs1.1) ?_
        refine x_icmp_ge h dX6_cuts_53 (tgt := 60) (by decide) (by omega) (by omega) (fun q53 => ?_) (fun q53 => ?_)
        · refine x_iconst h dX6_cuts_60 ?_
          refine x_istore h dX6_cuts_61 rfl rfl ?_
          dsimp only [xset]
          refine x_iload h dX6_cuts_63 rfl ?_
          refine x_iload_n h dX6_cuts_65 rfl ?_
          refine x_icmp_gt h dX6_cuts_66 (tgt := 80) (by decide) (by omega) (by omega) (fun q66 => ?_) (fun q66 => ?_)
          · refine x_iload h dX6_cuts_80 rfl ?_
            refine x_istore_n h dX6_cuts_82 rfl rfl ?_
            dsimp only [xset]
            refine x_iload h dX6_cuts_83 rfl ?_
            refine x_istore_n h dX6_cuts_85 rfl rfl ?_
            dsimp only [xset]
            refine x_iinc h dX6_cuts_86 rfl rfl rfl ?_
            dsimp only [xset]
            refine x_goto h dX6_cuts_89 (tgt := 19) (by decide) ?_
            refine x_drop 5 ?_
            dsimp only [xclr]
            refine x_drop 6 ?_
            dsimp only [xclr]
            first
              | (exfalso; omega)
              | exact x_same ihk (by rw [cuG, tI_n q33]; rfl) rfl (by rw [cuG, tI_n q33])
              | (have hy : (st.2.1 < tcN st.2.2 ((k : Int) + 1) ∨ (tcN st.2.2 ((k : Int) + 1) = st.2.1 ∧ pc8 ((k : Int) + 1) < pc8 st.1)) := by omega
                 exact x_same ihk (by rw [cuG, tI_p q33, tI_p hy, tI_p hy]; rfl) rfl (by rw [cuG, tI_p q33]))
              | (have hy : ¬ (st.2.1 < tcN st.2.2 ((k : Int) + 1) ∨ (tcN st.2.2 ((k : Int) + 1) = st.2.1 ∧ pc8 ((k : Int) + 1) < pc8 st.1)) := by omega
                 exact x_same ihk (by rw [cuG, tI_p q33, tI_n hy, tI_n hy]; rfl) rfl (by rw [cuG, tI_p q33]))
          · refine x_iload h dX6_cuts_69 rfl ?_
            refine x_iload_n h dX6_cuts_71 rfl ?_
            refine x_icmp_ne h dX6_cuts_72 (tgt := 86) (by decide) (by omega) (by omega) (fun q72 => ?_) (fun q72 => ?_)
            · refine x_iinc h dX6_cuts_86 rfl rfl rfl ?_
              dsimp only [xset]
              refine x_goto h dX6_cuts_89 (tgt := 19) (by decide) ?_
              refine x_drop 5 ?_
              dsimp only [xclr]
              refine x_drop 6 ?_
              dsimp only [xclr]
              first
                | (exfalso; omega)
                | exact x_same ihk (by rw [cuG, tI_n q33]; rfl) rfl (by rw [cuG, tI_n q33])
                | (have hy : (st.2.1 < tcN st.2.2 ((k : Int) + 1) ∨ (tcN st.2.2 ((k : Int) + 1) = st.2.1 ∧ pc8 ((k : Int) + 1) < pc8 st.1)) := by omega
                   exact x_same ihk (by rw [cuG, tI_p q33, tI_p hy, tI_p hy]; rfl) rfl (by rw [cuG, tI_p q33]))
                | (have hy : ¬ (st.2.1 < tcN st.2.2 ((k : Int) + 1) ∨ (tcN st.2.2 ((k : Int) + 1) = st.2.1 ∧ pc8 ((k : Int) + 1) < pc8 st.1)) := by omega
                   exact x_same ihk (by rw [cuG, tI_p q33, tI_n hy, tI_n hy]; rfl) rfl (by rw [cuG, tI_p q33]))
            · refine x_iload h dX6_cuts_75 rfl ?_
              refine x_if_eq h dX6_cuts_77 (tgt := 86) (by decide) (by omega) (fun q77 => ?_) (fun q77 => ?_)
              · refine x_iinc h dX6_cuts_86 rfl rfl rfl ?_
                dsimp only [xset]
                refine x_goto h dX6_cuts_89 (tgt := 19) (by decide) ?_
                refine x_drop 5 ?_
                dsimp only [xclr]
                refine x_drop 6 ?_
                dsimp only [xclr]
                first
                  | (exfalso; omega)
                  | exact x_same ihk (by rw [cuG, tI_n q33]; rfl) rfl (by rw [cuG, tI_n q33])
                  | (have hy : (st.2.1 < tcN st.2.2 ((k : Int) + 1) ∨ (tcN st.2.2 ((k : Int) + 1) = st.2.1 ∧ pc8 ((k : Int) + 1) < pc8 st.1)) := by omega
                     exact x_same ihk (by rw [cuG, tI_p q33, tI_p hy, tI_p hy]; rfl) rfl (by rw [cuG, tI_p q33]))
                  | (have hy : ¬ (st.2.1 < tcN st.2.2 ((k : Int) + 1) ∨ (tcN st.2.2 ((k : Int) + 1) = st.2.1 ∧ pc8 ((k : Int) + 1) < pc8 st.1)) := by omega
                     exact x_same ihk (by rw [cuG, tI_p q33, tI_n hy, tI_n hy]; rfl) rfl (by rw [cuG, tI_p q33]))
              · refine x_iload h dX6_cuts_80 rfl ?_
                refine x_istore_n h dX6_cuts_82 rfl rfl ?_
                dsimp only [xset]
                refine x_iload h dX6_cuts_83 rfl ?_
                refine x_istore_n h dX6_cuts_85 rfl rfl ?_
                dsimp only [xset]
                refine x_iinc h dX6_cuts_86 rfl rfl rfl ?_
                dsimp only [xset]
                refine x_goto h dX6_cuts_89 (tgt := 19) (by decide) ?_
                refine x_drop 5 ?_
                dsimp only [xclr]
                refine x_drop 6 ?_
                dsimp only [xclr]
                first
                  | (exfalso; omega)
                  | exact x_same ihk (by rw [cuG, tI_n q33]; rfl) rfl (by rw [cuG, tI_n q33])
                  | (have hy : (st.2.1 < tcN st.2.2 ((k : Int) + 1) ∨ (tcN st.2.2 ((k : Int) + 1) = st.2.1 ∧ pc8 ((k : Int) + 1) < pc8 st.1)) := by omega
                     exact x_same ihk (by rw [cuG, tI_p q33, tI_p hy, tI_p hy]; rfl) rfl (by rw [cuG, tI_p q33]))
                  | (have hy : ¬ (st.2.1 < tcN st.2.2 ((k : Int) + 1) ∨ (tcN st.2.2 ((k : Int) + 1) = st.2.1 ∧ pc8 ((k : Int) + 1) < pc8 st.1)) := by omega
                     exact x_same ihk (by rw [cuG, tI_p q33, tI_n hy, tI_n hy]; rfl) rfl (by rw [cuG, tI_p q33]))
        · refine x_iconst h dX6_cuts_56 ?_
          refine x_goto h dX6_cuts_57 (tgt := 61) (by decide) ?_
          refine x_istore h dX6_cuts_61 rfl rfl ?_
          dsimp only [xset]
          refine x_iload h dX6_cuts_63 rfl ?_
          refine x_iload_n h dX6_cuts_65 rfl ?_
          refine x_icmp_gt h dX6_cuts_66 (tgt := 80) (by decide) (by omega) (by omega) (fun q66 => ?_) (fun q66 => ?_)
          · refine x_iload h dX6_cuts_80 rfl ?_
            refine x_istore_n h dX6_cuts_82 rfl rfl ?_
            dsimp only [xset]
            refine x_iload h dX6_cuts_83 rfl ?_
            refine x_istore_n h dX6_cuts_85 rfl rfl ?_
            dsimp only [xset]
            refine x_iinc h dX6_cuts_86 rfl rfl rfl ?_
            dsimp only [xset]
            refine x_goto h dX6_cuts_89 (tgt := 19) (by decide) ?_
            refine x_drop 5 ?_
            dsimp only [xclr]
            refine x_drop 6 ?_
            dsimp only [xclr]
            first
              | (exfalso; omega)
              | exact x_same ihk (by rw [cuG, tI_n q33]; rfl) rfl (by rw [cuG, tI_n q33])
              | (have hy : (st.2.1 < tcN st.2.2 ((k : Int) + 1) ∨ (tcN st.2.2 ((k : Int) + 1) = st.2.1 ∧ pc8 ((k : Int) + 1) < pc8 st.1)) := by omega
                 exact x_same ihk (by rw [cuG, tI_p q33, tI_p hy, tI_p hy]; rfl) rfl (by rw [cuG, tI_p q33]))
              | (have hy : ¬ (st.2.1 < tcN st.2.2 ((k : Int) + 1) ∨ (tcN st.2.2 ((k : Int) + 1) = st.2.1 ∧ pc8 ((k : Int) + 1) < pc8 st.1)) := by omega
                 exact x_same ihk (by rw [cuG, tI_p q33, tI_n hy, tI_n hy]; rfl) rfl (by rw [cuG, tI_p q33]))
          · refine x_iload h dX6_cuts_69 rfl ?_
            refine x_iload_n h dX6_cuts_71 rfl ?_
            refine x_icmp_ne h dX6_cuts_72 (tgt := 86) (by decide) (by omega) (by omega) (fun q72 => ?_) (fun q72 => ?_)
            · refine x_iinc h dX6_cuts_86 rfl rfl rfl ?_
              dsimp only [xset]
              refine x_goto h dX6_cuts_89 (tgt := 19) (by decide) ?_
              refine x_drop 5 ?_
              dsimp only [xclr]
              refine x_drop 6 ?_
              dsimp only [xclr]
              first
                | (exfalso; omega)
                | exact x_same ihk (by rw [cuG, tI_n q33]; rfl) rfl (by rw [cuG, tI_n q33])
                | (have hy : (st.2.1 < tcN st.2.2 ((k : Int) + 1) ∨ (tcN st.2.2 ((k : Int) + 1) = st.2.1 ∧ pc8 ((k : Int) + 1) < pc8 st.1)) := by omega
                   exact x_same ihk (by rw [cuG, tI_p q33, tI_p hy, tI_p hy]; rfl) rfl (by rw [cuG, tI_p q33]))
                | (have hy : ¬ (st.2.1 < tcN st.2.2 ((k : Int) + 1) ∨ (tcN st.2.2 ((k : Int) + 1) = st.2.1 ∧ pc8 ((k : Int) + 1) < pc8 st.1)) := by omega
                   exact x_same ihk (by rw [cuG, tI_p q33, tI_n hy, tI_n hy]; rfl) rfl (by rw [cuG, tI_p q33]))
            · refine x_iload h dX6_cuts_75 rfl ?_
              refine x_if_eq h dX6_cuts_77 (tgt := 86) (by decide) (by omega) (fun q77 => ?_) (fun q77 => ?_)
              · refine x_iinc h dX6_cuts_86 rfl rfl rfl ?_
                dsimp only [xset]
                refine x_goto h dX6_cuts_89 (tgt := 19) (by decide) ?_
                refine x_drop 5 ?_
                dsimp only [xclr]
                refine x_drop 6 ?_
                dsimp only [xclr]
                first
                  | (exfalso; omega)
                  | exact x_same ihk (by rw [cuG, tI_n q33]; rfl) rfl (by rw [cuG, tI_n q33])
                  | (have hy : (st.2.1 < tcN st.2.2 ((k : Int) + 1) ∨ (tcN st.2.2 ((k : Int) + 1) = st.2.1 ∧ pc8 ((k : Int) + 1) < pc8 st.1)) := by omega
                     exact x_same ihk (by rw [cuG, tI_p q33, tI_p hy, tI_p hy]; rfl) rfl (by rw [cuG, tI_p q33]))
                  | (have hy : ¬ (st.2.1 < tcN st.2.2 ((k : Int) + 1) ∨ (tcN st.2.2 ((k : Int) + 1) = st.2.1 ∧ pc8 ((k : Int) + 1) < pc8 st.1)) := by omega
                     exact x_same ihk (by rw [cuG, tI_p q33, tI_n hy, tI_n hy]; rfl) rfl (by rw [cuG, tI_p q33]))
              · refine x_iload h dX6_cuts_80 rfl ?_
                refine x_istore_n h dX6_cuts_82 rfl rfl ?_
                dsimp only [xset]
                refine x_iload h dX6_cuts_83 rfl ?_
                refine x_istore_n h dX6_cuts_85 rfl rfl ?_
                dsimp only [xset]
                refine x_iinc h dX6_cuts_86 rfl rfl rfl ?_
                dsimp only [xset]
                refine x_goto h dX6_cuts_89 (tgt := 19) (by decide) ?_
                refine x_drop 5 ?_
                dsimp only [xclr]
                refine x_drop 6 ?_
                dsimp only [xclr]
                first
                  | (exfalso; omega)
                  | exact x_same ihk (by rw [cuG, tI_n q33]; rfl) rfl (by rw [cuG, tI_n q33])
                  | (have hy : (st.2.1 < tcN st.2.2 ((k : Int) + 1) ∨ (tcN st.2.2 ((k : Int) + 1) = st.2.1 ∧ pc8 ((k : Int) + 1) < pc8 st.1)) := by omega
                     exact x_same ihk (by rw [cuG, tI_p q33, tI_p hy, tI_p hy]; rfl) rfl (by rw [cuG, tI_p q33]))
                  | (have hy : ¬ (st.2.1 < tcN st.2.2 ((k : Int) + 1) ∨ (tcN st.2.2 ((k : Int) + 1) = st.2.1 ∧ pc8 ((k : Int) + 1) < pc8 st.1)) := by omega
                     exact x_same ihk (by rw [cuG, tI_p q33, tI_n hy, tI_n hy]; rfl) rfl (by rw [cuG, tI_p q33]))

theorem dX6_freed_0 : decode cX6_freed 0 = .ok (.aload_n 0, 1) := by decide +kernel
theorem dX6_freed_1 : decode cX6_freed 1 = .ok (.aload_n 0, 1) := by decide +kernel
theorem dX6_freed_2 : decode cX6_freed 2 = .ok (.invokevirtual 228, 3) := by decide +kernel
theorem dX6_freed_5 : decode cX6_freed 5 = .ok (.invokevirtual 220, 3) := by decide +kernel
theorem dX6_freed_8 : decode cX6_freed 8 = .ok (.ireturn, 1) := by decide +kernel
set_option maxHeartbeats 4000000 in
set_option maxRecDepth 100000 in
theorem c_X6_freed {l : Launch} {ω : xO} (hc : xsh ω = clS)  {M : xMem} (hJ : CInv M) : Ct l ω yX6_freed ({ frames := 7, cells := 0, slots := 0, locals := 166 } : Room) 1 0 [.ref (xad ω 0)] M (some (.int (iI (tcN (cuF M 255).2.2 (cuF M 255).1)))) (tcM (cuF M 255).2.2 (cuF M 255).1) := by
  refine Ct.of (bytes := cX6_freed) (ret := (some .int)) (lv0 := [some (.ref (xad ω 0))]) m_cd_X6_freed m_in_X6 (by decide +kernel) (by decide +kernel) rfl rfl rfl rfl (fun hR => (tcM_in (cuF_o hR hJ 255 (by omega)).2.1 (hJ.e (cuF_o hR hJ 255 (by omega)).1)).1.1) ?_
  intro κ h he hR
  have ho := cuF_o hR hJ 255 (by omega)
  refine x_aload_n h dX6_freed_0 rfl ?_
  refine x_aload_n h dX6_freed_1 rfl ?_
  refine x_V0i h dX6_freed_2 m_ml_X6_228 m_im_X6_cuts m_se_X6_cuts (sC0 hc) rfl (by decide) rfl (c_X6_cuts hc hJ) ?_
  refine x_V1i h dX6_freed_5 m_ml_X6_220 m_im_X6_thereAfterCuts m_se_X6_thereAfterCuts (sC0 hc) rfl (by decide) rfl (c_X6_thereAfterCuts hc (hJ.e ho.1) ⟨ho.2.2.2.1, by rw [ho.1 11 (by omega)]; exact ho.2.2.2.2⟩) ?_
  exact x_iret (ret := none) h he dX6_freed_8 rfl (by first | rfl | omega | exact (bI_t (by omega)).symm | exact (bI_f (by omega)).symm) rfl
