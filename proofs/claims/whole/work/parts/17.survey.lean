/-! the class: ROADS: by which place; laid anew -/
noncomputable def fsF (P : Int → Prop) : Nat → Int → Int → Int
  | 0, _, z => z
  | d + 1, i, z => tI (P i) i (fsF P d (i + 1) z)
theorem fsF_R {P : Int → Prop} : ∀ (d : Nat) (i z : Int), 0 ≤ i → i + d ≤ 10 → 0 ≤ z ∧ z < 10 → 0 ≤ fsF P d i z ∧ fsF P d i z < 10 := by
  intro d
  induction d with
  | zero => intro i z _ _ h; exact h
  | succ d ih =>
    intro i z h0 h1 h
    unfold fsF tI
    split
    · omega
    · exact ih _ _ (by omega) (by omega) h
abbrev nxP (L D : Int → Int) (a c : Int) (i : Int) : Prop := 0 < L (a * 10 + i) ∧ D (a * 10 + c) = L (a * 10 + i) + D (i * 10 + c)
noncomputable def nxF (L D : Int → Int) (a c : Int) : Int := tI (a = c ∨ D (a * 10 + c) = 999) a (fsF (nxP L D a c) 10 0 a)
theorem nxF_R {L D : Int → Int} {a c : Int} (ha : plc a) : 0 ≤ nxF L D a c ∧ nxF L D a c < 10 := by
  unfold nxF
  have h2 := fsF_R (P := nxP L D a c) 10 0 a (by omega) (by omega) ha
  by_cases h : a = c ∨ D (a * 10 + c) = 999
  · rw [tI_p h]; exact ha
  · rw [tI_n h]; exact h2
abbrev neG (L D : Int → Int) (a c : Int) : Int → Int → Int := fun k acc => if 0 < L (a * 10 + k) ∧ (acc = -1 ∨ D (k * 10 + c) < D (acc * 10 + c)) then k else acc
def neR (L D : Int → Int) (a c : Int) (n : Nat) : Int := xfo (neG L D a c) (-1) n
theorem neR_s (L D : Int → Int) (a c : Int) (n : Nat) : neR L D a c (n + 1) = neG L D a c (n : Int) (neR L D a c n) := by
  unfold neR
  rw [xfo_s (neG L D a c) (-1) n]
theorem neR_R (L D : Int → Int) (a c : Int) : ∀ n : Nat, -1 ≤ neR L D a c n ∧ neR L D a c n < (n : Int) := by
  intro n
  induction n with
  | zero => unfold neR xfo; omega
  | succ n ih =>
    rw [neR_s]
    unfold neG
    split <;> omega
def neF (L D : Int → Int) (a c : Int) : Int := if neR L D a c 10 = -1 then a else neR L D a c 10
theorem neF_R {L D : Int → Int} {a c : Int} (ha : plc a) : 0 ≤ neF L D a c ∧ neF L D a c < 10 := by
  have := neR_R L D a c 10
  unfold neF
  split <;> omega

theorem dX3_searchNext_0 : decode cX3_searchNext 0 = .ok (.iload_n 1, 1) := by decide +kernel
theorem dX3_searchNext_1 : decode cX3_searchNext 1 = .ok (.iload_n 2, 1) := by decide +kernel
theorem dX3_searchNext_2 : decode cX3_searchNext 2 = .ok (.if_icmp .eq 15, 3) := by decide +kernel
theorem dX3_searchNext_5 : decode cX3_searchNext 5 = .ok (.aload_n 0, 1) := by decide +kernel
theorem dX3_searchNext_6 : decode cX3_searchNext 6 = .ok (.iload_n 1, 1) := by decide +kernel
theorem dX3_searchNext_7 : decode cX3_searchNext 7 = .ok (.iload_n 2, 1) := by decide +kernel
theorem dX3_searchNext_8 : decode cX3_searchNext 8 = .ok (.invokevirtual 56, 3) := by decide +kernel
theorem dX3_searchNext_11 : decode cX3_searchNext 11 = .ok (.sipush 999, 3) := by decide +kernel
theorem dX3_searchNext_14 : decode cX3_searchNext 14 = .ok (.if_icmp .ne 5, 3) := by decide +kernel
theorem dX3_searchNext_17 : decode cX3_searchNext 17 = .ok (.iload_n 1, 1) := by decide +kernel
theorem dX3_searchNext_18 : decode cX3_searchNext 18 = .ok (.ireturn, 1) := by decide +kernel
theorem dX3_searchNext_19 : decode cX3_searchNext 19 = .ok (.iconst 0, 1) := by decide +kernel
theorem dX3_searchNext_20 : decode cX3_searchNext 20 = .ok (.istore_n 3, 1) := by decide +kernel
theorem dX3_searchNext_21 : decode cX3_searchNext 21 = .ok (.iload_n 3, 1) := by decide +kernel
theorem dX3_searchNext_22 : decode cX3_searchNext 22 = .ok (.bipush 10, 2) := by decide +kernel
theorem dX3_searchNext_24 : decode cX3_searchNext 24 = .ok (.if_icmp .ge 42, 3) := by decide +kernel
theorem dX3_searchNext_27 : decode cX3_searchNext 27 = .ok (.aload_n 0, 1) := by decide +kernel
theorem dX3_searchNext_28 : decode cX3_searchNext 28 = .ok (.iload_n 1, 1) := by decide +kernel
theorem dX3_searchNext_29 : decode cX3_searchNext 29 = .ok (.iload_n 3, 1) := by decide +kernel
theorem dX3_searchNext_30 : decode cX3_searchNext 30 = .ok (.invokevirtual 43, 3) := by decide +kernel
theorem dX3_searchNext_33 : decode cX3_searchNext 33 = .ok (.istore 4, 2) := by decide +kernel
theorem dX3_searchNext_35 : decode cX3_searchNext 35 = .ok (.iload 4, 2) := by decide +kernel
theorem dX3_searchNext_37 : decode cX3_searchNext 37 = .ok (.ifCond .le 23, 3) := by decide +kernel
theorem dX3_searchNext_40 : decode cX3_searchNext 40 = .ok (.aload_n 0, 1) := by decide +kernel
theorem dX3_searchNext_41 : decode cX3_searchNext 41 = .ok (.iload_n 1, 1) := by decide +kernel
theorem dX3_searchNext_42 : decode cX3_searchNext 42 = .ok (.iload_n 2, 1) := by decide +kernel
theorem dX3_searchNext_43 : decode cX3_searchNext 43 = .ok (.invokevirtual 56, 3) := by decide +kernel
theorem dX3_searchNext_46 : decode cX3_searchNext 46 = .ok (.iload 4, 2) := by decide +kernel
theorem dX3_searchNext_48 : decode cX3_searchNext 48 = .ok (.aload_n 0, 1) := by decide +kernel
theorem dX3_searchNext_49 : decode cX3_searchNext 49 = .ok (.iload_n 3, 1) := by decide +kernel
theorem dX3_searchNext_50 : decode cX3_searchNext 50 = .ok (.iload_n 2, 1) := by decide +kernel
theorem dX3_searchNext_51 : decode cX3_searchNext 51 = .ok (.invokevirtual 56, 3) := by decide +kernel
theorem dX3_searchNext_54 : decode cX3_searchNext 54 = .ok (.iadd, 1) := by decide +kernel
theorem dX3_searchNext_55 : decode cX3_searchNext 55 = .ok (.if_icmp .ne 5, 3) := by decide +kernel
theorem dX3_searchNext_58 : decode cX3_searchNext 58 = .ok (.iload_n 3, 1) := by decide +kernel
theorem dX3_searchNext_59 : decode cX3_searchNext 59 = .ok (.ireturn, 1) := by decide +kernel
theorem dX3_searchNext_60 : decode cX3_searchNext 60 = .ok (.iinc 3 1, 3) := by decide +kernel
theorem dX3_searchNext_63 : decode cX3_searchNext 63 = .ok (.goto (-42), 3) := by decide +kernel
theorem dX3_searchNext_66 : decode cX3_searchNext 66 = .ok (.iload_n 1, 1) := by decide +kernel
theorem dX3_searchNext_67 : decode cX3_searchNext 67 = .ok (.ireturn, 1) := by decide +kernel
set_option maxHeartbeats 4000000 in
set_option maxRecDepth 100000 in
theorem c_X3_searchNext {l : Launch} {ω : xO} (hc : xsh ω = clS) {r : Nat} {a c : Int} {L D : Int → Int} {M : xMem} (hb : rI r) (eL : M (r + 1) = L) (eD : M (r + 2) = D) (hL : LB L) (hD : DB D) (ha : plc a) (hc2 : plc c) : Ct l ω yX3_searchNext ({ frames := 2, cells := 0, slots := 0, locals := 42 } : Room) 5 2 [.ref (xad ω r), .int (iI a), .int (iI c)] M (some (.int (iI (nxF L D a c)))) M := by
  refine Ct.of (bytes := cX3_searchNext) (ret := (some .int)) (lv0 := [some (.ref (xad ω r)), some (.int (iI a)), some (.int (iI c)), none, none]) m_cd_X3_searchNext m_in_X3 (by decide +kernel) (by decide +kernel) rfl rfl rfl rfl (fun hR => hR) ?_
  intro κ h he hR
  refine x_iload_n h dX3_searchNext_0 rfl ?_
  refine x_iload_n h dX3_searchNext_1 rfl ?_
  refine x_icmp_eq h dX3_searchNext_2 (tgt := 17) (by decide) (by omega) (by omega) (fun q2 => ?_) (fun q2 => ?_)
  · refine x_iload_n h dX3_searchNext_17 rfl ?_
    exact x_iret (ret := none) h he dX3_searchNext_18 rfl (by rw [nxF, tI_p (by first | exact Or.inl (by assumption) | exact Or.inr (by assumption))]) rfl
  · refine x_aload_n h dX3_searchNext_5 rfl ?_
    refine x_iload_n h dX3_searchNext_6 rfl ?_
    refine x_iload_n h dX3_searchNext_7 rfl ?_
    refine x_V2i h dX3_searchNext_8 m_ml_X3_56 m_im_X3_distance m_se_X3_distance (sRd hc hb) rfl (by decide) rfl (c_X3_distance hc hb (by omega) (by omega)) ?_
    rw [eD]
    have f0 := hD (a * 10 + c) (by omega) (by omega)
    refine x_sipush h dX3_searchNext_11 (by decide) ?_
    refine x_icmp_ne h dX3_searchNext_14 (tgt := 19) (by decide) (by omega) (by omega) (fun q14 => ?_) (fun q14 => ?_)
    · have hne : ¬ (a = c ∨ D (a * 10 + c) = 999) := by omega
      refine x_iconst h dX3_searchNext_19 ?_
      refine x_istore_n h dX3_searchNext_20 rfl rfl ?_
      dsimp only [xset]
      have H : ∀ (d : Nat) (i : Int), 0 ≤ i → i + d = 10 → fsF (nxP L D a c) d i a = fsF (nxP L D a c) 10 0 a → X ω κ 21 [some (.ref (xad ω r)), some (.int (iI a)), some (.int (iI c)), some (.int (iI i)), none] [] M := by
        intro d
        induction d with
        | zero =>
          intro i hi0 hid e
          refine x_iload_n h dX3_searchNext_21 rfl ?_
          refine x_bipush h dX3_searchNext_22 (by decide) ?_
          refine x_icmp_ge h dX3_searchNext_24 (tgt := 66) (by decide) (by omega) (by omega) (fun q24 => ?_) (fun q24 => ?_)
          · refine x_iload_n h dX3_searchNext_66 rfl ?_
            exact x_iret (ret := none) h he dX3_searchNext_67 rfl (by rw [nxF, tI_n hne, ← e]; rfl) rfl
          · exfalso; omega
        | succ d ih =>
          intro i hi0 hid e
          have f1 := hL (a * 10 + i) (by omega) (by omega)
          have f2 := hD (a * 10 + c) (by omega) (by omega)
          have f3 := hD (i * 10 + c) (by omega) (by omega)
          refine x_iload_n h dX3_searchNext_21 rfl ?_
          refine x_bipush h dX3_searchNext_22 (by decide) ?_
          refine x_icmp_ge h dX3_searchNext_24 (tgt := 66) (by decide) (by omega) (by omega) (fun q24 => ?_) (fun q24 => ?_)
          · exfalso; omega
          · refine x_aload_n h dX3_searchNext_27 rfl ?_
            refine x_iload_n h dX3_searchNext_28 rfl ?_
            refine x_iload_n h dX3_searchNext_29 rfl ?_
            refine x_V2i h dX3_searchNext_30 m_ml_X3_43 m_im_X3_lengthOf m_se_X3_lengthOf (sRd hc hb) rfl (by decide) rfl (c_X3_lengthOf hc hb (by omega) (by omega)) ?_
            refine x_istore h dX3_searchNext_33 rfl rfl ?_
            dsimp only [xset]
            rw [eL]
            refine x_iload h dX3_searchNext_35 rfl ?_
            refine x_if_le h dX3_searchNext_37 (tgt := 60) (by decide) (by omega) (fun q37 => ?_) (fun q37 => ?_)
            · refine x_iinc h dX3_searchNext_60 rfl rfl rfl ?_
              dsimp only [xset]
              refine x_goto h dX3_searchNext_63 (tgt := 21) (by decide) ?_
              refine x_drop 4 ?_
              dsimp only [xclr]
              refine ih (i + 1) (by omega) (by omega) ?_
              rw [← e, fsF]
              first | rw [tI_n (fun z => q55 z.2)] | rw [tI_n (fun z => absurd z.1 (by omega))]
            · refine x_aload_n h dX3_searchNext_40 rfl ?_
              refine x_iload_n h dX3_searchNext_41 rfl ?_
              refine x_iload_n h dX3_searchNext_42 rfl ?_
              refine x_V2i h dX3_searchNext_43 m_ml_X3_56 m_im_X3_distance m_se_X3_distance (sRd hc hb) rfl (by decide) rfl (c_X3_distance hc hb (by omega) (by omega)) ?_
              rw [eD]
              refine x_iload h dX3_searchNext_46 rfl ?_
              refine x_aload_n h dX3_searchNext_48 rfl ?_
              refine x_iload_n h dX3_searchNext_49 rfl ?_
              refine x_iload_n h dX3_searchNext_50 rfl ?_
              refine x_V2i h dX3_searchNext_51 m_ml_X3_56 m_im_X3_distance m_se_X3_distance (sRd hc hb) rfl (by decide) rfl (c_X3_distance hc hb (by omega) (by omega)) ?_
              rw [eD]
              refine x_iadd h dX3_searchNext_54 ?_
              refine x_icmp_ne h dX3_searchNext_55 (tgt := 60) (by decide) (by omega) (by omega) (fun q55 => ?_) (fun q55 => ?_)
              · refine x_iinc h dX3_searchNext_60 rfl rfl rfl ?_
                dsimp only [xset]
                refine x_goto h dX3_searchNext_63 (tgt := 21) (by decide) ?_
                refine x_drop 4 ?_
                dsimp only [xclr]
                refine ih (i + 1) (by omega) (by omega) ?_
                rw [← e, fsF]
                first | rw [tI_n (fun z => q55 z.2)] | rw [tI_n (fun z => absurd z.1 (by omega))]
              · refine x_iload_n h dX3_searchNext_58 rfl ?_
                exact x_iret (ret := none) h he dX3_searchNext_59 rfl (by rw [nxF, tI_n hne, ← e, fsF, tI_p ⟨by omega, q55⟩]) rfl
      exact H 10 0 (by omega) (by omega) rfl
    · refine x_iload_n h dX3_searchNext_17 rfl ?_
      exact x_iret (ret := none) h he dX3_searchNext_18 rfl (by rw [nxF, tI_p (by first | exact Or.inl (by assumption) | exact Or.inr (by assumption))]) rfl

theorem dX3_searchNearest_0 : decode cX3_searchNearest 0 = .ok (.iconst (-1), 1) := by decide +kernel
theorem dX3_searchNearest_1 : decode cX3_searchNearest 1 = .ok (.istore_n 3, 1) := by decide +kernel
theorem dX3_searchNearest_2 : decode cX3_searchNearest 2 = .ok (.iconst 0, 1) := by decide +kernel
theorem dX3_searchNearest_3 : decode cX3_searchNearest 3 = .ok (.istore 4, 2) := by decide +kernel
theorem dX3_searchNearest_5 : decode cX3_searchNearest 5 = .ok (.iload 4, 2) := by decide +kernel
theorem dX3_searchNearest_7 : decode cX3_searchNearest 7 = .ok (.bipush 10, 2) := by decide +kernel
theorem dX3_searchNearest_9 : decode cX3_searchNearest 9 = .ok (.if_icmp .ge 55, 3) := by decide +kernel
theorem dX3_searchNearest_12 : decode cX3_searchNearest 12 = .ok (.aload_n 0, 1) := by decide +kernel
theorem dX3_searchNearest_13 : decode cX3_searchNearest 13 = .ok (.iload_n 1, 1) := by decide +kernel
theorem dX3_searchNearest_14 : decode cX3_searchNearest 14 = .ok (.iload 4, 2) := by decide +kernel
theorem dX3_searchNearest_16 : decode cX3_searchNearest 16 = .ok (.invokevirtual 43, 3) := by decide +kernel
theorem dX3_searchNearest_19 : decode cX3_searchNearest 19 = .ok (.ifCond .le 7, 3) := by decide +kernel
theorem dX3_searchNearest_22 : decode cX3_searchNearest 22 = .ok (.iconst 1, 1) := by decide +kernel
theorem dX3_searchNearest_23 : decode cX3_searchNearest 23 = .ok (.goto 4, 3) := by decide +kernel
theorem dX3_searchNearest_26 : decode cX3_searchNearest 26 = .ok (.iconst 0, 1) := by decide +kernel
theorem dX3_searchNearest_27 : decode cX3_searchNearest 27 = .ok (.istore 5, 2) := by decide +kernel
theorem dX3_searchNearest_29 : decode cX3_searchNearest 29 = .ok (.iload 5, 2) := by decide +kernel
theorem dX3_searchNearest_31 : decode cX3_searchNearest 31 = .ok (.ifCond .eq 27, 3) := by decide +kernel
theorem dX3_searchNearest_34 : decode cX3_searchNearest 34 = .ok (.iload_n 3, 1) := by decide +kernel
theorem dX3_searchNearest_35 : decode cX3_searchNearest 35 = .ok (.iconst (-1), 1) := by decide +kernel
theorem dX3_searchNearest_36 : decode cX3_searchNearest 36 = .ok (.if_icmp .eq 19, 3) := by decide +kernel
theorem dX3_searchNearest_39 : decode cX3_searchNearest 39 = .ok (.aload_n 0, 1) := by decide +kernel
theorem dX3_searchNearest_40 : decode cX3_searchNearest 40 = .ok (.iload 4, 2) := by decide +kernel
theorem dX3_searchNearest_42 : decode cX3_searchNearest 42 = .ok (.iload_n 2, 1) := by decide +kernel
theorem dX3_searchNearest_43 : decode cX3_searchNearest 43 = .ok (.invokevirtual 56, 3) := by decide +kernel
theorem dX3_searchNearest_46 : decode cX3_searchNearest 46 = .ok (.aload_n 0, 1) := by decide +kernel
theorem dX3_searchNearest_47 : decode cX3_searchNearest 47 = .ok (.iload_n 3, 1) := by decide +kernel
theorem dX3_searchNearest_48 : decode cX3_searchNearest 48 = .ok (.iload_n 2, 1) := by decide +kernel
theorem dX3_searchNearest_49 : decode cX3_searchNearest 49 = .ok (.invokevirtual 56, 3) := by decide +kernel
theorem dX3_searchNearest_52 : decode cX3_searchNearest 52 = .ok (.if_icmp .ge 6, 3) := by decide +kernel
theorem dX3_searchNearest_55 : decode cX3_searchNearest 55 = .ok (.iload 4, 2) := by decide +kernel
theorem dX3_searchNearest_57 : decode cX3_searchNearest 57 = .ok (.istore_n 3, 1) := by decide +kernel
theorem dX3_searchNearest_58 : decode cX3_searchNearest 58 = .ok (.iinc 4 1, 3) := by decide +kernel
theorem dX3_searchNearest_61 : decode cX3_searchNearest 61 = .ok (.goto (-56), 3) := by decide +kernel
theorem dX3_searchNearest_64 : decode cX3_searchNearest 64 = .ok (.iload_n 3, 1) := by decide +kernel
theorem dX3_searchNearest_65 : decode cX3_searchNearest 65 = .ok (.iconst (-1), 1) := by decide +kernel
theorem dX3_searchNearest_66 : decode cX3_searchNearest 66 = .ok (.if_icmp .ne 7, 3) := by decide +kernel
theorem dX3_searchNearest_69 : decode cX3_searchNearest 69 = .ok (.iload_n 1, 1) := by decide +kernel
theorem dX3_searchNearest_70 : decode cX3_searchNearest 70 = .ok (.goto 4, 3) := by decide +kernel
theorem dX3_searchNearest_73 : decode cX3_searchNearest 73 = .ok (.iload_n 3, 1) := by decide +kernel
theorem dX3_searchNearest_74 : decode cX3_searchNearest 74 = .ok (.ireturn, 1) := by decide +kernel
set_option maxHeartbeats 4000000 in
set_option maxRecDepth 100000 in
theorem c_X3_searchNearest {l : Launch} {ω : xO} (hc : xsh ω = clS) {r : Nat} {a c : Int} {L D : Int → Int} {M : xMem} (hb : rI r) (eL : M (r + 1) = L) (eD : M (r + 2) = D) (hL : LB L) (hD : DB D) (ha : plc a) (hc2 : plc c) : Ct l ω yX3_searchNearest ({ frames := 2, cells := 0, slots := 0, locals := 42 } : Room) 6 2 [.ref (xad ω r), .int (iI a), .int (iI c)] M (some (.int (iI (neF L D a c)))) M := by
  refine Ct.of (bytes := cX3_searchNearest) (ret := (some .int)) (lv0 := [some (.ref (xad ω r)), some (.int (iI a)), some (.int (iI c)), none, none, none]) m_cd_X3_searchNearest m_in_X3 (by decide +kernel) (by decide +kernel) rfl rfl rfl rfl (fun hR => hR) ?_
  intro κ h he hR
  refine x_iconst h dX3_searchNearest_0 ?_
  refine x_istore_n h dX3_searchNearest_1 rfl rfl ?_
  dsimp only [xset]
  refine x_iconst h dX3_searchNearest_2 ?_
  refine x_istore h dX3_searchNearest_3 rfl rfl ?_
  dsimp only [xset]
  refine loop_up (fun k => X ω κ 5 [some (.ref (xad ω r)), some (.int (iI a)), some (.int (iI c)), some (.int (iI (neR L D a c k))), some (.int (iI (k : Int))), none] [] M) 10 ?_ ?_
  · show X ω κ 5 [some (.ref (xad ω r)), some (.int (iI a)), some (.int (iI c)), some (.int (iI (neR L D a c 10))), some (.int (iI ((10 : Nat) : Int))), none] [] M
    have nr := neR_R L D a c 10
    refine x_iload h dX3_searchNearest_5 rfl ?_
    refine x_bipush h dX3_searchNearest_7 (by decide) ?_
    refine x_icmp_ge h dX3_searchNearest_9 (tgt := 64) (by decide) (by omega) (by omega) (fun q9 => ?_) (fun q9 => ?_)
    · refine x_iload_n h dX3_searchNearest_64 rfl ?_
      refine x_iconst h dX3_searchNearest_65 ?_
      refine x_icmp_ne h dX3_searchNearest_66 (tgt := 73) (by decide) (by omega) (by omega) (fun q66 => ?_) (fun q66 => ?_)
      · refine x_iload_n h dX3_searchNearest_73 rfl ?_
        exact x_iret (ret := none) h he dX3_searchNearest_74 rfl (by unfold neF; first | rw [if_pos (by assumption)] | rw [if_neg (by assumption)]) rfl
      · refine x_iload_n h dX3_searchNearest_69 rfl ?_
        refine x_goto h dX3_searchNearest_70 (tgt := 74) (by decide) ?_
        exact x_iret (ret := none) h he dX3_searchNearest_74 rfl (by unfold neF; first | rw [if_pos (by assumption)] | rw [if_neg (by assumption)]) rfl
    · exfalso; omega
  · intro k hk ihk
    replace ihk : X ω κ 5 [some (.ref (xad ω r)), some (.int (iI a)), some (.int (iI c)), some (.int (iI (neR L D a c (k + 1)))), some (.int (iI ((k + 1 : Nat) : Int))), none] [] M := ihk
    show X ω κ 5 [some (.ref (xad ω r)), some (.int (iI a)), some (.int (iI c)), some (.int (iI (neR L D a c k))), some (.int (iI (k : Int))), none] [] M
    have nr := neR_R L D a c k
    have f1 := hL (a * 10 + (k : Int)) (by omega) (by omega)
    have f2 := hD ((k : Int) * 10 + c) (by omega) (by omega)
    have f3 := fun g : 0 ≤ neR L D a c k => hD (neR L D a c k * 10 + c) (by omega) (by omega)
    refine x_iload h dX3_searchNearest_5 rfl ?_
    refine x_bipush h dX3_searchNearest_7 (by decide) ?_
    refine x_icmp_ge h dX3_searchNearest_9 (tgt := 64) (by decide) (by omega) (by omega) (fun q9 => ?_) (fun q9 => ?_)
    · exfalso; omega
    · refine x_aload_n h dX3_searchNearest_12 rfl ?_
      refine x_iload_n h dX3_searchNearest_13 rfl ?_
      refine x_iload h dX3_searchNearest_14 rfl ?_
      refine x_V2i h dX3_searchNearest_16 m_ml_X3_43 m_im_X3_lengthOf m_se_X3_lengthOf (sRd hc hb) rfl (by decide) rfl (c_X3_lengthOf hc hb (by omega) (by omega)) ?_
      rw [eL]
      refine x_if_le h dX3_searchNearest_19 (tgt := 26) (by decide) (by omega) (fun q19 => ?_) (fun q19 => ?_)
      · refine x_iconst h dX3_searchNearest_26 ?_
        refine x_istore h dX3_searchNearest_27 rfl rfl ?_
        dsimp only [xset]
        refine x_iload h dX3_searchNearest_29 rfl ?_
        refine x_if_eq h dX3_searchNearest_31 (tgt := 58) (by decide) (by omega) (fun q31 => ?_) (fun q31 => ?_)
        · refine x_iinc h dX3_searchNearest_58 rfl rfl rfl ?_
          dsimp only [xset]
          refine x_goto h dX3_searchNearest_61 (tgt := 5) (by decide) ?_
          first
            | (exfalso; omega)
            | (refine x_drop 5 ?_; dsimp only [xclr]; exact x_same ihk (by rw [neR_s]; unfold neG; first | (rw [if_pos (by omega)] <;> rfl) | (rw [if_neg (by omega)] <;> rfl)) rfl rfl)
        · refine x_iload_n h dX3_searchNearest_34 rfl ?_
          refine x_iconst h dX3_searchNearest_35 ?_
          refine x_icmp_eq h dX3_searchNearest_36 (tgt := 55) (by decide) (by omega) (by omega) (fun q36 => ?_) (fun q36 => ?_)
          · refine x_iload h dX3_searchNearest_55 rfl ?_
            refine x_istore_n h dX3_searchNearest_57 rfl rfl ?_
            dsimp only [xset]
            refine x_iinc h dX3_searchNearest_58 rfl rfl rfl ?_
            dsimp only [xset]
            refine x_goto h dX3_searchNearest_61 (tgt := 5) (by decide) ?_
            first
              | (exfalso; omega)
              | (refine x_drop 5 ?_; dsimp only [xclr]; exact x_same ihk (by rw [neR_s]; unfold neG; first | (rw [if_pos (by omega)] <;> rfl) | (rw [if_neg (by omega)] <;> rfl)) rfl rfl)
          · refine x_aload_n h dX3_searchNearest_39 rfl ?_
            refine x_iload h dX3_searchNearest_40 rfl ?_
            refine x_iload_n h dX3_searchNearest_42 rfl ?_
            refine x_V2i h dX3_searchNearest_43 m_ml_X3_56 m_im_X3_distance m_se_X3_distance (sRd hc hb) rfl (by decide) rfl (c_X3_distance hc hb (by omega) (by omega)) ?_
            rw [eD]
            refine x_aload_n h dX3_searchNearest_46 rfl ?_
            refine x_iload_n h dX3_searchNearest_47 rfl ?_
            refine x_iload_n h dX3_searchNearest_48 rfl ?_
            refine x_V2i h dX3_searchNearest_49 m_ml_X3_56 m_im_X3_distance m_se_X3_distance (sRd hc hb) rfl (by decide) rfl (c_X3_distance hc hb (by omega) (by omega)) ?_
            rw [eD]
            have f4 := f3 (by omega)
            refine x_icmp_ge h dX3_searchNearest_52 (tgt := 58) (by decide) (by omega) (by omega) (fun q52 => ?_) (fun q52 => ?_)
            · refine x_iinc h dX3_searchNearest_58 rfl rfl rfl ?_
              dsimp only [xset]
              refine x_goto h dX3_searchNearest_61 (tgt := 5) (by decide) ?_
              first
                | (exfalso; omega)
                | (refine x_drop 5 ?_; dsimp only [xclr]; exact x_same ihk (by rw [neR_s]; unfold neG; first | (rw [if_pos (by omega)] <;> rfl) | (rw [if_neg (by omega)] <;> rfl)) rfl rfl)
            · refine x_iload h dX3_searchNearest_55 rfl ?_
              refine x_istore_n h dX3_searchNearest_57 rfl rfl ?_
              dsimp only [xset]
              refine x_iinc h dX3_searchNearest_58 rfl rfl rfl ?_
              dsimp only [xset]
              refine x_goto h dX3_searchNearest_61 (tgt := 5) (by decide) ?_
              first
                | (exfalso; omega)
                | (refine x_drop 5 ?_; dsimp only [xclr]; exact x_same ihk (by rw [neR_s]; unfold neG; first | (rw [if_pos (by omega)] <;> rfl) | (rw [if_neg (by omega)] <;> rfl)) rfl rfl)
      · refine x_iconst h dX3_searchNearest_22 ?_
        refine x_goto h dX3_searchNearest_23 (tgt := 27) (by decide) ?_
        refine x_istore h dX3_searchNearest_27 rfl rfl ?_
        dsimp only [xset]
        refine x_iload h dX3_searchNearest_29 rfl ?_
        refine x_if_eq h dX3_searchNearest_31 (tgt := 58) (by decide) (by omega) (fun q31 => ?_) (fun q31 => ?_)
        · refine x_iinc h dX3_searchNearest_58 rfl rfl rfl ?_
          dsimp only [xset]
          refine x_goto h dX3_searchNearest_61 (tgt := 5) (by decide) ?_
          first
            | (exfalso; omega)
            | (refine x_drop 5 ?_; dsimp only [xclr]; exact x_same ihk (by rw [neR_s]; unfold neG; first | (rw [if_pos (by omega)] <;> rfl) | (rw [if_neg (by omega)] <;> rfl)) rfl rfl)
        · refine x_iload_n h dX3_searchNearest_34 rfl ?_
          refine x_iconst h dX3_searchNearest_35 ?_
          refine x_icmp_eq h dX3_searchNearest_36 (tgt := 55) (by decide) (by omega) (by omega) (fun q36 => ?_) (fun q36 => ?_)
          · refine x_iload h dX3_searchNearest_55 rfl ?_
            refine x_istore_n h dX3_searchNearest_57 rfl rfl ?_
            dsimp only [xset]
            refine x_iinc h dX3_searchNearest_58 rfl rfl rfl ?_
            dsimp only [xset]
            refine x_goto h dX3_searchNearest_61 (tgt := 5) (by decide) ?_
            first
              | (exfalso; omega)
              | (refine x_drop 5 ?_; dsimp only [xclr]; exact x_same ihk (by rw [neR_s]; unfold neG; first | (rw [if_pos (by omega)] <;> rfl) | (rw [if_neg (by omega)] <;> rfl)) rfl rfl)
          · refine x_aload_n h dX3_searchNearest_39 rfl ?_
            refine x_iload h dX3_searchNearest_40 rfl ?_
            refine x_iload_n h dX3_searchNearest_42 rfl ?_
            refine x_V2i h dX3_searchNearest_43 m_ml_X3_56 m_im_X3_distance m_se_X3_distance (sRd hc hb) rfl (by decide) rfl (c_X3_distance hc hb (by omega) (by omega)) ?_
            rw [eD]
            refine x_aload_n h dX3_searchNearest_46 rfl ?_
            refine x_iload_n h dX3_searchNearest_47 rfl ?_
            refine x_iload_n h dX3_searchNearest_48 rfl ?_
            refine x_V2i h dX3_searchNearest_49 m_ml_X3_56 m_im_X3_distance m_se_X3_distance (sRd hc hb) rfl (by decide) rfl (c_X3_distance hc hb (by omega) (by omega)) ?_
            rw [eD]
            have f4 := f3 (by omega)
            refine x_icmp_ge h dX3_searchNearest_52 (tgt := 58) (by decide) (by omega) (by omega) (fun q52 => ?_) (fun q52 => ?_)
            · refine x_iinc h dX3_searchNearest_58 rfl rfl rfl ?_
              dsimp only [xset]
              refine x_goto h dX3_searchNearest_61 (tgt := 5) (by decide) ?_
              first
                | (exfalso; omega)
                | (refine x_drop 5 ?_; dsimp only [xclr]; exact x_same ihk (by rw [neR_s]; unfold neG; first | (rw [if_pos (by omega)] <;> rfl) | (rw [if_neg (by omega)] <;> rfl)) rfl rfl)
            · refine x_iload h dX3_searchNearest_55 rfl ?_
              refine x_istore_n h dX3_searchNearest_57 rfl rfl ?_
              dsimp only [xset]
              refine x_iinc h dX3_searchNearest_58 rfl rfl rfl ?_
              dsimp only [xset]
              refine x_goto h dX3_searchNearest_61 (tgt := 5) (by decide) ?_
              first
                | (exfalso; omega)
                | (refine x_drop 5 ?_; dsimp only [xclr]; exact x_same ihk (by rw [neR_s]; unfold neG; first | (rw [if_pos (by omega)] <;> rfl) | (rw [if_neg (by omega)] <;> rfl)) rfl rfl)

theorem up_uprn {M : xMem} {k i : Nat} {r : Int → Int} {j z : Int} (h : i ≠ k) : up (upr M k r) i j z = upr (up M i j z) k r := by
  funext q
  unfold up upr
  by_cases h1 : q = i
  · subst h1
    rw [if_pos rfl, if_neg h, if_neg h, if_pos rfl]
  · rw [if_neg h1]
    by_cases h2 : q = k
    · rw [if_pos h2, if_pos h2]
    · rw [if_neg h2, if_neg h2, if_neg h1]
noncomputable def nxI (L D : Int → Int) (i : Int) : Int := nxF L D (i / 10) (i % 10)
def neI (L D : Int → Int) (i : Int) : Int := neF L D (i / 10) (i % 10)
noncomputable def suA (M : xMem) (r : Nat) (n : Int) : xMem := upr (upr (upr M (r + 2) (meC (M (r + 1)) (M (r + 2)))) (r + 3) (fiC (nxI (M (r + 1)) (meC (M (r + 1)) (M (r + 2)))) n (M (r + 3)))) (r + 4) (fiC (neI (M (r + 1)) (meC (M (r + 1)) (M (r + 2)))) n (M (r + 4)))
noncomputable def suC (M : xMem) (r : Nat) : xMem := suA M r 100
theorem suA_R {M : xMem} {r : Nat} {n : Int} (hR : xR M) (hL : LB (M (r + 1))) (hn : n ≤ 100) : xR (suA M r n) :=
  upr_R (upr_R (upr_R hR (meC_R hL (hR _))) (fiC_R (fun i h1 h2 => by have := nxF_R (L := M (r + 1)) (D := meC (M (r + 1)) (M (r + 2))) (a := i / 10) (c := i % 10) (by omega); unfold nxI; omega) (hR _))) (fiC_R (fun i h1 h2 => by have := neF_R (L := M (r + 1)) (D := meC (M (r + 1)) (M (r + 2))) (a := i / 10) (c := i % 10) (by omega); unfold neI; omega) (hR _))
theorem suA_1 {M : xMem} {r : Nat} {n : Int} : suA M r n (r + 1) = M (r + 1) := by unfold suA; rw [upr_n (by omega), upr_n (by omega), upr_n (by omega)]
theorem suA_2 {M : xMem} {r : Nat} {n : Int} : suA M r n (r + 2) = meC (M (r + 1)) (M (r + 2)) := by unfold suA; rw [upr_n (by omega), upr_n (by omega), upr_s]
theorem suA_n {M : xMem} {r k : Nat} {n : Int} (h : k < r + 2 ∨ r + 4 < k) : suA M r n k = M k := by unfold suA; rw [upr_n (by omega), upr_n (by omega), upr_n (by omega)]
theorem suA_s {M : xMem} {r : Nat} {a j : Int} {n : Int} (hn : n = a * 10 + j) (ha : 0 ≤ a) (hj : 0 ≤ j ∧ j < 10) : up (up (suA M r n) (r + 3) n (nxF (M (r + 1)) (meC (M (r + 1)) (M (r + 2))) a j)) (r + 4) n (neF (M (r + 1)) (meC (M (r + 1)) (M (r + 2))) a j) = suA M r (n + 1) := by
  have e1 : n / 10 = a := by omega
  have e2 : n % 10 = j := by omega
  unfold suA
  rw [up_uprn (by omega), up_upr, up_upr, ← fiC_s (by omega), ← fiC_s (by omega)]
  unfold nxI neI
  rw [e1, e2]
theorem suA_0 {M : xMem} {r : Nat} : upr M (r + 2) (meC (M (r + 1)) (M (r + 2))) = suA M r 0 := by
  unfold suA
  rw [fiC_0, fiC_0]
  funext k
  unfold upr
  by_cases h4 : k = r + 4
  · rw [if_neg (by omega), if_pos h4, h4]
  · rw [if_neg h4]
    by_cases h3 : k = r + 3
    · rw [if_neg (by omega), if_pos h3, h3]
    · rw [if_neg h3]

theorem dX3_survey_0 : decode cX3_survey 0 = .ok (.aload_n 0, 1) := by decide +kernel
theorem dX3_survey_1 : decode cX3_survey 1 = .ok (.invokevirtual 47, 3) := by decide +kernel
theorem dX3_survey_4 : decode cX3_survey 4 = .ok (.iconst 0, 1) := by decide +kernel
theorem dX3_survey_5 : decode cX3_survey 5 = .ok (.istore_n 1, 1) := by decide +kernel
theorem dX3_survey_6 : decode cX3_survey 6 = .ok (.iload_n 1, 1) := by decide +kernel
theorem dX3_survey_7 : decode cX3_survey 7 = .ok (.bipush 10, 2) := by decide +kernel
theorem dX3_survey_9 : decode cX3_survey 9 = .ok (.if_icmp .ge 57, 3) := by decide +kernel
theorem dX3_survey_12 : decode cX3_survey 12 = .ok (.iconst 0, 1) := by decide +kernel
theorem dX3_survey_13 : decode cX3_survey 13 = .ok (.istore_n 2, 1) := by decide +kernel
theorem dX3_survey_14 : decode cX3_survey 14 = .ok (.iload_n 2, 1) := by decide +kernel
theorem dX3_survey_15 : decode cX3_survey 15 = .ok (.bipush 10, 2) := by decide +kernel
theorem dX3_survey_17 : decode cX3_survey 17 = .ok (.if_icmp .ge 43, 3) := by decide +kernel
theorem dX3_survey_20 : decode cX3_survey 20 = .ok (.aload_n 0, 1) := by decide +kernel
theorem dX3_survey_21 : decode cX3_survey 21 = .ok (.getfield 18, 3) := by decide +kernel
theorem dX3_survey_24 : decode cX3_survey 24 = .ok (.iload_n 1, 1) := by decide +kernel
theorem dX3_survey_25 : decode cX3_survey 25 = .ok (.bipush 10, 2) := by decide +kernel
theorem dX3_survey_27 : decode cX3_survey 27 = .ok (.imul, 1) := by decide +kernel
theorem dX3_survey_28 : decode cX3_survey 28 = .ok (.iload_n 2, 1) := by decide +kernel
theorem dX3_survey_29 : decode cX3_survey 29 = .ok (.iadd, 1) := by decide +kernel
theorem dX3_survey_30 : decode cX3_survey 30 = .ok (.aload_n 0, 1) := by decide +kernel
theorem dX3_survey_31 : decode cX3_survey 31 = .ok (.iload_n 1, 1) := by decide +kernel
theorem dX3_survey_32 : decode cX3_survey 32 = .ok (.iload_n 2, 1) := by decide +kernel
theorem dX3_survey_33 : decode cX3_survey 33 = .ok (.invokevirtual 50, 3) := by decide +kernel
theorem dX3_survey_36 : decode cX3_survey 36 = .ok (.iastore, 1) := by decide +kernel
theorem dX3_survey_37 : decode cX3_survey 37 = .ok (.aload_n 0, 1) := by decide +kernel
theorem dX3_survey_38 : decode cX3_survey 38 = .ok (.getfield 21, 3) := by decide +kernel
theorem dX3_survey_41 : decode cX3_survey 41 = .ok (.iload_n 1, 1) := by decide +kernel
theorem dX3_survey_42 : decode cX3_survey 42 = .ok (.bipush 10, 2) := by decide +kernel
theorem dX3_survey_44 : decode cX3_survey 44 = .ok (.imul, 1) := by decide +kernel
theorem dX3_survey_45 : decode cX3_survey 45 = .ok (.iload_n 2, 1) := by decide +kernel
theorem dX3_survey_46 : decode cX3_survey 46 = .ok (.iadd, 1) := by decide +kernel
theorem dX3_survey_47 : decode cX3_survey 47 = .ok (.aload_n 0, 1) := by decide +kernel
theorem dX3_survey_48 : decode cX3_survey 48 = .ok (.iload_n 1, 1) := by decide +kernel
theorem dX3_survey_49 : decode cX3_survey 49 = .ok (.iload_n 2, 1) := by decide +kernel
theorem dX3_survey_50 : decode cX3_survey 50 = .ok (.invokevirtual 53, 3) := by decide +kernel
theorem dX3_survey_53 : decode cX3_survey 53 = .ok (.iastore, 1) := by decide +kernel
theorem dX3_survey_54 : decode cX3_survey 54 = .ok (.iinc 2 1, 3) := by decide +kernel
theorem dX3_survey_57 : decode cX3_survey 57 = .ok (.goto (-43), 3) := by decide +kernel
theorem dX3_survey_60 : decode cX3_survey 60 = .ok (.iinc 1 1, 3) := by decide +kernel
theorem dX3_survey_63 : decode cX3_survey 63 = .ok (.goto (-57), 3) := by decide +kernel
theorem dX3_survey_66 : decode cX3_survey 66 = .ok (.return_, 1) := by decide +kernel
set_option maxHeartbeats 4000000 in
set_option maxRecDepth 100000 in
theorem c_X3_survey {l : Launch} {ω : xO} (hc : xsh ω = clS) {r : Nat} {M : xMem} (hb : rI r) (hL : LB (M (r + 1))) : Ct l ω yX3_survey ({ frames := 3, cells := 0, slots := 0, locals := 67 } : Room) 3 0 [.ref (xad ω r)] M none (suC M r) := by
  refine Ct.of (bytes := cX3_survey) (ret := none) (lv0 := [some (.ref (xad ω r)), none, none]) m_cd_X3_survey m_in_X3 (by decide +kernel) (by decide +kernel) rfl rfl rfl rfl (fun hR => suA_R hR hL (by omega)) ?_
  intro κ h he hR
  have hD := meC_B (r := M (r + 2)) hL
  refine x_aload_n h dX3_survey_0 rfl ?_
  refine x_V0v h dX3_survey_1 m_ml_X3_47 m_im_X3_measure m_se_X3_measure (sRd hc hb) rfl (by decide) rfl (c_X3_measure hc hb hL) ?_
  refine x_iconst h dX3_survey_4 ?_
  refine x_istore_n h dX3_survey_5 rfl rfl ?_
  dsimp only [xset]
  refine x_mem (M' := suA M r (((0 : Nat) : Int) * 10)) (suA_0.trans (by congr 1)) ?_
  refine loop_up (fun a => X ω κ 6 [some (.ref (xad ω r)), some (.int (iI (a : Int))), none] [] (suA M r ((a : Int) * 10))) 10 ?_ ?_
  · show X ω κ 6 [some (.ref (xad ω r)), some (.int (iI ((10 : Nat) : Int))), none] [] (suA M r (((10 : Nat) : Int) * 10))
    refine x_iload_n h dX3_survey_6 rfl ?_
    refine x_bipush h dX3_survey_7 (by decide) ?_
    refine x_icmp_ge h dX3_survey_9 (tgt := 66) (by decide) (by omega) (by omega) (fun q9 => ?_) (fun q9 => ?_)
    · exact x_vret h he dX3_survey_66 (by unfold suC; congr 1)
    · exfalso; omega
  · intro a ha iha
    replace iha : X ω κ 6 [some (.ref (xad ω r)), some (.int (iI ((a + 1 : Nat) : Int))), none] [] (suA M r (((a + 1 : Nat) : Int) * 10)) := iha
    show X ω κ 6 [some (.ref (xad ω r)), some (.int (iI (a : Int))), none] [] (suA M r ((a : Int) * 10))
    refine x_iload_n h dX3_survey_6 rfl ?_
    refine x_bipush h dX3_survey_7 (by decide) ?_
    refine x_icmp_ge h dX3_survey_9 (tgt := 66) (by decide) (by omega) (by omega) (fun q9 => ?_) (fun q9 => ?_)
    · exfalso; omega
    · refine x_iconst h dX3_survey_12 ?_
      refine x_istore_n h dX3_survey_13 rfl rfl ?_
      dsimp only [xset]
      refine x_mem (M' := suA M r ((a : Int) * 10 + ((0 : Nat) : Int))) (by congr 1 <;> omega) ?_
      refine loop_up (fun j => X ω κ 14 [some (.ref (xad ω r)), some (.int (iI (a : Int))), some (.int (iI (j : Int)))] [] (suA M r ((a : Int) * 10 + (j : Int)))) 10 ?_ ?_
      · show X ω κ 14 [some (.ref (xad ω r)), some (.int (iI (a : Int))), some (.int (iI ((10 : Nat) : Int)))] [] (suA M r ((a : Int) * 10 + ((10 : Nat) : Int)))
        refine x_iload_n h dX3_survey_14 rfl ?_
        refine x_bipush h dX3_survey_15 (by decide) ?_
        refine x_icmp_ge h dX3_survey_17 (tgt := 60) (by decide) (by omega) (by omega) (fun q17 => ?_) (fun q17 => ?_)
        · refine x_iinc h dX3_survey_60 rfl rfl rfl ?_
          dsimp only [xset]
          refine x_goto h dX3_survey_63 (tgt := 6) (by decide) ?_
          refine x_drop 2 ?_
          dsimp only [xclr]
          exact x_same iha rfl rfl (by congr 1 <;> omega)
        · exfalso; omega
      · intro j hj ihj
        replace ihj : X ω κ 14 [some (.ref (xad ω r)), some (.int (iI (a : Int))), some (.int (iI ((j + 1 : Nat) : Int)))] [] (suA M r ((a : Int) * 10 + ((j + 1 : Nat) : Int))) := ihj
        show X ω κ 14 [some (.ref (xad ω r)), some (.int (iI (a : Int))), some (.int (iI (j : Int)))] [] (suA M r ((a : Int) * 10 + (j : Int)))
        have e1 := suA_1 (M := M) (r := r) (n := (a : Int) * 10 + (j : Int))
        have e2 := suA_2 (M := M) (r := r) (n := (a : Int) * 10 + (j : Int))
        have n1 := nxF_R (L := M (r + 1)) (D := meC (M (r + 1)) (M (r + 2))) (a := (a : Int)) (c := (j : Int)) (by omega)
        have n2 := neF_R (L := M (r + 1)) (D := meC (M (r + 1)) (M (r + 2))) (a := (a : Int)) (c := (j : Int)) (by omega)
        refine x_iload_n h dX3_survey_14 rfl ?_
        refine x_bipush h dX3_survey_15 (by decide) ?_
        refine x_icmp_ge h dX3_survey_17 (tgt := 60) (by decide) (by omega) (by omega) (fun q17 => ?_) (fun q17 => ?_)
        · exfalso; omega
        · refine x_aload_n h dX3_survey_20 rfl ?_
          refine x_getr (j := 2) (q := r + 3) h dX3_survey_21 (sRd hc hb) rfl in_X3 rfl (by decide) m_fl_X3_18 ?_
          refine x_iload_n h dX3_survey_24 rfl ?_
          refine x_bipush h dX3_survey_25 (by decide) ?_
          refine x_imul h dX3_survey_27 ?_
          refine x_iload_n h dX3_survey_28 rfl ?_
          refine x_iadd h dX3_survey_29 ?_
          refine x_aload_n h dX3_survey_30 rfl ?_
          refine x_iload_n h dX3_survey_31 rfl ?_
          refine x_iload_n h dX3_survey_32 rfl ?_
          refine x_V2i h dX3_survey_33 m_ml_X3_50 m_im_X3_searchNext m_se_X3_searchNext (sRd hc hb) rfl (by decide) rfl (c_X3_searchNext hc hb e1 e2 hL hD (by omega) (by omega)) ?_
          refine x_iastore h dX3_survey_36 (sR3 hc hb) (by omega) (by omega) ?_
          refine x_aload_n h dX3_survey_37 rfl ?_
          refine x_getr (j := 3) (q := r + 4) h dX3_survey_38 (sRd hc hb) rfl in_X3 rfl (by decide) m_fl_X3_21 ?_
          refine x_iload_n h dX3_survey_41 rfl ?_
          refine x_bipush h dX3_survey_42 (by decide) ?_
          refine x_imul h dX3_survey_44 ?_
          refine x_iload_n h dX3_survey_45 rfl ?_
          refine x_iadd h dX3_survey_46 ?_
          refine x_aload_n h dX3_survey_47 rfl ?_
          refine x_iload_n h dX3_survey_48 rfl ?_
          refine x_iload_n h dX3_survey_49 rfl ?_
          refine x_V2i h dX3_survey_50 m_ml_X3_53 m_im_X3_searchNearest m_se_X3_searchNearest (sRd hc hb) rfl (by decide) rfl (c_X3_searchNearest hc hb (by rw [up_n (by omega)]; exact e1) (by rw [up_n (by omega)]; exact e2) hL hD (by omega) (by omega)) ?_
          refine x_iastore h dX3_survey_53 (sR4 hc hb) (by omega) (by omega) ?_
          refine x_mem (M' := suA M r ((a : Int) * 10 + ((j + 1 : Nat) : Int))) (by rw [suA_s rfl (by omega) (by omega)]; congr 1 <;> omega) ?_
          refine x_iinc h dX3_survey_54 rfl rfl rfl ?_
          dsimp only [xset]
          refine x_goto h dX3_survey_57 (tgt := 14) (by decide) ?_
          exact ihj

noncomputable def layC (M : xMem) (r : Nat) (a c v : Int) : xMem := suC (up (up M (r + 1) (a * 10 + c) v) (r + 1) (c * 10 + a) v) r
theorem LB_ur {L : Int → Int} {i v : Int} (h : LB L) (hv : 0 ≤ v ∧ v ≤ 9) : LB (ur L i v) := by
  intro j h1 h2
  unfold ur
  split
  · exact hv
  · exact h j h1 h2
theorem dX3_lay_0 : decode cX3_lay 0 = .ok (.iload_n 1, 1) := by decide +kernel
theorem dX3_lay_1 : decode cX3_lay 1 = .ok (.invokestatic 39, 3) := by decide +kernel
theorem dX3_lay_4 : decode cX3_lay 4 = .ok (.ifCond .eq 10, 3) := by decide +kernel
theorem dX3_lay_7 : decode cX3_lay 7 = .ok (.iload_n 2, 1) := by decide +kernel
theorem dX3_lay_8 : decode cX3_lay 8 = .ok (.invokestatic 39, 3) := by decide +kernel
theorem dX3_lay_11 : decode cX3_lay 11 = .ok (.ifCond .ne 4, 3) := by decide +kernel
theorem dX3_lay_14 : decode cX3_lay 14 = .ok (.return_, 1) := by decide +kernel
theorem dX3_lay_15 : decode cX3_lay 15 = .ok (.aload_n 0, 1) := by decide +kernel
theorem dX3_lay_16 : decode cX3_lay 16 = .ok (.getfield 9, 3) := by decide +kernel
theorem dX3_lay_19 : decode cX3_lay 19 = .ok (.iload_n 1, 1) := by decide +kernel
theorem dX3_lay_20 : decode cX3_lay 20 = .ok (.bipush 10, 2) := by decide +kernel
theorem dX3_lay_22 : decode cX3_lay 22 = .ok (.imul, 1) := by decide +kernel
theorem dX3_lay_23 : decode cX3_lay 23 = .ok (.iload_n 2, 1) := by decide +kernel
theorem dX3_lay_24 : decode cX3_lay 24 = .ok (.iadd, 1) := by decide +kernel
theorem dX3_lay_25 : decode cX3_lay 25 = .ok (.iload_n 3, 1) := by decide +kernel
theorem dX3_lay_26 : decode cX3_lay 26 = .ok (.iastore, 1) := by decide +kernel
theorem dX3_lay_27 : decode cX3_lay 27 = .ok (.aload_n 0, 1) := by decide +kernel
theorem dX3_lay_28 : decode cX3_lay 28 = .ok (.getfield 9, 3) := by decide +kernel
theorem dX3_lay_31 : decode cX3_lay 31 = .ok (.iload_n 2, 1) := by decide +kernel
theorem dX3_lay_32 : decode cX3_lay 32 = .ok (.bipush 10, 2) := by decide +kernel
theorem dX3_lay_34 : decode cX3_lay 34 = .ok (.imul, 1) := by decide +kernel
theorem dX3_lay_35 : decode cX3_lay 35 = .ok (.iload_n 1, 1) := by decide +kernel
theorem dX3_lay_36 : decode cX3_lay 36 = .ok (.iadd, 1) := by decide +kernel
theorem dX3_lay_37 : decode cX3_lay 37 = .ok (.iload_n 3, 1) := by decide +kernel
theorem dX3_lay_38 : decode cX3_lay 38 = .ok (.iastore, 1) := by decide +kernel
theorem dX3_lay_39 : decode cX3_lay 39 = .ok (.aload_n 0, 1) := by decide +kernel
theorem dX3_lay_40 : decode cX3_lay 40 = .ok (.invokevirtual 30, 3) := by decide +kernel
theorem dX3_lay_43 : decode cX3_lay 43 = .ok (.return_, 1) := by decide +kernel
set_option maxHeartbeats 4000000 in
set_option maxRecDepth 100000 in
theorem c_X3_lay {l : Launch} {ω : xO} (hc : xsh ω = clS) {r : Nat} {a c v : Int} {M : xMem} (hb : rI r) (hL : LB (M (r + 1))) (ha : plc a) (hc2 : plc c) (hv : 0 ≤ v ∧ v ≤ 9) : Ct l ω yX3_lay ({ frames := 4, cells := 0, slots := 0, locals := 89 } : Room) 4 3 [.ref (xad ω r), .int (iI a), .int (iI c), .int (iI v)] M none (layC M r a c v) := by
  refine Ct.of (bytes := cX3_lay) (ret := none) (lv0 := [some (.ref (xad ω r)), some (.int (iI a)), some (.int (iI c)), some (.int (iI v))]) m_cd_X3_lay m_in_X3 (by decide +kernel) (by decide +kernel) rfl rfl rfl rfl (fun hR => suA_R (up_R (up_R hR (by omega)) (by omega)) (by rw [up_s, up_s]; exact LB_ur (LB_ur hL hv) hv) (by omega)) ?_
  intro κ h he hR
  have hL2 : LB (up (up M (r + 1) (a * 10 + c) v) (r + 1) (c * 10 + a) v (r + 1)) := by rw [up_s, up_s]; exact LB_ur (LB_ur hL hv) hv
  refine x_iload_n h dX3_lay_0 rfl ?_
  refine x_N1i h dX3_lay_1 m_nl_X3_39 m_st_X6_isPlace (by decide) rfl (c_X6_isPlace hc (by omega)) ?_
  refine x_ifeqB h dX3_lay_4 (tgt := 14) (by decide) (fun q4 => ?_) (fun q4 => ?_)
  · exact x_vret h he dX3_lay_14 (by first | rfl | exact absurd ha (by assumption) | exact absurd hc2 (by assumption))
  · refine x_iload_n h dX3_lay_7 rfl ?_
    refine x_N1i h dX3_lay_8 m_nl_X3_39 m_st_X6_isPlace (by decide) rfl (c_X6_isPlace hc (by omega)) ?_
    refine x_ifneB h dX3_lay_11 (tgt := 15) (by decide) (fun q11 => ?_) (fun q11 => ?_)
    · refine x_aload_n h dX3_lay_15 rfl ?_
      refine x_getr (j := 0) (q := r + 1) h dX3_lay_16 (sRd hc hb) rfl in_X3 rfl (by decide) m_fl_X3_9 ?_
      refine x_iload_n h dX3_lay_19 rfl ?_
      refine x_bipush h dX3_lay_20 (by decide) ?_
      refine x_imul h dX3_lay_22 ?_
      refine x_iload_n h dX3_lay_23 rfl ?_
      refine x_iadd h dX3_lay_24 ?_
      refine x_iload_n h dX3_lay_25 rfl ?_
      refine x_iastore h dX3_lay_26 (sR1 hc hb) (by omega) (by omega) ?_
      refine x_aload_n h dX3_lay_27 rfl ?_
      refine x_getr (j := 0) (q := r + 1) h dX3_lay_28 (sRd hc hb) rfl in_X3 rfl (by decide) m_fl_X3_9 ?_
      refine x_iload_n h dX3_lay_31 rfl ?_
      refine x_bipush h dX3_lay_32 (by decide) ?_
      refine x_imul h dX3_lay_34 ?_
      refine x_iload_n h dX3_lay_35 rfl ?_
      refine x_iadd h dX3_lay_36 ?_
      refine x_iload_n h dX3_lay_37 rfl ?_
      refine x_iastore h dX3_lay_38 (sR1 hc hb) (by omega) (by omega) ?_
      refine x_aload_n h dX3_lay_39 rfl ?_
      refine x_V0v h dX3_lay_40 m_ml_X3_30 m_im_X3_survey m_se_X3_survey (sRd hc hb) rfl (by decide) rfl (c_X3_survey hc hb hL2) ?_
      exact x_vret h he dX3_lay_43 (by first | rfl | exact absurd ha (by assumption) | exact absurd hc2 (by assumption))
    · exact x_vret h he dX3_lay_14 (by first | rfl | exact absurd ha (by assumption) | exact absurd hc2 (by assumption))

def rbC (M : xMem) (r s j : Nat) : xMem := upr M (r + j) (rcp (M (s + j)) (M (r + j)) 0 0 100)
def rdC (M : xMem) (r s : Nat) : xMem := rbC (rbC (rbC (rbC M r s 1) r s 2) r s 3) r s 4
theorem rbC_R {M : xMem} {r s j : Nat} (h : xR M) : xR (rbC M r s j) := upr_R h fun i => rcp_R (h _) (h _) i
theorem dX3_become_0 : decode cX3_become 0 = .ok (.aload_n 1, 1) := by decide +kernel
theorem dX3_become_1 : decode cX3_become 1 = .ok (.getfield 9, 3) := by decide +kernel
theorem dX3_become_4 : decode cX3_become 4 = .ok (.iconst 0, 1) := by decide +kernel
theorem dX3_become_5 : decode cX3_become 5 = .ok (.aload_n 0, 1) := by decide +kernel
theorem dX3_become_6 : decode cX3_become 6 = .ok (.getfield 9, 3) := by decide +kernel
theorem dX3_become_9 : decode cX3_become 9 = .ok (.iconst 0, 1) := by decide +kernel
theorem dX3_become_10 : decode cX3_become 10 = .ok (.bipush 100, 2) := by decide +kernel
theorem dX3_become_12 : decode cX3_become 12 = .ok (.invokestatic 33, 3) := by decide +kernel
theorem dX3_become_15 : decode cX3_become 15 = .ok (.aload_n 1, 1) := by decide +kernel
theorem dX3_become_16 : decode cX3_become 16 = .ok (.getfield 15, 3) := by decide +kernel
theorem dX3_become_19 : decode cX3_become 19 = .ok (.iconst 0, 1) := by decide +kernel
theorem dX3_become_20 : decode cX3_become 20 = .ok (.aload_n 0, 1) := by decide +kernel
theorem dX3_become_21 : decode cX3_become 21 = .ok (.getfield 15, 3) := by decide +kernel
theorem dX3_become_24 : decode cX3_become 24 = .ok (.iconst 0, 1) := by decide +kernel
theorem dX3_become_25 : decode cX3_become 25 = .ok (.bipush 100, 2) := by decide +kernel
theorem dX3_become_27 : decode cX3_become 27 = .ok (.invokestatic 33, 3) := by decide +kernel
theorem dX3_become_30 : decode cX3_become 30 = .ok (.aload_n 1, 1) := by decide +kernel
theorem dX3_become_31 : decode cX3_become 31 = .ok (.getfield 18, 3) := by decide +kernel
theorem dX3_become_34 : decode cX3_become 34 = .ok (.iconst 0, 1) := by decide +kernel
theorem dX3_become_35 : decode cX3_become 35 = .ok (.aload_n 0, 1) := by decide +kernel
theorem dX3_become_36 : decode cX3_become 36 = .ok (.getfield 18, 3) := by decide +kernel
theorem dX3_become_39 : decode cX3_become 39 = .ok (.iconst 0, 1) := by decide +kernel
theorem dX3_become_40 : decode cX3_become 40 = .ok (.bipush 100, 2) := by decide +kernel
theorem dX3_become_42 : decode cX3_become 42 = .ok (.invokestatic 33, 3) := by decide +kernel
theorem dX3_become_45 : decode cX3_become 45 = .ok (.aload_n 1, 1) := by decide +kernel
theorem dX3_become_46 : decode cX3_become 46 = .ok (.getfield 21, 3) := by decide +kernel
theorem dX3_become_49 : decode cX3_become 49 = .ok (.iconst 0, 1) := by decide +kernel
theorem dX3_become_50 : decode cX3_become 50 = .ok (.aload_n 0, 1) := by decide +kernel
theorem dX3_become_51 : decode cX3_become 51 = .ok (.getfield 21, 3) := by decide +kernel
theorem dX3_become_54 : decode cX3_become 54 = .ok (.iconst 0, 1) := by decide +kernel
theorem dX3_become_55 : decode cX3_become 55 = .ok (.bipush 100, 2) := by decide +kernel
theorem dX3_become_57 : decode cX3_become 57 = .ok (.invokestatic 33, 3) := by decide +kernel
theorem dX3_become_60 : decode cX3_become 60 = .ok (.return_, 1) := by decide +kernel
set_option maxHeartbeats 4000000 in
set_option maxRecDepth 100000 in
theorem c_X3_become {l : Launch} {ω : xO} (hc : xsh ω = clS) {r s : Nat} {M : xMem} (hb : rI r) (hb2 : rI s) : Ct l ω yX3_become ({ frames := 1, cells := 0, slots := 0, locals := 60 } : Room) 2 1 [.ref (xad ω r), .ref (xad ω s)] M none (rdC M r s) := by
  refine Ct.of (bytes := cX3_become) (ret := none) (lv0 := [some (.ref (xad ω r)), some (.ref (xad ω s))]) m_cd_X3_become m_in_X3 (by decide +kernel) (by decide +kernel) rfl rfl rfl rfl (fun hR => rbC_R (rbC_R (rbC_R (rbC_R hR)))) ?_
  intro κ h he hR
  refine x_aload_n h dX3_become_0 rfl ?_
  refine x_getr (j := 0) (q := s + 1) h dX3_become_1 (sRd hc hb2) rfl in_X3 rfl (by decide) m_fl_X3_9 ?_
  refine x_iconst h dX3_become_4 ?_
  refine x_aload_n h dX3_become_5 rfl ?_
  refine x_getr (j := 0) (q := r + 1) h dX3_become_6 (sRd hc hb) rfl in_X3 rfl (by decide) m_fl_X3_9 ?_
  refine x_iconst h dX3_become_9 ?_
  refine x_bipush h dX3_become_10 (by decide) ?_
  refine x_copy h dX3_become_12 m_ml_X3_33 (sR1 hc hb2) (sR1 hc hb) (by omega) rfl (by decide) ?_
  refine x_aload_n h dX3_become_15 rfl ?_
  refine x_getr (j := 1) (q := s + 2) h dX3_become_16 (sRd hc hb2) rfl in_X3 rfl (by decide) m_fl_X3_15 ?_
  refine x_iconst h dX3_become_19 ?_
  refine x_aload_n h dX3_become_20 rfl ?_
  refine x_getr (j := 1) (q := r + 2) h dX3_become_21 (sRd hc hb) rfl in_X3 rfl (by decide) m_fl_X3_15 ?_
  refine x_iconst h dX3_become_24 ?_
  refine x_bipush h dX3_become_25 (by decide) ?_
  refine x_copy h dX3_become_27 m_ml_X3_33 (sR2 hc hb2) (sR2 hc hb) (by omega) rfl (by decide) ?_
  refine x_aload_n h dX3_become_30 rfl ?_
  refine x_getr (j := 2) (q := s + 3) h dX3_become_31 (sRd hc hb2) rfl in_X3 rfl (by decide) m_fl_X3_18 ?_
  refine x_iconst h dX3_become_34 ?_
  refine x_aload_n h dX3_become_35 rfl ?_
  refine x_getr (j := 2) (q := r + 3) h dX3_become_36 (sRd hc hb) rfl in_X3 rfl (by decide) m_fl_X3_18 ?_
  refine x_iconst h dX3_become_39 ?_
  refine x_bipush h dX3_become_40 (by decide) ?_
  refine x_copy h dX3_become_42 m_ml_X3_33 (sR3 hc hb2) (sR3 hc hb) (by omega) rfl (by decide) ?_
  refine x_aload_n h dX3_become_45 rfl ?_
  refine x_getr (j := 3) (q := s + 4) h dX3_become_46 (sRd hc hb2) rfl in_X3 rfl (by decide) m_fl_X3_21 ?_
  refine x_iconst h dX3_become_49 ?_
  refine x_aload_n h dX3_become_50 rfl ?_
  refine x_getr (j := 3) (q := r + 4) h dX3_become_51 (sRd hc hb) rfl in_X3 rfl (by decide) m_fl_X3_21 ?_
  refine x_iconst h dX3_become_54 ?_
  refine x_bipush h dX3_become_55 (by decide) ?_
  refine x_copy h dX3_become_57 m_ml_X3_33 (sR4 hc hb2) (sR4 hc hb) (by omega) rfl (by decide) ?_
  exact x_vret h he dX3_become_60 rfl

def laI (L : Int → Int) (a : Int) (s : Int) (n : Nat) : Int := xfo (fun b t => t + L (a * 10 + b)) s n
def laO (L : Int → Int) (n : Nat) : Int := xfo (fun a s => laI L a s a.toNat) 0 n
theorem dX3_lengthOfAll_0 : decode cX3_lengthOfAll 0 = .ok (.iconst 0, 1) := by decide +kernel
theorem dX3_lengthOfAll_1 : decode cX3_lengthOfAll 1 = .ok (.istore_n 1, 1) := by decide +kernel
theorem dX3_lengthOfAll_2 : decode cX3_lengthOfAll 2 = .ok (.iconst 0, 1) := by decide +kernel
theorem dX3_lengthOfAll_3 : decode cX3_lengthOfAll 3 = .ok (.istore_n 2, 1) := by decide +kernel
theorem dX3_lengthOfAll_4 : decode cX3_lengthOfAll 4 = .ok (.iload_n 2, 1) := by decide +kernel
theorem dX3_lengthOfAll_5 : decode cX3_lengthOfAll 5 = .ok (.bipush 10, 2) := by decide +kernel
theorem dX3_lengthOfAll_7 : decode cX3_lengthOfAll 7 = .ok (.if_icmp .ge 31, 3) := by decide +kernel
theorem dX3_lengthOfAll_10 : decode cX3_lengthOfAll 10 = .ok (.iconst 0, 1) := by decide +kernel
theorem dX3_lengthOfAll_11 : decode cX3_lengthOfAll 11 = .ok (.istore_n 3, 1) := by decide +kernel
theorem dX3_lengthOfAll_12 : decode cX3_lengthOfAll 12 = .ok (.iload_n 3, 1) := by decide +kernel
theorem dX3_lengthOfAll_13 : decode cX3_lengthOfAll 13 = .ok (.iload_n 2, 1) := by decide +kernel
theorem dX3_lengthOfAll_14 : decode cX3_lengthOfAll 14 = .ok (.if_icmp .ge 18, 3) := by decide +kernel
theorem dX3_lengthOfAll_17 : decode cX3_lengthOfAll 17 = .ok (.iload_n 1, 1) := by decide +kernel
theorem dX3_lengthOfAll_18 : decode cX3_lengthOfAll 18 = .ok (.aload_n 0, 1) := by decide +kernel
theorem dX3_lengthOfAll_19 : decode cX3_lengthOfAll 19 = .ok (.iload_n 2, 1) := by decide +kernel
theorem dX3_lengthOfAll_20 : decode cX3_lengthOfAll 20 = .ok (.iload_n 3, 1) := by decide +kernel
theorem dX3_lengthOfAll_21 : decode cX3_lengthOfAll 21 = .ok (.invokevirtual 43, 3) := by decide +kernel
theorem dX3_lengthOfAll_24 : decode cX3_lengthOfAll 24 = .ok (.iadd, 1) := by decide +kernel
theorem dX3_lengthOfAll_25 : decode cX3_lengthOfAll 25 = .ok (.istore_n 1, 1) := by decide +kernel
theorem dX3_lengthOfAll_26 : decode cX3_lengthOfAll 26 = .ok (.iinc 3 1, 3) := by decide +kernel
theorem dX3_lengthOfAll_29 : decode cX3_lengthOfAll 29 = .ok (.goto (-17), 3) := by decide +kernel
theorem dX3_lengthOfAll_32 : decode cX3_lengthOfAll 32 = .ok (.iinc 2 1, 3) := by decide +kernel
theorem dX3_lengthOfAll_35 : decode cX3_lengthOfAll 35 = .ok (.goto (-31), 3) := by decide +kernel
theorem dX3_lengthOfAll_38 : decode cX3_lengthOfAll 38 = .ok (.iload_n 1, 1) := by decide +kernel
theorem dX3_lengthOfAll_39 : decode cX3_lengthOfAll 39 = .ok (.ireturn, 1) := by decide +kernel
set_option maxHeartbeats 4000000 in
set_option maxRecDepth 100000 in
theorem c_X3_lengthOfAll {l : Launch} {ω : xO} (hc : xsh ω = clS) {r : Nat} {M : xMem} (hb : rI r) : Ct l ω yX3_lengthOfAll ({ frames := 2, cells := 0, slots := 0, locals := 42 } : Room) 4 0 [.ref (xad ω r)] M (some (.int (iI (laO (M (r + 1)) 10)))) M := by
  refine Ct.of (bytes := cX3_lengthOfAll) (ret := (some .int)) (lv0 := [some (.ref (xad ω r)), none, none, none]) m_cd_X3_lengthOfAll m_in_X3 (by decide +kernel) (by decide +kernel) rfl rfl rfl rfl (fun hR => hR) ?_
  intro κ h he hR
  refine x_iconst h dX3_lengthOfAll_0 ?_
  refine x_istore_n h dX3_lengthOfAll_1 rfl rfl ?_
  dsimp only [xset]
  refine x_iconst h dX3_lengthOfAll_2 ?_
  refine x_istore_n h dX3_lengthOfAll_3 rfl rfl ?_
  dsimp only [xset]
  refine loop_up (fun a => X ω κ 4 [some (.ref (xad ω r)), some (.int (iI (laO (M (r + 1)) a))), some (.int (iI (a : Int))), none] [] M) 10 ?_ ?_
  · show X ω κ 4 [some (.ref (xad ω r)), some (.int (iI (laO (M (r + 1)) 10))), some (.int (iI ((10 : Nat) : Int))), none] [] M
    refine x_iload_n h dX3_lengthOfAll_4 rfl ?_
    refine x_bipush h dX3_lengthOfAll_5 (by decide) ?_
    refine x_icmp_ge h dX3_lengthOfAll_7 (tgt := 38) (by decide) (by omega) (by omega) (fun q7 => ?_) (fun q7 => ?_)
    · refine x_iload_n h dX3_lengthOfAll_38 rfl ?_
      exact x_iret (ret := none) h he dX3_lengthOfAll_39 rfl (by first | rfl | omega | exact (bI_t (by omega)).symm | exact (bI_f (by omega)).symm) rfl
    · exfalso; omega
  · intro a ha iha
    replace iha : X ω κ 4 [some (.ref (xad ω r)), some (.int (iI (laO (M (r + 1)) (a + 1)))), some (.int (iI ((a + 1 : Nat) : Int))), none] [] M := iha
    show X ω κ 4 [some (.ref (xad ω r)), some (.int (iI (laO (M (r + 1)) a))), some (.int (iI (a : Int))), none] [] M
    refine x_iload_n h dX3_lengthOfAll_4 rfl ?_
    refine x_bipush h dX3_lengthOfAll_5 (by decide) ?_
    refine x_icmp_ge h dX3_lengthOfAll_7 (tgt := 38) (by decide) (by omega) (by omega) (fun q7 => ?_) (fun q7 => ?_)
    · exfalso; omega
    · refine x_iconst h dX3_lengthOfAll_10 ?_
      refine x_istore_n h dX3_lengthOfAll_11 rfl rfl ?_
      dsimp only [xset]
      refine loop_up (fun j => X ω κ 12 [some (.ref (xad ω r)), some (.int (iI (laI (M (r + 1)) (a : Int) (laO (M (r + 1)) a) j))), some (.int (iI (a : Int))), some (.int (iI (j : Int)))] [] M) a ?_ ?_
      · show X ω κ 12 [some (.ref (xad ω r)), some (.int (iI (laI (M (r + 1)) (a : Int) (laO (M (r + 1)) a) a))), some (.int (iI (a : Int))), some (.int (iI ((a : Nat) : Int)))] [] M
        refine x_iload_n h dX3_lengthOfAll_12 rfl ?_
        refine x_iload_n h dX3_lengthOfAll_13 rfl ?_
        refine x_icmp_ge h dX3_lengthOfAll_14 (tgt := 32) (by decide) (by omega) (by omega) (fun q14 => ?_) (fun q14 => ?_)
        · refine x_iinc h dX3_lengthOfAll_32 rfl rfl rfl ?_
          dsimp only [xset]
          refine x_goto h dX3_lengthOfAll_35 (tgt := 4) (by decide) ?_
          refine x_drop 3 ?_
          dsimp only [xclr]
          exact iha
        · exfalso; omega
      · intro j hj ihj
        replace ihj : X ω κ 12 [some (.ref (xad ω r)), some (.int (iI (laI (M (r + 1)) (a : Int) (laO (M (r + 1)) a) (j + 1)))), some (.int (iI (a : Int))), some (.int (iI ((j + 1 : Nat) : Int)))] [] M := ihj
        show X ω κ 12 [some (.ref (xad ω r)), some (.int (iI (laI (M (r + 1)) (a : Int) (laO (M (r + 1)) a) j))), some (.int (iI (a : Int))), some (.int (iI (j : Int)))] [] M
        refine x_iload_n h dX3_lengthOfAll_12 rfl ?_
        refine x_iload_n h dX3_lengthOfAll_13 rfl ?_
        refine x_icmp_ge h dX3_lengthOfAll_14 (tgt := 32) (by decide) (by omega) (by omega) (fun q14 => ?_) (fun q14 => ?_)
        · exfalso; omega
        · refine x_iload_n h dX3_lengthOfAll_17 rfl ?_
          refine x_aload_n h dX3_lengthOfAll_18 rfl ?_
          refine x_iload_n h dX3_lengthOfAll_19 rfl ?_
          refine x_iload_n h dX3_lengthOfAll_20 rfl ?_
          refine x_V2i h dX3_lengthOfAll_21 m_ml_X3_43 m_im_X3_lengthOf m_se_X3_lengthOf (sRd hc hb) rfl (by decide) rfl (c_X3_lengthOf hc hb (by omega) (by omega)) ?_
          refine x_iadd h dX3_lengthOfAll_24 ?_
          refine x_istore_n h dX3_lengthOfAll_25 rfl rfl ?_
          dsimp only [xset]
          refine x_iinc h dX3_lengthOfAll_26 rfl rfl rfl ?_
          dsimp only [xset]
          refine x_goto h dX3_lengthOfAll_29 (tgt := 12) (by decide) ?_
          exact ihj
