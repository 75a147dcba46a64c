/-! the class: PEOPLE: what they are, what they do in a STEP -/
abbrev slk (k : Int) : Int := if k = 5 then 3 else 0
abbrev goF (k : Int) : Int := if k = 2 ∨ k = 3 then 2 else if k = 4 then 3 else if k = 6 then 0 else 1
abbrev rnF (s : Int) : Int := if 0 < s then s - 1 else 0
abbrev dnF (s c : Int) : Int := if c % 2 = 0 then rnF s + 2 else rnF s
def pullsF (k s c : Int) : Int := if k = 1 then s + 5 else if k = 2 then rnF s else if k = 3 then dnF s c else if k = 4 then dnF s c / 2 else if k = 6 then (s + 5) * 2 else s

theorem dX6_slackOf_0 : decode cX6_slackOf 0 = .ok (.iload_n 0, 1) := by decide +kernel
theorem dX6_slackOf_1 : decode cX6_slackOf 1 = .ok (.iconst 5, 1) := by decide +kernel
theorem dX6_slackOf_2 : decode cX6_slackOf 2 = .ok (.if_icmp .ne 7, 3) := by decide +kernel
theorem dX6_slackOf_5 : decode cX6_slackOf 5 = .ok (.iconst 3, 1) := by decide +kernel
theorem dX6_slackOf_6 : decode cX6_slackOf 6 = .ok (.goto 4, 3) := by decide +kernel
theorem dX6_slackOf_9 : decode cX6_slackOf 9 = .ok (.iconst 0, 1) := by decide +kernel
theorem dX6_slackOf_10 : decode cX6_slackOf 10 = .ok (.ireturn, 1) := by decide +kernel
set_option maxHeartbeats 4000000 in
set_option maxRecDepth 100000 in
theorem c_X6_slackOf {l : Launch} {ω : xO} (hc : xsh ω = clS) {k : Int} {M : xMem} (hk : inR k) : Ct l ω yX6_slackOf ({ frames := 0, cells := 0, slots := 0, locals := 0 } : Room) 1 1 [.int (iI k)] M (some (.int (iI (slk k)))) M := by
  refine Ct.of (bytes := cX6_slackOf) (ret := (some .int)) (lv0 := [some (.int (iI k))]) m_cd_X6_slackOf m_in_X6 (by decide +kernel) (by decide +kernel) rfl rfl rfl rfl (fun hR => hR) ?_
  intro κ h he hR
  refine x_iload_n h dX6_slackOf_0 rfl ?_
  refine x_iconst h dX6_slackOf_1 ?_
  refine x_icmp_ne h dX6_slackOf_2 (tgt := 9) (by decide) (by omega) (by omega) (fun q2 => ?_) (fun q2 => ?_)
  · refine x_iconst h dX6_slackOf_9 ?_
    exact x_iret (ret := none) h he dX6_slackOf_10 rfl (by unfold slk; (repeat' split) <;> first | rfl | omega) rfl
  · refine x_iconst h dX6_slackOf_5 ?_
    refine x_goto h dX6_slackOf_6 (tgt := 10) (by decide) ?_
    exact x_iret (ret := none) h he dX6_slackOf_10 rfl (by unfold slk; (repeat' split) <;> first | rfl | omega) rfl

theorem dX6_goesOf_0 : decode cX6_goesOf 0 = .ok (.iload_n 0, 1) := by decide +kernel
theorem dX6_goesOf_1 : decode cX6_goesOf 1 = .ok (.tableswitch 43 2 6 #[35, 37, 39, 43, 41], 35) := by decide +kernel
theorem dX6_goesOf_36 : decode cX6_goesOf 36 = .ok (.iconst 2, 1) := by decide +kernel
theorem dX6_goesOf_37 : decode cX6_goesOf 37 = .ok (.ireturn, 1) := by decide +kernel
theorem dX6_goesOf_38 : decode cX6_goesOf 38 = .ok (.iconst 2, 1) := by decide +kernel
theorem dX6_goesOf_39 : decode cX6_goesOf 39 = .ok (.ireturn, 1) := by decide +kernel
theorem dX6_goesOf_40 : decode cX6_goesOf 40 = .ok (.iconst 3, 1) := by decide +kernel
theorem dX6_goesOf_41 : decode cX6_goesOf 41 = .ok (.ireturn, 1) := by decide +kernel
theorem dX6_goesOf_42 : decode cX6_goesOf 42 = .ok (.iconst 0, 1) := by decide +kernel
theorem dX6_goesOf_43 : decode cX6_goesOf 43 = .ok (.ireturn, 1) := by decide +kernel
theorem dX6_goesOf_44 : decode cX6_goesOf 44 = .ok (.iconst 1, 1) := by decide +kernel
theorem dX6_goesOf_45 : decode cX6_goesOf 45 = .ok (.ireturn, 1) := by decide +kernel
set_option maxHeartbeats 4000000 in
set_option maxRecDepth 100000 in
theorem c_X6_goesOf {l : Launch} {ω : xO} (hc : xsh ω = clS) {k : Int} {M : xMem} (hk : 0 ≤ k ∧ k ≤ 6) : Ct l ω yX6_goesOf ({ frames := 0, cells := 0, slots := 0, locals := 0 } : Room) 1 1 [.int (iI k)] M (some (.int (iI (goF k)))) M := by
  refine Ct.of (bytes := cX6_goesOf) (ret := (some .int)) (lv0 := [some (.int (iI k))]) m_cd_X6_goesOf m_in_X6 (by decide +kernel) (by decide +kernel) rfl rfl rfl rfl (fun hR => hR) ?_
  intro κ h he hR
  refine x_iload_n h dX6_goesOf_0 rfl ?_
  by_cases sw1 : k < 2 ∨ 6 < k
  · refine x_tsOut h dX6_goesOf_1 (by omega) sw1 (tgt := 44) (by decide) ?_
    refine x_iconst h dX6_goesOf_44 ?_
    exact x_iret (ret := none) h he dX6_goesOf_45 rfl (by unfold goF; (repeat' split) <;> first | rfl | omega) rfl
  rcases (show k = 2 ∨ k = 3 ∨ k = 4 ∨ k = 5 ∨ k = 6 by omega) with q1 | q1 | q1 | q1 | q1
  · refine x_tsIn 2 h dX6_goesOf_1 q1 (by decide) rfl (tgt := 36) (by decide) ?_
    refine x_iconst h dX6_goesOf_36 ?_
    exact x_iret (ret := none) h he dX6_goesOf_37 rfl (by unfold goF; (repeat' split) <;> first | rfl | omega) rfl
  · refine x_tsIn 3 h dX6_goesOf_1 q1 (by decide) rfl (tgt := 38) (by decide) ?_
    refine x_iconst h dX6_goesOf_38 ?_
    exact x_iret (ret := none) h he dX6_goesOf_39 rfl (by unfold goF; (repeat' split) <;> first | rfl | omega) rfl
  · refine x_tsIn 4 h dX6_goesOf_1 q1 (by decide) rfl (tgt := 40) (by decide) ?_
    refine x_iconst h dX6_goesOf_40 ?_
    exact x_iret (ret := none) h he dX6_goesOf_41 rfl (by unfold goF; (repeat' split) <;> first | rfl | omega) rfl
  · refine x_tsIn 5 h dX6_goesOf_1 q1 (by decide) rfl (tgt := 44) (by decide) ?_
    refine x_iconst h dX6_goesOf_44 ?_
    exact x_iret (ret := none) h he dX6_goesOf_45 rfl (by unfold goF; (repeat' split) <;> first | rfl | omega) rfl
  · refine x_tsIn 6 h dX6_goesOf_1 q1 (by decide) rfl (tgt := 42) (by decide) ?_
    refine x_iconst h dX6_goesOf_42 ?_
    exact x_iret (ret := none) h he dX6_goesOf_43 rfl (by unfold goF; (repeat' split) <;> first | rfl | omega) rfl

theorem dX6_pullsAs_0 : decode cX6_pullsAs 0 = .ok (.iload_n 1, 1) := by decide +kernel
theorem dX6_pullsAs_1 : decode cX6_pullsAs 1 = .ok (.iconst 5, 1) := by decide +kernel
theorem dX6_pullsAs_2 : decode cX6_pullsAs 2 = .ok (.iadd, 1) := by decide +kernel
theorem dX6_pullsAs_3 : decode cX6_pullsAs 3 = .ok (.istore_n 3, 1) := by decide +kernel
theorem dX6_pullsAs_4 : decode cX6_pullsAs 4 = .ok (.iload_n 1, 1) := by decide +kernel
theorem dX6_pullsAs_5 : decode cX6_pullsAs 5 = .ok (.ifCond .le 9, 3) := by decide +kernel
theorem dX6_pullsAs_8 : decode cX6_pullsAs 8 = .ok (.iload_n 1, 1) := by decide +kernel
theorem dX6_pullsAs_9 : decode cX6_pullsAs 9 = .ok (.iconst 1, 1) := by decide +kernel
theorem dX6_pullsAs_10 : decode cX6_pullsAs 10 = .ok (.isub, 1) := by decide +kernel
theorem dX6_pullsAs_11 : decode cX6_pullsAs 11 = .ok (.goto 4, 3) := by decide +kernel
theorem dX6_pullsAs_14 : decode cX6_pullsAs 14 = .ok (.iconst 0, 1) := by decide +kernel
theorem dX6_pullsAs_15 : decode cX6_pullsAs 15 = .ok (.istore 4, 2) := by decide +kernel
theorem dX6_pullsAs_17 : decode cX6_pullsAs 17 = .ok (.iload_n 2, 1) := by decide +kernel
theorem dX6_pullsAs_18 : decode cX6_pullsAs 18 = .ok (.iconst 1, 1) := by decide +kernel
theorem dX6_pullsAs_19 : decode cX6_pullsAs 19 = .ok (.iand, 1) := by decide +kernel
theorem dX6_pullsAs_20 : decode cX6_pullsAs 20 = .ok (.ifCond .ne 10, 3) := by decide +kernel
theorem dX6_pullsAs_23 : decode cX6_pullsAs 23 = .ok (.iload 4, 2) := by decide +kernel
theorem dX6_pullsAs_25 : decode cX6_pullsAs 25 = .ok (.iconst 2, 1) := by decide +kernel
theorem dX6_pullsAs_26 : decode cX6_pullsAs 26 = .ok (.iadd, 1) := by decide +kernel
theorem dX6_pullsAs_27 : decode cX6_pullsAs 27 = .ok (.goto 5, 3) := by decide +kernel
theorem dX6_pullsAs_30 : decode cX6_pullsAs 30 = .ok (.iload 4, 2) := by decide +kernel
theorem dX6_pullsAs_32 : decode cX6_pullsAs 32 = .ok (.istore 5, 2) := by decide +kernel
theorem dX6_pullsAs_34 : decode cX6_pullsAs 34 = .ok (.iload_n 0, 1) := by decide +kernel
theorem dX6_pullsAs_35 : decode cX6_pullsAs 35 = .ok (.tableswitch 54 1 6 #[37, 39, 42, 45, 54, 50], 37) := by decide +kernel
theorem dX6_pullsAs_72 : decode cX6_pullsAs 72 = .ok (.iload_n 3, 1) := by decide +kernel
theorem dX6_pullsAs_73 : decode cX6_pullsAs 73 = .ok (.ireturn, 1) := by decide +kernel
theorem dX6_pullsAs_74 : decode cX6_pullsAs 74 = .ok (.iload 4, 2) := by decide +kernel
theorem dX6_pullsAs_76 : decode cX6_pullsAs 76 = .ok (.ireturn, 1) := by decide +kernel
theorem dX6_pullsAs_77 : decode cX6_pullsAs 77 = .ok (.iload 5, 2) := by decide +kernel
theorem dX6_pullsAs_79 : decode cX6_pullsAs 79 = .ok (.ireturn, 1) := by decide +kernel
theorem dX6_pullsAs_80 : decode cX6_pullsAs 80 = .ok (.iload 5, 2) := by decide +kernel
theorem dX6_pullsAs_82 : decode cX6_pullsAs 82 = .ok (.iconst 2, 1) := by decide +kernel
theorem dX6_pullsAs_83 : decode cX6_pullsAs 83 = .ok (.idiv, 1) := by decide +kernel
theorem dX6_pullsAs_84 : decode cX6_pullsAs 84 = .ok (.ireturn, 1) := by decide +kernel
theorem dX6_pullsAs_85 : decode cX6_pullsAs 85 = .ok (.iload_n 3, 1) := by decide +kernel
theorem dX6_pullsAs_86 : decode cX6_pullsAs 86 = .ok (.iconst 2, 1) := by decide +kernel
theorem dX6_pullsAs_87 : decode cX6_pullsAs 87 = .ok (.imul, 1) := by decide +kernel
theorem dX6_pullsAs_88 : decode cX6_pullsAs 88 = .ok (.ireturn, 1) := by decide +kernel
theorem dX6_pullsAs_89 : decode cX6_pullsAs 89 = .ok (.iload_n 1, 1) := by decide +kernel
theorem dX6_pullsAs_90 : decode cX6_pullsAs 90 = .ok (.ireturn, 1) := by decide +kernel
set_option maxHeartbeats 4000000 in
set_option maxRecDepth 100000 in
theorem c_X6_pullsAs {l : Launch} {ω : xO} (hc : xsh ω = clS) {k s c : Int} {M : xMem} (hk : 0 ≤ k ∧ k ≤ 6) (hs : 0 ≤ s ∧ s ≤ 9) (hcl : 0 ≤ c ∧ c ≤ 2147483647) : Ct l ω yX6_pullsAs ({ frames := 0, cells := 0, slots := 0, locals := 0 } : Room) 6 3 [.int (iI k), .int (iI s), .int (iI c)] M (some (.int (iI (pullsF k s c)))) M := by
  refine Ct.of (bytes := cX6_pullsAs) (ret := (some .int)) (lv0 := [some (.int (iI k)), some (.int (iI s)), some (.int (iI c)), none, none, none]) m_cd_X6_pullsAs m_in_X6 (by decide +kernel) (by decide +kernel) rfl rfl rfl rfl (fun hR => hR) ?_
  intro κ h he hR
  have e1 : band c 1 = c % 2 := band_1 hcl
  have e2 : ∀ x : Int, 0 ≤ x → x ≤ 100 → bdiv x 2 = x / 2 := fun x h1 h2 => bdiv_p ⟨h1, by omega⟩ (by decide)
  refine x_iload_n h dX6_pullsAs_0 rfl ?_
  refine x_iconst h dX6_pullsAs_1 ?_
  refine x_iadd h dX6_pullsAs_2 ?_
  refine x_istore_n h dX6_pullsAs_3 rfl rfl ?_
  dsimp only [xset]
  refine x_iload_n h dX6_pullsAs_4 rfl ?_
  refine x_if_le h dX6_pullsAs_5 (tgt := 14) (by decide) (by omega) (fun q5 => ?_) (fun q5 => ?_)
  · refine x_iconst h dX6_pullsAs_14 ?_
    refine x_istore h dX6_pullsAs_15 rfl rfl ?_
    dsimp only [xset]
    refine x_iload_n h dX6_pullsAs_17 rfl ?_
    refine x_iconst h dX6_pullsAs_18 ?_
    refine x_iand h dX6_pullsAs_19 (fun r19 => ?_)
    refine x_if_ne h dX6_pullsAs_20 (tgt := 30) (by decide) (by omega) (fun q20 => ?_) (fun q20 => ?_)
    · refine x_iload h dX6_pullsAs_30 rfl ?_
      refine x_istore h dX6_pullsAs_32 rfl rfl ?_
      dsimp only [xset]
      refine x_iload_n h dX6_pullsAs_34 rfl ?_
      by_cases sw35 : k < 1 ∨ 6 < k
      · refine x_tsOut h dX6_pullsAs_35 (by omega) sw35 (tgt := 89) (by decide) ?_
        refine x_iload_n h dX6_pullsAs_89 rfl ?_
        exact x_iret (ret := none) h he dX6_pullsAs_90 rfl (by (try rw [e2 _ (by omega) (by omega)]); unfold pullsF dnF rnF; (repeat' split) <;> first | rfl | omega) rfl
      rcases (show k = 1 ∨ k = 2 ∨ k = 3 ∨ k = 4 ∨ k = 5 ∨ k = 6 by omega) with q35 | q35 | q35 | q35 | q35 | q35
      · refine x_tsIn 1 h dX6_pullsAs_35 q35 (by decide) rfl (tgt := 72) (by decide) ?_
        refine x_iload_n h dX6_pullsAs_72 rfl ?_
        exact x_iret (ret := none) h he dX6_pullsAs_73 rfl (by (try rw [e2 _ (by omega) (by omega)]); unfold pullsF dnF rnF; (repeat' split) <;> first | rfl | omega) rfl
      · refine x_tsIn 2 h dX6_pullsAs_35 q35 (by decide) rfl (tgt := 74) (by decide) ?_
        refine x_iload h dX6_pullsAs_74 rfl ?_
        exact x_iret (ret := none) h he dX6_pullsAs_76 rfl (by (try rw [e2 _ (by omega) (by omega)]); unfold pullsF dnF rnF; (repeat' split) <;> first | rfl | omega) rfl
      · refine x_tsIn 3 h dX6_pullsAs_35 q35 (by decide) rfl (tgt := 77) (by decide) ?_
        refine x_iload h dX6_pullsAs_77 rfl ?_
        exact x_iret (ret := none) h he dX6_pullsAs_79 rfl (by (try rw [e2 _ (by omega) (by omega)]); unfold pullsF dnF rnF; (repeat' split) <;> first | rfl | omega) rfl
      · refine x_tsIn 4 h dX6_pullsAs_35 q35 (by decide) rfl (tgt := 80) (by decide) ?_
        refine x_iload h dX6_pullsAs_80 rfl ?_
        refine x_iconst h dX6_pullsAs_82 ?_
        refine x_idiv h dX6_pullsAs_83 (by omega) (fun r83 => ?_)
        exact x_iret (ret := none) h he dX6_pullsAs_84 rfl (by (try rw [e2 _ (by omega) (by omega)]); unfold pullsF dnF rnF; (repeat' split) <;> first | rfl | omega) rfl
      · refine x_tsIn 5 h dX6_pullsAs_35 q35 (by decide) rfl (tgt := 89) (by decide) ?_
        refine x_iload_n h dX6_pullsAs_89 rfl ?_
        exact x_iret (ret := none) h he dX6_pullsAs_90 rfl (by (try rw [e2 _ (by omega) (by omega)]); unfold pullsF dnF rnF; (repeat' split) <;> first | rfl | omega) rfl
      · refine x_tsIn 6 h dX6_pullsAs_35 q35 (by decide) rfl (tgt := 85) (by decide) ?_
        refine x_iload_n h dX6_pullsAs_85 rfl ?_
        refine x_iconst h dX6_pullsAs_86 ?_
        refine x_imul h dX6_pullsAs_87 ?_
        exact x_iret (ret := none) h he dX6_pullsAs_88 rfl (by (try rw [e2 _ (by omega) (by omega)]); unfold pullsF dnF rnF; (repeat' split) <;> first | rfl | omega) rfl
    · refine x_iload h dX6_pullsAs_23 rfl ?_
      refine x_iconst h dX6_pullsAs_25 ?_
      refine x_iadd h dX6_pullsAs_26 ?_
      refine x_goto h dX6_pullsAs_27 (tgt := 32) (by decide) ?_
      refine x_istore h dX6_pullsAs_32 rfl rfl ?_
      dsimp only [xset]
      refine x_iload_n h dX6_pullsAs_34 rfl ?_
      by_cases sw35 : k < 1 ∨ 6 < k
      · refine x_tsOut h dX6_pullsAs_35 (by omega) sw35 (tgt := 89) (by decide) ?_
        refine x_iload_n h dX6_pullsAs_89 rfl ?_
        exact x_iret (ret := none) h he dX6_pullsAs_90 rfl (by (try rw [e2 _ (by omega) (by omega)]); unfold pullsF dnF rnF; (repeat' split) <;> first | rfl | omega) rfl
      rcases (show k = 1 ∨ k = 2 ∨ k = 3 ∨ k = 4 ∨ k = 5 ∨ k = 6 by omega) with q35 | q35 | q35 | q35 | q35 | q35
      · refine x_tsIn 1 h dX6_pullsAs_35 q35 (by decide) rfl (tgt := 72) (by decide) ?_
        refine x_iload_n h dX6_pullsAs_72 rfl ?_
        exact x_iret (ret := none) h he dX6_pullsAs_73 rfl (by (try rw [e2 _ (by omega) (by omega)]); unfold pullsF dnF rnF; (repeat' split) <;> first | rfl | omega) rfl
      · refine x_tsIn 2 h dX6_pullsAs_35 q35 (by decide) rfl (tgt := 74) (by decide) ?_
        refine x_iload h dX6_pullsAs_74 rfl ?_
        exact x_iret (ret := none) h he dX6_pullsAs_76 rfl (by (try rw [e2 _ (by omega) (by omega)]); unfold pullsF dnF rnF; (repeat' split) <;> first | rfl | omega) rfl
      · refine x_tsIn 3 h dX6_pullsAs_35 q35 (by decide) rfl (tgt := 77) (by decide) ?_
        refine x_iload h dX6_pullsAs_77 rfl ?_
        exact x_iret (ret := none) h he dX6_pullsAs_79 rfl (by (try rw [e2 _ (by omega) (by omega)]); unfold pullsF dnF rnF; (repeat' split) <;> first | rfl | omega) rfl
      · refine x_tsIn 4 h dX6_pullsAs_35 q35 (by decide) rfl (tgt := 80) (by decide) ?_
        refine x_iload h dX6_pullsAs_80 rfl ?_
        refine x_iconst h dX6_pullsAs_82 ?_
        refine x_idiv h dX6_pullsAs_83 (by omega) (fun r83 => ?_)
        exact x_iret (ret := none) h he dX6_pullsAs_84 rfl (by (try rw [e2 _ (by omega) (by omega)]); unfold pullsF dnF rnF; (repeat' split) <;> first | rfl | omega) rfl
      · refine x_tsIn 5 h dX6_pullsAs_35 q35 (by decide) rfl (tgt := 89) (by decide) ?_
        refine x_iload_n h dX6_pullsAs_89 rfl ?_
        exact x_iret (ret := none) h he dX6_pullsAs_90 rfl (by (try rw [e2 _ (by omega) (by omega)]); unfold pullsF dnF rnF; (repeat' split) <;> first | rfl | omega) rfl
      · refine x_tsIn 6 h dX6_pullsAs_35 q35 (by decide) rfl (tgt := 85) (by decide) ?_
        refine x_iload_n h dX6_pullsAs_85 rfl ?_
        refine x_iconst h dX6_pullsAs_86 ?_
        refine x_imul h dX6_pullsAs_87 ?_
        exact x_iret (ret := none) h he dX6_pullsAs_88 rfl (by (try rw [e2 _ (by omega) (by omega)]); unfold pullsF dnF rnF; (repeat' split) <;> first | rfl | omega) rfl
  · refine x_iload_n h dX6_pullsAs_8 rfl ?_
    refine x_iconst h dX6_pullsAs_9 ?_
    refine x_isub h dX6_pullsAs_10 ?_
    refine x_goto h dX6_pullsAs_11 (tgt := 15) (by decide) ?_
    refine x_istore h dX6_pullsAs_15 rfl rfl ?_
    dsimp only [xset]
    refine x_iload_n h dX6_pullsAs_17 rfl ?_
    refine x_iconst h dX6_pullsAs_18 ?_
    refine x_iand h dX6_pullsAs_19 (fun r19 => ?_)
    refine x_if_ne h dX6_pullsAs_20 (tgt := 30) (by decide) (by omega) (fun q20 => ?_) (fun q20 => ?_)
    · refine x_iload h dX6_pullsAs_30 rfl ?_
      refine x_istore h dX6_pullsAs_32 rfl rfl ?_
      dsimp only [xset]
      refine x_iload_n h dX6_pullsAs_34 rfl ?_
      by_cases sw35 : k < 1 ∨ 6 < k
      · refine x_tsOut h dX6_pullsAs_35 (by omega) sw35 (tgt := 89) (by decide) ?_
        refine x_iload_n h dX6_pullsAs_89 rfl ?_
        exact x_iret (ret := none) h he dX6_pullsAs_90 rfl (by (try rw [e2 _ (by omega) (by omega)]); unfold pullsF dnF rnF; (repeat' split) <;> first | rfl | omega) rfl
      rcases (show k = 1 ∨ k = 2 ∨ k = 3 ∨ k = 4 ∨ k = 5 ∨ k = 6 by omega) with q35 | q35 | q35 | q35 | q35 | q35
      · refine x_tsIn 1 h dX6_pullsAs_35 q35 (by decide) rfl (tgt := 72) (by decide) ?_
        refine x_iload_n h dX6_pullsAs_72 rfl ?_
        exact x_iret (ret := none) h he dX6_pullsAs_73 rfl (by (try rw [e2 _ (by omega) (by omega)]); unfold pullsF dnF rnF; (repeat' split) <;> first | rfl | omega) rfl
      · refine x_tsIn 2 h dX6_pullsAs_35 q35 (by decide) rfl (tgt := 74) (by decide) ?_
        refine x_iload h dX6_pullsAs_74 rfl ?_
        exact x_iret (ret := none) h he dX6_pullsAs_76 rfl (by (try rw [e2 _ (by omega) (by omega)]); unfold pullsF dnF rnF; (repeat' split) <;> first | rfl | omega) rfl
      · refine x_tsIn 3 h dX6_pullsAs_35 q35 (by decide) rfl (tgt := 77) (by decide) ?_
        refine x_iload h dX6_pullsAs_77 rfl ?_
        exact x_iret (ret := none) h he dX6_pullsAs_79 rfl (by (try rw [e2 _ (by omega) (by omega)]); unfold pullsF dnF rnF; (repeat' split) <;> first | rfl | omega) rfl
      · refine x_tsIn 4 h dX6_pullsAs_35 q35 (by decide) rfl (tgt := 80) (by decide) ?_
        refine x_iload h dX6_pullsAs_80 rfl ?_
        refine x_iconst h dX6_pullsAs_82 ?_
        refine x_idiv h dX6_pullsAs_83 (by omega) (fun r83 => ?_)
        exact x_iret (ret := none) h he dX6_pullsAs_84 rfl (by (try rw [e2 _ (by omega) (by omega)]); unfold pullsF dnF rnF; (repeat' split) <;> first | rfl | omega) rfl
      · refine x_tsIn 5 h dX6_pullsAs_35 q35 (by decide) rfl (tgt := 89) (by decide) ?_
        refine x_iload_n h dX6_pullsAs_89 rfl ?_
        exact x_iret (ret := none) h he dX6_pullsAs_90 rfl (by (try rw [e2 _ (by omega) (by omega)]); unfold pullsF dnF rnF; (repeat' split) <;> first | rfl | omega) rfl
      · refine x_tsIn 6 h dX6_pullsAs_35 q35 (by decide) rfl (tgt := 85) (by decide) ?_
        refine x_iload_n h dX6_pullsAs_85 rfl ?_
        refine x_iconst h dX6_pullsAs_86 ?_
        refine x_imul h dX6_pullsAs_87 ?_
        exact x_iret (ret := none) h he dX6_pullsAs_88 rfl (by (try rw [e2 _ (by omega) (by omega)]); unfold pullsF dnF rnF; (repeat' split) <;> first | rfl | omega) rfl
    · refine x_iload h dX6_pullsAs_23 rfl ?_
      refine x_iconst h dX6_pullsAs_25 ?_
      refine x_iadd h dX6_pullsAs_26 ?_
      refine x_goto h dX6_pullsAs_27 (tgt := 32) (by decide) ?_
      refine x_istore h dX6_pullsAs_32 rfl rfl ?_
      dsimp only [xset]
      refine x_iload_n h dX6_pullsAs_34 rfl ?_
      by_cases sw35 : k < 1 ∨ 6 < k
      · refine x_tsOut h dX6_pullsAs_35 (by omega) sw35 (tgt := 89) (by decide) ?_
        refine x_iload_n h dX6_pullsAs_89 rfl ?_
        exact x_iret (ret := none) h he dX6_pullsAs_90 rfl (by (try rw [e2 _ (by omega) (by omega)]); unfold pullsF dnF rnF; (repeat' split) <;> first | rfl | omega) rfl
      rcases (show k = 1 ∨ k = 2 ∨ k = 3 ∨ k = 4 ∨ k = 5 ∨ k = 6 by omega) with q35 | q35 | q35 | q35 | q35 | q35
      · refine x_tsIn 1 h dX6_pullsAs_35 q35 (by decide) rfl (tgt := 72) (by decide) ?_
        refine x_iload_n h dX6_pullsAs_72 rfl ?_
        exact x_iret (ret := none) h he dX6_pullsAs_73 rfl (by (try rw [e2 _ (by omega) (by omega)]); unfold pullsF dnF rnF; (repeat' split) <;> first | rfl | omega) rfl
      · refine x_tsIn 2 h dX6_pullsAs_35 q35 (by decide) rfl (tgt := 74) (by decide) ?_
        refine x_iload h dX6_pullsAs_74 rfl ?_
        exact x_iret (ret := none) h he dX6_pullsAs_76 rfl (by (try rw [e2 _ (by omega) (by omega)]); unfold pullsF dnF rnF; (repeat' split) <;> first | rfl | omega) rfl
      · refine x_tsIn 3 h dX6_pullsAs_35 q35 (by decide) rfl (tgt := 77) (by decide) ?_
        refine x_iload h dX6_pullsAs_77 rfl ?_
        exact x_iret (ret := none) h he dX6_pullsAs_79 rfl (by (try rw [e2 _ (by omega) (by omega)]); unfold pullsF dnF rnF; (repeat' split) <;> first | rfl | omega) rfl
      · refine x_tsIn 4 h dX6_pullsAs_35 q35 (by decide) rfl (tgt := 80) (by decide) ?_
        refine x_iload h dX6_pullsAs_80 rfl ?_
        refine x_iconst h dX6_pullsAs_82 ?_
        refine x_idiv h dX6_pullsAs_83 (by omega) (fun r83 => ?_)
        exact x_iret (ret := none) h he dX6_pullsAs_84 rfl (by (try rw [e2 _ (by omega) (by omega)]); unfold pullsF dnF rnF; (repeat' split) <;> first | rfl | omega) rfl
      · refine x_tsIn 5 h dX6_pullsAs_35 q35 (by decide) rfl (tgt := 89) (by decide) ?_
        refine x_iload_n h dX6_pullsAs_89 rfl ?_
        exact x_iret (ret := none) h he dX6_pullsAs_90 rfl (by (try rw [e2 _ (by omega) (by omega)]); unfold pullsF dnF rnF; (repeat' split) <;> first | rfl | omega) rfl
      · refine x_tsIn 6 h dX6_pullsAs_35 q35 (by decide) rfl (tgt := 85) (by decide) ?_
        refine x_iload_n h dX6_pullsAs_85 rfl ?_
        refine x_iconst h dX6_pullsAs_86 ?_
        refine x_imul h dX6_pullsAs_87 ?_
        exact x_iret (ret := none) h he dX6_pullsAs_88 rfl (by (try rw [e2 _ (by omega) (by omega)]); unfold pullsF dnF rnF; (repeat' split) <;> first | rfl | omega) rfl
