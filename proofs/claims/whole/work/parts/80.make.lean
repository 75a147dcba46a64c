/-! the class: ROADS alone, while they are made -/
def rdS : List xS := [.inr (.inl (3, foR 0)), .inl 100, .inl 100, .inl 100, .inl 100]
abbrev rJ (r : Nat) : Prop := r = 0
section TR
variable {ω : xO} {r : Nat}
theorem tRd (hc : xsh ω = rdS) (hr : rJ r) : (xsh ω)[r]? = some (.inr (.inl (3, foR r))) := by rw [hc]; rcases hr with rfl; rfl
theorem tR1 (hc : xsh ω = rdS) (hr : rJ r) : (xsh ω)[r + 1]? = some (.inl 100) := by rw [hc]; rcases hr with rfl; rfl
theorem tR2 (hc : xsh ω = rdS) (hr : rJ r) : (xsh ω)[r + 2]? = some (.inl 100) := by rw [hc]; rcases hr with rfl; rfl
theorem tR3 (hc : xsh ω = rdS) (hr : rJ r) : (xsh ω)[r + 3]? = some (.inl 100) := by rw [hc]; rcases hr with rfl; rfl
theorem tR4 (hc : xsh ω = rdS) (hr : rJ r) : (xsh ω)[r + 4]? = some (.inl 100) := by rw [hc]; rcases hr with rfl; rfl
end TR
set_option maxHeartbeats 4000000 in
set_option maxRecDepth 100000 in
theorem k_X6_isPlace {l : Launch} {ω : xO} (hc : xsh ω = rdS) {a : Int} {M : xMem} (ha : inR a) : Ct l ω yX6_isPlace ({ frames := 0, cells := 0, slots := 0, locals := 0 } : Room) 1 1 [.int (iI a)] M (some (.int (iI (bI (0 ≤ a ∧ a < 10))))) M := by
  refine Ct.of (bytes := cX6_isPlace) (ret := (some .boolean)) (lv0 := [some (.int (iI a))]) m_cd_X6_isPlace m_in_X6 (by decide +kernel) (by decide +kernel) rfl rfl rfl rfl (fun hR => hR) ?_
  intro κ h he hR
  refine x_iload_n h dX6_isPlace_0 rfl ?_
  refine x_if_lt h dX6_isPlace_1 (tgt := 14) (by decide) (by omega) (fun q1 => ?_) (fun q1 => ?_)
  · refine x_iconst h dX6_isPlace_14 ?_
    exact x_zret h he dX6_isPlace_15 (by first | exact Or.inl rfl | exact Or.inr rfl | exact bI_01 _ | omega) rfl (by first | rfl | omega | exact (bI_t (by omega)).symm | exact (bI_f (by omega)).symm) rfl
  · refine x_iload_n h dX6_isPlace_4 rfl ?_
    refine x_bipush h dX6_isPlace_5 (by decide) ?_
    refine x_icmp_ge h dX6_isPlace_7 (tgt := 14) (by decide) (by omega) (by omega) (fun q7 => ?_) (fun q7 => ?_)
    · refine x_iconst h dX6_isPlace_14 ?_
      exact x_zret h he dX6_isPlace_15 (by first | exact Or.inl rfl | exact Or.inr rfl | exact bI_01 _ | omega) rfl (by first | rfl | omega | exact (bI_t (by omega)).symm | exact (bI_f (by omega)).symm) rfl
    · refine x_iconst h dX6_isPlace_10 ?_
      refine x_goto h dX6_isPlace_11 (tgt := 15) (by decide) ?_
      exact x_zret h he dX6_isPlace_15 (by first | exact Or.inl rfl | exact Or.inr rfl | exact bI_01 _ | omega) rfl (by first | rfl | omega | exact (bI_t (by omega)).symm | exact (bI_f (by omega)).symm) rfl
set_option maxHeartbeats 4000000 in
set_option maxRecDepth 100000 in
theorem k_X3_distance {l : Launch} {ω : xO} (hc : xsh ω = rdS) {r : Nat} {a c : Int} {M : xMem} (hb : rJ r) (ha : plc a) (hc2 : plc c) : Ct l ω yX3_distance ({ frames := 1, cells := 0, slots := 0, locals := 20 } : Room) 3 2 [.ref (xad ω r), .int (iI a), .int (iI c)] M (some (.int (iI (M (r + 2) (a * 10 + c))))) M := by
  refine Ct.of (bytes := cX3_distance) (ret := (some .int)) (lv0 := [some (.ref (xad ω r)), some (.int (iI a)), some (.int (iI c))]) m_cd_X3_distance m_in_X3 (by decide +kernel) (by decide +kernel) rfl rfl rfl rfl (fun hR => hR) ?_
  intro κ h he hR
  refine x_iload_n h dX3_distance_0 rfl ?_
  refine x_N1i h dX3_distance_1 m_nl_X3_39 m_st_X6_isPlace (by decide) rfl (k_X6_isPlace hc (by omega)) ?_
  refine x_ifeqB h dX3_distance_4 (tgt := 28) (by decide) (fun q4 => ?_) (fun q4 => ?_)
  · refine x_sipush h dX3_distance_28 (by decide) ?_
    exact x_iret (ret := none) h he dX3_distance_31 rfl (by first | rfl | exact absurd ha (by assumption) | exact absurd hc2 (by assumption)) rfl
  · refine x_iload_n h dX3_distance_7 rfl ?_
    refine x_N1i h dX3_distance_8 m_nl_X3_39 m_st_X6_isPlace (by decide) rfl (k_X6_isPlace hc (by omega)) ?_
    refine x_ifeqB h dX3_distance_11 (tgt := 28) (by decide) (fun q11 => ?_) (fun q11 => ?_)
    · refine x_sipush h dX3_distance_28 (by decide) ?_
      exact x_iret (ret := none) h he dX3_distance_31 rfl (by first | rfl | exact absurd ha (by assumption) | exact absurd hc2 (by assumption)) rfl
    · refine x_aload_n h dX3_distance_14 rfl ?_
      refine x_getr (j := 1) (q := r + 2) h dX3_distance_15 (tRd hc hb) rfl in_X3 rfl (by decide) m_fl_X3_15 ?_
      refine x_iload_n h dX3_distance_18 rfl ?_
      refine x_bipush h dX3_distance_19 (by decide) ?_
      refine x_imul h dX3_distance_21 ?_
      refine x_iload_n h dX3_distance_22 rfl ?_
      refine x_iadd h dX3_distance_23 ?_
      refine x_iaload h dX3_distance_24 (tR2 hc hb) (by omega) (fun r24 => ?_)
      refine x_goto h dX3_distance_25 (tgt := 31) (by decide) ?_
      exact x_iret (ret := none) h he dX3_distance_31 rfl (by first | rfl | exact absurd ha (by assumption) | exact absurd hc2 (by assumption)) rfl
set_option maxHeartbeats 4000000 in
set_option maxRecDepth 100000 in
theorem k_X3_lengthOf {l : Launch} {ω : xO} (hc : xsh ω = rdS) {r : Nat} {a c : Int} {M : xMem} (hb : rJ r) (ha : plc a) (hc2 : plc c) : Ct l ω yX3_lengthOf ({ frames := 1, cells := 0, slots := 0, locals := 20 } : Room) 3 2 [.ref (xad ω r), .int (iI a), .int (iI c)] M (some (.int (iI (M (r + 1) (a * 10 + c))))) M := by
  refine Ct.of (bytes := cX3_lengthOf) (ret := (some .int)) (lv0 := [some (.ref (xad ω r)), some (.int (iI a)), some (.int (iI c))]) m_cd_X3_lengthOf m_in_X3 (by decide +kernel) (by decide +kernel) rfl rfl rfl rfl (fun hR => hR) ?_
  intro κ h he hR
  refine x_iload_n h dX3_lengthOf_0 rfl ?_
  refine x_N1i h dX3_lengthOf_1 m_nl_X3_39 m_st_X6_isPlace (by decide) rfl (k_X6_isPlace hc (by omega)) ?_
  refine x_ifeqB h dX3_lengthOf_4 (tgt := 28) (by decide) (fun q4 => ?_) (fun q4 => ?_)
  · refine x_iconst h dX3_lengthOf_28 ?_
    exact x_iret (ret := none) h he dX3_lengthOf_29 rfl (by first | rfl | exact absurd ha (by assumption) | exact absurd hc2 (by assumption)) rfl
  · refine x_iload_n h dX3_lengthOf_7 rfl ?_
    refine x_N1i h dX3_lengthOf_8 m_nl_X3_39 m_st_X6_isPlace (by decide) rfl (k_X6_isPlace hc (by omega)) ?_
    refine x_ifeqB h dX3_lengthOf_11 (tgt := 28) (by decide) (fun q11 => ?_) (fun q11 => ?_)
    · refine x_iconst h dX3_lengthOf_28 ?_
      exact x_iret (ret := none) h he dX3_lengthOf_29 rfl (by first | rfl | exact absurd ha (by assumption) | exact absurd hc2 (by assumption)) rfl
    · refine x_aload_n h dX3_lengthOf_14 rfl ?_
      refine x_getr (j := 0) (q := r + 1) h dX3_lengthOf_15 (tRd hc hb) rfl in_X3 rfl (by decide) m_fl_X3_9 ?_
      refine x_iload_n h dX3_lengthOf_18 rfl ?_
      refine x_bipush h dX3_lengthOf_19 (by decide) ?_
      refine x_imul h dX3_lengthOf_21 ?_
      refine x_iload_n h dX3_lengthOf_22 rfl ?_
      refine x_iadd h dX3_lengthOf_23 ?_
      refine x_iaload h dX3_lengthOf_24 (tR1 hc hb) (by omega) (fun r24 => ?_)
      refine x_goto h dX3_lengthOf_25 (tgt := 29) (by decide) ?_
      exact x_iret (ret := none) h he dX3_lengthOf_29 rfl (by first | rfl | exact absurd ha (by assumption) | exact absurd hc2 (by assumption)) rfl
set_option maxHeartbeats 4000000 in
set_option maxRecDepth 100000 in
theorem k_X3_measure {l : Launch} {ω : xO} (hc : xsh ω = rdS) {r : Nat} {M : xMem} (hb : rJ r) (hL : LB (M (r + 1))) : Ct l ω yX3_measure ({ frames := 0, cells := 0, slots := 0, locals := 0 } : Room) 6 0 [.ref (xad ω r)] M none (upr M (r + 2) (meC (M (r + 1)) (M (r + 2)))) := by
  refine Ct.of (bytes := cX3_measure) (ret := none) (lv0 := [some (.ref (xad ω r)), none, none, none, none, none]) m_cd_X3_measure m_in_X3 (by decide +kernel) (by decide +kernel) rfl rfl rfl rfl (fun hR => upr_R hR (meC_R hL (hR (r + 2)))) ?_
  intro κ h he hR
  refine x_iconst h dX3_measure_0 ?_
  refine x_istore_n h dX3_measure_1 rfl rfl ?_
  dsimp only [xset]
  refine x_mem (M' := upr M (r + 2) (fiC (d0F (M (r + 1))) (((0 : Nat) : Int) * 10 + 0) (M (r + 2)))) (by rw [show ((0 : Nat) : Int) * 10 + 0 = 0 from rfl, fiC_0, upr_self]) ?_
  refine loop_up (fun a => X ω κ 2 [some (.ref (xad ω r)), some (.int (iI (a : Int))), none, none, none, none] [] (upr M (r + 2) (fiC (d0F (M (r + 1))) ((a : Int) * 10 + 0) (M (r + 2))))) 10 ?_ ?_
  · show X ω κ 2 [some (.ref (xad ω r)), some (.int (iI ((10 : Nat) : Int))), none, none, none, none] [] (upr M (r + 2) (fiC (d0F (M (r + 1))) (((10 : Nat) : Int) * 10 + 0) (M (r + 2))))
    refine x_iload_n h dX3_measure_2 rfl ?_
    refine x_bipush h dX3_measure_3 (by decide) ?_
    refine x_icmp_ge h dX3_measure_5 (tgt := 71) (by decide) (by omega) (by omega) (fun q5 => ?_) (fun q5 => ?_)
    · refine x_iconst h dX3_measure_71 ?_
      refine x_istore_n h dX3_measure_72 rfl rfl ?_
      dsimp only [xset]
      refine x_mem (M' := upr M (r + 2) (fwC (fiC (d0F (M (r + 1))) 100 (M (r + 2))) 0)) (by rfl) ?_
      refine loop_up (fun y => X ω κ 73 [some (.ref (xad ω r)), some (.int (iI (y : Int))), none, none, none, none] [] (upr M (r + 2) (fwC (fiC (d0F (M (r + 1))) 100 (M (r + 2))) y))) 10 ?_ ?_
      · show X ω κ 73 [some (.ref (xad ω r)), some (.int (iI ((10 : Nat) : Int))), none, none, none, none] [] (upr M (r + 2) (fwC (fiC (d0F (M (r + 1))) 100 (M (r + 2))) 10))
        refine x_iload_n h dX3_measure_73 rfl ?_
        refine x_bipush h dX3_measure_74 (by decide) ?_
        refine x_icmp_ge h dX3_measure_76 (tgt := 174) (by decide) (by omega) (by omega) (fun q76 => ?_) (fun q76 => ?_)
        · exact x_vret h he dX3_measure_174 rfl
        · exfalso; omega
      · intro y hy ihy
        replace ihy : X ω κ 73 [some (.ref (xad ω r)), some (.int (iI ((y + 1 : Nat) : Int))), none, none, none, none] [] (upr M (r + 2) (fwC (fiC (d0F (M (r + 1))) 100 (M (r + 2))) (y + 1))) := ihy
        show X ω κ 73 [some (.ref (xad ω r)), some (.int (iI (y : Int))), none, none, none, none] [] (upr M (r + 2) (fwC (fiC (d0F (M (r + 1))) 100 (M (r + 2))) y))
        have hD0 := fwC_B (d0F_B (r := M (r + 2)) hL) y (by omega)
        revert ihy
        rw [fwC_s (fiC (d0F (M (r + 1))) 100 (M (r + 2))) y]
        generalize fwC (fiC (d0F (M (r + 1))) 100 (M (r + 2))) y = D0 at hD0 ⊢
        intro ihy
        refine x_iload_n h dX3_measure_73 rfl ?_
        refine x_bipush h dX3_measure_74 (by decide) ?_
        refine x_icmp_ge h dX3_measure_76 (tgt := 174) (by decide) (by omega) (by omega) (fun q76 => ?_) (fun q76 => ?_)
        · exfalso; omega
        · refine x_iconst h dX3_measure_79 ?_
          refine x_istore_n h dX3_measure_80 rfl rfl ?_
          dsimp only [xset]
          refine loop_up (fun a => X ω κ 81 [some (.ref (xad ω r)), some (.int (iI (y : Int))), some (.int (iI (a : Int))), none, none, none] [] (upr M (r + 2) (xfo (fwA (y : Int)) D0 a))) 10 ?_ ?_
          · show X ω κ 81 [some (.ref (xad ω r)), some (.int (iI (y : Int))), some (.int (iI ((10 : Nat) : Int))), none, none, none] [] (upr M (r + 2) (xfo (fwA (y : Int)) D0 10))
            refine x_iload_n h dX3_measure_81 rfl ?_
            refine x_bipush h dX3_measure_82 (by decide) ?_
            refine x_icmp_ge h dX3_measure_84 (tgt := 168) (by decide) (by omega) (by omega) (fun q84 => ?_) (fun q84 => ?_)
            · refine x_iinc h dX3_measure_168 rfl rfl rfl ?_
              dsimp only [xset]
              refine x_goto h dX3_measure_171 (tgt := 73) (by decide) ?_
              refine x_drop 2 ?_
              dsimp only [xclr]
              exact ihy
            · exfalso; omega
          · intro a ha iha
            replace iha : X ω κ 81 [some (.ref (xad ω r)), some (.int (iI (y : Int))), some (.int (iI ((a + 1 : Nat) : Int))), none, none, none] [] (upr M (r + 2) (xfo (fwA (y : Int)) D0 (a + 1))) := iha
            show X ω κ 81 [some (.ref (xad ω r)), some (.int (iI (y : Int))), some (.int (iI (a : Int))), none, none, none] [] (upr M (r + 2) (xfo (fwA (y : Int)) D0 a))
            have hD1 := fwK_B hD0 (y := (y : Int)) ⟨by omega, by omega⟩ a (by omega)
            revert iha
            rw [xfo_s (fwA (y : Int)) D0 a]
            generalize xfo (fwA (y : Int)) D0 a = D1 at hD1 ⊢
            intro iha
            refine x_iload_n h dX3_measure_81 rfl ?_
            refine x_bipush h dX3_measure_82 (by decide) ?_
            refine x_icmp_ge h dX3_measure_84 (tgt := 168) (by decide) (by omega) (by omega) (fun q84 => ?_) (fun q84 => ?_)
            · exfalso; omega
            · refine x_aload_n h dX3_measure_87 rfl ?_
              refine x_getr (j := 1) (q := r + 2) h dX3_measure_88 (tRd hc hb) rfl in_X3 rfl (by decide) m_fl_X3_15 ?_
              refine x_iload_n h dX3_measure_91 rfl ?_
              refine x_bipush h dX3_measure_92 (by decide) ?_
              refine x_imul h dX3_measure_94 ?_
              refine x_iload_n h dX3_measure_95 rfl ?_
              refine x_iadd h dX3_measure_96 ?_
              refine x_iaload h dX3_measure_97 (tR2 hc hb) (by omega) (fun r97 => ?_)
              rw [upr_s]
              refine x_istore_n h dX3_measure_98 rfl rfl ?_
              dsimp only [xset]
              refine x_iconst h dX3_measure_99 ?_
              refine x_istore h dX3_measure_100 rfl rfl ?_
              dsimp only [xset]
              refine loop_up (fun j => X ω κ 102 [some (.ref (xad ω r)), some (.int (iI (y : Int))), some (.int (iI (a : Int))), some (.int (iI (D1 ((a : Int) * 10 + (y : Int))))), some (.int (iI (j : Int))), none] [] (upr M (r + 2) (xfo (fwB (y : Int) (a : Int) (D1 ((a : Int) * 10 + (y : Int)))) D1 j))) 10 ?_ ?_
              · show X ω κ 102 [some (.ref (xad ω r)), some (.int (iI (y : Int))), some (.int (iI (a : Int))), some (.int (iI (D1 ((a : Int) * 10 + (y : Int))))), some (.int (iI ((10 : Nat) : Int))), none] [] (upr M (r + 2) (xfo (fwB (y : Int) (a : Int) (D1 ((a : Int) * 10 + (y : Int)))) D1 10))
                refine x_iload h dX3_measure_102 rfl ?_
                refine x_bipush h dX3_measure_104 (by decide) ?_
                refine x_icmp_ge h dX3_measure_106 (tgt := 162) (by decide) (by omega) (by omega) (fun q106 => ?_) (fun q106 => ?_)
                · refine x_iinc h dX3_measure_162 rfl rfl rfl ?_
                  dsimp only [xset]
                  refine x_goto h dX3_measure_165 (tgt := 81) (by decide) ?_
                  refine x_drop 3 ?_
                  dsimp only [xclr]
                  refine x_drop 4 ?_
                  dsimp only [xclr]
                  exact iha
                · exfalso; omega
              · intro j hj ihj
                replace ihj : X ω κ 102 [some (.ref (xad ω r)), some (.int (iI (y : Int))), some (.int (iI (a : Int))), some (.int (iI (D1 ((a : Int) * 10 + (y : Int))))), some (.int (iI ((j + 1 : Nat) : Int))), none] [] (upr M (r + 2) (xfo (fwB (y : Int) (a : Int) (D1 ((a : Int) * 10 + (y : Int)))) D1 (j + 1))) := ihj
                show X ω κ 102 [some (.ref (xad ω r)), some (.int (iI (y : Int))), some (.int (iI (a : Int))), some (.int (iI (D1 ((a : Int) * 10 + (y : Int))))), some (.int (iI (j : Int))), none] [] (upr M (r + 2) (xfo (fwB (y : Int) (a : Int) (D1 ((a : Int) * 10 + (y : Int)))) D1 j))
                have hD2 := fwA_B hD1 (y := (y : Int)) (a := (a : Int)) ⟨by omega, by omega⟩ ⟨by omega, by omega⟩ j (by omega)
                have f1 := hD1 ((a : Int) * 10 + (y : Int)) (by omega) (by omega)
                revert ihj
                rw [xfo_s (fwB (y : Int) (a : Int) (D1 ((a : Int) * 10 + (y : Int)))) D1 j]
                generalize xfo (fwB (y : Int) (a : Int) (D1 ((a : Int) * 10 + (y : Int)))) D1 j = D2 at hD2 ⊢
                intro ihj
                have f2 := hD2 ((y : Int) * 10 + (j : Int)) (by omega) (by omega)
                have f3 := hD2 ((a : Int) * 10 + (j : Int)) (by omega) (by omega)
                refine x_iload h dX3_measure_102 rfl ?_
                refine x_bipush h dX3_measure_104 (by decide) ?_
                refine x_icmp_ge h dX3_measure_106 (tgt := 162) (by decide) (by omega) (by omega) (fun q106 => ?_) (fun q106 => ?_)
                · exfalso; omega
                · refine x_iload_n h dX3_measure_109 rfl ?_
                  refine x_aload_n h dX3_measure_110 rfl ?_
                  refine x_getr (j := 1) (q := r + 2) h dX3_measure_111 (tRd hc hb) rfl in_X3 rfl (by decide) m_fl_X3_15 ?_
                  refine x_iload_n h dX3_measure_114 rfl ?_
                  refine x_bipush h dX3_measure_115 (by decide) ?_
                  refine x_imul h dX3_measure_117 ?_
                  refine x_iload h dX3_measure_118 rfl ?_
                  refine x_iadd h dX3_measure_120 ?_
                  refine x_iaload h dX3_measure_121 (tR2 hc hb) (by omega) (fun r121 => ?_)
                  rw [upr_s]
                  refine x_iadd h dX3_measure_122 ?_
                  refine x_istore h dX3_measure_123 rfl rfl ?_
                  dsimp only [xset]
                  refine x_iload h dX3_measure_125 rfl ?_
                  refine x_aload_n h dX3_measure_127 rfl ?_
                  refine x_getr (j := 1) (q := r + 2) h dX3_measure_128 (tRd hc hb) rfl in_X3 rfl (by decide) m_fl_X3_15 ?_
                  refine x_iload_n h dX3_measure_131 rfl ?_
                  refine x_bipush h dX3_measure_132 (by decide) ?_
                  refine x_imul h dX3_measure_134 ?_
                  refine x_iload h dX3_measure_135 rfl ?_
                  refine x_iadd h dX3_measure_137 ?_
                  refine x_iaload h dX3_measure_138 (tR2 hc hb) (by omega) (fun r138 => ?_)
                  rw [upr_s]
                  refine x_icmp_ge h dX3_measure_139 (tgt := 156) (by decide) (by omega) (by omega) (fun q139 => ?_) (fun q139 => ?_)
                  · refine x_iinc h dX3_measure_156 rfl rfl rfl ?_
                    dsimp only [xset]
                    refine x_goto h dX3_measure_159 (tgt := 102) (by decide) ?_
                    refine x_drop 5 ?_
                    dsimp only [xclr]
                    exact x_same ihj rfl rfl (by unfold fwB; first | rw [if_neg (Int.not_lt.mpr q139)] | rw [if_pos (Int.not_le.mp q139), up_upr])
                  · refine x_aload_n h dX3_measure_142 rfl ?_
                    refine x_getr (j := 1) (q := r + 2) h dX3_measure_143 (tRd hc hb) rfl in_X3 rfl (by decide) m_fl_X3_15 ?_
                    refine x_iload_n h dX3_measure_146 rfl ?_
                    refine x_bipush h dX3_measure_147 (by decide) ?_
                    refine x_imul h dX3_measure_149 ?_
                    refine x_iload h dX3_measure_150 rfl ?_
                    refine x_iadd h dX3_measure_152 ?_
                    refine x_iload h dX3_measure_153 rfl ?_
                    refine x_iastore h dX3_measure_155 (tR2 hc hb) (by omega) (by omega) ?_
                    refine x_iinc h dX3_measure_156 rfl rfl rfl ?_
                    dsimp only [xset]
                    refine x_goto h dX3_measure_159 (tgt := 102) (by decide) ?_
                    refine x_drop 5 ?_
                    dsimp only [xclr]
                    exact x_same ihj rfl rfl (by unfold fwB; first | rw [if_neg (Int.not_lt.mpr q139)] | rw [if_pos (Int.not_le.mp q139), up_upr])
    · exfalso; omega
  · intro a ha iha
    replace iha : X ω κ 2 [some (.ref (xad ω r)), some (.int (iI ((a + 1 : Nat) : Int))), none, none, none, none] [] (upr M (r + 2) (fiC (d0F (M (r + 1))) (((a + 1 : Nat) : Int) * 10 + 0) (M (r + 2)))) := iha
    show X ω κ 2 [some (.ref (xad ω r)), some (.int (iI (a : Int))), none, none, none, none] [] (upr M (r + 2) (fiC (d0F (M (r + 1))) ((a : Int) * 10 + 0) (M (r + 2))))
    refine x_iload_n h dX3_measure_2 rfl ?_
    refine x_bipush h dX3_measure_3 (by decide) ?_
    refine x_icmp_ge h dX3_measure_5 (tgt := 71) (by decide) (by omega) (by omega) (fun q5 => ?_) (fun q5 => ?_)
    · exfalso; omega
    · refine x_iconst h dX3_measure_8 ?_
      refine x_istore_n h dX3_measure_9 rfl rfl ?_
      dsimp only [xset]
      refine x_mem (M' := upr M (r + 2) (fiC (d0F (M (r + 1))) ((a : Int) * 10 + ((0 : Nat) : Int)) (M (r + 2)))) rfl ?_
      refine loop_up (fun j => X ω κ 10 [some (.ref (xad ω r)), some (.int (iI (a : Int))), some (.int (iI (j : Int))), none, none, none] [] (upr M (r + 2) (fiC (d0F (M (r + 1))) ((a : Int) * 10 + (j : Int)) (M (r + 2))))) 10 ?_ ?_
      · show X ω κ 10 [some (.ref (xad ω r)), some (.int (iI (a : Int))), some (.int (iI ((10 : Nat) : Int))), none, none, none] [] (upr M (r + 2) (fiC (d0F (M (r + 1))) ((a : Int) * 10 + ((10 : Nat) : Int)) (M (r + 2))))
        refine x_iload_n h dX3_measure_10 rfl ?_
        refine x_bipush h dX3_measure_11 (by decide) ?_
        refine x_icmp_ge h dX3_measure_13 (tgt := 65) (by decide) (by omega) (by omega) (fun q13 => ?_) (fun q13 => ?_)
        · refine x_iinc h dX3_measure_65 rfl rfl rfl ?_
          dsimp only [xset]
          refine x_goto h dX3_measure_68 (tgt := 2) (by decide) ?_
          refine x_drop 2 ?_
          dsimp only [xclr]
          exact x_same iha rfl rfl (by rw [show ((a + 1 : Nat) : Int) * 10 + 0 = (a : Int) * 10 + ((10 : Nat) : Int) by omega])
        · exfalso; omega
      · intro j hj ihj
        replace ihj : X ω κ 10 [some (.ref (xad ω r)), some (.int (iI (a : Int))), some (.int (iI ((j + 1 : Nat) : Int))), none, none, none] [] (upr M (r + 2) (fiC (d0F (M (r + 1))) ((a : Int) * 10 + ((j + 1 : Nat) : Int)) (M (r + 2)))) := ihj
        show X ω κ 10 [some (.ref (xad ω r)), some (.int (iI (a : Int))), some (.int (iI (j : Int))), none, none, none] [] (upr M (r + 2) (fiC (d0F (M (r + 1))) ((a : Int) * 10 + (j : Int)) (M (r + 2))))
        have eL : upr M (r + 2) (fiC (d0F (M (r + 1))) ((a : Int) * 10 + (j : Int)) (M (r + 2))) (r + 1) = M (r + 1) := upr_n (by omega)
        have hl := hL ((a : Int) * 10 + (j : Int)) (by omega) (by omega)
        refine x_iload_n h dX3_measure_10 rfl ?_
        refine x_bipush h dX3_measure_11 (by decide) ?_
        refine x_icmp_ge h dX3_measure_13 (tgt := 65) (by decide) (by omega) (by omega) (fun q13 => ?_) (fun q13 => ?_)
        · exfalso; omega
        · refine x_aload_n h dX3_measure_16 rfl ?_
          refine x_getr (j := 0) (q := r + 1) h dX3_measure_17 (tRd hc hb) rfl in_X3 rfl (by decide) m_fl_X3_9 ?_
          refine x_iload_n h dX3_measure_20 rfl ?_
          refine x_bipush h dX3_measure_21 (by decide) ?_
          refine x_imul h dX3_measure_23 ?_
          refine x_iload_n h dX3_measure_24 rfl ?_
          refine x_iadd h dX3_measure_25 ?_
          refine x_iaload h dX3_measure_26 (tR1 hc hb) (by omega) (fun r26 => ?_)
          rw [eL]
          refine x_istore_n h dX3_measure_27 rfl rfl ?_
          dsimp only [xset]
          refine x_aload_n h dX3_measure_28 rfl ?_
          refine x_getr (j := 1) (q := r + 2) h dX3_measure_29 (tRd hc hb) rfl in_X3 rfl (by decide) m_fl_X3_15 ?_
          refine x_iload_n h dX3_measure_32 rfl ?_
          refine x_bipush h dX3_measure_33 (by decide) ?_
          refine x_imul h dX3_measure_35 ?_
          refine x_iload_n h dX3_measure_36 rfl ?_
          refine x_iadd h dX3_measure_37 ?_
          refine x_iload_n h dX3_measure_38 rfl ?_
          refine x_iload_n h dX3_measure_39 rfl ?_
          refine x_icmp_ne h dX3_measure_40 (tgt := 47) (by decide) (by omega) (by omega) (fun q40 => ?_) (fun q40 => ?_)
          · refine x_iload_n h dX3_measure_47 rfl ?_
            refine x_if_ne h dX3_measure_48 (tgt := 57) (by decide) (by omega) (fun q48 => ?_) (fun q48 => ?_)
            · refine x_iload_n h dX3_measure_57 rfl ?_
              refine x_iastore h dX3_measure_58 (tR2 hc hb) (by omega) (by omega) ?_
              refine x_mem (M' := upr M (r + 2) (fiC (d0F (M (r + 1))) ((a : Int) * 10 + ((j + 1 : Nat) : Int)) (M (r + 2)))) (by rw [up_upr, show ((a : Int) * 10 + ((j + 1 : Nat) : Int)) = ((a : Int) * 10 + (j : Int)) + 1 by omega, ← fiC_s (by omega)]; congr 2; unfold d0F; rw [show ((a : Int) * 10 + (j : Int)) / 10 = (a : Int) by omega, show ((a : Int) * 10 + (j : Int)) % 10 = (j : Int) by omega]; first | rw [if_pos (by assumption)] | rw [if_neg (by assumption), if_pos (by assumption)] | rw [if_neg (by assumption), if_neg (by assumption)]) ?_
              refine x_iinc h dX3_measure_59 rfl rfl rfl ?_
              dsimp only [xset]
              refine x_goto h dX3_measure_62 (tgt := 10) (by decide) ?_
              refine x_drop 3 ?_
              dsimp only [xclr]
              exact ihj
            · refine x_sipush h dX3_measure_51 (by decide) ?_
              refine x_goto h dX3_measure_54 (tgt := 58) (by decide) ?_
              refine x_iastore h dX3_measure_58 (tR2 hc hb) (by omega) (by omega) ?_
              refine x_mem (M' := upr M (r + 2) (fiC (d0F (M (r + 1))) ((a : Int) * 10 + ((j + 1 : Nat) : Int)) (M (r + 2)))) (by rw [up_upr, show ((a : Int) * 10 + ((j + 1 : Nat) : Int)) = ((a : Int) * 10 + (j : Int)) + 1 by omega, ← fiC_s (by omega)]; congr 2; unfold d0F; rw [show ((a : Int) * 10 + (j : Int)) / 10 = (a : Int) by omega, show ((a : Int) * 10 + (j : Int)) % 10 = (j : Int) by omega]; first | rw [if_pos (by assumption)] | rw [if_neg (by assumption), if_pos (by assumption)] | rw [if_neg (by assumption), if_neg (by assumption)]) ?_
              refine x_iinc h dX3_measure_59 rfl rfl rfl ?_
              dsimp only [xset]
              refine x_goto h dX3_measure_62 (tgt := 10) (by decide) ?_
              refine x_drop 3 ?_
              dsimp only [xclr]
              exact ihj
          · refine x_iconst h dX3_measure_43 ?_
            refine x_goto h dX3_measure_44 (tgt := 58) (by decide) ?_
            refine x_iastore h dX3_measure_58 (tR2 hc hb) (by omega) (by omega) ?_
            refine x_mem (M' := upr M (r + 2) (fiC (d0F (M (r + 1))) ((a : Int) * 10 + ((j + 1 : Nat) : Int)) (M (r + 2)))) (by rw [up_upr, show ((a : Int) * 10 + ((j + 1 : Nat) : Int)) = ((a : Int) * 10 + (j : Int)) + 1 by omega, ← fiC_s (by omega)]; congr 2; unfold d0F; rw [show ((a : Int) * 10 + (j : Int)) / 10 = (a : Int) by omega, show ((a : Int) * 10 + (j : Int)) % 10 = (j : Int) by omega]; first | rw [if_pos (by assumption)] | rw [if_neg (by assumption), if_pos (by assumption)] | rw [if_neg (by assumption), if_neg (by assumption)]) ?_
            refine x_iinc h dX3_measure_59 rfl rfl rfl ?_
            dsimp only [xset]
            refine x_goto h dX3_measure_62 (tgt := 10) (by decide) ?_
            refine x_drop 3 ?_
            dsimp only [xclr]
            exact ihj
set_option maxHeartbeats 4000000 in
set_option maxRecDepth 100000 in
theorem k_X3_searchNext {l : Launch} {ω : xO} (hc : xsh ω = rdS) {r : Nat} {a c : Int} {L D : Int → Int} {M : xMem} (hb : rJ r) (eL : M (r + 1) = L) (eD : M (r + 2) = D) (hL : LB L) (hD : DB D) (ha : plc a) (hc2 : plc c) : Ct l ω yX3_searchNext ({ frames := 2, cells := 0, slots := 0, locals := 42 } : Room) 5 2 [.ref (xad ω r), .int (iI a), .int (iI c)] M (some (.int (iI (nxF L D a c)))) M := by
  refine Ct.of (bytes := cX3_searchNext) (ret := (some .int)) (lv0 := [some (.ref (xad ω r)), some (.int (iI a)), some (.int (iI c)), none, none]) m_cd_X3_searchNext m_in_X3 (by decide +kernel) (by decide +kernel) rfl rfl rfl rfl (fun hR => hR) ?_
  intro κ h he hR
  refine x_iload_n h dX3_searchNext_0 rfl ?_
  refine x_iload_n h dX3_searchNext_1 rfl ?_
  refine x_icmp_eq h dX3_searchNext_2 (tgt := 17) (by decide) (by omega) (by omega) (fun q2 => ?_) (fun q2 => ?_)
  · refine x_iload_n h dX3_searchNext_17 rfl ?_
    exact x_iret (ret := none) h he dX3_searchNext_18 rfl (by rw [nxF, tI_p (by first | exact Or.inl (by assumption) | exact Or.inr (by assumption))]) rfl
  · refine x_aload_n h dX3_searchNext_5 rfl ?_
    refine x_iload_n h dX3_searchNext_6 rfl ?_
    refine x_iload_n h dX3_searchNext_7 rfl ?_
    refine x_V2i h dX3_searchNext_8 m_ml_X3_56 m_im_X3_distance m_se_X3_distance (tRd hc hb) rfl (by decide) rfl (k_X3_distance hc hb (by omega) (by omega)) ?_
    rw [eD]
    have f0 := hD (a * 10 + c) (by omega) (by omega)
    refine x_sipush h dX3_searchNext_11 (by decide) ?_
    refine x_icmp_ne h dX3_searchNext_14 (tgt := 19) (by decide) (by omega) (by omega) (fun q14 => ?_) (fun q14 => ?_)
    · have hne : ¬ (a = c ∨ D (a * 10 + c) = 999) := by omega
      refine x_iconst h dX3_searchNext_19 ?_
      refine x_istore_n h dX3_searchNext_20 rfl rfl ?_
      dsimp only [xset]
      have H : ∀ (d : Nat) (i : Int), 0 ≤ i → i + d = 10 → fsF (nxP L D a c) d i a = fsF (nxP L D a c) 10 0 a → X ω κ 21 [some (.ref (xad ω r)), some (.int (iI a)), some (.int (iI c)), some (.int (iI i)), none] [] M := by
        intro d
        induction d with
        | zero =>
          intro i hi0 hid e
          refine x_iload_n h dX3_searchNext_21 rfl ?_
          refine x_bipush h dX3_searchNext_22 (by decide) ?_
          refine x_icmp_ge h dX3_searchNext_24 (tgt := 66) (by decide) (by omega) (by omega) (fun q24 => ?_) (fun q24 => ?_)
          · refine x_iload_n h dX3_searchNext_66 rfl ?_
            exact x_iret (ret := none) h he dX3_searchNext_67 rfl (by rw [nxF, tI_n hne, ← e]; rfl) rfl
          · exfalso; omega
        | succ d ih =>
          intro i hi0 hid e
          have f1 := hL (a * 10 + i) (by omega) (by omega)
          have f2 := hD (a * 10 + c) (by omega) (by omega)
          have f3 := hD (i * 10 + c) (by omega) (by omega)
          refine x_iload_n h dX3_searchNext_21 rfl ?_
          refine x_bipush h dX3_searchNext_22 (by decide) ?_
          refine x_icmp_ge h dX3_searchNext_24 (tgt := 66) (by decide) (by omega) (by omega) (fun q24 => ?_) (fun q24 => ?_)
          · exfalso; omega
          · refine x_aload_n h dX3_searchNext_27 rfl ?_
            refine x_iload_n h dX3_searchNext_28 rfl ?_
            refine x_iload_n h dX3_searchNext_29 rfl ?_
            refine x_V2i h dX3_searchNext_30 m_ml_X3_43 m_im_X3_lengthOf m_se_X3_lengthOf (tRd hc hb) rfl (by decide) rfl (k_X3_lengthOf hc hb (by omega) (by omega)) ?_
            refine x_istore h dX3_searchNext_33 rfl rfl ?_
            dsimp only [xset]
            rw [eL]
            refine x_iload h dX3_searchNext_35 rfl ?_
            refine x_if_le h dX3_searchNext_37 (tgt := 60) (by decide) (by omega) (fun q37 => ?_) (fun q37 => ?_)
            · refine x_iinc h dX3_searchNext_60 rfl rfl rfl ?_
              dsimp only [xset]
              refine x_goto h dX3_searchNext_63 (tgt := 21) (by decide) ?_
              refine x_drop 4 ?_
              dsimp only [xclr]
              refine ih (i + 1) (by omega) (by omega) ?_
              rw [← e, fsF]
              first | rw [tI_n (fun z => q55 z.2)] | rw [tI_n (fun z => absurd z.1 (by omega))]
            · refine x_aload_n h dX3_searchNext_40 rfl ?_
              refine x_iload_n h dX3_searchNext_41 rfl ?_
              refine x_iload_n h dX3_searchNext_42 rfl ?_
              refine x_V2i h dX3_searchNext_43 m_ml_X3_56 m_im_X3_distance m_se_X3_distance (tRd hc hb) rfl (by decide) rfl (k_X3_distance hc hb (by omega) (by omega)) ?_
              rw [eD]
              refine x_iload h dX3_searchNext_46 rfl ?_
              refine x_aload_n h dX3_searchNext_48 rfl ?_
              refine x_iload_n h dX3_searchNext_49 rfl ?_
              refine x_iload_n h dX3_searchNext_50 rfl ?_
              refine x_V2i h dX3_searchNext_51 m_ml_X3_56 m_im_X3_distance m_se_X3_distance (tRd hc hb) rfl (by decide) rfl (k_X3_distance hc hb (by omega) (by omega)) ?_
              rw [eD]
              refine x_iadd h dX3_searchNext_54 ?_
              refine x_icmp_ne h dX3_searchNext_55 (tgt := 60) (by decide) (by omega) (by omega) (fun q55 => ?_) (fun q55 => ?_)
              · refine x_iinc h dX3_searchNext_60 rfl rfl rfl ?_
                dsimp only [xset]
                refine x_goto h dX3_searchNext_63 (tgt := 21) (by decide) ?_
                refine x_drop 4 ?_
                dsimp only [xclr]
                refine ih (i + 1) (by omega) (by omega) ?_
                rw [← e, fsF]
                first | rw [tI_n (fun z => q55 z.2)] | rw [tI_n (fun z => absurd z.1 (by omega))]
              · refine x_iload_n h dX3_searchNext_58 rfl ?_
                exact x_iret (ret := none) h he dX3_searchNext_59 rfl (by rw [nxF, tI_n hne, ← e, fsF, tI_p ⟨by omega, q55⟩]) rfl
      exact H 10 0 (by omega) (by omega) rfl
    · refine x_iload_n h dX3_searchNext_17 rfl ?_
      exact x_iret (ret := none) h he dX3_searchNext_18 rfl (by rw [nxF, tI_p (by first | exact Or.inl (by assumption) | exact Or.inr (by assumption))]) rfl
set_option maxHeartbeats 4000000 in
set_option maxRecDepth 100000 in
theorem k_X3_searchNearest {l : Launch} {ω : xO} (hc : xsh ω = rdS) {r : Nat} {a c : Int} {L D : Int → Int} {M : xMem} (hb : rJ r) (eL : M (r + 1) = L) (eD : M (r + 2) = D) (hL : LB L) (hD : DB D) (ha : plc a) (hc2 : plc c) : Ct l ω yX3_searchNearest ({ frames := 2, cells := 0, slots := 0, locals := 42 } : Room) 6 2 [.ref (xad ω r), .int (iI a), .int (iI c)] M (some (.int (iI (neF L D a c)))) M := by
  refine Ct.of (bytes := cX3_searchNearest) (ret := (some .int)) (lv0 := [some (.ref (xad ω r)), some (.int (iI a)), some (.int (iI c)), none, none, none]) m_cd_X3_searchNearest m_in_X3 (by decide +kernel) (by decide +kernel) rfl rfl rfl rfl (fun hR => hR) ?_
  intro κ h he hR
  refine x_iconst h dX3_searchNearest_0 ?_
  refine x_istore_n h dX3_searchNearest_1 rfl rfl ?_
  dsimp only [xset]
  refine x_iconst h dX3_searchNearest_2 ?_
  refine x_istore h dX3_searchNearest_3 rfl rfl ?_
  dsimp only [xset]
  refine loop_up (fun k => X ω κ 5 [some (.ref (xad ω r)), some (.int (iI a)), some (.int (iI c)), some (.int (iI (neR L D a c k))), some (.int (iI (k : Int))), none] [] M) 10 ?_ ?_
  · show X ω κ 5 [some (.ref (xad ω r)), some (.int (iI a)), some (.int (iI c)), some (.int (iI (neR L D a c 10))), some (.int (iI ((10 : Nat) : Int))), none] [] M
    have nr := neR_R L D a c 10
    refine x_iload h dX3_searchNearest_5 rfl ?_
    refine x_bipush h dX3_searchNearest_7 (by decide) ?_
    refine x_icmp_ge h dX3_searchNearest_9 (tgt := 64) (by decide) (by omega) (by omega) (fun q9 => ?_) (fun q9 => ?_)
    · refine x_iload_n h dX3_searchNearest_64 rfl ?_
      refine x_iconst h dX3_searchNearest_65 ?_
      refine x_icmp_ne h dX3_searchNearest_66 (tgt := 73) (by decide) (by omega) (by omega) (fun q66 => ?_) (fun q66 => ?_)
      · refine x_iload_n h dX3_searchNearest_73 rfl ?_
        exact x_iret (ret := none) h he dX3_searchNearest_74 rfl (by unfold neF; first | rw [if_pos (by assumption)] | rw [if_neg (by assumption)]) rfl
      · refine x_iload_n h dX3_searchNearest_69 rfl ?_
        refine x_goto h dX3_searchNearest_70 (tgt := 74) (by decide) ?_
        exact x_iret (ret := none) h he dX3_searchNearest_74 rfl (by unfold neF; first | rw [if_pos (by assumption)] | rw [if_neg (by assumption)]) rfl
    · exfalso; omega
  · intro k hk ihk
    replace ihk : X ω κ 5 [some (.ref (xad ω r)), some (.int (iI a)), some (.int (iI c)), some (.int (iI (neR L D a c (k + 1)))), some (.int (iI ((k + 1 : Nat) : Int))), none] [] M := ihk
    show X ω κ 5 [some (.ref (xad ω r)), some (.int (iI a)), some (.int (iI c)), some (.int (iI (neR L D a c k))), some (.int (iI (k : Int))), none] [] M
    have nr := neR_R L D a c k
    have f1 := hL (a * 10 + (k : Int)) (by omega) (by omega)
    have f2 := hD ((k : Int) * 10 + c) (by omega) (by omega)
    have f3 := fun g : 0 ≤ neR L D a c k => hD (neR L D a c k * 10 + c) (by omega) (by omega)
    refine x_iload h dX3_searchNearest_5 rfl ?_
    refine x_bipush h dX3_searchNearest_7 (by decide) ?_
    refine x_icmp_ge h dX3_searchNearest_9 (tgt := 64) (by decide) (by omega) (by omega) (fun q9 => ?_) (fun q9 => ?_)
    · exfalso; omega
    · refine x_aload_n h dX3_searchNearest_12 rfl ?_
      refine x_iload_n h dX3_searchNearest_13 rfl ?_
      refine x_iload h dX3_searchNearest_14 rfl ?_
      refine x_V2i h dX3_searchNearest_16 m_ml_X3_43 m_im_X3_lengthOf m_se_X3_lengthOf (tRd hc hb) rfl (by decide) rfl (k_X3_lengthOf hc hb (by omega) (by omega)) ?_
      rw [eL]
      refine x_if_le h dX3_searchNearest_19 (tgt := 26) (by decide) (by omega) (fun q19 => ?_) (fun q19 => ?_)
      · refine x_iconst h dX3_searchNearest_26 ?_
        refine x_istore h dX3_searchNearest_27 rfl rfl ?_
        dsimp only [xset]
        refine x_iload h dX3_searchNearest_29 rfl ?_
        refine x_if_eq h dX3_searchNearest_31 (tgt := 58) (by decide) (by omega) (fun q31 => ?_) (fun q31 => ?_)
        · refine x_iinc h dX3_searchNearest_58 rfl rfl rfl ?_
          dsimp only [xset]
          refine x_goto h dX3_searchNearest_61 (tgt := 5) (by decide) ?_
          first
            | (exfalso; omega)
            | (refine x_drop 5 ?_; dsimp only [xclr]; exact x_same ihk (by rw [neR_s]; unfold neG; first | (rw [if_pos (by omega)] <;> rfl) | (rw [if_neg (by omega)] <;> rfl)) rfl rfl)
        · refine x_iload_n h dX3_searchNearest_34 rfl ?_
          refine x_iconst h dX3_searchNearest_35 ?_
          refine x_icmp_eq h dX3_searchNearest_36 (tgt := 55) (by decide) (by omega) (by omega) (fun q36 => ?_) (fun q36 => ?_)
          · refine x_iload h dX3_searchNearest_55 rfl ?_
            refine x_istore_n h dX3_searchNearest_57 rfl rfl ?_
            dsimp only [xset]
            refine x_iinc h dX3_searchNearest_58 rfl rfl rfl ?_
            dsimp only [xset]
            refine x_goto h dX3_searchNearest_61 (tgt := 5) (by decide) ?_
            first
              | (exfalso; omega)
              | (refine x_drop 5 ?_; dsimp only [xclr]; exact x_same ihk (by rw [neR_s]; unfold neG; first | (rw [if_pos (by omega)] <;> rfl) | (rw [if_neg (by omega)] <;> rfl)) rfl rfl)
          · refine x_aload_n h dX3_searchNearest_39 rfl ?_
            refine x_iload h dX3_searchNearest_40 rfl ?_
            refine x_iload_n h dX3_searchNearest_42 rfl ?_
            refine x_V2i h dX3_searchNearest_43 m_ml_X3_56 m_im_X3_distance m_se_X3_distance (tRd hc hb) rfl (by decide) rfl (k_X3_distance hc hb (by omega) (by omega)) ?_
            rw [eD]
            refine x_aload_n h dX3_searchNearest_46 rfl ?_
            refine x_iload_n h dX3_searchNearest_47 rfl ?_
            refine x_iload_n h dX3_searchNearest_48 rfl ?_
            refine x_V2i h dX3_searchNearest_49 m_ml_X3_56 m_im_X3_distance m_se_X3_distance (tRd hc hb) rfl (by decide) rfl (k_X3_distance hc hb (by omega) (by omega)) ?_
            rw [eD]
            have f4 := f3 (by omega)
            refine x_icmp_ge h dX3_searchNearest_52 (tgt := 58) (by decide) (by omega) (by omega) (fun q52 => ?_) (fun q52 => ?_)
            · refine x_iinc h dX3_searchNearest_58 rfl rfl rfl ?_
              dsimp only [xset]
              refine x_goto h dX3_searchNearest_61 (tgt := 5) (by decide) ?_
              first
                | (exfalso; omega)
                | (refine x_drop 5 ?_; dsimp only [xclr]; exact x_same ihk (by rw [neR_s]; unfold neG; first | (rw [if_pos (by omega)] <;> rfl) | (rw [if_neg (by omega)] <;> rfl)) rfl rfl)
            · refine x_iload h dX3_searchNearest_55 rfl ?_
              refine x_istore_n h dX3_searchNearest_57 rfl rfl ?_
              dsimp only [xset]
              refine x_iinc h dX3_searchNearest_58 rfl rfl rfl ?_
              dsimp only [xset]
              refine x_goto h dX3_searchNearest_61 (tgt := 5) (by decide) ?_
              first
                | (exfalso; omega)
                | (refine x_drop 5 ?_; dsimp only [xclr]; exact x_same ihk (by rw [neR_s]; unfold neG; first | (rw [if_pos (by omega)] <;> rfl) | (rw [if_neg (by omega)] <;> rfl)) rfl rfl)
      · refine x_iconst h dX3_searchNearest_22 ?_
        refine x_goto h dX3_searchNearest_23 (tgt := 27) (by decide) ?_
        refine x_istore h dX3_searchNearest_27 rfl rfl ?_
        dsimp only [xset]
        refine x_iload h dX3_searchNearest_29 rfl ?_
        refine x_if_eq h dX3_searchNearest_31 (tgt := 58) (by decide) (by omega) (fun q31 => ?_) (fun q31 => ?_)
        · refine x_iinc h dX3_searchNearest_58 rfl rfl rfl ?_
          dsimp only [xset]
          refine x_goto h dX3_searchNearest_61 (tgt := 5) (by decide) ?_
          first
            | (exfalso; omega)
            | (refine x_drop 5 ?_; dsimp only [xclr]; exact x_same ihk (by rw [neR_s]; unfold neG; first | (rw [if_pos (by omega)] <;> rfl) | (rw [if_neg (by omega)] <;> rfl)) rfl rfl)
        · refine x_iload_n h dX3_searchNearest_34 rfl ?_
          refine x_iconst h dX3_searchNearest_35 ?_
          refine x_icmp_eq h dX3_searchNearest_36 (tgt := 55) (by decide) (by omega) (by omega) (fun q36 => ?_) (fun q36 => ?_)
          · refine x_iload h dX3_searchNearest_55 rfl ?_
            refine x_istore_n h dX3_searchNearest_57 rfl rfl ?_
            dsimp only [xset]
            refine x_iinc h dX3_searchNearest_58 rfl rfl rfl ?_
            dsimp only [xset]
            refine x_goto h dX3_searchNearest_61 (tgt := 5) (by decide) ?_
            first
              | (exfalso; omega)
              | (refine x_drop 5 ?_; dsimp only [xclr]; exact x_same ihk (by rw [neR_s]; unfold neG; first | (rw [if_pos (by omega)] <;> rfl) | (rw [if_neg (by omega)] <;> rfl)) rfl rfl)
          · refine x_aload_n h dX3_searchNearest_39 rfl ?_
            refine x_iload h dX3_searchNearest_40 rfl ?_
            refine x_iload_n h dX3_searchNearest_42 rfl ?_
            refine x_V2i h dX3_searchNearest_43 m_ml_X3_56 m_im_X3_distance m_se_X3_distance (tRd hc hb) rfl (by decide) rfl (k_X3_distance hc hb (by omega) (by omega)) ?_
            rw [eD]
            refine x_aload_n h dX3_searchNearest_46 rfl ?_
            refine x_iload_n h dX3_searchNearest_47 rfl ?_
            refine x_iload_n h dX3_searchNearest_48 rfl ?_
            refine x_V2i h dX3_searchNearest_49 m_ml_X3_56 m_im_X3_distance m_se_X3_distance (tRd hc hb) rfl (by decide) rfl (k_X3_distance hc hb (by omega) (by omega)) ?_
            rw [eD]
            have f4 := f3 (by omega)
            refine x_icmp_ge h dX3_searchNearest_52 (tgt := 58) (by decide) (by omega) (by omega) (fun q52 => ?_) (fun q52 => ?_)
            · refine x_iinc h dX3_searchNearest_58 rfl rfl rfl ?_
              dsimp only [xset]
              refine x_goto h dX3_searchNearest_61 (tgt := 5) (by decide) ?_
              first
                | (exfalso; omega)
                | (refine x_drop 5 ?_; dsimp only [xclr]; exact x_same ihk (by rw [neR_s]; unfold neG; first | (rw [if_pos (by omega)] <;> rfl) | (rw [if_neg (by omega)] <;> rfl)) rfl rfl)
            · refine x_iload h dX3_searchNearest_55 rfl ?_
              refine x_istore_n h dX3_searchNearest_57 rfl rfl ?_
              dsimp only [xset]
              refine x_iinc h dX3_searchNearest_58 rfl rfl rfl ?_
              dsimp only [xset]
              refine x_goto h dX3_searchNearest_61 (tgt := 5) (by decide) ?_
              first
                | (exfalso; omega)
                | (refine x_drop 5 ?_; dsimp only [xclr]; exact x_same ihk (by rw [neR_s]; unfold neG; first | (rw [if_pos (by omega)] <;> rfl) | (rw [if_neg (by omega)] <;> rfl)) rfl rfl)
set_option maxHeartbeats 4000000 in
set_option maxRecDepth 100000 in
theorem k_X3_survey {l : Launch} {ω : xO} (hc : xsh ω = rdS) {r : Nat} {M : xMem} (hb : rJ r) (hL : LB (M (r + 1))) : Ct l ω yX3_survey ({ frames := 3, cells := 0, slots := 0, locals := 67 } : Room) 3 0 [.ref (xad ω r)] M none (suC M r) := by
  refine Ct.of (bytes := cX3_survey) (ret := none) (lv0 := [some (.ref (xad ω r)), none, none]) m_cd_X3_survey m_in_X3 (by decide +kernel) (by decide +kernel) rfl rfl rfl rfl (fun hR => suA_R hR hL (by omega)) ?_
  intro κ h he hR
  have hD := meC_B (r := M (r + 2)) hL
  refine x_aload_n h dX3_survey_0 rfl ?_
  refine x_V0v h dX3_survey_1 m_ml_X3_47 m_im_X3_measure m_se_X3_measure (tRd hc hb) rfl (by decide) rfl (k_X3_measure hc hb hL) ?_
  refine x_iconst h dX3_survey_4 ?_
  refine x_istore_n h dX3_survey_5 rfl rfl ?_
  dsimp only [xset]
  refine x_mem (M' := suA M r (((0 : Nat) : Int) * 10)) (suA_0.trans (by congr 1)) ?_
  refine loop_up (fun a => X ω κ 6 [some (.ref (xad ω r)), some (.int (iI (a : Int))), none] [] (suA M r ((a : Int) * 10))) 10 ?_ ?_
  · show X ω κ 6 [some (.ref (xad ω r)), some (.int (iI ((10 : Nat) : Int))), none] [] (suA M r (((10 : Nat) : Int) * 10))
    refine x_iload_n h dX3_survey_6 rfl ?_
    refine x_bipush h dX3_survey_7 (by decide) ?_
    refine x_icmp_ge h dX3_survey_9 (tgt := 66) (by decide) (by omega) (by omega) (fun q9 => ?_) (fun q9 => ?_)
    · exact x_vret h he dX3_survey_66 (by unfold suC; congr 1)
    · exfalso; omega
  · intro a ha iha
    replace iha : X ω κ 6 [some (.ref (xad ω r)), some (.int (iI ((a + 1 : Nat) : Int))), none] [] (suA M r (((a + 1 : Nat) : Int) * 10)) := iha
    show X ω κ 6 [some (.ref (xad ω r)), some (.int (iI (a : Int))), none] [] (suA M r ((a : Int) * 10))
    refine x_iload_n h dX3_survey_6 rfl ?_
    refine x_bipush h dX3_survey_7 (by decide) ?_
    refine x_icmp_ge h dX3_survey_9 (tgt := 66) (by decide) (by omega) (by omega) (fun q9 => ?_) (fun q9 => ?_)
    · exfalso; omega
    · refine x_iconst h dX3_survey_12 ?_
      refine x_istore_n h dX3_survey_13 rfl rfl ?_
      dsimp only [xset]
      refine x_mem (M' := suA M r ((a : Int) * 10 + ((0 : Nat) : Int))) (by congr 1 <;> omega) ?_
      refine loop_up (fun j => X ω κ 14 [some (.ref (xad ω r)), some (.int (iI (a : Int))), some (.int (iI (j : Int)))] [] (suA M r ((a : Int) * 10 + (j : Int)))) 10 ?_ ?_
      · show X ω κ 14 [some (.ref (xad ω r)), some (.int (iI (a : Int))), some (.int (iI ((10 : Nat) : Int)))] [] (suA M r ((a : Int) * 10 + ((10 : Nat) : Int)))
        refine x_iload_n h dX3_survey_14 rfl ?_
        refine x_bipush h dX3_survey_15 (by decide) ?_
        refine x_icmp_ge h dX3_survey_17 (tgt := 60) (by decide) (by omega) (by omega) (fun q17 => ?_) (fun q17 => ?_)
        · refine x_iinc h dX3_survey_60 rfl rfl rfl ?_
          dsimp only [xset]
          refine x_goto h dX3_survey_63 (tgt := 6) (by decide) ?_
          refine x_drop 2 ?_
          dsimp only [xclr]
          exact x_same iha rfl rfl (by congr 1 <;> omega)
        · exfalso; omega
      · intro j hj ihj
        replace ihj : X ω κ 14 [some (.ref (xad ω r)), some (.int (iI (a : Int))), some (.int (iI ((j + 1 : Nat) : Int)))] [] (suA M r ((a : Int) * 10 + ((j + 1 : Nat) : Int))) := ihj
        show X ω κ 14 [some (.ref (xad ω r)), some (.int (iI (a : Int))), some (.int (iI (j : Int)))] [] (suA M r ((a : Int) * 10 + (j : Int)))
        have e1 := suA_1 (M := M) (r := r) (n := (a : Int) * 10 + (j : Int))
        have e2 := suA_2 (M := M) (r := r) (n := (a : Int) * 10 + (j : Int))
        have n1 := nxF_R (L := M (r + 1)) (D := meC (M (r + 1)) (M (r + 2))) (a := (a : Int)) (c := (j : Int)) (by omega)
        have n2 := neF_R (L := M (r + 1)) (D := meC (M (r + 1)) (M (r + 2))) (a := (a : Int)) (c := (j : Int)) (by omega)
        refine x_iload_n h dX3_survey_14 rfl ?_
        refine x_bipush h dX3_survey_15 (by decide) ?_
        refine x_icmp_ge h dX3_survey_17 (tgt := 60) (by decide) (by omega) (by omega) (fun q17 => ?_) (fun q17 => ?_)
        · exfalso; omega
        · refine x_aload_n h dX3_survey_20 rfl ?_
          refine x_getr (j := 2) (q := r + 3) h dX3_survey_21 (tRd hc hb) rfl in_X3 rfl (by decide) m_fl_X3_18 ?_
          refine x_iload_n h dX3_survey_24 rfl ?_
          refine x_bipush h dX3_survey_25 (by decide) ?_
          refine x_imul h dX3_survey_27 ?_
          refine x_iload_n h dX3_survey_28 rfl ?_
          refine x_iadd h dX3_survey_29 ?_
          refine x_aload_n h dX3_survey_30 rfl ?_
          refine x_iload_n h dX3_survey_31 rfl ?_
          refine x_iload_n h dX3_survey_32 rfl ?_
          refine x_V2i h dX3_survey_33 m_ml_X3_50 m_im_X3_searchNext m_se_X3_searchNext (tRd hc hb) rfl (by decide) rfl (k_X3_searchNext hc hb e1 e2 hL hD (by omega) (by omega)) ?_
          refine x_iastore h dX3_survey_36 (tR3 hc hb) (by omega) (by omega) ?_
          refine x_aload_n h dX3_survey_37 rfl ?_
          refine x_getr (j := 3) (q := r + 4) h dX3_survey_38 (tRd hc hb) rfl in_X3 rfl (by decide) m_fl_X3_21 ?_
          refine x_iload_n h dX3_survey_41 rfl ?_
          refine x_bipush h dX3_survey_42 (by decide) ?_
          refine x_imul h dX3_survey_44 ?_
          refine x_iload_n h dX3_survey_45 rfl ?_
          refine x_iadd h dX3_survey_46 ?_
          refine x_aload_n h dX3_survey_47 rfl ?_
          refine x_iload_n h dX3_survey_48 rfl ?_
          refine x_iload_n h dX3_survey_49 rfl ?_
          refine x_V2i h dX3_survey_50 m_ml_X3_53 m_im_X3_searchNearest m_se_X3_searchNearest (tRd hc hb) rfl (by decide) rfl (k_X3_searchNearest hc hb (by rw [up_n (by omega)]; exact e1) (by rw [up_n (by omega)]; exact e2) hL hD (by omega) (by omega)) ?_
          refine x_iastore h dX3_survey_53 (tR4 hc hb) (by omega) (by omega) ?_
          refine x_mem (M' := suA M r ((a : Int) * 10 + ((j + 1 : Nat) : Int))) (by rw [suA_s rfl (by omega) (by omega)]; congr 1 <;> omega) ?_
          refine x_iinc h dX3_survey_54 rfl rfl rfl ?_
          dsimp only [xset]
          refine x_goto h dX3_survey_57 (tgt := 14) (by decide) ?_
          exact ihj
