/-! the reference: cuts -/
def lsN (M : xMem) (s : Int) (k : Nat) : Prop := ∀ q : Int, 0 ≤ q → q < k → inS q s → q < M 1 (113 + 8 * q + 3)
theorem lsN_0 {M : xMem} {s : Int} : lsN M s 0 := fun q h1 h2 _ => absurd h2 (by omega)
theorem lsN_s {M : xMem} {s : Int} {k : Nat} : lsN M s (k + 1) ↔ lsN M s k ∧ (inS (k : Int) s → (k : Int) < M 1 (113 + 8 * (k : Int) + 3)) := by
  constructor
  · intro h
    exact ⟨fun q h1 h2 h3 => h q h1 (by omega) h3, fun z => h _ (by omega) (by omega) z⟩
  · rintro ⟨h, g⟩ q h1 h2 h3
    by_cases e : q = (k : Int)
    · subst e; exact g h3
    · exact h q h1 (by omega) h3
def cfG (s : Int) (p : Int) (st : Int × xMem) : Int × xMem := if inS p s then (st.1 + (if 0 ≤ st.2 1 (113 + 8 * p + 3) then 1 else 0), frN st.2 p) else st
def cfF (M : xMem) (s : Int) (k : Nat) : Int × xMem := xfo (cfG s) (0, M) k
theorem cfF_s (M : xMem) (s : Int) (k : Nat) : cfF M s (k + 1) = cfG s (k : Int) (cfF M s k) := by
  unfold cfF
  rw [xfo_s (cfG s) (0, M) k]
theorem cfF_c {M N : xMem} {s : Int} (h : N 1 = M 1) : ∀ k : Nat, (cfF N s k).1 = (cfF M s k).1 ∧ (cfF N s k).2 1 = (cfF M s k).2 1 := by
  intro k
  induction k with
  | zero => exact ⟨rfl, h⟩
  | succ k ih =>
    rw [cfF_s, cfF_s]
    unfold cfG
    split
    · exact ⟨by rw [ih.1, ih.2], frN_c ih.2⟩
    · exact ih
theorem cfF_I {M : xMem} {s : Int} (hI : MInv M) : ∀ k : Nat, (k : Int) ≤ M 1 1 → MInv (cfF M s k).2 ∧ TiR M (cfF M s k).2 ∧ 0 ≤ (cfF M s k).1 ∧ (cfF M s k).1 ≤ k := by
  intro k
  induction k with
  | zero => intro _; exact ⟨hI, TiR.rf, by show (0 : Int) ≤ 0; omega, by show (0 : Int) ≤ ((0 : Nat) : Int); omega⟩
  | succ k ih =>
    intro hk
    obtain ⟨h1, h2, h3, h4⟩ := ih (by omega)
    rw [cfF_s]
    unfold cfG
    split
    · have g := frN_I h1 (p := (k : Int)) (by rw [h2.nq]; omega)
      refine ⟨g.1, h2.tr g.2, ?_, ?_⟩
      · show 0 ≤ (cfF M s k).1 + (if 0 ≤ (cfF M s k).2 1 (113 + 8 * (k : Int) + 3) then 1 else 0)
        split <;> omega
      · show (cfF M s k).1 + (if 0 ≤ (cfF M s k).2 1 (113 + 8 * (k : Int) + 3) then 1 else 0) ≤ ((k + 1 : Nat) : Int)
        split <;> omega
    · exact ⟨h1, h2, h3, by omega⟩
noncomputable def fcR (M : xMem) (s : Int) : Int := pc8 (thN (siN (cfF M s (M 1 1).toNat).2 60))
def fcK (M : xMem) (s : Int) : Int := (cfF M s (M 1 1).toNat).1
noncomputable def fcG (M : xMem) (s : Int) (st : Int × Int) : Int × Int := tI (lsN M s (M 1 1).toNat) (tI (st.2 < fcR M s ∨ (fcR M s = st.2 ∧ fcK M s < pc8 st.1)) s st.1, max st.2 (fcR M s)) st
noncomputable def fcF (M : xMem) (k : Nat) : Int × Int := xfo (fcG M) (-1, -1) k
theorem fcF_s (M : xMem) (k : Nat) : fcF M (k + 1) = fcG M (k : Int) (fcF M k) := by
  unfold fcF
  rw [xfo_s (fcG M) (-1, -1) k]
theorem fcF_R (M : xMem) : ∀ k : Nat, fcF M k = (-1, -1) ∨ ((0 ≤ (fcF M k).1 ∧ (fcF M k).1 < k) ∧ 0 ≤ (fcF M k).2 ∧ (fcF M k).2 ≤ 8) := by
  intro k
  induction k with
  | zero => exact Or.inl rfl
  | succ k ih =>
    have hF : 0 ≤ fcR M (k : Int) ∧ fcR M (k : Int) ≤ 8 := pc8_R
    rw [fcF_s]
    unfold fcG
    by_cases hl : lsN M (k : Int) (M 1 1).toNat
    · rw [tI_p hl]
      refine Or.inr ?_
      rcases ih with h | h
      · rw [h]
        rw [tI_p (Or.inl (show (-1 : Int) < fcR M (k : Int) by omega))]
        exact ⟨⟨by show (0 : Int) ≤ (k : Int); omega, by show (k : Int) < ((k + 1 : Nat) : Int); omega⟩, by show 0 ≤ max (-1) (fcR M (k : Int)); omega, by show max (-1) (fcR M (k : Int)) ≤ 8; omega⟩
      · refine ⟨?_, by show 0 ≤ max (fcF M k).2 (fcR M (k : Int)); omega, by show max (fcF M k).2 (fcR M (k : Int)) ≤ 8; omega⟩
        show 0 ≤ tI _ (k : Int) (fcF M k).1 ∧ tI _ (k : Int) (fcF M k).1 < ((k + 1 : Nat) : Int)
        unfold tI
        split <;> omega
    · rw [tI_n hl]
      rcases ih with h | h
      · exact Or.inl h
      · exact Or.inr ⟨by omega, h.2⟩
def bcB (M : xMem) (m : Int) : xMem := up (cyM M 1 6) 0 11 m
theorem bcB_q {M N : xMem} {m m' : Int} (h : QuR (bcB M m) N) : QuR (bcB M m') (up N 0 11 m') := by
  refine ⟨h.1, fun k a b c => ?_, fun j a b c d e => ?_⟩
  · rw [up_n a, h.2.1 k a b c]
    unfold bcB
    rw [up_n a, up_n a]
  · by_cases hj : j = 11
    · subst hj
      unfold bcB
      rw [up_ss, up_ss]
    · rw [up_nn (Or.inr hj), h.2.2 j a b c d e]
      unfold bcB
      rw [up_nn (Or.inr hj), up_nn (Or.inr hj)]
theorem bcB_w {M N : xMem} {m : Int} (h : QuR (bcB M m) N) (hF : Fc N) : QuW M N ∧ N 0 11 = m := by
  refine ⟨⟨⟨h.1.trans (by unfold bcB cyM; rw [up_n (by decide), upr_n (by decide)]), fun k a b c d e f => ?_, fun j a b c d e f => ?_⟩, hF⟩, ?_⟩
  · rw [h.2.1 k a b c]; unfold bcB cyM; rw [up_n a, upr_n d]
  · rw [h.2.2 j a b c d e]; unfold bcB cyM; rw [up_nn (Or.inr f), upr_n (by decide)]
  · rw [h.2.2 11 (by decide) (by decide) (by decide) (by decide) (by decide)]; unfold bcB; rw [up_ss]
theorem dX7_findCuts_0 : decode cX7_findCuts 0 = .ok (.iconst (-1), 1) := by decide +kernel
theorem dX7_findCuts_1 : decode cX7_findCuts 1 = .ok (.istore_n 1, 1) := by decide +kernel
theorem dX7_findCuts_2 : decode cX7_findCuts 2 = .ok (.aload_n 0, 1) := by decide +kernel
theorem dX7_findCuts_3 : decode cX7_findCuts 3 = .ok (.iconst (-1), 1) := by decide +kernel
theorem dX7_findCuts_4 : decode cX7_findCuts 4 = .ok (.putfield 244, 3) := by decide +kernel
theorem dX7_findCuts_7 : decode cX7_findCuts 7 = .ok (.aload_n 0, 1) := by decide +kernel
theorem dX7_findCuts_8 : decode cX7_findCuts 8 = .ok (.getfield 9, 3) := by decide +kernel
theorem dX7_findCuts_11 : decode cX7_findCuts 11 = .ok (.aload_n 0, 1) := by decide +kernel
theorem dX7_findCuts_12 : decode cX7_findCuts 12 = .ok (.getfield 25, 3) := by decide +kernel
theorem dX7_findCuts_15 : decode cX7_findCuts 15 = .ok (.invokestatic 77, 3) := by decide +kernel
theorem dX7_findCuts_18 : decode cX7_findCuts 18 = .ok (.iconst 0, 1) := by decide +kernel
theorem dX7_findCuts_19 : decode cX7_findCuts 19 = .ok (.istore_n 2, 1) := by decide +kernel
theorem dX7_findCuts_20 : decode cX7_findCuts 20 = .ok (.iload_n 2, 1) := by decide +kernel
theorem dX7_findCuts_21 : decode cX7_findCuts 21 = .ok (.iconst 1, 1) := by decide +kernel
theorem dX7_findCuts_22 : decode cX7_findCuts 22 = .ok (.aload_n 0, 1) := by decide +kernel
theorem dX7_findCuts_23 : decode cX7_findCuts 23 = .ok (.getfield 9, 3) := by decide +kernel
theorem dX7_findCuts_26 : decode cX7_findCuts 26 = .ok (.iconst 1, 1) := by decide +kernel
theorem dX7_findCuts_27 : decode cX7_findCuts 27 = .ok (.iaload, 1) := by decide +kernel
theorem dX7_findCuts_28 : decode cX7_findCuts 28 = .ok (.ishl, 1) := by decide +kernel
theorem dX7_findCuts_29 : decode cX7_findCuts 29 = .ok (.if_icmp .ge 182, 3) := by decide +kernel
theorem dX7_findCuts_32 : decode cX7_findCuts 32 = .ok (.iconst 1, 1) := by decide +kernel
theorem dX7_findCuts_33 : decode cX7_findCuts 33 = .ok (.istore_n 3, 1) := by decide +kernel
theorem dX7_findCuts_34 : decode cX7_findCuts 34 = .ok (.iconst 0, 1) := by decide +kernel
theorem dX7_findCuts_35 : decode cX7_findCuts 35 = .ok (.istore 4, 2) := by decide +kernel
theorem dX7_findCuts_37 : decode cX7_findCuts 37 = .ok (.iload 4, 2) := by decide +kernel
theorem dX7_findCuts_39 : decode cX7_findCuts 39 = .ok (.aload_n 0, 1) := by decide +kernel
theorem dX7_findCuts_40 : decode cX7_findCuts 40 = .ok (.getfield 9, 3) := by decide +kernel
theorem dX7_findCuts_43 : decode cX7_findCuts 43 = .ok (.iconst 1, 1) := by decide +kernel
theorem dX7_findCuts_44 : decode cX7_findCuts 44 = .ok (.iaload, 1) := by decide +kernel
theorem dX7_findCuts_45 : decode cX7_findCuts 45 = .ok (.if_icmp .ge 37, 3) := by decide +kernel
theorem dX7_findCuts_48 : decode cX7_findCuts 48 = .ok (.iload_n 3, 1) := by decide +kernel
theorem dX7_findCuts_49 : decode cX7_findCuts 49 = .ok (.ifCond .eq 25, 3) := by decide +kernel
theorem dX7_findCuts_52 : decode cX7_findCuts 52 = .ok (.iload_n 2, 1) := by decide +kernel
theorem dX7_findCuts_53 : decode cX7_findCuts 53 = .ok (.iload 4, 2) := by decide +kernel
theorem dX7_findCuts_55 : decode cX7_findCuts 55 = .ok (.invokestatic 247, 3) := by decide +kernel
theorem dX7_findCuts_58 : decode cX7_findCuts 58 = .ok (.ifCond .eq 12, 3) := by decide +kernel
theorem dX7_findCuts_61 : decode cX7_findCuts 61 = .ok (.aload_n 0, 1) := by decide +kernel
theorem dX7_findCuts_62 : decode cX7_findCuts 62 = .ok (.iload 4, 2) := by decide +kernel
theorem dX7_findCuts_64 : decode cX7_findCuts 64 = .ok (.invokevirtual 250, 3) := by decide +kernel
theorem dX7_findCuts_67 : decode cX7_findCuts 67 = .ok (.ifCond .eq 7, 3) := by decide +kernel
theorem dX7_findCuts_70 : decode cX7_findCuts 70 = .ok (.iconst 1, 1) := by decide +kernel
theorem dX7_findCuts_71 : decode cX7_findCuts 71 = .ok (.goto 4, 3) := by decide +kernel
theorem dX7_findCuts_74 : decode cX7_findCuts 74 = .ok (.iconst 0, 1) := by decide +kernel
theorem dX7_findCuts_75 : decode cX7_findCuts 75 = .ok (.istore_n 3, 1) := by decide +kernel
theorem dX7_findCuts_76 : decode cX7_findCuts 76 = .ok (.iinc 4 1, 3) := by decide +kernel
theorem dX7_findCuts_79 : decode cX7_findCuts 79 = .ok (.goto (-42), 3) := by decide +kernel
theorem dX7_findCuts_82 : decode cX7_findCuts 82 = .ok (.iload_n 3, 1) := by decide +kernel
theorem dX7_findCuts_83 : decode cX7_findCuts 83 = .ok (.ifCond .eq 122, 3) := by decide +kernel
theorem dX7_findCuts_86 : decode cX7_findCuts 86 = .ok (.iconst 0, 1) := by decide +kernel
theorem dX7_findCuts_87 : decode cX7_findCuts 87 = .ok (.istore 4, 2) := by decide +kernel
theorem dX7_findCuts_89 : decode cX7_findCuts 89 = .ok (.iconst 0, 1) := by decide +kernel
theorem dX7_findCuts_90 : decode cX7_findCuts 90 = .ok (.istore 5, 2) := by decide +kernel
theorem dX7_findCuts_92 : decode cX7_findCuts 92 = .ok (.iload 5, 2) := by decide +kernel
theorem dX7_findCuts_94 : decode cX7_findCuts 94 = .ok (.aload_n 0, 1) := by decide +kernel
theorem dX7_findCuts_95 : decode cX7_findCuts 95 = .ok (.getfield 9, 3) := by decide +kernel
theorem dX7_findCuts_98 : decode cX7_findCuts 98 = .ok (.iconst 1, 1) := by decide +kernel
theorem dX7_findCuts_99 : decode cX7_findCuts 99 = .ok (.iaload, 1) := by decide +kernel
theorem dX7_findCuts_100 : decode cX7_findCuts 100 = .ok (.if_icmp .ge 37, 3) := by decide +kernel
theorem dX7_findCuts_103 : decode cX7_findCuts 103 = .ok (.iload 4, 2) := by decide +kernel
theorem dX7_findCuts_105 : decode cX7_findCuts 105 = .ok (.iload_n 2, 1) := by decide +kernel
theorem dX7_findCuts_106 : decode cX7_findCuts 106 = .ok (.iload 5, 2) := by decide +kernel
theorem dX7_findCuts_108 : decode cX7_findCuts 108 = .ok (.invokestatic 247, 3) := by decide +kernel
theorem dX7_findCuts_111 : decode cX7_findCuts 111 = .ok (.ifCond .eq 16, 3) := by decide +kernel
theorem dX7_findCuts_114 : decode cX7_findCuts 114 = .ok (.aload_n 0, 1) := by decide +kernel
theorem dX7_findCuts_115 : decode cX7_findCuts 115 = .ok (.iload 5, 2) := by decide +kernel
theorem dX7_findCuts_117 : decode cX7_findCuts 117 = .ok (.invokevirtual 164, 3) := by decide +kernel
theorem dX7_findCuts_120 : decode cX7_findCuts 120 = .ok (.ifCond .lt 7, 3) := by decide +kernel
theorem dX7_findCuts_123 : decode cX7_findCuts 123 = .ok (.iconst 1, 1) := by decide +kernel
theorem dX7_findCuts_124 : decode cX7_findCuts 124 = .ok (.goto 4, 3) := by decide +kernel
theorem dX7_findCuts_127 : decode cX7_findCuts 127 = .ok (.iconst 0, 1) := by decide +kernel
theorem dX7_findCuts_128 : decode cX7_findCuts 128 = .ok (.iadd, 1) := by decide +kernel
theorem dX7_findCuts_129 : decode cX7_findCuts 129 = .ok (.istore 4, 2) := by decide +kernel
theorem dX7_findCuts_131 : decode cX7_findCuts 131 = .ok (.iinc 5 1, 3) := by decide +kernel
theorem dX7_findCuts_134 : decode cX7_findCuts 134 = .ok (.goto (-42), 3) := by decide +kernel
theorem dX7_findCuts_137 : decode cX7_findCuts 137 = .ok (.aload_n 0, 1) := by decide +kernel
theorem dX7_findCuts_138 : decode cX7_findCuts 138 = .ok (.bipush 60, 2) := by decide +kernel
theorem dX7_findCuts_140 : decode cX7_findCuts 140 = .ok (.invokevirtual 234, 3) := by decide +kernel
theorem dX7_findCuts_143 : decode cX7_findCuts 143 = .ok (.invokestatic 253, 3) := by decide +kernel
theorem dX7_findCuts_146 : decode cX7_findCuts 146 = .ok (.istore 5, 2) := by decide +kernel
theorem dX7_findCuts_148 : decode cX7_findCuts 148 = .ok (.aload_n 0, 1) := by decide +kernel
theorem dX7_findCuts_149 : decode cX7_findCuts 149 = .ok (.getfield 25, 3) := by decide +kernel
theorem dX7_findCuts_152 : decode cX7_findCuts 152 = .ok (.aload_n 0, 1) := by decide +kernel
theorem dX7_findCuts_153 : decode cX7_findCuts 153 = .ok (.getfield 9, 3) := by decide +kernel
theorem dX7_findCuts_156 : decode cX7_findCuts 156 = .ok (.invokestatic 77, 3) := by decide +kernel
theorem dX7_findCuts_159 : decode cX7_findCuts 159 = .ok (.iload 5, 2) := by decide +kernel
theorem dX7_findCuts_161 : decode cX7_findCuts 161 = .ok (.aload_n 0, 1) := by decide +kernel
theorem dX7_findCuts_162 : decode cX7_findCuts 162 = .ok (.getfield 244, 3) := by decide +kernel
theorem dX7_findCuts_165 : decode cX7_findCuts 165 = .ok (.if_icmp .gt 21, 3) := by decide +kernel
theorem dX7_findCuts_168 : decode cX7_findCuts 168 = .ok (.iload 5, 2) := by decide +kernel
theorem dX7_findCuts_170 : decode cX7_findCuts 170 = .ok (.aload_n 0, 1) := by decide +kernel
theorem dX7_findCuts_171 : decode cX7_findCuts 171 = .ok (.getfield 244, 3) := by decide +kernel
theorem dX7_findCuts_174 : decode cX7_findCuts 174 = .ok (.if_icmp .ne 16, 3) := by decide +kernel
theorem dX7_findCuts_177 : decode cX7_findCuts 177 = .ok (.iload 4, 2) := by decide +kernel
theorem dX7_findCuts_179 : decode cX7_findCuts 179 = .ok (.iload_n 1, 1) := by decide +kernel
theorem dX7_findCuts_180 : decode cX7_findCuts 180 = .ok (.invokestatic 253, 3) := by decide +kernel
theorem dX7_findCuts_183 : decode cX7_findCuts 183 = .ok (.if_icmp .ge 7, 3) := by decide +kernel
theorem dX7_findCuts_186 : decode cX7_findCuts 186 = .ok (.iload_n 2, 1) := by decide +kernel
theorem dX7_findCuts_187 : decode cX7_findCuts 187 = .ok (.goto 4, 3) := by decide +kernel
theorem dX7_findCuts_190 : decode cX7_findCuts 190 = .ok (.iload_n 1, 1) := by decide +kernel
theorem dX7_findCuts_191 : decode cX7_findCuts 191 = .ok (.istore_n 1, 1) := by decide +kernel
theorem dX7_findCuts_192 : decode cX7_findCuts 192 = .ok (.aload_n 0, 1) := by decide +kernel
theorem dX7_findCuts_193 : decode cX7_findCuts 193 = .ok (.aload_n 0, 1) := by decide +kernel
theorem dX7_findCuts_194 : decode cX7_findCuts 194 = .ok (.getfield 244, 3) := by decide +kernel
theorem dX7_findCuts_197 : decode cX7_findCuts 197 = .ok (.iload 5, 2) := by decide +kernel
theorem dX7_findCuts_199 : decode cX7_findCuts 199 = .ok (.invokestatic 136, 3) := by decide +kernel
theorem dX7_findCuts_202 : decode cX7_findCuts 202 = .ok (.putfield 244, 3) := by decide +kernel
theorem dX7_findCuts_205 : decode cX7_findCuts 205 = .ok (.iinc 2 1, 3) := by decide +kernel
theorem dX7_findCuts_208 : decode cX7_findCuts 208 = .ok (.goto (-188), 3) := by decide +kernel
theorem dX7_findCuts_211 : decode cX7_findCuts 211 = .ok (.iload_n 1, 1) := by decide +kernel
theorem dX7_findCuts_212 : decode cX7_findCuts 212 = .ok (.ireturn, 1) := by decide +kernel
set_option maxHeartbeats 800000 in
set_option maxRecDepth 100000 in
theorem c_X7_findCuts {l : Launch} {ω : xO} {ks : Nat → Option Nat} (hm : xsh ω = mdS ks)  {M : xMem} (hI : MInv M) (hf : Fc M)  (hcl : M 1 0 ≤ 1000000) : Cq l ω yX7_findCuts ({ frames := 9, cells := 0, slots := 0, locals := 199 } : Room) 6 0 [.ref (xad ω 0)] M (pI1 (fun r N' => r = (fcF M (bshl 1 (M 1 1)).toNat).1 ∧ QuW M N' ∧ N' 0 11 = (fcF M (bshl 1 (M 1 1)).toNat).2)) := by
  refine Cq.of (bytes := cX7_findCuts) (ret := (some .int)) (lv0 := [some (.ref (xad ω 0)), none, none, none, none, none]) m_cd_X7_findCuts m_in_X7 (by decide +kernel) (by decide +kernel) rfl rfl rfl rfl ?_
  intro κ h he hR
  have hn := hI.1
  refine x_iconst h dX7_findCuts_0 ?_
  refine x_istore_n h dX7_findCuts_1 rfl rfl ?_
  dsimp only [xset]
  refine x_aload_n h dX7_findCuts_2 rfl ?_
  refine x_iconst h dX7_findCuts_3 ?_
  refine x_puti (j := 11) 11 h dX7_findCuts_4 (sM0 hm) rfl in_X7 rfl (by decide) m_fl_X7_244 tyX7_ok nmX7 rfl (tyX7_ok 11 (by decide)) rfl rfl (by omega) rfl ?_
  refine x_aload_n h dX7_findCuts_7 rfl ?_
  refine x_getr (j := 0) (q := 1) h dX7_findCuts_8 (sM0 hm) rfl in_X7 rfl (by decide) m_fl_X7_9 ?_
  refine x_aload_n h dX7_findCuts_11 rfl ?_
  refine x_getr (j := 12) (q := 6) h dX7_findCuts_12 (sM0 hm) rfl in_X7 rfl (by decide) m_fl_X7_25 ?_
  refine x_S2v h dX7_findCuts_15 m_ml_X7_77 m_st_X7_copyRow (by decide) rfl (c_X7_copyRow hm (sM1 hm) (sM6 hm) (by decide)) ?_
  refine x_iconst h dX7_findCuts_18 ?_
  refine x_istore_n h dX7_findCuts_19 rfl rfl ?_
  dsimp only [xset]
  have hb := evF_R hn
  unfold evF at hb
  have hB1 : ∀ m, bcB M m 1 = M 1 := fun m => by unfold bcB cyM; rw [up_n (by decide), upr_n (by decide)]
  have hB6 : ∀ m, bcB M m 6 = fiC (M 1) 177 (M 6) := fun m => by unfold bcB cyM; rw [up_n (by decide), upr_s]
  have hB11 : ∀ m, bcB M m 0 11 = m := fun m => by unfold bcB; rw [up_ss]
  have hBe : cyM (up M 0 11 (-1)) 1 6 = bcB M (-1) := by unfold bcB cyM; rw [up_uprn (by decide)]; rfl
  rw [hBe]
  have hBf : Fc (bcB M (-1)) := Fc_e1 (N := M) (wyM_c (hB1 (-1))) (by unfold bcB cyM; rw [up_nn (by decide), upr_n (by decide)]) (by unfold bcB cyM; rw [up_n (by decide), upr_n (by decide)]) hf
  have HH : ∀ (k j : Nat) (N : xMem), j + k = (bshl 1 (M 1 1)).toNat → QuR (bcB M (fcF M j).2) N → Fc N → X ω κ 20 [some (.ref (xad ω 0)), some (.int (iI (fcF M j).1)), some (.int (iI (j : Int))), none, none, none] [] N := by
    intro k
    induction k with
    | zero =>
      intro j N e hq hF
      have ej : j = (bshl 1 (M 1 1)).toNat := by omega
      subst ej
      have hn1 : N 1 1 = M 1 1 := by rw [hq.1, hB1]
      refine x_iload_n h dX7_findCuts_20 rfl ?_
      refine x_iconst h dX7_findCuts_21 ?_
      refine x_aload_n h dX7_findCuts_22 rfl ?_
      refine x_getr (j := 0) (q := 1) h dX7_findCuts_23 (sM0 hm) rfl in_X7 rfl (by decide) m_fl_X7_9 ?_
      refine x_iconst h dX7_findCuts_26 ?_
      refine x_iaload h dX7_findCuts_27 (sM1 hm) (by omega) (fun r27 => ?_)
      rw [hn1]
      refine x_ishl h dX7_findCuts_28 (fun r28 => ?_)
      refine x_icmp_ge h dX7_findCuts_29 (tgt := 211) (by decide) (by omega) (by omega) (fun q29 => ?_) (fun q29 => ?_)
      · refine x_iload_n h dX7_findCuts_211 rfl ?_
        exact x_iretq h he dX7_findCuts_212 ⟨rfl, bcB_w hq hF⟩
      · exfalso; omega
    | succ k ih =>
      intro j N e hq hF
      have hn1 : N 1 1 = M 1 1 := by rw [hq.1, hB1]
      have hk1 : N 1 0 = M 1 0 := by rw [hq.1, hB1]
      have hNM : N 1 = M 1 := by rw [hq.1, hB1]
      have hNI : MInv N := MInv_c hNM hI
      have ihj := ih (j + 1)
      rw [fcF_s] at ihj
      unfold fcG at ihj
      have hfR := fcF_R M j
      generalize fcF M j = st at hq ihj hfR ⊢
      have hfR2 : 0 ≤ st.2 → 0 ≤ st.1 ∧ st.1 < 256 := by
        intro g
        rcases hfR with h1 | h1
        · rw [h1] at g; exact absurd g (by decide)
        · omega
      have hcc := fun p => cfF_c (s := (j : Int)) hNM p
      have hcI := fun (p : Nat) (hp : (p : Int) ≤ M 1 1) => cfF_I (s := (j : Int)) hNI p (by rw [hn1]; exact hp)
      have hcn := hcI (M 1 1).toNat (by omega)
      have hTn : (cfF N (j : Int) (M 1 1).toNat).2 1 1 = M 1 1 := by rw [hcn.2.1.nq, hn1]
      have hT0 : (cfF N (j : Int) (M 1 1).toNat).2 1 0 = M 1 0 := by rw [hcn.2.1.2.1 0 (by decide), hk1]
      have hTF : Fc (cfF N (j : Int) (M 1 1).toNat).2 := Fc_e1 (N := N) hcn.2.1.y (by rw [hcn.2.1.1 0 (by decide)]) (by rw [hcn.2.1.1 5 (by decide)]) hF
      have eC : (cfF N (j : Int) (M 1 1).toNat).1 = fcK M (j : Int) := (hcc _).1
      have eF : pc8 (thN (siN (cfF N (j : Int) (M 1 1).toNat).2 60)) = fcR M (j : Int) := by unfold fcR; rw [thN_c (siN_c (hcc _).2 60)]
      have hth := thN_R (M := siN (cfF N (j : Int) (M 1 1).toNat).2 60) (by rw [(siN_I hcn.1 60).2.1.n, hTn]; exact hn)
      have hFR : 0 ≤ fcR M (j : Int) ∧ fcR M (j : Int) ≤ 8 := pc8_R
      have hKR : 0 ≤ fcK M (j : Int) ∧ fcK M (j : Int) ≤ 8 := by have := hcn.2.2; rw [eC] at this; omega
      have hpb := pc8_R (a := st.1)
      refine x_iload_n h dX7_findCuts_20 rfl ?_
      refine x_iconst h dX7_findCuts_21 ?_
      refine x_aload_n h dX7_findCuts_22 rfl ?_
      refine x_getr (j := 0) (q := 1) h dX7_findCuts_23 (sM0 hm) rfl in_X7 rfl (by decide) m_fl_X7_9 ?_
      refine x_iconst h dX7_findCuts_26 ?_
      refine x_iaload h dX7_findCuts_27 (sM1 hm) (by omega) (fun r27 => ?_)
      rw [hn1]
      refine x_ishl h dX7_findCuts_28 (fun r28 => ?_)
      refine x_icmp_ge h dX7_findCuts_29 (tgt := 211) (by decide) (by omega) (by omega) (fun q29 => ?_) (fun q29 => ?_)
      · exfalso; omega
      · refine x_iconst h dX7_findCuts_32 ?_
        refine x_istore_n h dX7_findCuts_33 rfl rfl ?_
        dsimp only [xset]
        refine x_iconst h dX7_findCuts_34 ?_
        refine x_istore h dX7_findCuts_35 rfl rfl ?_
        dsimp only [xset]
        refine x_same (lv' := [some (.ref (xad ω 0)), some (.int (iI st.1)), some (.int (iI (j : Int))), some (.int (iI (bI (lsN M (j : Int) 0)))), some (.int (iI (((0 : Nat) : Int)))), none]) (st' := []) (M' := N) ?_ (by rw [bI_t lsN_0]; rfl) rfl rfl
        refine loop_up (fun p => X ω κ 37 [some (.ref (xad ω 0)), some (.int (iI st.1)), some (.int (iI (j : Int))), some (.int (iI (bI (lsN M (j : Int) p)))), some (.int (iI ((p : Int)))), none] [] N) ((M 1 1).toNat) ?_ ?_
        · show X ω κ 37 [some (.ref (xad ω 0)), some (.int (iI st.1)), some (.int (iI (j : Int))), some (.int (iI (bI (lsN M (j : Int) (M 1 1).toNat)))), some (.int (iI ((((M 1 1).toNat : Nat) : Int)))), none] [] N
          have g0 : (((M 1 1).toNat : Nat) : Int) = M 1 1 := by omega
          refine x_iload h dX7_findCuts_37 rfl ?_
          refine x_aload_n h dX7_findCuts_39 rfl ?_
          refine x_getr (j := 0) (q := 1) h dX7_findCuts_40 (sM0 hm) rfl in_X7 rfl (by decide) m_fl_X7_9 ?_
          refine x_iconst h dX7_findCuts_43 ?_
          refine x_iaload h dX7_findCuts_44 (sM1 hm) (by omega) (fun r44 => ?_)
          rw [hn1]
          refine x_icmp_ge h dX7_findCuts_45 (tgt := 82) (by decide) (by omega) (by omega) (fun q45 => ?_) (fun q45 => ?_)
          · refine x_iload_n h dX7_findCuts_82 rfl ?_
            refine x_ifeqB h dX7_findCuts_83 (tgt := 205) (by decide) (fun q83 => ?_) (fun q83 => ?_)
            · refine x_iinc h dX7_findCuts_205 rfl rfl rfl ?_
              dsimp only [xset]
              refine x_goto h dX7_findCuts_208 (tgt := 20) (by decide) ?_
              rw [tI_n q83] at ihj
              refine x_drop 3 ?_
              refine x_drop 4 ?_
              dsimp only [xclr]
              exact ihj _ (by omega) hq hF
            · refine x_iconst h dX7_findCuts_86 ?_
              refine x_istore h dX7_findCuts_87 rfl rfl ?_
              dsimp only [xset]
              refine x_iconst h dX7_findCuts_89 ?_
              refine x_istore h dX7_findCuts_90 rfl rfl ?_
              dsimp only [xset]
              rw [tI_p q83] at ihj
              refine x_mem (M' := (cfF N (j : Int) 0).2) rfl ?_
              refine loop_up (fun q => X ω κ 92 [some (.ref (xad ω 0)), some (.int (iI st.1)), some (.int (iI (j : Int))), some (.int (iI (bI (lsN M (j : Int) (M 1 1).toNat)))), some (.int (iI ((cfF N (j : Int) q).1))), some (.int (iI ((q : Int))))] [] ((cfF N (j : Int) q).2)) ((M 1 1).toNat) ?_ ?_
              · show X ω κ 92 [some (.ref (xad ω 0)), some (.int (iI st.1)), some (.int (iI (j : Int))), some (.int (iI (bI (lsN M (j : Int) (M 1 1).toNat)))), some (.int (iI ((cfF N (j : Int) (M 1 1).toNat).1))), some (.int (iI ((((M 1 1).toNat : Nat) : Int))))] [] ((cfF N (j : Int) ((M 1 1).toNat)).2)
                have g0 : (((M 1 1).toNat : Nat) : Int) = M 1 1 := by omega
                refine x_iload h dX7_findCuts_92 rfl ?_
                refine x_aload_n h dX7_findCuts_94 rfl ?_
                refine x_getr (j := 0) (q := 1) h dX7_findCuts_95 (sM0 hm) rfl in_X7 rfl (by decide) m_fl_X7_9 ?_
                refine x_iconst h dX7_findCuts_98 ?_
                refine x_iaload h dX7_findCuts_99 (sM1 hm) (by omega) (fun r99 => ?_)
                rw [hTn]
                refine x_icmp_ge h dX7_findCuts_100 (tgt := 137) (by decide) (by omega) (by omega) (fun q100 => ?_) (fun q100 => ?_)
                · rw [eC]
                  refine x_aload_n h dX7_findCuts_137 rfl ?_
                  refine x_bipush h dX7_findCuts_138 (by decide) ?_
                  refine x_Q1i h dX7_findCuts_140 m_ml_X7_234 m_im_X7_thereBehind m_se_X7_thereBehind (sM0 hm) rfl (by decide) rfl (c_X7_thereBehind hm hcn.1 hTF (by omega) (by omega)) (fun r140 N140 h140 => ?_)
                  obtain ⟨e140, hQ140⟩ := h140
                  rw [show (60 : Int).toNat = 60 from rfl] at e140
                  refine x_S1i h dX7_findCuts_143 m_ml_X7_253 m_st_X7_bits (by decide) rfl (c_X7_bits hm (by rw [e140]; exact hth)) ?_
                  try simp only [ca_ca, ca_1, dN_ca, wyM_ca, plN_ca, rpN_ca, ltN_ca, pmN_ca, wnN_ca, nbN_ca, ca_07, ca_08, ca_09, ca_010, beN_ca, ctN_ca, gonN_ca, mvN_ca, stN_ca, thN_ca, fnM_ca, tiN_ca, smN_ca, frN_ca, teN_ca, apN_ca, ca_13, ca_14, ca_7, lwN_ca, ndN_ca]
                  rw [e140, eF]
                  refine x_istore h dX7_findCuts_146 rfl rfl ?_
                  dsimp only [xset]
                  refine x_aload_n h dX7_findCuts_148 rfl ?_
                  refine x_getr (j := 12) (q := 6) h dX7_findCuts_149 (sM0 hm) rfl in_X7 rfl (by decide) m_fl_X7_25 ?_
                  refine x_aload_n h dX7_findCuts_152 rfl ?_
                  refine x_getr (j := 0) (q := 1) h dX7_findCuts_153 (sM0 hm) rfl in_X7 rfl (by decide) m_fl_X7_9 ?_
                  refine x_S2v h dX7_findCuts_156 m_ml_X7_77 m_st_X7_copyRow (by decide) rfl (c_X7_copyRow hm (sM6 hm) (sM1 hm) (by decide)) ?_
                  have hbk := bk_q (hB1 _) (hB6 _) hq hcn.2.1 hQ140
                  have h11 : cyM N140 6 1 0 11 = st.2 := by rw [hbk.1.2.2 11 (by decide) (by decide) (by decide) (by decide) (by decide), hB11]
                  have hUF : ∀ m, Fc (up (cyM N140 6 1) 0 11 m) := fun m => Fc_e1 (N := cyM N140 6 1) rfl rfl rfl hbk.2
                  refine x_iload h dX7_findCuts_159 rfl ?_
                  refine x_aload_n h dX7_findCuts_161 rfl ?_
                  refine x_geti (j := 11) 11 h dX7_findCuts_162 (sM0 hm) rfl in_X7 rfl (by decide) m_fl_X7_244 rfl (fun r162 => ?_)
                  rw [h11]
                  refine x_icmp_gt h dX7_findCuts_165 (tgt := 186) (by decide) (by omega) (by omega) (fun q165 => ?_) (fun q165 => ?_)
                  · refine x_iload_n h dX7_findCuts_186 rfl ?_
                    refine x_goto h dX7_findCuts_187 (tgt := 191) (by decide) ?_
                    refine x_istore_n h dX7_findCuts_191 rfl rfl ?_
                    dsimp only [xset]
                    refine x_aload_n h dX7_findCuts_192 rfl ?_
                    refine x_aload_n h dX7_findCuts_193 rfl ?_
                    refine x_geti (j := 11) 11 h dX7_findCuts_194 (sM0 hm) rfl in_X7 rfl (by decide) m_fl_X7_244 rfl (fun r194 => ?_)
                    refine x_iload h dX7_findCuts_197 rfl ?_
                    rw [h11]
                    refine x_max h dX7_findCuts_199 m_ml_X7_136 rfl (by decide) (by omega) (by omega) ?_
                    refine x_puti (j := 11) 11 h dX7_findCuts_202 (sM0 hm) rfl in_X7 rfl (by decide) m_fl_X7_244 tyX7_ok nmX7 rfl (tyX7_ok 11 (by decide)) rfl rfl (by omega) rfl ?_
                    refine x_iinc h dX7_findCuts_205 rfl rfl rfl ?_
                    dsimp only [xset]
                    refine x_goto h dX7_findCuts_208 (tgt := 20) (by decide) ?_
                    refine x_drop 3 ?_
                    refine x_drop 4 ?_
                    refine x_drop 5 ?_
                    dsimp only [xclr]
                    first
                      | (have y165 : st.2 < fcR M (j : Int) := q165; rw [tI_p (Or.inl y165)] at ihj; exact ihj _ (by omega) (bcB_q hbk.1) (hUF _))
                      | (have y174 : ¬ fcR M (j : Int) = st.2 := q174; rw [tI_n (fun z => z.elim (fun y => q165 y) (fun y => y174 y.1))] at ihj; exact ihj _ (by omega) (bcB_q hbk.1) (hUF _))
                      | (have y183 : pc8 st.1 ≤ fcK M (j : Int) := q183; rw [tI_n (fun z => z.elim (fun y => q165 y) (fun y => absurd y.2 (Int.not_lt.mpr y183)))] at ihj; exact ihj _ (by omega) (bcB_q hbk.1) (hUF _))
                      | (have y183 : ¬ pc8 st.1 ≤ fcK M (j : Int) := q183; rw [tI_p (Or.inr ⟨q174, Int.not_le.mp y183⟩)] at ihj; exact ihj _ (by omega) (bcB_q hbk.1) (hUF _))
                  · refine x_iload h dX7_findCuts_168 rfl ?_
                    refine x_aload_n h dX7_findCuts_170 rfl ?_
                    refine x_geti (j := 11) 11 h dX7_findCuts_171 (sM0 hm) rfl in_X7 rfl (by decide) m_fl_X7_244 rfl (fun r171 => ?_)
                    rw [h11]
                    refine x_icmp_ne h dX7_findCuts_174 (tgt := 190) (by decide) (by omega) (by omega) (fun q174 => ?_) (fun q174 => ?_)
                    · refine x_iload_n h dX7_findCuts_190 rfl ?_
                      refine x_istore_n h dX7_findCuts_191 rfl rfl ?_
                      dsimp only [xset]
                      refine x_aload_n h dX7_findCuts_192 rfl ?_
                      refine x_aload_n h dX7_findCuts_193 rfl ?_
                      refine x_geti (j := 11) 11 h dX7_findCuts_194 (sM0 hm) rfl in_X7 rfl (by decide) m_fl_X7_244 rfl (fun r194 => ?_)
                      refine x_iload h dX7_findCuts_197 rfl ?_
                      rw [h11]
                      refine x_max h dX7_findCuts_199 m_ml_X7_136 rfl (by decide) (by omega) (by omega) ?_
                      refine x_puti (j := 11) 11 h dX7_findCuts_202 (sM0 hm) rfl in_X7 rfl (by decide) m_fl_X7_244 tyX7_ok nmX7 rfl (tyX7_ok 11 (by decide)) rfl rfl (by omega) rfl ?_
                      refine x_iinc h dX7_findCuts_205 rfl rfl rfl ?_
                      dsimp only [xset]
                      refine x_goto h dX7_findCuts_208 (tgt := 20) (by decide) ?_
                      refine x_drop 3 ?_
                      refine x_drop 4 ?_
                      refine x_drop 5 ?_
                      dsimp only [xclr]
                      first
                        | (have y165 : st.2 < fcR M (j : Int) := q165; rw [tI_p (Or.inl y165)] at ihj; exact ihj _ (by omega) (bcB_q hbk.1) (hUF _))
                        | (have y174 : ¬ fcR M (j : Int) = st.2 := q174; rw [tI_n (fun z => z.elim (fun y => q165 y) (fun y => y174 y.1))] at ihj; exact ihj _ (by omega) (bcB_q hbk.1) (hUF _))
                        | (have y183 : pc8 st.1 ≤ fcK M (j : Int) := q183; rw [tI_n (fun z => z.elim (fun y => q165 y) (fun y => absurd y.2 (Int.not_lt.mpr y183)))] at ihj; exact ihj _ (by omega) (bcB_q hbk.1) (hUF _))
                        | (have y183 : ¬ pc8 st.1 ≤ fcK M (j : Int) := q183; rw [tI_p (Or.inr ⟨q174, Int.not_le.mp y183⟩)] at ihj; exact ihj _ (by omega) (bcB_q hbk.1) (hUF _))
                    · refine x_iload h dX7_findCuts_177 rfl ?_
                      refine x_iload_n h dX7_findCuts_179 rfl ?_
                      refine x_S1i h dX7_findCuts_180 m_ml_X7_253 m_st_X7_bits (by decide) rfl (c_X7_bits hm (hfR2 (by omega))) ?_
                      try simp only [ca_ca, ca_1, dN_ca, wyM_ca, plN_ca, rpN_ca, ltN_ca, pmN_ca, wnN_ca, nbN_ca, ca_07, ca_08, ca_09, ca_010, beN_ca, ctN_ca, gonN_ca, mvN_ca, stN_ca, thN_ca, fnM_ca, tiN_ca, smN_ca, frN_ca, teN_ca, apN_ca, ca_13, ca_14, ca_7, lwN_ca, ndN_ca]
                      refine x_icmp_ge h dX7_findCuts_183 (tgt := 190) (by decide) (by omega) (by omega) (fun q183 => ?_) (fun q183 => ?_)
                      · refine x_iload_n h dX7_findCuts_190 rfl ?_
                        refine x_istore_n h dX7_findCuts_191 rfl rfl ?_
                        dsimp only [xset]
                        refine x_aload_n h dX7_findCuts_192 rfl ?_
                        refine x_aload_n h dX7_findCuts_193 rfl ?_
                        refine x_geti (j := 11) 11 h dX7_findCuts_194 (sM0 hm) rfl in_X7 rfl (by decide) m_fl_X7_244 rfl (fun r194 => ?_)
                        refine x_iload h dX7_findCuts_197 rfl ?_
                        rw [h11]
                        refine x_max h dX7_findCuts_199 m_ml_X7_136 rfl (by decide) (by omega) (by omega) ?_
                        refine x_puti (j := 11) 11 h dX7_findCuts_202 (sM0 hm) rfl in_X7 rfl (by decide) m_fl_X7_244 tyX7_ok nmX7 rfl (tyX7_ok 11 (by decide)) rfl rfl (by omega) rfl ?_
                        refine x_iinc h dX7_findCuts_205 rfl rfl rfl ?_
                        dsimp only [xset]
                        refine x_goto h dX7_findCuts_208 (tgt := 20) (by decide) ?_
                        refine x_drop 3 ?_
                        refine x_drop 4 ?_
                        refine x_drop 5 ?_
                        dsimp only [xclr]
                        first
                          | (have y165 : st.2 < fcR M (j : Int) := q165; rw [tI_p (Or.inl y165)] at ihj; exact ihj _ (by omega) (bcB_q hbk.1) (hUF _))
                          | (have y174 : ¬ fcR M (j : Int) = st.2 := q174; rw [tI_n (fun z => z.elim (fun y => q165 y) (fun y => y174 y.1))] at ihj; exact ihj _ (by omega) (bcB_q hbk.1) (hUF _))
                          | (have y183 : pc8 st.1 ≤ fcK M (j : Int) := q183; rw [tI_n (fun z => z.elim (fun y => q165 y) (fun y => absurd y.2 (Int.not_lt.mpr y183)))] at ihj; exact ihj _ (by omega) (bcB_q hbk.1) (hUF _))
                          | (have y183 : ¬ pc8 st.1 ≤ fcK M (j : Int) := q183; rw [tI_p (Or.inr ⟨q174, Int.not_le.mp y183⟩)] at ihj; exact ihj _ (by omega) (bcB_q hbk.1) (hUF _))
                      · refine x_iload_n h dX7_findCuts_186 rfl ?_
                        refine x_goto h dX7_findCuts_187 (tgt := 191) (by decide) ?_
                        refine x_istore_n h dX7_findCuts_191 rfl rfl ?_
                        dsimp only [xset]
                        refine x_aload_n h dX7_findCuts_192 rfl ?_
                        refine x_aload_n h dX7_findCuts_193 rfl ?_
                        refine x_geti (j := 11) 11 h dX7_findCuts_194 (sM0 hm) rfl in_X7 rfl (by decide) m_fl_X7_244 rfl (fun r194 => ?_)
                        refine x_iload h dX7_findCuts_197 rfl ?_
                        rw [h11]
                        refine x_max h dX7_findCuts_199 m_ml_X7_136 rfl (by decide) (by omega) (by omega) ?_
                        refine x_puti (j := 11) 11 h dX7_findCuts_202 (sM0 hm) rfl in_X7 rfl (by decide) m_fl_X7_244 tyX7_ok nmX7 rfl (tyX7_ok 11 (by decide)) rfl rfl (by omega) rfl ?_
                        refine x_iinc h dX7_findCuts_205 rfl rfl rfl ?_
                        dsimp only [xset]
                        refine x_goto h dX7_findCuts_208 (tgt := 20) (by decide) ?_
                        refine x_drop 3 ?_
                        refine x_drop 4 ?_
                        refine x_drop 5 ?_
                        dsimp only [xclr]
                        first
                          | (have y165 : st.2 < fcR M (j : Int) := q165; rw [tI_p (Or.inl y165)] at ihj; exact ihj _ (by omega) (bcB_q hbk.1) (hUF _))
                          | (have y174 : ¬ fcR M (j : Int) = st.2 := q174; rw [tI_n (fun z => z.elim (fun y => q165 y) (fun y => y174 y.1))] at ihj; exact ihj _ (by omega) (bcB_q hbk.1) (hUF _))
                          | (have y183 : pc8 st.1 ≤ fcK M (j : Int) := q183; rw [tI_n (fun z => z.elim (fun y => q165 y) (fun y => absurd y.2 (Int.not_lt.mpr y183)))] at ihj; exact ihj _ (by omega) (bcB_q hbk.1) (hUF _))
                          | (have y183 : ¬ pc8 st.1 ≤ fcK M (j : Int) := q183; rw [tI_p (Or.inr ⟨q174, Int.not_le.mp y183⟩)] at ihj; exact ihj _ (by omega) (bcB_q hbk.1) (hUF _))
                · exfalso; omega
              · intro q hq ihq
                replace ihq : X ω κ 92 [some (.ref (xad ω 0)), some (.int (iI st.1)), some (.int (iI (j : Int))), some (.int (iI (bI (lsN M (j : Int) (M 1 1).toNat)))), some (.int (iI ((cfF N (j : Int) (q + 1)).1))), some (.int (iI (((q + 1 : Nat) : Int))))] [] ((cfF N (j : Int) (q + 1)).2) := ihq
                show X ω κ 92 [some (.ref (xad ω 0)), some (.int (iI st.1)), some (.int (iI (j : Int))), some (.int (iI (bI (lsN M (j : Int) (M 1 1).toNat)))), some (.int (iI ((cfF N (j : Int) q).1))), some (.int (iI ((q : Int))))] [] ((cfF N (j : Int) q).2)
                have g0 : (q : Int) < M 1 1 := by omega
                have hcq := hcI q (by omega)
                have hqn : (cfF N (j : Int) q).2 1 1 = M 1 1 := by rw [hcq.2.1.nq, hn1]
                have hqm := (hcq.1.2.2.2 (q : Int) (by omega) (by omega)).2.2.2.1
                rw [cfF_s] at ihq
                unfold cfG at ihq
                refine x_iload h dX7_findCuts_92 rfl ?_
                refine x_aload_n h dX7_findCuts_94 rfl ?_
                refine x_getr (j := 0) (q := 1) h dX7_findCuts_95 (sM0 hm) rfl in_X7 rfl (by decide) m_fl_X7_9 ?_
                refine x_iconst h dX7_findCuts_98 ?_
                refine x_iaload h dX7_findCuts_99 (sM1 hm) (by omega) (fun r99 => ?_)
                rw [hqn]
                refine x_icmp_ge h dX7_findCuts_100 (tgt := 137) (by decide) (by omega) (by omega) (fun q100 => ?_) (fun q100 => ?_)
                · exfalso; omega
                · refine x_iload h dX7_findCuts_103 rfl ?_
                  refine x_iload_n h dX7_findCuts_105 rfl ?_
                  refine x_iload h dX7_findCuts_106 rfl ?_
                  refine x_S2i h dX7_findCuts_108 m_ml_X7_247 m_st_X7_has (by decide) rfl (c_X7_has hm) ?_
                  refine x_ifeqB h dX7_findCuts_111 (tgt := 127) (by decide) (fun q111 => ?_) (fun q111 => ?_)
                  · refine x_iconst h dX7_findCuts_127 ?_
                    refine x_iadd h dX7_findCuts_128 ?_
                    refine x_istore h dX7_findCuts_129 rfl rfl ?_
                    dsimp only [xset]
                    refine x_iinc h dX7_findCuts_131 rfl rfl rfl ?_
                    dsimp only [xset]
                    refine x_goto h dX7_findCuts_134 (tgt := 92) (by decide) ?_
                    first
                      | (rw [if_pos q111, if_neg (Int.not_le.mpr q120)] at ihq; exact ihq)
                      | (rw [if_pos q111, if_pos (Int.not_lt.mp q120)] at ihq; exact ihq)
                      | (rw [if_neg q111] at ihq; exact x_same ihq (by rw [Int.add_zero]; rfl) rfl rfl)
                  · refine x_aload_n h dX7_findCuts_114 rfl ?_
                    refine x_iload h dX7_findCuts_115 rfl ?_
                    refine x_V1i h dX7_findCuts_117 m_ml_X7_164 m_im_X7_freesOf m_se_X7_freesOf (sM0 hm) rfl (by decide) rfl (c_X7_freesOf hm hcq.1 (by omega)) ?_
                    refine x_if_lt h dX7_findCuts_120 (tgt := 127) (by decide) (by omega) (fun q120 => ?_) (fun q120 => ?_)
                    · refine x_iconst h dX7_findCuts_127 ?_
                      refine x_iadd h dX7_findCuts_128 ?_
                      refine x_istore h dX7_findCuts_129 rfl rfl ?_
                      dsimp only [xset]
                      refine x_iinc h dX7_findCuts_131 rfl rfl rfl ?_
                      dsimp only [xset]
                      refine x_goto h dX7_findCuts_134 (tgt := 92) (by decide) ?_
                      first
                        | (rw [if_pos q111, if_neg (Int.not_le.mpr q120)] at ihq; exact ihq)
                        | (rw [if_pos q111, if_pos (Int.not_lt.mp q120)] at ihq; exact ihq)
                        | (rw [if_neg q111] at ihq; exact x_same ihq (by rw [Int.add_zero]; rfl) rfl rfl)
                    · refine x_iconst h dX7_findCuts_123 ?_
                      refine x_goto h dX7_findCuts_124 (tgt := 128) (by decide) ?_
                      refine x_iadd h dX7_findCuts_128 ?_
                      refine x_istore h dX7_findCuts_129 rfl rfl ?_
                      dsimp only [xset]
                      refine x_iinc h dX7_findCuts_131 rfl rfl rfl ?_
                      dsimp only [xset]
                      refine x_goto h dX7_findCuts_134 (tgt := 92) (by decide) ?_
                      first
                        | (rw [if_pos q111, if_neg (Int.not_le.mpr q120)] at ihq; exact ihq)
                        | (rw [if_pos q111, if_pos (Int.not_lt.mp q120)] at ihq; exact ihq)
                        | (rw [if_neg q111] at ihq; exact x_same ihq (by rw [Int.add_zero]; rfl) rfl rfl)
          · exfalso; omega
        · intro p hp ihp
          replace ihp : X ω κ 37 [some (.ref (xad ω 0)), some (.int (iI st.1)), some (.int (iI (j : Int))), some (.int (iI (bI (lsN M (j : Int) (p + 1))))), some (.int (iI (((p + 1 : Nat) : Int)))), none] [] N := ihp
          show X ω κ 37 [some (.ref (xad ω 0)), some (.int (iI st.1)), some (.int (iI (j : Int))), some (.int (iI (bI (lsN M (j : Int) p)))), some (.int (iI ((p : Int)))), none] [] N
          have g0 : (p : Int) < M 1 1 := by omega
          have hpm := (hNI.2.2.2 (p : Int) (by omega) (by omega)).2.2.2.1
          refine x_iload h dX7_findCuts_37 rfl ?_
          refine x_aload_n h dX7_findCuts_39 rfl ?_
          refine x_getr (j := 0) (q := 1) h dX7_findCuts_40 (sM0 hm) rfl in_X7 rfl (by decide) m_fl_X7_9 ?_
          refine x_iconst h dX7_findCuts_43 ?_
          refine x_iaload h dX7_findCuts_44 (sM1 hm) (by omega) (fun r44 => ?_)
          rw [hn1]
          refine x_icmp_ge h dX7_findCuts_45 (tgt := 82) (by decide) (by omega) (by omega) (fun q45 => ?_) (fun q45 => ?_)
          · exfalso; omega
          · refine x_iload_n h dX7_findCuts_48 rfl ?_
            refine x_ifeqB h dX7_findCuts_49 (tgt := 74) (by decide) (fun q49 => ?_) (fun q49 => ?_)
            · refine x_iconst h dX7_findCuts_74 ?_
              refine x_istore_n h dX7_findCuts_75 rfl rfl ?_
              dsimp only [xset]
              refine x_iinc h dX7_findCuts_76 rfl rfl rfl ?_
              dsimp only [xset]
              refine x_goto h dX7_findCuts_79 (tgt := 37) (by decide) ?_
              first
                | (rw [bI_t (lsN_s.mpr ⟨q49, fun _ => q67⟩)] at ihp; exact ihp)
                | (rw [bI_t (lsN_s.mpr ⟨q49, fun z => absurd z q58⟩)] at ihp; exact ihp)
                | (rw [bI_f (fun z => q49 (lsN_s.mp z).1)] at ihp; exact ihp)
                | (rw [bI_f (fun z => q67 ((lsN_s.mp z).2 q58))] at ihp; exact ihp)
            · refine x_iload_n h dX7_findCuts_52 rfl ?_
              refine x_iload h dX7_findCuts_53 rfl ?_
              refine x_S2i h dX7_findCuts_55 m_ml_X7_247 m_st_X7_has (by decide) rfl (c_X7_has hm) ?_
              refine x_ifeqB h dX7_findCuts_58 (tgt := 70) (by decide) (fun q58 => ?_) (fun q58 => ?_)
              · refine x_iconst h dX7_findCuts_70 ?_
                refine x_goto h dX7_findCuts_71 (tgt := 75) (by decide) ?_
                refine x_istore_n h dX7_findCuts_75 rfl rfl ?_
                dsimp only [xset]
                refine x_iinc h dX7_findCuts_76 rfl rfl rfl ?_
                dsimp only [xset]
                refine x_goto h dX7_findCuts_79 (tgt := 37) (by decide) ?_
                first
                  | (rw [bI_t (lsN_s.mpr ⟨q49, fun _ => q67⟩)] at ihp; exact ihp)
                  | (rw [bI_t (lsN_s.mpr ⟨q49, fun z => absurd z q58⟩)] at ihp; exact ihp)
                  | (rw [bI_f (fun z => q49 (lsN_s.mp z).1)] at ihp; exact ihp)
                  | (rw [bI_f (fun z => q67 ((lsN_s.mp z).2 q58))] at ihp; exact ihp)
              · refine x_aload_n h dX7_findCuts_61 rfl ?_
                refine x_iload h dX7_findCuts_62 rfl ?_
                refine x_V1i h dX7_findCuts_64 m_ml_X7_250 m_im_X7_isLesser m_se_X7_isLesser (sM0 hm) rfl (by decide) rfl (c_X7_isLesser hm hNI (by omega)) ?_
                rw [hNM]
                refine x_ifeqB h dX7_findCuts_67 (tgt := 74) (by decide) (fun q67 => ?_) (fun q67 => ?_)
                · refine x_iconst h dX7_findCuts_74 ?_
                  refine x_istore_n h dX7_findCuts_75 rfl rfl ?_
                  dsimp only [xset]
                  refine x_iinc h dX7_findCuts_76 rfl rfl rfl ?_
                  dsimp only [xset]
                  refine x_goto h dX7_findCuts_79 (tgt := 37) (by decide) ?_
                  first
                    | (rw [bI_t (lsN_s.mpr ⟨q49, fun _ => q67⟩)] at ihp; exact ihp)
                    | (rw [bI_t (lsN_s.mpr ⟨q49, fun z => absurd z q58⟩)] at ihp; exact ihp)
                    | (rw [bI_f (fun z => q49 (lsN_s.mp z).1)] at ihp; exact ihp)
                    | (rw [bI_f (fun z => q67 ((lsN_s.mp z).2 q58))] at ihp; exact ihp)
                · refine x_iconst h dX7_findCuts_70 ?_
                  refine x_goto h dX7_findCuts_71 (tgt := 75) (by decide) ?_
                  refine x_istore_n h dX7_findCuts_75 rfl rfl ?_
                  dsimp only [xset]
                  refine x_iinc h dX7_findCuts_76 rfl rfl rfl ?_
                  dsimp only [xset]
                  refine x_goto h dX7_findCuts_79 (tgt := 37) (by decide) ?_
                  first
                    | (rw [bI_t (lsN_s.mpr ⟨q49, fun _ => q67⟩)] at ihp; exact ihp)
                    | (rw [bI_t (lsN_s.mpr ⟨q49, fun z => absurd z q58⟩)] at ihp; exact ihp)
                    | (rw [bI_f (fun z => q49 (lsN_s.mp z).1)] at ihp; exact ihp)
                    | (rw [bI_f (fun z => q67 ((lsN_s.mp z).2 q58))] at ihp; exact ihp)
  exact HH (bshl 1 (M 1 1)).toNat 0 (bcB M (-1)) (by omega) QuR.rf hBf

theorem dX7_cuts_0 : decode cX7_cuts 0 = .ok (.aload_n 0, 1) := by decide +kernel
theorem dX7_cuts_1 : decode cX7_cuts 1 = .ok (.invokevirtual 256, 3) := by decide +kernel
theorem dX7_cuts_4 : decode cX7_cuts 4 = .ok (.ireturn, 1) := by decide +kernel
set_option maxHeartbeats 800000 in
set_option maxRecDepth 100000 in
theorem c_X7_cuts {l : Launch} {ω : xO} {ks : Nat → Option Nat} (hm : xsh ω = mdS ks)  {M : xMem} (hI : MInv M) (hf : Fc M)  (hcl : M 1 0 ≤ 1000000) : Cq l ω yX7_cuts ({ frames := 10, cells := 0, slots := 0, locals := 224 } : Room) 1 0 [.ref (xad ω 0)] M (pI1 (fun r N' => r = (fcF M (bshl 1 (M 1 1)).toNat).1 ∧ QuW M N')) := by
  refine Cq.of (bytes := cX7_cuts) (ret := (some .int)) (lv0 := [some (.ref (xad ω 0))]) m_cd_X7_cuts m_in_X7 (by decide +kernel) (by decide +kernel) rfl rfl rfl rfl ?_
  intro κ h he hR
  refine x_aload_n h dX7_cuts_0 rfl ?_
  refine x_Q0i h dX7_cuts_1 m_ml_X7_256 m_im_X7_findCuts m_se_X7_findCuts (sM0 hm) rfl (by decide) rfl (c_X7_findCuts hm (by exact hI) (by assumption) (by first | omega | (simp only [ca_1]; omega))) (fun r1 N1 h1 => ?_)
  obtain ⟨rfl, hQ1⟩ := h1
  exact x_iretq h he dX7_cuts_4 ⟨rfl, hQ1.1⟩

noncomputable def nfrR (M : xMem) : Int := if (fcF M (bshl 1 (M 1 1)).toNat).1 < 0 then 0 else (fcF M (bshl 1 (M 1 1)).toNat).2
theorem dX7_freed_0 : decode cX7_freed 0 = .ok (.aload_n 0, 1) := by decide +kernel
theorem dX7_freed_1 : decode cX7_freed 1 = .ok (.invokevirtual 256, 3) := by decide +kernel
theorem dX7_freed_4 : decode cX7_freed 4 = .ok (.ifCond .ge 7, 3) := by decide +kernel
theorem dX7_freed_7 : decode cX7_freed 7 = .ok (.iconst 0, 1) := by decide +kernel
theorem dX7_freed_8 : decode cX7_freed 8 = .ok (.goto 7, 3) := by decide +kernel
theorem dX7_freed_11 : decode cX7_freed 11 = .ok (.aload_n 0, 1) := by decide +kernel
theorem dX7_freed_12 : decode cX7_freed 12 = .ok (.getfield 244, 3) := by decide +kernel
theorem dX7_freed_15 : decode cX7_freed 15 = .ok (.ireturn, 1) := by decide +kernel
set_option maxHeartbeats 800000 in
set_option maxRecDepth 100000 in
theorem c_X7_freed {l : Launch} {ω : xO} {ks : Nat → Option Nat} (hm : xsh ω = mdS ks)  {M : xMem} (hI : MInv M) (hf : Fc M)  (hcl : M 1 0 ≤ 1000000) : Cq l ω yX7_freed ({ frames := 10, cells := 0, slots := 0, locals := 224 } : Room) 1 0 [.ref (xad ω 0)] M (pI1 (fun r N' => r = nfrR M ∧ QuW M N')) := by
  refine Cq.of (bytes := cX7_freed) (ret := (some .int)) (lv0 := [some (.ref (xad ω 0))]) m_cd_X7_freed m_in_X7 (by decide +kernel) (by decide +kernel) rfl rfl rfl rfl ?_
  intro κ h he hR
  have hn := hI.1
  have hb := evF_R hn
  unfold evF at hb
  have hr := fcF_R M (bshl 1 (M 1 1)).toNat
  have hr1 : -1 ≤ (fcF M (bshl 1 (M 1 1)).toNat).1 ∧ (fcF M (bshl 1 (M 1 1)).toNat).1 ≤ 256 := by
    rcases hr with h | h
    · rw [h]; decide
    · omega
  refine x_aload_n h dX7_freed_0 rfl ?_
  refine x_Q0i h dX7_freed_1 m_ml_X7_256 m_im_X7_findCuts m_se_X7_findCuts (sM0 hm) rfl (by decide) rfl (c_X7_findCuts hm (by exact hI) (by assumption) (by first | omega | (simp only [ca_1]; omega))) (fun r1 N1 h1 => ?_)
  obtain ⟨rfl, hQ1⟩ := h1
  refine x_if_ge h dX7_freed_4 (tgt := 11) (by decide) (by omega) (fun q4 => ?_) (fun q4 => ?_)
  · refine x_aload_n h dX7_freed_11 rfl ?_
    refine x_geti (j := 11) 11 h dX7_freed_12 (sM0 hm) rfl in_X7 rfl (by decide) m_fl_X7_244 rfl (fun r12 => ?_)
    try rw [hQ1.2]
    exact x_iretq h he dX7_freed_15 ⟨by unfold nfrR; first | rw [if_neg (by omega)] | rw [if_pos (by omega)], hQ1.1⟩
  · refine x_iconst h dX7_freed_7 ?_
    refine x_goto h dX7_freed_8 (tgt := 15) (by decide) ?_
    try rw [hQ1.2]
    exact x_iretq h he dX7_freed_15 ⟨by unfold nfrR; first | rw [if_neg (by omega)] | rw [if_pos (by omega)], hQ1.1⟩

