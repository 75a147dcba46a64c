/-! the class: PEOPLE's STEPS: the methods -/
def xclr : List (Option Value) → Nat → List (Option Value)
  | [], _ => []
  | _ :: l, 0 => none :: l
  | a :: l, n + 1 => a :: xclr l n
theorem xget_clr : ∀ (l : List (Option Value)) (i j : Nat) (v : Value), xget (xclr l i) j = some v → xget l j = some v := by
  intro l
  induction l with
  | nil => intro i j v h; exact h
  | cons a l ih =>
    intro i j v h
    cases i with
    | zero =>
      cases j with
      | zero => simp [xclr, xget] at h
      | succ j => exact h
    | succ i =>
      cases j with
      | zero => exact h
      | succ j => exact ih i j v h
/-- a local is forgotten -/
theorem x_drop {ω : xO} {κ : xK} {pc : Nat} {lv : List (Option Value)} {st : List Value} {M : xMem} (i : Nat) (hX : X ω κ pc (xclr lv i) st M) : X ω κ pc lv st M := by
  intro hR H locs ls hP hS hl
  refine hX hR H locs ls hP hS ⟨hl.1, hl.2.1, fun q hq => ?_⟩
  obtain ⟨j, v⟩ := q
  have h1 := ((xas_mem _ 0 j v).mp hq).2
  exact xl_at hl (by rw [Nat.sub_zero] at h1; exact xget_clr _ _ _ _ h1)
def flC (v : Int) (n : Int) (r : Int → Int) : Int → Int := fun i => if 0 ≤ i ∧ i < n then v else r i
theorem flC_s (v : Int) (k : Nat) (r : Int → Int) : ur (flC v (k : Int) r) (k : Int) v = flC v ((k + 1 : Nat) : Int) r := by
  funext i
  unfold ur flC
  by_cases h : i = (k : Int)
  · rw [if_pos h, if_pos (by omega)]
  · rw [if_neg h]
    by_cases g : 0 ≤ i ∧ i < (k : Int)
    · rw [if_pos g, if_pos (by omega)]
    · rw [if_neg g, if_neg (by omega)]
theorem flC_0 (v : Int) (r : Int → Int) : flC v 0 r = r := by
  funext i
  unfold flC
  rw [if_neg (by omega)]
theorem upr_self (M : xMem) (k : Nat) : upr M k (M k) = M := by
  funext i
  unfold upr
  split
  · rename_i h; rw [h]
  · rfl
theorem upr_upr (M : xMem) (k : Nat) (r r' : Int → Int) : upr (upr M k r) k r' = upr M k r' := by
  funext i
  unfold upr
  split <;> rfl
theorem up_upr (M : xMem) (k : Nat) (r : Int → Int) (j z : Int) : up (upr M k r) k j z = upr M k (ur r j z) := by
  unfold up
  rw [upr_s, upr_upr]

theorem dJ7_fill_53178_0 : decode cJ7_fill_53178 0 = .ok (.iconst 0, 1) := by decide +kernel
theorem dJ7_fill_53178_1 : decode cJ7_fill_53178 1 = .ok (.istore_n 2, 1) := by decide +kernel
theorem dJ7_fill_53178_2 : decode cJ7_fill_53178 2 = .ok (.aload_n 0, 1) := by decide +kernel
theorem dJ7_fill_53178_3 : decode cJ7_fill_53178 3 = .ok (.arraylength, 1) := by decide +kernel
theorem dJ7_fill_53178_4 : decode cJ7_fill_53178 4 = .ok (.istore_n 3, 1) := by decide +kernel
theorem dJ7_fill_53178_5 : decode cJ7_fill_53178 5 = .ok (.iload_n 2, 1) := by decide +kernel
theorem dJ7_fill_53178_6 : decode cJ7_fill_53178 6 = .ok (.iload_n 3, 1) := by decide +kernel
theorem dJ7_fill_53178_7 : decode cJ7_fill_53178 7 = .ok (.if_icmp .ge 13, 3) := by decide +kernel
theorem dJ7_fill_53178_10 : decode cJ7_fill_53178 10 = .ok (.aload_n 0, 1) := by decide +kernel
theorem dJ7_fill_53178_11 : decode cJ7_fill_53178 11 = .ok (.iload_n 2, 1) := by decide +kernel
theorem dJ7_fill_53178_12 : decode cJ7_fill_53178 12 = .ok (.iload_n 1, 1) := by decide +kernel
theorem dJ7_fill_53178_13 : decode cJ7_fill_53178 13 = .ok (.iastore, 1) := by decide +kernel
theorem dJ7_fill_53178_14 : decode cJ7_fill_53178 14 = .ok (.iinc 2 1, 3) := by decide +kernel
theorem dJ7_fill_53178_17 : decode cJ7_fill_53178 17 = .ok (.goto (-12), 3) := by decide +kernel
theorem dJ7_fill_53178_20 : decode cJ7_fill_53178 20 = .ok (.return_, 1) := by decide +kernel
set_option maxHeartbeats 4000000 in
set_option maxRecDepth 100000 in
theorem c_J7_fill_53178 {l : Launch} {ω : xO}  {k0 n : Nat} {v : Int} {M : xMem} (hs : (xsh ω)[k0]? = some (.inl n)) (hn : n ≤ 1000) (hv : inR v) : Ct l ω yJ7_fill_53178 ({ frames := 0, cells := 0, slots := 0, locals := 0 } : Room) 4 2 [.ref (xad ω k0), .int (iI v)] M none (upr M k0 (flC v (n : Int) (M k0))) := by
  refine Ct.of (bytes := cJ7_fill_53178) (ret := none) (lv0 := [some (.ref (xad ω k0)), some (.int (iI v)), none, none]) m_cd_J7_fill_53178 m_in_J7 (by decide +kernel) (by decide +kernel) rfl rfl rfl rfl (fun hR => upr_R hR fun j => by unfold flC; split; exact hv; exact hR k0 j) ?_
  intro κ h he hR
  refine x_iconst h dJ7_fill_53178_0 ?_
  refine x_istore_n h dJ7_fill_53178_1 rfl rfl ?_
  dsimp only [xset]
  refine x_aload_n h dJ7_fill_53178_2 rfl ?_
  refine x_alen h dJ7_fill_53178_3 hs ?_
  refine x_istore_n h dJ7_fill_53178_4 rfl rfl ?_
  dsimp only [xset]
  refine x_mem (M' := upr M k0 (flC v ((0 : Nat) : Int) (M k0))) (by rw [show ((0 : Nat) : Int) = 0 from rfl, flC_0, upr_self]) ?_
  refine loop_up (fun k => X ω κ 5 [some (.ref (xad ω k0)), some (.int (iI v)), some (.int (iI (k : Int))), some (.int (iI (n : Int)))] [] (upr M k0 (flC v (k : Nat) (M k0)))) n ?_ ?_
  · show X ω κ 5 [some (.ref (xad ω k0)), some (.int (iI v)), some (.int (iI ((n : Nat) : Int))), some (.int (iI (n : Int)))] [] (upr M k0 (flC v (n : Nat) (M k0)))
    refine x_iload_n h dJ7_fill_53178_5 rfl ?_
    refine x_iload_n h dJ7_fill_53178_6 rfl ?_
    refine x_icmp_ge h dJ7_fill_53178_7 (tgt := 20) (by decide) (by omega) (by omega) (fun q7 => ?_) (fun q7 => ?_)
    · exact x_vret h he dJ7_fill_53178_20 rfl
    · exfalso; omega
  · intro k hk ih
    replace ih : X ω κ 5 [some (.ref (xad ω k0)), some (.int (iI v)), some (.int (iI ((k + 1 : Nat) : Int))), some (.int (iI (n : Int)))] [] (upr M k0 (flC v ((k + 1) : Nat) (M k0))) := ih
    show X ω κ 5 [some (.ref (xad ω k0)), some (.int (iI v)), some (.int (iI (k : Int))), some (.int (iI (n : Int)))] [] (upr M k0 (flC v (k : Nat) (M k0)))
    refine x_iload_n h dJ7_fill_53178_5 rfl ?_
    refine x_iload_n h dJ7_fill_53178_6 rfl ?_
    refine x_icmp_ge h dJ7_fill_53178_7 (tgt := 20) (by decide) (by omega) (by omega) (fun q7 => ?_) (fun q7 => ?_)
    · exfalso; omega
    · refine x_aload_n h dJ7_fill_53178_10 rfl ?_
      refine x_iload_n h dJ7_fill_53178_11 rfl ?_
      refine x_iload_n h dJ7_fill_53178_12 rfl ?_
      refine x_iastore h dJ7_fill_53178_13 hs (by omega) (by omega) ?_
      refine x_iinc h dJ7_fill_53178_14 rfl rfl rfl ?_
      dsimp only [xset]
      refine x_goto h dJ7_fill_53178_17 (tgt := 5) (by decide) ?_
      refine x_same ih rfl rfl (by rw [up_upr, flC_s])

def cpC (M : xMem) (b d j : Nat) : xMem := upr M (b + j) (rcp (M (d + j)) (M (b + j)) 0 0 8)
def bcC (M : xMem) (b d : Nat) : xMem := cpC (cpC (cpC (cpC (cpC (cpC (cpC (cpC (up (up M b 1 (M d 1)) b 2 (up M b 1 (M d 1) d 2)) b d 1) b d 2) b d 3) b d 4) b d 5) b d 6) b d 7) b d 8
theorem rcp_R {f g : Int → Int} {a b c : Int} (hf : ∀ j, inR (f j)) (hg : ∀ j, inR (g j)) (j : Int) : inR (rcp f g a b c j) := by
  unfold rcp
  split
  · exact hf _
  · exact hg _
theorem cpC_R {M : xMem} {b d j : Nat} (h : xR M) : xR (cpC M b d j) := upr_R h fun i => rcp_R (h _) (h _) i
theorem bcC_R {M : xMem} {b d : Nat} (h : xR M) : xR (bcC M b d) := cpC_R (cpC_R (cpC_R (cpC_R (cpC_R (cpC_R (cpC_R (cpC_R (up_R (up_R h (h d 1)) (up_R h (h d 1) d 2)))))))))

theorem dX1_become_0 : decode cX1_become 0 = .ok (.aload_n 0, 1) := by decide +kernel
theorem dX1_become_1 : decode cX1_become 1 = .ok (.aload_n 1, 1) := by decide +kernel
theorem dX1_become_2 : decode cX1_become 2 = .ok (.getfield 9, 3) := by decide +kernel
theorem dX1_become_5 : decode cX1_become 5 = .ok (.putfield 9, 3) := by decide +kernel
theorem dX1_become_8 : decode cX1_become 8 = .ok (.aload_n 0, 1) := by decide +kernel
theorem dX1_become_9 : decode cX1_become 9 = .ok (.aload_n 1, 1) := by decide +kernel
theorem dX1_become_10 : decode cX1_become 10 = .ok (.getfield 15, 3) := by decide +kernel
theorem dX1_become_13 : decode cX1_become 13 = .ok (.putfield 15, 3) := by decide +kernel
theorem dX1_become_16 : decode cX1_become 16 = .ok (.aload_n 1, 1) := by decide +kernel
theorem dX1_become_17 : decode cX1_become 17 = .ok (.getfield 18, 3) := by decide +kernel
theorem dX1_become_20 : decode cX1_become 20 = .ok (.iconst 0, 1) := by decide +kernel
theorem dX1_become_21 : decode cX1_become 21 = .ok (.aload_n 0, 1) := by decide +kernel
theorem dX1_become_22 : decode cX1_become 22 = .ok (.getfield 18, 3) := by decide +kernel
theorem dX1_become_25 : decode cX1_become 25 = .ok (.iconst 0, 1) := by decide +kernel
theorem dX1_become_26 : decode cX1_become 26 = .ok (.bipush 8, 2) := by decide +kernel
theorem dX1_become_28 : decode cX1_become 28 = .ok (.invokestatic 56, 3) := by decide +kernel
theorem dX1_become_31 : decode cX1_become 31 = .ok (.aload_n 1, 1) := by decide +kernel
theorem dX1_become_32 : decode cX1_become 32 = .ok (.getfield 22, 3) := by decide +kernel
theorem dX1_become_35 : decode cX1_become 35 = .ok (.iconst 0, 1) := by decide +kernel
theorem dX1_become_36 : decode cX1_become 36 = .ok (.aload_n 0, 1) := by decide +kernel
theorem dX1_become_37 : decode cX1_become 37 = .ok (.getfield 22, 3) := by decide +kernel
theorem dX1_become_40 : decode cX1_become 40 = .ok (.iconst 0, 1) := by decide +kernel
theorem dX1_become_41 : decode cX1_become 41 = .ok (.bipush 8, 2) := by decide +kernel
theorem dX1_become_43 : decode cX1_become 43 = .ok (.invokestatic 56, 3) := by decide +kernel
theorem dX1_become_46 : decode cX1_become 46 = .ok (.aload_n 1, 1) := by decide +kernel
theorem dX1_become_47 : decode cX1_become 47 = .ok (.getfield 25, 3) := by decide +kernel
theorem dX1_become_50 : decode cX1_become 50 = .ok (.iconst 0, 1) := by decide +kernel
theorem dX1_become_51 : decode cX1_become 51 = .ok (.aload_n 0, 1) := by decide +kernel
theorem dX1_become_52 : decode cX1_become 52 = .ok (.getfield 25, 3) := by decide +kernel
theorem dX1_become_55 : decode cX1_become 55 = .ok (.iconst 0, 1) := by decide +kernel
theorem dX1_become_56 : decode cX1_become 56 = .ok (.bipush 8, 2) := by decide +kernel
theorem dX1_become_58 : decode cX1_become 58 = .ok (.invokestatic 56, 3) := by decide +kernel
theorem dX1_become_61 : decode cX1_become 61 = .ok (.aload_n 1, 1) := by decide +kernel
theorem dX1_become_62 : decode cX1_become 62 = .ok (.getfield 28, 3) := by decide +kernel
theorem dX1_become_65 : decode cX1_become 65 = .ok (.iconst 0, 1) := by decide +kernel
theorem dX1_become_66 : decode cX1_become 66 = .ok (.aload_n 0, 1) := by decide +kernel
theorem dX1_become_67 : decode cX1_become 67 = .ok (.getfield 28, 3) := by decide +kernel
theorem dX1_become_70 : decode cX1_become 70 = .ok (.iconst 0, 1) := by decide +kernel
theorem dX1_become_71 : decode cX1_become 71 = .ok (.bipush 8, 2) := by decide +kernel
theorem dX1_become_73 : decode cX1_become 73 = .ok (.invokestatic 56, 3) := by decide +kernel
theorem dX1_become_76 : decode cX1_become 76 = .ok (.aload_n 1, 1) := by decide +kernel
theorem dX1_become_77 : decode cX1_become 77 = .ok (.getfield 31, 3) := by decide +kernel
theorem dX1_become_80 : decode cX1_become 80 = .ok (.iconst 0, 1) := by decide +kernel
theorem dX1_become_81 : decode cX1_become 81 = .ok (.aload_n 0, 1) := by decide +kernel
theorem dX1_become_82 : decode cX1_become 82 = .ok (.getfield 31, 3) := by decide +kernel
theorem dX1_become_85 : decode cX1_become 85 = .ok (.iconst 0, 1) := by decide +kernel
theorem dX1_become_86 : decode cX1_become 86 = .ok (.bipush 8, 2) := by decide +kernel
theorem dX1_become_88 : decode cX1_become 88 = .ok (.invokestatic 56, 3) := by decide +kernel
theorem dX1_become_91 : decode cX1_become 91 = .ok (.aload_n 1, 1) := by decide +kernel
theorem dX1_become_92 : decode cX1_become 92 = .ok (.getfield 34, 3) := by decide +kernel
theorem dX1_become_95 : decode cX1_become 95 = .ok (.iconst 0, 1) := by decide +kernel
theorem dX1_become_96 : decode cX1_become 96 = .ok (.aload_n 0, 1) := by decide +kernel
theorem dX1_become_97 : decode cX1_become 97 = .ok (.getfield 34, 3) := by decide +kernel
theorem dX1_become_100 : decode cX1_become 100 = .ok (.iconst 0, 1) := by decide +kernel
theorem dX1_become_101 : decode cX1_become 101 = .ok (.bipush 8, 2) := by decide +kernel
theorem dX1_become_103 : decode cX1_become 103 = .ok (.invokestatic 56, 3) := by decide +kernel
theorem dX1_become_106 : decode cX1_become 106 = .ok (.aload_n 1, 1) := by decide +kernel
theorem dX1_become_107 : decode cX1_become 107 = .ok (.getfield 37, 3) := by decide +kernel
theorem dX1_become_110 : decode cX1_become 110 = .ok (.iconst 0, 1) := by decide +kernel
theorem dX1_become_111 : decode cX1_become 111 = .ok (.aload_n 0, 1) := by decide +kernel
theorem dX1_become_112 : decode cX1_become 112 = .ok (.getfield 37, 3) := by decide +kernel
theorem dX1_become_115 : decode cX1_become 115 = .ok (.iconst 0, 1) := by decide +kernel
theorem dX1_become_116 : decode cX1_become 116 = .ok (.bipush 8, 2) := by decide +kernel
theorem dX1_become_118 : decode cX1_become 118 = .ok (.invokestatic 56, 3) := by decide +kernel
theorem dX1_become_121 : decode cX1_become 121 = .ok (.aload_n 1, 1) := by decide +kernel
theorem dX1_become_122 : decode cX1_become 122 = .ok (.getfield 40, 3) := by decide +kernel
theorem dX1_become_125 : decode cX1_become 125 = .ok (.iconst 0, 1) := by decide +kernel
theorem dX1_become_126 : decode cX1_become 126 = .ok (.aload_n 0, 1) := by decide +kernel
theorem dX1_become_127 : decode cX1_become 127 = .ok (.getfield 40, 3) := by decide +kernel
theorem dX1_become_130 : decode cX1_become 130 = .ok (.iconst 0, 1) := by decide +kernel
theorem dX1_become_131 : decode cX1_become 131 = .ok (.bipush 8, 2) := by decide +kernel
theorem dX1_become_133 : decode cX1_become 133 = .ok (.invokestatic 56, 3) := by decide +kernel
theorem dX1_become_136 : decode cX1_become 136 = .ok (.return_, 1) := by decide +kernel
set_option maxHeartbeats 4000000 in
set_option maxRecDepth 100000 in
theorem c_X1_become {l : Launch} {ω : xO} (hc : xsh ω = clS) {b r d r2 : Nat} {M : xMem} (hb : pI b r) (hb2 : pI d r2) : Ct l ω yX1_become ({ frames := 1, cells := 0, slots := 0, locals := 60 } : Room) 2 1 [.ref (xad ω b), .ref (xad ω d)] M none (bcC M b d) := by
  refine Ct.of (bytes := cX1_become) (ret := none) (lv0 := [some (.ref (xad ω b)), some (.ref (xad ω d))]) m_cd_X1_become m_in_X1 (by decide +kernel) (by decide +kernel) rfl rfl rfl rfl bcC_R ?_
  intro κ h he hR
  refine x_aload_n h dX1_become_0 rfl ?_
  refine x_aload_n h dX1_become_1 rfl ?_
  refine x_geti (j := 1) 1 h dX1_become_2 (sPe hc hb2) rfl in_X1 rfl (by decide) m_fl_X1_9 rfl (fun r2 => ?_)
  refine x_puti (j := 1) 1 h dX1_become_5 (sPe hc hb) rfl in_X1 rfl (by decide) m_fl_X1_9 tyX1_ok nmX1 rfl (tyX1_ok 1 (by decide)) rfl rfl (by omega) rfl ?_
  refine x_aload_n h dX1_become_8 rfl ?_
  refine x_aload_n h dX1_become_9 rfl ?_
  refine x_geti (j := 2) 2 h dX1_become_10 (sPe hc hb2) rfl in_X1 rfl (by decide) m_fl_X1_15 rfl (fun r10 => ?_)
  refine x_puti (j := 2) 2 h dX1_become_13 (sPe hc hb) rfl in_X1 rfl (by decide) m_fl_X1_15 tyX1_ok nmX1 rfl (tyX1_ok 2 (by decide)) rfl rfl (by omega) rfl ?_
  refine x_aload_n h dX1_become_16 rfl ?_
  refine x_getr (j := 3) (q := d + 1) h dX1_become_17 (sPe hc hb2) rfl in_X1 rfl (by decide) m_fl_X1_18 ?_
  refine x_iconst h dX1_become_20 ?_
  refine x_aload_n h dX1_become_21 rfl ?_
  refine x_getr (j := 3) (q := b + 1) h dX1_become_22 (sPe hc hb) rfl in_X1 rfl (by decide) m_fl_X1_18 ?_
  refine x_iconst h dX1_become_25 ?_
  refine x_bipush h dX1_become_26 (by decide) ?_
  refine x_copy h dX1_become_28 m_ml_X1_56 (sP1 hc hb2) (sP1 hc hb) (by omega) rfl (by decide) ?_
  refine x_aload_n h dX1_become_31 rfl ?_
  refine x_getr (j := 4) (q := d + 2) h dX1_become_32 (sPe hc hb2) rfl in_X1 rfl (by decide) m_fl_X1_22 ?_
  refine x_iconst h dX1_become_35 ?_
  refine x_aload_n h dX1_become_36 rfl ?_
  refine x_getr (j := 4) (q := b + 2) h dX1_become_37 (sPe hc hb) rfl in_X1 rfl (by decide) m_fl_X1_22 ?_
  refine x_iconst h dX1_become_40 ?_
  refine x_bipush h dX1_become_41 (by decide) ?_
  refine x_copy h dX1_become_43 m_ml_X1_56 (sP2 hc hb2) (sP2 hc hb) (by omega) rfl (by decide) ?_
  refine x_aload_n h dX1_become_46 rfl ?_
  refine x_getr (j := 5) (q := d + 3) h dX1_become_47 (sPe hc hb2) rfl in_X1 rfl (by decide) m_fl_X1_25 ?_
  refine x_iconst h dX1_become_50 ?_
  refine x_aload_n h dX1_become_51 rfl ?_
  refine x_getr (j := 5) (q := b + 3) h dX1_become_52 (sPe hc hb) rfl in_X1 rfl (by decide) m_fl_X1_25 ?_
  refine x_iconst h dX1_become_55 ?_
  refine x_bipush h dX1_become_56 (by decide) ?_
  refine x_copy h dX1_become_58 m_ml_X1_56 (sP3 hc hb2) (sP3 hc hb) (by omega) rfl (by decide) ?_
  refine x_aload_n h dX1_become_61 rfl ?_
  refine x_getr (j := 6) (q := d + 4) h dX1_become_62 (sPe hc hb2) rfl in_X1 rfl (by decide) m_fl_X1_28 ?_
  refine x_iconst h dX1_become_65 ?_
  refine x_aload_n h dX1_become_66 rfl ?_
  refine x_getr (j := 6) (q := b + 4) h dX1_become_67 (sPe hc hb) rfl in_X1 rfl (by decide) m_fl_X1_28 ?_
  refine x_iconst h dX1_become_70 ?_
  refine x_bipush h dX1_become_71 (by decide) ?_
  refine x_copy h dX1_become_73 m_ml_X1_56 (sP4 hc hb2) (sP4 hc hb) (by omega) rfl (by decide) ?_
  refine x_aload_n h dX1_become_76 rfl ?_
  refine x_getr (j := 7) (q := d + 5) h dX1_become_77 (sPe hc hb2) rfl in_X1 rfl (by decide) m_fl_X1_31 ?_
  refine x_iconst h dX1_become_80 ?_
  refine x_aload_n h dX1_become_81 rfl ?_
  refine x_getr (j := 7) (q := b + 5) h dX1_become_82 (sPe hc hb) rfl in_X1 rfl (by decide) m_fl_X1_31 ?_
  refine x_iconst h dX1_become_85 ?_
  refine x_bipush h dX1_become_86 (by decide) ?_
  refine x_copy h dX1_become_88 m_ml_X1_56 (sP5 hc hb2) (sP5 hc hb) (by omega) rfl (by decide) ?_
  refine x_aload_n h dX1_become_91 rfl ?_
  refine x_getr (j := 8) (q := d + 6) h dX1_become_92 (sPe hc hb2) rfl in_X1 rfl (by decide) m_fl_X1_34 ?_
  refine x_iconst h dX1_become_95 ?_
  refine x_aload_n h dX1_become_96 rfl ?_
  refine x_getr (j := 8) (q := b + 6) h dX1_become_97 (sPe hc hb) rfl in_X1 rfl (by decide) m_fl_X1_34 ?_
  refine x_iconst h dX1_become_100 ?_
  refine x_bipush h dX1_become_101 (by decide) ?_
  refine x_copy h dX1_become_103 m_ml_X1_56 (sP6 hc hb2) (sP6 hc hb) (by omega) rfl (by decide) ?_
  refine x_aload_n h dX1_become_106 rfl ?_
  refine x_getr (j := 9) (q := d + 7) h dX1_become_107 (sPe hc hb2) rfl in_X1 rfl (by decide) m_fl_X1_37 ?_
  refine x_iconst h dX1_become_110 ?_
  refine x_aload_n h dX1_become_111 rfl ?_
  refine x_getr (j := 9) (q := b + 7) h dX1_become_112 (sPe hc hb) rfl in_X1 rfl (by decide) m_fl_X1_37 ?_
  refine x_iconst h dX1_become_115 ?_
  refine x_bipush h dX1_become_116 (by decide) ?_
  refine x_copy h dX1_become_118 m_ml_X1_56 (sP7 hc hb2) (sP7 hc hb) (by omega) rfl (by decide) ?_
  refine x_aload_n h dX1_become_121 rfl ?_
  refine x_getr (j := 10) (q := d + 8) h dX1_become_122 (sPe hc hb2) rfl in_X1 rfl (by decide) m_fl_X1_40 ?_
  refine x_iconst h dX1_become_125 ?_
  refine x_aload_n h dX1_become_126 rfl ?_
  refine x_getr (j := 10) (q := b + 8) h dX1_become_127 (sPe hc hb) rfl in_X1 rfl (by decide) m_fl_X1_40 ?_
  refine x_iconst h dX1_become_130 ?_
  refine x_bipush h dX1_become_131 (by decide) ?_
  refine x_copy h dX1_become_133 m_ml_X1_56 (sP8 hc hb2) (sP8 hc hb) (by omega) rfl (by decide) ?_
  exact x_vret h he dX1_become_136 rfl

theorem dX1_beHeld_0 : decode cX1_beHeld 0 = .ok (.aload_n 0, 1) := by decide +kernel
theorem dX1_beHeld_1 : decode cX1_beHeld 1 = .ok (.iload_n 1, 1) := by decide +kernel
theorem dX1_beHeld_2 : decode cX1_beHeld 2 = .ok (.invokevirtual 62, 3) := by decide +kernel
theorem dX1_beHeld_5 : decode cX1_beHeld 5 = .ok (.ifCond .ne 4, 3) := by decide +kernel
theorem dX1_beHeld_8 : decode cX1_beHeld 8 = .ok (.return_, 1) := by decide +kernel
theorem dX1_beHeld_9 : decode cX1_beHeld 9 = .ok (.aload_n 0, 1) := by decide +kernel
theorem dX1_beHeld_10 : decode cX1_beHeld 10 = .ok (.getfield 49, 3) := by decide +kernel
theorem dX1_beHeld_13 : decode cX1_beHeld 13 = .ok (.iconst (-1), 1) := by decide +kernel
theorem dX1_beHeld_14 : decode cX1_beHeld 14 = .ok (.if_icmp .ne 8, 3) := by decide +kernel
theorem dX1_beHeld_17 : decode cX1_beHeld 17 = .ok (.aload_n 0, 1) := by decide +kernel
theorem dX1_beHeld_18 : decode cX1_beHeld 18 = .ok (.iload_n 1, 1) := by decide +kernel
theorem dX1_beHeld_19 : decode cX1_beHeld 19 = .ok (.putfield 49, 3) := by decide +kernel
theorem dX1_beHeld_22 : decode cX1_beHeld 22 = .ok (.aload_n 0, 1) := by decide +kernel
theorem dX1_beHeld_23 : decode cX1_beHeld 23 = .ok (.getfield 37, 3) := by decide +kernel
theorem dX1_beHeld_26 : decode cX1_beHeld 26 = .ok (.iload_n 1, 1) := by decide +kernel
theorem dX1_beHeld_27 : decode cX1_beHeld 27 = .ok (.aload_n 0, 1) := by decide +kernel
theorem dX1_beHeld_28 : decode cX1_beHeld 28 = .ok (.getfield 37, 3) := by decide +kernel
theorem dX1_beHeld_31 : decode cX1_beHeld 31 = .ok (.iload_n 1, 1) := by decide +kernel
theorem dX1_beHeld_32 : decode cX1_beHeld 32 = .ok (.iaload, 1) := by decide +kernel
theorem dX1_beHeld_33 : decode cX1_beHeld 33 = .ok (.iconst 1, 1) := by decide +kernel
theorem dX1_beHeld_34 : decode cX1_beHeld 34 = .ok (.iadd, 1) := by decide +kernel
theorem dX1_beHeld_35 : decode cX1_beHeld 35 = .ok (.sipush 9999, 3) := by decide +kernel
theorem dX1_beHeld_38 : decode cX1_beHeld 38 = .ok (.invokestatic 126, 3) := by decide +kernel
theorem dX1_beHeld_41 : decode cX1_beHeld 41 = .ok (.iastore, 1) := by decide +kernel
theorem dX1_beHeld_42 : decode cX1_beHeld 42 = .ok (.return_, 1) := by decide +kernel
set_option maxHeartbeats 4000000 in
set_option maxRecDepth 100000 in
theorem c_X1_beHeld {l : Launch} {ω : xO} (hc : xsh ω = clS) {b r : Nat} {p : Int} {M : xMem} (hb : pI b r) (hI : PeInv M b) (hp : clHas M b p) : Ct l ω yX1_beHeld ({ frames := 1, cells := 0, slots := 0, locals := 21 } : Room) 2 1 [.ref (xad ω b), .int (iI p)] M none (hldC M b p) := by
  refine Ct.of (bytes := cX1_beHeld) (ret := none) (lv0 := [some (.ref (xad ω b)), some (.int (iI p))]) m_cd_X1_beHeld m_in_X1 (by decide +kernel) (by decide +kernel) rfl rfl rfl rfl (fun hR => by unfold hldC; have i1 := hI.2.2 p hp.1 hp.2.1; exact up_R (by split; exact up_R hR (by omega); exact hR) (by omega)) ?_
  intro κ h he hR
  have ip := hI.2.2 p hp.1 hp.2.1
  have hu : up M b 13 p (b + 7) p = M (b + 7) p := by rw [up_n (by omega)]
  have g13 := hR b 13
  refine x_aload_n h dX1_beHeld_0 rfl ?_
  refine x_iload_n h dX1_beHeld_1 rfl ?_
  refine x_V1i h dX1_beHeld_2 m_ml_X1_62 m_im_X1_has m_se_X1_has (sPe hc hb) rfl (by decide) rfl (c_X1_has hc hb (by omega)) ?_
  refine x_ifneB h dX1_beHeld_5 (tgt := 9) (by decide) (fun q5 => ?_) (fun q5 => ?_)
  · refine x_aload_n h dX1_beHeld_9 rfl ?_
    refine x_geti (j := 13) 13 h dX1_beHeld_10 (sPe hc hb) rfl in_X1 rfl (by decide) m_fl_X1_49 rfl (fun r10 => ?_)
    refine x_iconst h dX1_beHeld_13 ?_
    refine x_icmp_ne h dX1_beHeld_14 (tgt := 22) (by decide) (by omega) (by omega) (fun q14 => ?_) (fun q14 => ?_)
    · refine x_aload_n h dX1_beHeld_22 rfl ?_
      refine x_getr (j := 9) (q := b + 7) h dX1_beHeld_23 (sPe hc hb) rfl in_X1 rfl (by decide) m_fl_X1_37 ?_
      refine x_iload_n h dX1_beHeld_26 rfl ?_
      refine x_aload_n h dX1_beHeld_27 rfl ?_
      refine x_getr (j := 9) (q := b + 7) h dX1_beHeld_28 (sPe hc hb) rfl in_X1 rfl (by decide) m_fl_X1_37 ?_
      refine x_iload_n h dX1_beHeld_31 rfl ?_
      refine x_iaload h dX1_beHeld_32 (sP7 hc hb) (by omega) (fun r32 => ?_)
      refine x_iconst h dX1_beHeld_33 ?_
      refine x_iadd h dX1_beHeld_34 ?_
      refine x_sipush h dX1_beHeld_35 (by decide) ?_
      refine x_min h dX1_beHeld_38 m_ml_X1_126 rfl (by decide) (by omega) (by omega) ?_
      refine x_iastore h dX1_beHeld_41 (sP7 hc hb) (by omega) (by omega) ?_
      exact x_vret h he dX1_beHeld_42 (by first | exact absurd hp (by assumption) | (unfold hldC; rw [if_pos (by assumption), up_n (by omega)]) | (unfold hldC; rw [if_neg (by assumption)]))
    · refine x_aload_n h dX1_beHeld_17 rfl ?_
      refine x_iload_n h dX1_beHeld_18 rfl ?_
      refine x_puti (j := 13) 13 h dX1_beHeld_19 (sPe hc hb) rfl in_X1 rfl (by decide) m_fl_X1_49 tyX1_ok nmX1 rfl (tyX1_ok 13 (by decide)) rfl rfl (by omega) rfl ?_
      refine x_aload_n h dX1_beHeld_22 rfl ?_
      refine x_getr (j := 9) (q := b + 7) h dX1_beHeld_23 (sPe hc hb) rfl in_X1 rfl (by decide) m_fl_X1_37 ?_
      refine x_iload_n h dX1_beHeld_26 rfl ?_
      refine x_aload_n h dX1_beHeld_27 rfl ?_
      refine x_getr (j := 9) (q := b + 7) h dX1_beHeld_28 (sPe hc hb) rfl in_X1 rfl (by decide) m_fl_X1_37 ?_
      refine x_iload_n h dX1_beHeld_31 rfl ?_
      refine x_iaload h dX1_beHeld_32 (sP7 hc hb) (by omega) (fun r32 => ?_)
      refine x_iconst h dX1_beHeld_33 ?_
      refine x_iadd h dX1_beHeld_34 ?_
      refine x_sipush h dX1_beHeld_35 (by decide) ?_
      refine x_min h dX1_beHeld_38 m_ml_X1_126 rfl (by decide) (by omega) (by omega) ?_
      refine x_iastore h dX1_beHeld_41 (sP7 hc hb) (by omega) (by omega) ?_
      exact x_vret h he dX1_beHeld_42 (by first | exact absurd hp (by assumption) | (unfold hldC; rw [if_pos (by assumption), up_n (by omega)]) | (unfold hldC; rw [if_neg (by assumption)]))
  · exact x_vret h he dX1_beHeld_8 (by first | exact absurd hp (by assumption) | (unfold hldC; rw [if_pos (by assumption), up_n (by omega)]) | (unfold hldC; rw [if_neg (by assumption)]))

theorem clHas_up {M : xMem} {b k : Nat} {j z p : Int} (h : clHas M b p) (hk : k ≠ b ∨ 1 ≠ j) : clHas (up M k j z) b p := by
  unfold clHas at h ⊢
  rw [up_nn (by omega)]
  exact h
theorem dX1_tug_0 : decode cX1_tug 0 = .ok (.aload_n 0, 1) := by decide +kernel
theorem dX1_tug_1 : decode cX1_tug 1 = .ok (.iload_n 1, 1) := by decide +kernel
theorem dX1_tug_2 : decode cX1_tug 2 = .ok (.invokevirtual 81, 3) := by decide +kernel
theorem dX1_tug_5 : decode cX1_tug 5 = .ok (.istore_n 3, 1) := by decide +kernel
theorem dX1_tug_6 : decode cX1_tug 6 = .ok (.aload_n 0, 1) := by decide +kernel
theorem dX1_tug_7 : decode cX1_tug 7 = .ok (.iload_n 3, 1) := by decide +kernel
theorem dX1_tug_8 : decode cX1_tug 8 = .ok (.invokevirtual 62, 3) := by decide +kernel
theorem dX1_tug_11 : decode cX1_tug 11 = .ok (.ifCond .eq 16, 3) := by decide +kernel
theorem dX1_tug_14 : decode cX1_tug 14 = .ok (.aload_n 0, 1) := by decide +kernel
theorem dX1_tug_15 : decode cX1_tug 15 = .ok (.iload_n 1, 1) := by decide +kernel
theorem dX1_tug_16 : decode cX1_tug 16 = .ok (.invokevirtual 154, 3) := by decide +kernel
theorem dX1_tug_19 : decode cX1_tug 19 = .ok (.aload_n 0, 1) := by decide +kernel
theorem dX1_tug_20 : decode cX1_tug 20 = .ok (.iload_n 3, 1) := by decide +kernel
theorem dX1_tug_21 : decode cX1_tug 21 = .ok (.invokevirtual 154, 3) := by decide +kernel
theorem dX1_tug_24 : decode cX1_tug 24 = .ok (.if_icmp .gt 5, 3) := by decide +kernel
theorem dX1_tug_27 : decode cX1_tug 27 = .ok (.iconst 0, 1) := by decide +kernel
theorem dX1_tug_28 : decode cX1_tug 28 = .ok (.ireturn, 1) := by decide +kernel
theorem dX1_tug_29 : decode cX1_tug 29 = .ok (.aload_n 0, 1) := by decide +kernel
theorem dX1_tug_30 : decode cX1_tug 30 = .ok (.iload_n 3, 1) := by decide +kernel
theorem dX1_tug_31 : decode cX1_tug 31 = .ok (.invokevirtual 70, 3) := by decide +kernel
theorem dX1_tug_34 : decode cX1_tug 34 = .ok (.istore 4, 2) := by decide +kernel
theorem dX1_tug_36 : decode cX1_tug 36 = .ok (.aload_n 0, 1) := by decide +kernel
theorem dX1_tug_37 : decode cX1_tug 37 = .ok (.getfield 52, 3) := by decide +kernel
theorem dX1_tug_40 : decode cX1_tug 40 = .ok (.iload 4, 2) := by decide +kernel
theorem dX1_tug_42 : decode cX1_tug 42 = .ok (.iload_n 2, 1) := by decide +kernel
theorem dX1_tug_43 : decode cX1_tug 43 = .ok (.invokevirtual 157, 3) := by decide +kernel
theorem dX1_tug_46 : decode cX1_tug 46 = .ok (.istore 5, 2) := by decide +kernel
theorem dX1_tug_48 : decode cX1_tug 48 = .ok (.aload_n 0, 1) := by decide +kernel
theorem dX1_tug_49 : decode cX1_tug 49 = .ok (.getfield 52, 3) := by decide +kernel
theorem dX1_tug_52 : decode cX1_tug 52 = .ok (.iload 5, 2) := by decide +kernel
theorem dX1_tug_54 : decode cX1_tug 54 = .ok (.iload_n 2, 1) := by decide +kernel
theorem dX1_tug_55 : decode cX1_tug 55 = .ok (.invokevirtual 87, 3) := by decide +kernel
theorem dX1_tug_58 : decode cX1_tug 58 = .ok (.aload_n 0, 1) := by decide +kernel
theorem dX1_tug_59 : decode cX1_tug 59 = .ok (.getfield 52, 3) := by decide +kernel
theorem dX1_tug_62 : decode cX1_tug 62 = .ok (.iload 4, 2) := by decide +kernel
theorem dX1_tug_64 : decode cX1_tug 64 = .ok (.iload_n 2, 1) := by decide +kernel
theorem dX1_tug_65 : decode cX1_tug 65 = .ok (.invokevirtual 87, 3) := by decide +kernel
theorem dX1_tug_68 : decode cX1_tug 68 = .ok (.if_icmp .lt 5, 3) := by decide +kernel
theorem dX1_tug_71 : decode cX1_tug 71 = .ok (.iconst 0, 1) := by decide +kernel
theorem dX1_tug_72 : decode cX1_tug 72 = .ok (.ireturn, 1) := by decide +kernel
theorem dX1_tug_73 : decode cX1_tug 73 = .ok (.aload_n 0, 1) := by decide +kernel
theorem dX1_tug_74 : decode cX1_tug 74 = .ok (.getfield 52, 3) := by decide +kernel
theorem dX1_tug_77 : decode cX1_tug 77 = .ok (.iload_n 2, 1) := by decide +kernel
theorem dX1_tug_78 : decode cX1_tug 78 = .ok (.iload 5, 2) := by decide +kernel
theorem dX1_tug_80 : decode cX1_tug 80 = .ok (.invokevirtual 87, 3) := by decide +kernel
theorem dX1_tug_83 : decode cX1_tug 83 = .ok (.aload_n 0, 1) := by decide +kernel
theorem dX1_tug_84 : decode cX1_tug 84 = .ok (.iload_n 1, 1) := by decide +kernel
theorem dX1_tug_85 : decode cX1_tug 85 = .ok (.invokevirtual 93, 3) := by decide +kernel
theorem dX1_tug_88 : decode cX1_tug 88 = .ok (.if_icmp .le 5, 3) := by decide +kernel
theorem dX1_tug_91 : decode cX1_tug 91 = .ok (.iconst 0, 1) := by decide +kernel
theorem dX1_tug_92 : decode cX1_tug 92 = .ok (.ireturn, 1) := by decide +kernel
theorem dX1_tug_93 : decode cX1_tug 93 = .ok (.aload_n 0, 1) := by decide +kernel
theorem dX1_tug_94 : decode cX1_tug 94 = .ok (.iload_n 1, 1) := by decide +kernel
theorem dX1_tug_95 : decode cX1_tug 95 = .ok (.iload_n 2, 1) := by decide +kernel
theorem dX1_tug_96 : decode cX1_tug 96 = .ok (.invokevirtual 145, 3) := by decide +kernel
theorem dX1_tug_99 : decode cX1_tug 99 = .ok (.pop, 1) := by decide +kernel
theorem dX1_tug_100 : decode cX1_tug 100 = .ok (.aload_n 0, 1) := by decide +kernel
theorem dX1_tug_101 : decode cX1_tug 101 = .ok (.iload_n 3, 1) := by decide +kernel
theorem dX1_tug_102 : decode cX1_tug 102 = .ok (.iload 5, 2) := by decide +kernel
theorem dX1_tug_104 : decode cX1_tug 104 = .ok (.invokevirtual 145, 3) := by decide +kernel
theorem dX1_tug_107 : decode cX1_tug 107 = .ok (.pop, 1) := by decide +kernel
theorem dX1_tug_108 : decode cX1_tug 108 = .ok (.aload_n 0, 1) := by decide +kernel
theorem dX1_tug_109 : decode cX1_tug 109 = .ok (.dup, 1) := by decide +kernel
theorem dX1_tug_110 : decode cX1_tug 110 = .ok (.getfield 46, 3) := by decide +kernel
theorem dX1_tug_113 : decode cX1_tug 113 = .ok (.iconst 1, 1) := by decide +kernel
theorem dX1_tug_114 : decode cX1_tug 114 = .ok (.iadd, 1) := by decide +kernel
theorem dX1_tug_115 : decode cX1_tug 115 = .ok (.putfield 46, 3) := by decide +kernel
theorem dX1_tug_118 : decode cX1_tug 118 = .ok (.aload_n 0, 1) := by decide +kernel
theorem dX1_tug_119 : decode cX1_tug 119 = .ok (.getfield 43, 3) := by decide +kernel
theorem dX1_tug_122 : decode cX1_tug 122 = .ok (.iload_n 3, 1) := by decide +kernel
theorem dX1_tug_123 : decode cX1_tug 123 = .ok (.dup2, 1) := by decide +kernel
theorem dX1_tug_124 : decode cX1_tug 124 = .ok (.iaload, 1) := by decide +kernel
theorem dX1_tug_125 : decode cX1_tug 125 = .ok (.iconst 1, 1) := by decide +kernel
theorem dX1_tug_126 : decode cX1_tug 126 = .ok (.iadd, 1) := by decide +kernel
theorem dX1_tug_127 : decode cX1_tug 127 = .ok (.iastore, 1) := by decide +kernel
theorem dX1_tug_128 : decode cX1_tug 128 = .ok (.aload_n 0, 1) := by decide +kernel
theorem dX1_tug_129 : decode cX1_tug 129 = .ok (.getfield 40, 3) := by decide +kernel
theorem dX1_tug_132 : decode cX1_tug 132 = .ok (.iload_n 3, 1) := by decide +kernel
theorem dX1_tug_133 : decode cX1_tug 133 = .ok (.aload_n 0, 1) := by decide +kernel
theorem dX1_tug_134 : decode cX1_tug 134 = .ok (.getfield 40, 3) := by decide +kernel
theorem dX1_tug_137 : decode cX1_tug 137 = .ok (.iload_n 3, 1) := by decide +kernel
theorem dX1_tug_138 : decode cX1_tug 138 = .ok (.iaload, 1) := by decide +kernel
theorem dX1_tug_139 : decode cX1_tug 139 = .ok (.iconst 1, 1) := by decide +kernel
theorem dX1_tug_140 : decode cX1_tug 140 = .ok (.iadd, 1) := by decide +kernel
theorem dX1_tug_141 : decode cX1_tug 141 = .ok (.sipush 9999, 3) := by decide +kernel
theorem dX1_tug_144 : decode cX1_tug 144 = .ok (.invokestatic 126, 3) := by decide +kernel
theorem dX1_tug_147 : decode cX1_tug 147 = .ok (.iastore, 1) := by decide +kernel
theorem dX1_tug_148 : decode cX1_tug 148 = .ok (.iconst 1, 1) := by decide +kernel
theorem dX1_tug_149 : decode cX1_tug 149 = .ok (.ireturn, 1) := by decide +kernel
set_option maxHeartbeats 4000000 in
set_option maxRecDepth 100000 in
theorem c_X1_tug {l : Launch} {ω : xO} (hc : xsh ω = clS) {b r : Nat} {p v c : Int} {M : xMem} (hb : pI b r) (hI : PeInv M b) (hD : RdInv M r) (hS : StB M b c) (hcc : c < 1000000) (hp : clHas M b p) (hv : plc v) : Ct l ω yX1_tug ({ frames := 2, cells := 0, slots := 0, locals := 46 } : Room) 6 2 [.ref (xad ω b), .int (iI p), .int (iI v)] M (some (.int (iI (bI (canTug M b r p v))))) (tI (canTug M b r p v) (tugC M b r p v) M) := by
  refine Ct.of (bytes := cX1_tug) (ret := (some .boolean)) (lv0 := [some (.ref (xad ω b)), some (.int (iI p)), some (.int (iI v)), none, none, none]) m_cd_X1_tug m_in_X1 (by decide +kernel) (by decide +kernel) rfl rfl rfl rfl (fun hR => by
    unfold tI
    split
    · rename_i q3
      have hm := q3.1
      have im := hI.2.2 _ hm.1 hm.2.1
      have it := hD (M (b + 2) (M (b + 4) p)) v (by omega) (by omega) (by omega) (by omega)
      have ht : 0 ≤ tugTo M b r p v ∧ tugTo M b r p v < 10 := it.2.2.2
      have s9 := hS.2 _ hm.1 hm.2.2
      have s12 := hS.1
      unfold tugC
      exact up_R (up_R (up_R (up_R (up_R hR (by omega)) (by omega)) (by omega)) (by omega)) (by omega)
    · exact hR) ?_
  intro κ h he hR
  have ip := hI.2.2 p hp.1 hp.2.1
  have g4 := hR (b + 4) p
  refine x_aload_n h dX1_tug_0 rfl ?_
  refine x_iload_n h dX1_tug_1 rfl ?_
  refine x_V1i h dX1_tug_2 m_ml_X1_81 m_im_X1_mateOf m_se_X1_mateOf (sPe hc hb) rfl (by decide) rfl (c_X1_mateOf hc hb (by omega)) ?_
  refine x_istore_n h dX1_tug_5 rfl rfl ?_
  dsimp only [xset]
  refine x_aload_n h dX1_tug_6 rfl ?_
  refine x_iload_n h dX1_tug_7 rfl ?_
  refine x_V1i h dX1_tug_8 m_ml_X1_62 m_im_X1_has m_se_X1_has (sPe hc hb) rfl (by decide) rfl (c_X1_has hc hb (by omega)) ?_
  refine x_ifeqB h dX1_tug_11 (tgt := 27) (by decide) (fun q11 => ?_) (fun q11 => ?_)
  · refine x_iconst h dX1_tug_27 ?_
    exact x_zret h he dX1_tug_28 (by first | exact Or.inl rfl | exact Or.inr rfl | exact bI_01 _ | omega) rfl (bI_f (by unfold canTug; omega)).symm (tI_n (by unfold canTug; omega)).symm
  · have hm : clHas M b (M (b + 4) p) := q11
    have im := hI.2.2 _ hm.1 hm.2.1
    have r1 : inR (plC M b p) := by
      show inR (pullsF _ _ _)
      unfold pullsF dnF rnF
      (repeat' split) <;> omega
    have r2 : inR (plC M b (M (b + 4) p)) := by
      show inR (pullsF _ _ _)
      unfold pullsF dnF rnF
      (repeat' split) <;> omega
    refine x_aload_n h dX1_tug_14 rfl ?_
    refine x_iload_n h dX1_tug_15 rfl ?_
    refine x_V1i h dX1_tug_16 m_ml_X1_154 m_im_X1_pullsOf m_se_X1_pullsOf (sPe hc hb) rfl (by decide) rfl (c_X1_pullsOf hc hb hI (by omega)) ?_
    refine x_aload_n h dX1_tug_19 rfl ?_
    refine x_iload_n h dX1_tug_20 rfl ?_
    refine x_V1i h dX1_tug_21 m_ml_X1_154 m_im_X1_pullsOf m_se_X1_pullsOf (sPe hc hb) rfl (by decide) rfl (c_X1_pullsOf hc hb hI (by omega)) ?_
    refine x_icmp_gt h dX1_tug_24 (tgt := 29) (by decide) (by omega) (by omega) (fun q24 => ?_) (fun q24 => ?_)
    · have it := hD (M (b + 2) (M (b + 4) p)) v (by omega) (by omega) (by omega) (by omega)
      have it2 : 0 ≤ M (r + 4) (M (b + 2) (M (b + 4) p) * 10 + v) ∧ M (r + 4) (M (b + 2) (M (b + 4) p) * 10 + v) < 10 := it.2.2.2
      have g1 := hR (r + 2) (M (r + 4) (M (b + 2) (M (b + 4) p) * 10 + v) * 10 + v)
      have g2 := hR (r + 2) (M (b + 2) (M (b + 4) p) * 10 + v)
      have g3 := hR (r + 2) (v * 10 + M (r + 4) (M (b + 2) (M (b + 4) p) * 10 + v))
      have g5 := slk_R (M (b + 1) p)
      have g6 := slk_R (M (b + 1) (M (b + 4) p))
      have g7 : inR (rchC M b p) := by
        show inR (_ + _ + _)
        omega
      refine x_aload_n h dX1_tug_29 rfl ?_
      refine x_iload_n h dX1_tug_30 rfl ?_
      refine x_V1i h dX1_tug_31 m_ml_X1_70 m_im_X1_placeOf m_se_X1_placeOf (sPe hc hb) rfl (by decide) rfl (c_X1_placeOf hc hb (by omega)) ?_
      refine x_istore h dX1_tug_34 rfl rfl ?_
      dsimp only [xset]
      refine x_aload_n h dX1_tug_36 rfl ?_
      refine x_getr (j := 0) (q := r) h dX1_tug_37 (sPe hc hb) rfl in_X1 rfl (by decide) m_fl_X1_52 ?_
      refine x_iload h dX1_tug_40 rfl ?_
      refine x_iload_n h dX1_tug_42 rfl ?_
      refine x_V2i h dX1_tug_43 m_ml_X1_157 m_im_X3_nearestBeside m_se_X3_nearestBeside (sRd hc ((pI_r hb))) rfl (by decide) rfl (c_X3_nearestBeside hc (pI_r hb) (by omega) (by omega)) ?_
      refine x_istore h dX1_tug_46 rfl rfl ?_
      dsimp only [xset]
      refine x_aload_n h dX1_tug_48 rfl ?_
      refine x_getr (j := 0) (q := r) h dX1_tug_49 (sPe hc hb) rfl in_X1 rfl (by decide) m_fl_X1_52 ?_
      refine x_iload h dX1_tug_52 rfl ?_
      refine x_iload_n h dX1_tug_54 rfl ?_
      refine x_V2i h dX1_tug_55 m_ml_X1_87 m_im_X3_distance m_se_X3_distance (sRd hc ((pI_r hb))) rfl (by decide) rfl (c_X3_distance hc (pI_r hb) (by omega) (by omega)) ?_
      refine x_aload_n h dX1_tug_58 rfl ?_
      refine x_getr (j := 0) (q := r) h dX1_tug_59 (sPe hc hb) rfl in_X1 rfl (by decide) m_fl_X1_52 ?_
      refine x_iload h dX1_tug_62 rfl ?_
      refine x_iload_n h dX1_tug_64 rfl ?_
      refine x_V2i h dX1_tug_65 m_ml_X1_87 m_im_X3_distance m_se_X3_distance (sRd hc ((pI_r hb))) rfl (by decide) rfl (c_X3_distance hc (pI_r hb) (by omega) (by omega)) ?_
      refine x_icmp_lt h dX1_tug_68 (tgt := 73) (by decide) (by omega) (by omega) (fun q68 => ?_) (fun q68 => ?_)
      · refine x_aload_n h dX1_tug_73 rfl ?_
        refine x_getr (j := 0) (q := r) h dX1_tug_74 (sPe hc hb) rfl in_X1 rfl (by decide) m_fl_X1_52 ?_
        refine x_iload_n h dX1_tug_77 rfl ?_
        refine x_iload h dX1_tug_78 rfl ?_
        refine x_V2i h dX1_tug_80 m_ml_X1_87 m_im_X3_distance m_se_X3_distance (sRd hc ((pI_r hb))) rfl (by decide) rfl (c_X3_distance hc (pI_r hb) (by omega) (by omega)) ?_
        refine x_aload_n h dX1_tug_83 rfl ?_
        refine x_iload_n h dX1_tug_84 rfl ?_
        refine x_V1i h dX1_tug_85 m_ml_X1_93 m_im_X1_reach m_se_X1_reach (sPe hc hb) rfl (by decide) rfl (c_X1_reach hc hb hI (by omega) (by omega)) ?_
        refine x_icmp_le h dX1_tug_88 (tgt := 93) (by decide) (by omega) (by omega) (fun q88 => ?_) (fun q88 => ?_)
        · have hct : canTug M b r p v := ⟨hm, q24, q68, q88⟩
          have s9 := hS.2 _ hm.1 hm.2.2
          have s12 := hS.1
          have hm1 := clHas_up (k := b + 2) (j := p) (z := v) hm (by omega)
          have e12 : up (up M (b + 2) p v) (b + 2) (M (b + 4) p) (M (r + 4) (M (b + 2) (M (b + 4) p) * 10 + v)) b 12 = M b 12 := by rw [up_n (by omega), up_n (by omega)]
          have e9 : up (up (up M (b + 2) p v) (b + 2) (M (b + 4) p) (M (r + 4) (M (b + 2) (M (b + 4) p) * 10 + v))) b 12 (M b 12 + 1) (b + 9) (M (b + 4) p) = M (b + 9) (M (b + 4) p) := by rw [up_n (by omega), up_n (by omega), up_n (by omega)]
          have e8 : up (up (up (up M (b + 2) p v) (b + 2) (M (b + 4) p) (M (r + 4) (M (b + 2) (M (b + 4) p) * 10 + v))) b 12 (M b 12 + 1)) (b + 9) (M (b + 4) p) (M (b + 9) (M (b + 4) p) + 1) (b + 8) (M (b + 4) p) = M (b + 8) (M (b + 4) p) := by rw [up_n (by omega), up_n (by omega), up_n (by omega), up_n (by omega)]
          refine x_aload_n h dX1_tug_93 rfl ?_
          refine x_iload_n h dX1_tug_94 rfl ?_
          refine x_iload_n h dX1_tug_95 rfl ?_
          refine x_V2i h dX1_tug_96 m_ml_X1_145 m_im_X1_setPlace m_se_X1_setPlace (sPe hc hb) rfl (by decide) rfl (c_X1_setPlace hc hb (by omega) (by omega)) ?_
          refine x_pop h dX1_tug_99 rfl ?_
          refine x_aload_n h dX1_tug_100 rfl ?_
          refine x_iload_n h dX1_tug_101 rfl ?_
          refine x_iload h dX1_tug_102 rfl ?_
          refine x_V2i h dX1_tug_104 m_ml_X1_145 m_im_X1_setPlace m_se_X1_setPlace (sPe hc hb) rfl (by decide) rfl (c_X1_setPlace hc hb hm1 (by omega)) ?_
          refine x_pop h dX1_tug_107 rfl ?_
          refine x_aload_n h dX1_tug_108 rfl ?_
          refine x_dup h dX1_tug_109 rfl ?_
          refine x_geti (j := 12) 12 h dX1_tug_110 (sPe hc hb) rfl in_X1 rfl (by decide) m_fl_X1_46 rfl (fun r110 => ?_)
          refine x_iconst h dX1_tug_113 ?_
          rw [e12]
          refine x_iadd h dX1_tug_114 ?_
          refine x_puti (j := 12) 12 h dX1_tug_115 (sPe hc hb) rfl in_X1 rfl (by decide) m_fl_X1_46 tyX1_ok nmX1 rfl (tyX1_ok 12 (by decide)) rfl rfl (by omega) rfl ?_
          refine x_aload_n h dX1_tug_118 rfl ?_
          refine x_getr (j := 11) (q := b + 9) h dX1_tug_119 (sPe hc hb) rfl in_X1 rfl (by decide) m_fl_X1_43 ?_
          refine x_iload_n h dX1_tug_122 rfl ?_
          refine x_dup2 h dX1_tug_123 rfl rfl ?_
          refine x_iaload h dX1_tug_124 (sP9 hc hb) (by omega) (fun r124 => ?_)
          refine x_iconst h dX1_tug_125 ?_
          rw [e9]
          refine x_iadd h dX1_tug_126 ?_
          refine x_iastore h dX1_tug_127 (sP9 hc hb) (by omega) (by omega) ?_
          refine x_aload_n h dX1_tug_128 rfl ?_
          refine x_getr (j := 10) (q := b + 8) h dX1_tug_129 (sPe hc hb) rfl in_X1 rfl (by decide) m_fl_X1_40 ?_
          refine x_iload_n h dX1_tug_132 rfl ?_
          refine x_aload_n h dX1_tug_133 rfl ?_
          refine x_getr (j := 10) (q := b + 8) h dX1_tug_134 (sPe hc hb) rfl in_X1 rfl (by decide) m_fl_X1_40 ?_
          refine x_iload_n h dX1_tug_137 rfl ?_
          refine x_iaload h dX1_tug_138 (sP8 hc hb) (by omega) (fun r138 => ?_)
          rw [e8]
          refine x_iconst h dX1_tug_139 ?_
          refine x_iadd h dX1_tug_140 ?_
          refine x_sipush h dX1_tug_141 (by decide) ?_
          refine x_min h dX1_tug_144 m_ml_X1_126 rfl (by decide) (by omega) (by omega) ?_
          refine x_iastore h dX1_tug_147 (sP8 hc hb) (by omega) (by omega) ?_
          refine x_iconst h dX1_tug_148 ?_
          exact x_zret h he dX1_tug_149 (by first | exact Or.inl rfl | exact Or.inr rfl | exact bI_01 _ | omega) rfl (bI_t hct).symm (tI_p hct).symm
        · refine x_iconst h dX1_tug_91 ?_
          exact x_zret h he dX1_tug_92 (by first | exact Or.inl rfl | exact Or.inr rfl | exact bI_01 _ | omega) rfl (bI_f (fun z => q88 z.2.2.2)).symm (tI_n (fun z => q88 z.2.2.2)).symm
      · refine x_iconst h dX1_tug_71 ?_
        exact x_zret h he dX1_tug_72 (by first | exact Or.inl rfl | exact Or.inr rfl | exact bI_01 _ | omega) rfl (bI_f (fun z => q68 z.2.2.1)).symm (tI_n (fun z => q68 z.2.2.1)).symm
    · refine x_iconst h dX1_tug_27 ?_
      exact x_zret h he dX1_tug_28 (by first | exact Or.inl rfl | exact Or.inr rfl | exact bI_01 _ | omega) rfl (bI_f (by unfold canTug; omega)).symm (tI_n (by unfold canTug; omega)).symm
