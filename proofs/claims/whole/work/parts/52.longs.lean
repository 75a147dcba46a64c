/-! long numbers: rows; knots, copy -/
def lI (z : Int) : Int64 := Int64.ofInt z
theorem lI_toInt {z : Int} (h : -9223372036854775808 ≤ z ∧ z ≤ 9223372036854775807) : (lI z).toInt = z := by
  unfold lI
  rw [Int64.toInt_ofInt]
  have e : Int64.size = 18446744073709551616 := rfl
  rw [e]
  exact Int.bmod_eq_of_le (by omega) (by omega)
theorem lI_i {z : Int} (h : inR z) : (iI z).toInt64 = lI z := by
  apply Int64.toInt_inj.mp
  rw [Int32.toInt_toInt64, iI_toInt h, lI_toInt (by omega)]
theorem lI_add (a b : Int) : lI a + lI b = lI (a + b) := (Int64.ofInt_add a b).symm
def cm3 (a b : Int) : Int := if b < a then 1 else if a = b then 0 else -1
theorem cm3_R (a b : Int) : inR (cm3 a b) := by unfold cm3; (repeat' split) <;> decide
theorem lI_cmp {a b : Int} (ha : -9223372036854775808 ≤ a ∧ a ≤ 9223372036854775807) (hb : -9223372036854775808 ≤ b ∧ b ≤ 9223372036854775807) : lg_cmp (lI a) (lI b) = iI (cm3 a b) := by
  unfold lg_cmp cm3
  simp only [gt_iff_lt, Int64.lt_iff_toInt_lt, ← Int64.toInt_inj, lI_toInt ha, lI_toInt hb]
  (repeat' split) <;> rfl
theorem cm3_gt {a b : Int} : 0 < cm3 a b ↔ b < a := by unfold cm3; (repeat' split) <;> omega
theorem cm3_le {a b : Int} : cm3 a b ≤ 0 ↔ a ≤ b := by unfold cm3; (repeat' split) <;> omega
def xcb (lv : List (Option Value)) : Nat → Bool
  | 0 => true
  | k + 1 => match xget lv k with
    | none => true
    | some v => v.category == 1
theorem xcb_c {lv : List (Option Value)} {j k : Nat} {v : Value} (h : xcb lv k = true) (hj : xget lv j = some v) (e : j + 1 = k) : v.category = 1 := by
  subst e
  simp only [xcb, hj] at h
  exact eq_of_beq h
theorem xget_out : ∀ (l : List (Option Value)) (n : Nat), ¬ n < l.length → xget l n = none := by
  intro l
  induction l with
  | nil => intro n _; rfl
  | cons a l ih =>
    intro n hn
    cases n with
    | zero => exact absurd (by simp) hn
    | succ n => exact ih n (fun z => hn (by simpa using z))
theorem xl_setL {ls : Array Slot} {nL : Nat} {lv : List (Option Value)} {i : Nat} {v : Value} (hc : xcb lv i = true) (h : lv_has ls nL ((i, v) :: (xas 0 lv).filter (fun q => !(q.1 == i) && !(q.1 + 1 == i && q.2.category == 2)))) : lv_has ls nL (xas 0 (xset lv i v)) := by
  refine ⟨h.1, h.2.1, fun q hq => h.2.2 q ?_⟩
  obtain ⟨j, w⟩ := q
  have h1 := ((xas_mem _ 0 j w).mp hq).2
  rw [Nat.sub_zero, xget_set] at h1
  by_cases he : j = i
  · subst he
    by_cases hl : j < lv.length
    · rw [if_pos ⟨rfl, hl⟩] at h1
      cases h1
      exact List.mem_cons_self
    · rw [if_neg (fun z => hl z.2), xget_out _ _ hl] at h1
      cases h1
  · rw [if_neg (fun z => he z.1)] at h1
    refine List.mem_cons_of_mem _ (List.mem_filter.mpr ⟨(xas_mem lv 0 j w).mpr ⟨Nat.zero_le _, h1⟩, ?_⟩)
    by_cases e2 : j + 1 = i
    · have := xcb_c hc h1 e2
      simp [he, this]
    · simp [he, e2]
theorem xget_clrs : ∀ (l : List (Option Value)) (i : Nat), xget (xclr l i) i = none := by
  intro l
  induction l with
  | nil => intro i; rfl
  | cons a l ih =>
    intro i
    cases i with
    | zero => rfl
    | succ i => exact ih i
theorem xl_setW {ls : Array Slot} {nL : Nat} {lv : List (Option Value)} {i : Nat} {v : Value} (hc : xcb lv i = true) (h : lv_has ls nL ((i, v) :: (xas 0 lv).filter (fun q => !(q.1 == i) && (!(q.1 == i + 1) && !(q.1 + 1 == i && q.2.category == 2))))) : lv_has ls nL (xas 0 (xclr (xset lv i v) (i + 1))) := by
  refine ⟨h.1, h.2.1, fun q hq => h.2.2 q ?_⟩
  obtain ⟨j, w⟩ := q
  have h0 := ((xas_mem _ 0 j w).mp hq).2
  rw [Nat.sub_zero] at h0
  have hne : j ≠ i + 1 := fun e => by rw [e, xget_clrs] at h0; cases h0
  have h1 := xget_clr _ _ _ _ h0
  rw [xget_set] at h1
  by_cases he : j = i
  · subst he
    by_cases hl : j < lv.length
    · rw [if_pos ⟨rfl, hl⟩] at h1
      cases h1
      exact List.mem_cons_self
    · rw [if_neg (fun z => hl z.2), xget_out _ _ hl] at h1
      cases h1
  · rw [if_neg (fun z => he z.1)] at h1
    refine List.mem_cons_of_mem _ (List.mem_filter.mpr ⟨(xas_mem lv 0 j w).mpr ⟨Nat.zero_le _, h1⟩, ?_⟩)
    by_cases e2 : j + 1 = i
    · have := xcb_c hc h1 e2
      simp [he, hne, this]
    · simp [he, hne, e2]
section XL
variable {ω : xO} {κ : xK} {l : Launch} {cc : ByteArray} {nL : Nat} {own : String} {R : Room} {pc : Nat} {lv : List (Option Value)} {st : List Value} {M : xMem}
theorem x_istoreL {k : Nat} {x : Int32} (h : xOk ω κ l cc nL own R) (hd : decode cc pc = .ok (.istore k, 2)) (hc : xcb lv k = true) (hn : Nat.blt k nL = true) (kk : X ω κ (pc + 2) (xset lv k (.int x)) st M) : X ω κ pc lv (.int x :: st) M :=
  fun hR H locs ls hP hS hl => lv_istore h.1 h.2.1 hd hl (by rw [h.2.2.1]; exact Nat.le_of_ble_eq_true hn) rfl fun _ hl' => kk hR H locs _ hP hS (xl_setL hc hl')
theorem x_iincL {k : Nat} {n z : Int} (h : xOk ω κ l cc nL own R) (hd : decode cc pc = .ok (.iinc k n, 3)) (hg : xget lv k = some (.int (iI z))) (hc : xcb lv k = true) (hn : Nat.blt k nL = true) (kk : X ω κ (pc + 3) (xset lv k (.int (iI (z + n)))) st M) : X ω κ pc lv st M := by
  intro hR H locs ls hP hS hl
  have hm : (k, Value.int (iI z)) ∈ xas 0 lv := (xas_mem lv 0 k _).mpr ⟨Nat.zero_le _, hg⟩
  obtain ⟨q, hq⟩ := List.getElem?_of_mem hm
  exact lv_iinc (v := iI (z + n)) h.1 h.2.1 hd hl hq (iI_add z n) (by rw [h.2.2.1]; exact Nat.le_of_ble_eq_true hn) rfl fun _ hl' => kk hR H locs _ hP hS (xl_setL hc hl')
theorem x_lstore_n {k : Fin 4} {x : Int64} (h : xOk ω κ l cc nL own R) (hd : decode cc pc = .ok (.lstore_n k, 1)) (hc : xcb lv k = true) (hn : Nat.blt (k + 1) nL = true) (kk : X ω κ (pc + 1) (xclr (xset lv k (.long x)) (k + 1)) st M) : X ω κ pc lv (.long x :: st) M :=
  fun hR H locs ls hP hS hl => lv_lstore_n h.1 h.2.1 hd rfl hl (by rw [h.2.2.1]; exact Nat.le_of_ble_eq_true hn) rfl fun _ hl' => kk hR H locs _ hP hS (xl_setW hc hl')
theorem x_lload_n {k : Fin 4} {x : Int64} (h : xOk ω κ l cc nL own R) (hd : decode cc pc = .ok (.lload_n k, 1)) (hg : xget lv k = some (.long x)) (kk : X ω κ (pc + 1) lv (.long x :: st) M) : X ω κ pc lv st M :=
  fun hR H locs ls hP hS hl => lv_lload_n h.1 h.2.1 hd rfl (xl_at hl hg) (kk hR H locs ls hP hS hl)
theorem x_lconst {n : Fin 2} {v : Int64} (h : xOk ω κ l cc nL own R) (hd : decode cc pc = .ok (.lconst n, 1)) (hv : Int64.ofNat (n : Nat) = v) (kk : X ω κ (pc + 1) lv (.long v :: st) M) : X ω κ pc lv st M :=
  fun hR H locs ls hP hS hl => lv_lconst h.1 h.2.1 hd hv (kk hR H locs ls hP hS hl)
theorem x_i2l {x : Int32} (h : xOk ω κ l cc nL own R) (hd : decode cc pc = .ok (.i2l, 1)) (kk : X ω κ (pc + 1) lv (.long x.toInt64 :: st) M) : X ω κ pc lv (.int x :: st) M :=
  fun hR H locs ls hP hS hl => lv_i2l h.1 h.2.1 hd rfl (kk hR H locs ls hP hS hl)
theorem x_lmul {x y : Int64} (h : xOk ω κ l cc nL own R) (hd : decode cc pc = .ok (.lmul, 1)) (kk : X ω κ (pc + 1) lv (.long (x * y) :: st) M) : X ω κ pc lv (.long y :: .long x :: st) M :=
  fun hR H locs ls hP hS hl => lv_lmul h.1 h.2.1 hd (kk hR H locs ls hP hS hl)
theorem x_ladd {a b : Int} (h : xOk ω κ l cc nL own R) (hd : decode cc pc = .ok (.ladd, 1)) (kk : X ω κ (pc + 1) lv (.long (lI (a + b)) :: st) M) : X ω κ pc lv (.long (lI b) :: .long (lI a) :: st) M :=
  fun hR H locs ls hP hS hl => lv_ladd h.1 h.2.1 hd (by rw [lI_add]; exact kk hR H locs ls hP hS hl)
theorem x_lcmp {a b : Int} (h : xOk ω κ l cc nL own R) (hd : decode cc pc = .ok (.lcmp, 1)) (ha : -9223372036854775808 ≤ a ∧ a ≤ 9223372036854775807) (hb : -9223372036854775808 ≤ b ∧ b ≤ 9223372036854775807) (kk : X ω κ (pc + 1) lv (.int (iI (cm3 a b)) :: st) M) : X ω κ pc lv (.long (lI b) :: .long (lI a) :: st) M :=
  fun hR H locs ls hP hS hl => W.lcmp h.1 h.2.1 hd (by rw [lI_cmp ha hb]; exact kk hR H locs ls hP hS hl)
theorem x_lret {v z : Int64} {ρ : Option Value} {Mf : xMem} (h : xOk ω κ l cc nL own R) (he : xEnd ω κ (some .long) ρ Mf) (hd : decode cc pc = .ok (.lreturn, 1)) (hρ : ρ = some (.long z)) (hv : v = z) (hM : M = Mf) : X ω κ pc lv [.long v] M := by
  subst hρ hv hM
  intro hR H locs ls hP hS hl
  rw [he.2]
  exact W.lret h.1 h.2.1 he.1 (fun t ht _ => ⟨rfl, by rw [ht]; exact hP, hS.F ht⟩) hS.2.2 hd h.2.2.2.2.2.2.2.2.1
end XL
def knF (v : Int) : Nat → Int64
  | 0 => 1
  | k + 1 => knF v k * (iI v).toInt64
def knGd (n v : Int) : Prop := (0 ≤ n ∧ n ≤ 6) ∧ 1 ≤ v ∧ v ≤ 99
noncomputable def knA (n v : Int) : Int64 := tI (knGd n v) (knF v n.toNat) (iI (-1000001)).toInt64
noncomputable def knotsM (M : xMem) (n v : Int) : xMem := tI (knGd n v) M (fndC M 0)
noncomputable def nknM (M : xMem) (n v : Int) : xMem := tI (knGd n v) M (fnM M (-1000001))
theorem dX6_knots_0 : decode cX6_knots 0 = .ok (.iload_n 1, 1) := by decide +kernel
theorem dX6_knots_1 : decode cX6_knots 1 = .ok (.ifCond .lt 20, 3) := by decide +kernel
theorem dX6_knots_4 : decode cX6_knots 4 = .ok (.iload_n 1, 1) := by decide +kernel
theorem dX6_knots_5 : decode cX6_knots 5 = .ok (.bipush 6, 2) := by decide +kernel
theorem dX6_knots_7 : decode cX6_knots 7 = .ok (.if_icmp .gt 14, 3) := by decide +kernel
theorem dX6_knots_10 : decode cX6_knots 10 = .ok (.iload_n 2, 1) := by decide +kernel
theorem dX6_knots_11 : decode cX6_knots 11 = .ok (.iconst 1, 1) := by decide +kernel
theorem dX6_knots_12 : decode cX6_knots 12 = .ok (.if_icmp .lt 9, 3) := by decide +kernel
theorem dX6_knots_15 : decode cX6_knots 15 = .ok (.iload_n 2, 1) := by decide +kernel
theorem dX6_knots_16 : decode cX6_knots 16 = .ok (.bipush 99, 2) := by decide +kernel
theorem dX6_knots_18 : decode cX6_knots 18 = .ok (.if_icmp .le 10, 3) := by decide +kernel
theorem dX6_knots_21 : decode cX6_knots 21 = .ok (.aload_n 0, 1) := by decide +kernel
theorem dX6_knots_22 : decode cX6_knots 22 = .ok (.iconst 0, 1) := by decide +kernel
theorem dX6_knots_23 : decode cX6_knots 23 = .ok (.invokevirtual 95, 3) := by decide +kernel
theorem dX6_knots_26 : decode cX6_knots 26 = .ok (.i2l, 1) := by decide +kernel
theorem dX6_knots_27 : decode cX6_knots 27 = .ok (.lreturn, 1) := by decide +kernel
theorem dX6_knots_28 : decode cX6_knots 28 = .ok (.lconst 1, 1) := by decide +kernel
theorem dX6_knots_29 : decode cX6_knots 29 = .ok (.lstore_n 3, 1) := by decide +kernel
theorem dX6_knots_30 : decode cX6_knots 30 = .ok (.iconst 0, 1) := by decide +kernel
theorem dX6_knots_31 : decode cX6_knots 31 = .ok (.istore 5, 2) := by decide +kernel
theorem dX6_knots_33 : decode cX6_knots 33 = .ok (.iload 5, 2) := by decide +kernel
theorem dX6_knots_35 : decode cX6_knots 35 = .ok (.iload_n 1, 1) := by decide +kernel
theorem dX6_knots_36 : decode cX6_knots 36 = .ok (.if_icmp .ge 14, 3) := by decide +kernel
theorem dX6_knots_39 : decode cX6_knots 39 = .ok (.lload_n 3, 1) := by decide +kernel
theorem dX6_knots_40 : decode cX6_knots 40 = .ok (.iload_n 2, 1) := by decide +kernel
theorem dX6_knots_41 : decode cX6_knots 41 = .ok (.i2l, 1) := by decide +kernel
theorem dX6_knots_42 : decode cX6_knots 42 = .ok (.lmul, 1) := by decide +kernel
theorem dX6_knots_43 : decode cX6_knots 43 = .ok (.lstore_n 3, 1) := by decide +kernel
theorem dX6_knots_44 : decode cX6_knots 44 = .ok (.iinc 5 1, 3) := by decide +kernel
theorem dX6_knots_47 : decode cX6_knots 47 = .ok (.goto (-14), 3) := by decide +kernel
theorem dX6_knots_50 : decode cX6_knots 50 = .ok (.lload_n 3, 1) := by decide +kernel
theorem dX6_knots_51 : decode cX6_knots 51 = .ok (.lreturn, 1) := by decide +kernel
set_option maxHeartbeats 800000 in
set_option maxRecDepth 100000 in
theorem c_X6_knots {l : Launch} {ω : xO} (hc : xsh ω = clS) {n v : Int} {M : xMem} (hJ : CInv M) (hn : inR n) (hv : inR v) : Ct l ω yX6_knots ({ frames := 1, cells := 0, slots := 0, locals := 21 } : Room) 6 2 [.ref (xad ω 0), .int (iI n), .int (iI v)] M (some (.long (knA n v))) (knotsM M n v) := by
  refine Ct.of (bytes := cX6_knots) (ret := (some .long)) (lv0 := [some (.ref (xad ω 0)), some (.int (iI n)), some (.int (iI v)), none, none, none]) m_cd_X6_knots m_in_X6 (by decide +kernel) (by decide +kernel) rfl rfl rfl rfl (fun hR => by unfold knotsM tI; split <;> first | exact hR | exact fndC_R hR) ?_
  intro κ h he hR
  refine x_iload_n h dX6_knots_0 rfl ?_
  refine x_if_lt h dX6_knots_1 (tgt := 21) (by decide) (by omega) (fun q1 => ?_) (fun q1 => ?_)
  · refine x_aload_n h dX6_knots_21 rfl ?_
    refine x_iconst h dX6_knots_22 ?_
    refine x_V1i h dX6_knots_23 m_ml_X6_95 m_im_X6_found m_se_X6_found (sC0 hc) rfl (by decide) rfl (c_X6_found hc (by omega)) ?_
    refine x_i2l h dX6_knots_26 ?_
    exact x_lret h he dX6_knots_27 rfl (by unfold knA; rw [tI_n (fun z => by unfold knGd at z; omega)]; try rfl) (by unfold knotsM; rw [tI_n (fun z => by unfold knGd at z; omega)])
  · refine x_iload_n h dX6_knots_4 rfl ?_
    refine x_bipush h dX6_knots_5 (by decide) ?_
    refine x_icmp_gt h dX6_knots_7 (tgt := 21) (by decide) (by omega) (by omega) (fun q7 => ?_) (fun q7 => ?_)
    · refine x_aload_n h dX6_knots_21 rfl ?_
      refine x_iconst h dX6_knots_22 ?_
      refine x_V1i h dX6_knots_23 m_ml_X6_95 m_im_X6_found m_se_X6_found (sC0 hc) rfl (by decide) rfl (c_X6_found hc (by omega)) ?_
      refine x_i2l h dX6_knots_26 ?_
      exact x_lret h he dX6_knots_27 rfl (by unfold knA; rw [tI_n (fun z => by unfold knGd at z; omega)]; try rfl) (by unfold knotsM; rw [tI_n (fun z => by unfold knGd at z; omega)])
    · refine x_iload_n h dX6_knots_10 rfl ?_
      refine x_iconst h dX6_knots_11 ?_
      refine x_icmp_lt h dX6_knots_12 (tgt := 21) (by decide) (by omega) (by omega) (fun q12 => ?_) (fun q12 => ?_)
      · refine x_aload_n h dX6_knots_21 rfl ?_
        refine x_iconst h dX6_knots_22 ?_
        refine x_V1i h dX6_knots_23 m_ml_X6_95 m_im_X6_found m_se_X6_found (sC0 hc) rfl (by decide) rfl (c_X6_found hc (by omega)) ?_
        refine x_i2l h dX6_knots_26 ?_
        exact x_lret h he dX6_knots_27 rfl (by unfold knA; rw [tI_n (fun z => by unfold knGd at z; omega)]; try rfl) (by unfold knotsM; rw [tI_n (fun z => by unfold knGd at z; omega)])
      · refine x_iload_n h dX6_knots_15 rfl ?_
        refine x_bipush h dX6_knots_16 (by decide) ?_
        refine x_icmp_le h dX6_knots_18 (tgt := 28) (by decide) (by omega) (by omega) (fun q18 => ?_) (fun q18 => ?_)
        · refine x_lconst h dX6_knots_28 rfl ?_
          refine x_lstore_n h dX6_knots_29 rfl rfl ?_
          dsimp only [xset, xclr]
          refine x_iconst h dX6_knots_30 ?_
          refine x_istoreL h dX6_knots_31 rfl rfl ?_
          dsimp only [xset]
          have hgd : knGd n v := by unfold knGd; omega
          refine loop_up (fun k => X ω κ 33 [some (.ref (xad ω 0)), some (.int (iI n)), some (.int (iI v)), some (.long (knF v k)), none, some (.int (iI (k : Int)))] [] M) (n.toNat) ?_ ?_
          · show X ω κ 33 [some (.ref (xad ω 0)), some (.int (iI n)), some (.int (iI v)), some (.long (knF v n.toNat)), none, some (.int (iI ((n.toNat : Nat) : Int)))] [] M
            have g0 : ((n.toNat : Nat) : Int) = n := by omega
            refine x_iload h dX6_knots_33 rfl ?_
            refine x_iload_n h dX6_knots_35 rfl ?_
            refine x_icmp_ge h dX6_knots_36 (tgt := 50) (by decide) (by omega) (by omega) (fun q36 => ?_) (fun q36 => ?_)
            · refine x_lload_n h dX6_knots_50 rfl ?_
              exact x_lret h he dX6_knots_51 rfl (by unfold knA; rw [tI_p hgd]) (by unfold knotsM; rw [tI_p hgd])
            · exfalso; omega
          · intro k hk ihk
            replace ihk : X ω κ 33 [some (.ref (xad ω 0)), some (.int (iI n)), some (.int (iI v)), some (.long (knF v (k + 1))), none, some (.int (iI ((k + 1 : Nat) : Int)))] [] M := ihk
            show X ω κ 33 [some (.ref (xad ω 0)), some (.int (iI n)), some (.int (iI v)), some (.long (knF v k)), none, some (.int (iI (k : Int)))] [] M
            have g0 : (k : Int) < n := by omega
            refine x_iload h dX6_knots_33 rfl ?_
            refine x_iload_n h dX6_knots_35 rfl ?_
            refine x_icmp_ge h dX6_knots_36 (tgt := 50) (by decide) (by omega) (by omega) (fun q36 => ?_) (fun q36 => ?_)
            · exfalso; omega
            · refine x_lload_n h dX6_knots_39 rfl ?_
              refine x_iload_n h dX6_knots_40 rfl ?_
              refine x_i2l h dX6_knots_41 ?_
              refine x_lmul h dX6_knots_42 ?_
              refine x_lstore_n h dX6_knots_43 rfl rfl ?_
              dsimp only [xset, xclr]
              refine x_iincL h dX6_knots_44 rfl rfl rfl ?_
              dsimp only [xset]
              refine x_goto h dX6_knots_47 (tgt := 33) (by decide) ?_
              exact ihk
        · refine x_aload_n h dX6_knots_21 rfl ?_
          refine x_iconst h dX6_knots_22 ?_
          refine x_V1i h dX6_knots_23 m_ml_X6_95 m_im_X6_found m_se_X6_found (sC0 hc) rfl (by decide) rfl (c_X6_found hc (by omega)) ?_
          refine x_i2l h dX6_knots_26 ?_
          exact x_lret h he dX6_knots_27 rfl (by unfold knA; rw [tI_n (fun z => by unfold knGd at z; omega)]; try rfl) (by unfold knotsM; rw [tI_n (fun z => by unfold knGd at z; omega)])

theorem dX7_knots_0 : decode cX7_knots 0 = .ok (.iload_n 1, 1) := by decide +kernel
theorem dX7_knots_1 : decode cX7_knots 1 = .ok (.iconst 0, 1) := by decide +kernel
theorem dX7_knots_2 : decode cX7_knots 2 = .ok (.bipush 6, 2) := by decide +kernel
theorem dX7_knots_4 : decode cX7_knots 4 = .ok (.invokestatic 81, 3) := by decide +kernel
theorem dX7_knots_7 : decode cX7_knots 7 = .ok (.ifCond .eq 13, 3) := by decide +kernel
theorem dX7_knots_10 : decode cX7_knots 10 = .ok (.iload_n 2, 1) := by decide +kernel
theorem dX7_knots_11 : decode cX7_knots 11 = .ok (.iconst 1, 1) := by decide +kernel
theorem dX7_knots_12 : decode cX7_knots 12 = .ok (.bipush 99, 2) := by decide +kernel
theorem dX7_knots_14 : decode cX7_knots 14 = .ok (.invokestatic 81, 3) := by decide +kernel
theorem dX7_knots_17 : decode cX7_knots 17 = .ok (.ifCond .ne 11, 3) := by decide +kernel
theorem dX7_knots_20 : decode cX7_knots 20 = .ok (.aload_n 0, 1) := by decide +kernel
theorem dX7_knots_21 : decode cX7_knots 21 = .ok (.ldc 76, 2) := by decide +kernel
theorem dX7_knots_23 : decode cX7_knots 23 = .ok (.invokevirtual 101, 3) := by decide +kernel
theorem dX7_knots_26 : decode cX7_knots 26 = .ok (.i2l, 1) := by decide +kernel
theorem dX7_knots_27 : decode cX7_knots 27 = .ok (.lreturn, 1) := by decide +kernel
theorem dX7_knots_28 : decode cX7_knots 28 = .ok (.lconst 1, 1) := by decide +kernel
theorem dX7_knots_29 : decode cX7_knots 29 = .ok (.lstore_n 3, 1) := by decide +kernel
theorem dX7_knots_30 : decode cX7_knots 30 = .ok (.iconst 0, 1) := by decide +kernel
theorem dX7_knots_31 : decode cX7_knots 31 = .ok (.istore 5, 2) := by decide +kernel
theorem dX7_knots_33 : decode cX7_knots 33 = .ok (.iload 5, 2) := by decide +kernel
theorem dX7_knots_35 : decode cX7_knots 35 = .ok (.iload_n 1, 1) := by decide +kernel
theorem dX7_knots_36 : decode cX7_knots 36 = .ok (.if_icmp .ge 14, 3) := by decide +kernel
theorem dX7_knots_39 : decode cX7_knots 39 = .ok (.lload_n 3, 1) := by decide +kernel
theorem dX7_knots_40 : decode cX7_knots 40 = .ok (.iload_n 2, 1) := by decide +kernel
theorem dX7_knots_41 : decode cX7_knots 41 = .ok (.i2l, 1) := by decide +kernel
theorem dX7_knots_42 : decode cX7_knots 42 = .ok (.lmul, 1) := by decide +kernel
theorem dX7_knots_43 : decode cX7_knots 43 = .ok (.lstore_n 3, 1) := by decide +kernel
theorem dX7_knots_44 : decode cX7_knots 44 = .ok (.iinc 5 1, 3) := by decide +kernel
theorem dX7_knots_47 : decode cX7_knots 47 = .ok (.goto (-14), 3) := by decide +kernel
theorem dX7_knots_50 : decode cX7_knots 50 = .ok (.lload_n 3, 1) := by decide +kernel
theorem dX7_knots_51 : decode cX7_knots 51 = .ok (.lreturn, 1) := by decide +kernel
set_option maxHeartbeats 800000 in
set_option maxRecDepth 100000 in
theorem c_X7_knots {l : Launch} {ω : xO} {ks : Nat → Option Nat} (hm : xsh ω = mdS ks) {n v : Int} {M : xMem} (hn : inR n) (hv : inR v) : Ct l ω yX7_knots ({ frames := 1, cells := 0, slots := 0, locals := 22 } : Room) 6 2 [.ref (xad ω 0), .int (iI n), .int (iI v)] M (some (.long (knA n v))) (nknM M n v) := by
  refine Ct.of (bytes := cX7_knots) (ret := (some .long)) (lv0 := [some (.ref (xad ω 0)), some (.int (iI n)), some (.int (iI v)), none, none, none]) m_cd_X7_knots m_in_X7 (by decide +kernel) (by decide +kernel) rfl rfl rfl rfl (fun hR => by unfold nknM tI; split <;> first | exact hR | exact fnM_R hR) ?_
  intro κ h he hR
  refine x_iload_n h dX7_knots_0 rfl ?_
  refine x_iconst h dX7_knots_1 ?_
  refine x_bipush h dX7_knots_2 (by decide) ?_
  refine x_S3i h dX7_knots_4 m_ml_X7_81 m_st_X7_within (by decide) rfl (c_X7_within hm (by omega) (by omega) (by omega)) ?_
  refine x_ifeqB h dX7_knots_7 (tgt := 20) (by decide) (fun q7 => ?_) (fun q7 => ?_)
  · refine x_aload_n h dX7_knots_20 rfl ?_
    refine x_ldc h m_k_X7_76 dX7_knots_21 ?_
    refine x_V1i h dX7_knots_23 m_ml_X7_101 m_im_X7_finding m_se_X7_finding (sM0 hm) rfl (by decide) rfl (c_X7_finding hm (by omega)) ?_
    refine x_i2l h dX7_knots_26 ?_
    exact x_lret h he dX7_knots_27 rfl (by unfold knA; rw [tI_n (fun z => by unfold knGd at z; omega)]; try rfl) (by unfold nknM; rw [tI_n (fun z => by unfold knGd at z; omega)])
  · refine x_iload_n h dX7_knots_10 rfl ?_
    refine x_iconst h dX7_knots_11 ?_
    refine x_bipush h dX7_knots_12 (by decide) ?_
    refine x_S3i h dX7_knots_14 m_ml_X7_81 m_st_X7_within (by decide) rfl (c_X7_within hm (by omega) (by omega) (by omega)) ?_
    refine x_ifneB h dX7_knots_17 (tgt := 28) (by decide) (fun q17 => ?_) (fun q17 => ?_)
    · refine x_lconst h dX7_knots_28 rfl ?_
      refine x_lstore_n h dX7_knots_29 rfl rfl ?_
      dsimp only [xset, xclr]
      refine x_iconst h dX7_knots_30 ?_
      refine x_istoreL h dX7_knots_31 rfl rfl ?_
      dsimp only [xset]
      have hgd : knGd n v := by unfold knGd; omega
      refine loop_up (fun k => X ω κ 33 [some (.ref (xad ω 0)), some (.int (iI n)), some (.int (iI v)), some (.long (knF v k)), none, some (.int (iI (k : Int)))] [] M) (n.toNat) ?_ ?_
      · show X ω κ 33 [some (.ref (xad ω 0)), some (.int (iI n)), some (.int (iI v)), some (.long (knF v n.toNat)), none, some (.int (iI ((n.toNat : Nat) : Int)))] [] M
        have g0 : ((n.toNat : Nat) : Int) = n := by omega
        refine x_iload h dX7_knots_33 rfl ?_
        refine x_iload_n h dX7_knots_35 rfl ?_
        refine x_icmp_ge h dX7_knots_36 (tgt := 50) (by decide) (by omega) (by omega) (fun q36 => ?_) (fun q36 => ?_)
        · refine x_lload_n h dX7_knots_50 rfl ?_
          exact x_lret h he dX7_knots_51 rfl (by unfold knA; rw [tI_p hgd]) (by unfold nknM; rw [tI_p hgd])
        · exfalso; omega
      · intro k hk ihk
        replace ihk : X ω κ 33 [some (.ref (xad ω 0)), some (.int (iI n)), some (.int (iI v)), some (.long (knF v (k + 1))), none, some (.int (iI ((k + 1 : Nat) : Int)))] [] M := ihk
        show X ω κ 33 [some (.ref (xad ω 0)), some (.int (iI n)), some (.int (iI v)), some (.long (knF v k)), none, some (.int (iI (k : Int)))] [] M
        have g0 : (k : Int) < n := by omega
        refine x_iload h dX7_knots_33 rfl ?_
        refine x_iload_n h dX7_knots_35 rfl ?_
        refine x_icmp_ge h dX7_knots_36 (tgt := 50) (by decide) (by omega) (by omega) (fun q36 => ?_) (fun q36 => ?_)
        · exfalso; omega
        · refine x_lload_n h dX7_knots_39 rfl ?_
          refine x_iload_n h dX7_knots_40 rfl ?_
          refine x_i2l h dX7_knots_41 ?_
          refine x_lmul h dX7_knots_42 ?_
          refine x_lstore_n h dX7_knots_43 rfl rfl ?_
          dsimp only [xset, xclr]
          refine x_iincL h dX7_knots_44 rfl rfl rfl ?_
          dsimp only [xset]
          refine x_goto h dX7_knots_47 (tgt := 33) (by decide) ?_
          exact ihk
    · refine x_aload_n h dX7_knots_20 rfl ?_
      refine x_ldc h m_k_X7_76 dX7_knots_21 ?_
      refine x_V1i h dX7_knots_23 m_ml_X7_101 m_im_X7_finding m_se_X7_finding (sM0 hm) rfl (by decide) rfl (c_X7_finding hm (by omega)) ?_
      refine x_i2l h dX7_knots_26 ?_
      exact x_lret h he dX7_knots_27 rfl (by unfold knA; rw [tI_n (fun z => by unfold knGd at z; omega)]; try rfl) (by unfold nknM; rw [tI_n (fun z => by unfold knGd at z; omega)])

def ncpGd (M : xMem) (s f t u n : Int) : Prop := 0 ≤ f ∧ 0 ≤ u ∧ 0 ≤ n ∧ f + n ≤ M 13 s ∧ u + n ≤ M 13 t
abbrev shs (s : Int) : Prop := 0 ≤ s ∧ s ≤ 3
noncomputable def ncpR (M : xMem) (s f t u n : Int) : Int := if shs s ∧ shs t then (if M 12 s = 0 ∨ M 12 t = 0 then -1000006 else if M 12 s = M 12 t then tI (ncpGd M s f t u n) n (-1000001) else -1000003) else -1000001
def mvM (M : xMem) (a n : Int) : xMem := upr M 15 (fun i => if 0 ≤ i ∧ i < n then M 14 (a + i) else M 15 i)
def mwM (M : xMem) (a c n k : Int) : xMem := upr (mvM M a n) 14 (fun i => if c ≤ i ∧ i < c + k then M 14 (a + (i - c)) else M 14 i)
noncomputable def ncpM (M : xMem) (s f t u n : Int) : xMem := if shs s ∧ shs t then (if M 12 s = 0 ∨ M 12 t = 0 then fnM M (-1000006) else if M 12 s = M 12 t then tI (ncpGd M s f t u n) (mwM M (40 * s + f) (40 * t + u) n n) (fnM M (-1000001)) else fnM M (-1000003)) else fnM M (-1000001)
theorem mvM_s {M : xMem} {a : Int} {k : Nat} (hk : k < 41) : up (mvM M a (k : Int)) 15 (k : Int) (M 14 (a + k)) = mvM M a ((k + 1 : Nat) : Int) := by
  unfold mvM up
  rw [upr_s, upr_upr]
  congr 1
  funext i
  unfold ur
  by_cases e : i = (k : Int)
  · subst e
    rw [if_pos rfl, if_pos (by omega)]
  · rw [if_neg e]
    dsimp only
    by_cases g : 0 ≤ i ∧ i < (k : Int)
    · rw [if_pos g, if_pos (by omega)]
    · rw [if_neg g, if_neg (by omega)]
theorem mwM_s {M : xMem} {a c n : Int} {k : Nat} : up (mwM M a c n (k : Int)) 14 (c + k) (M 14 (a + k)) = mwM M a c n ((k + 1 : Nat) : Int) := by
  unfold mwM up
  rw [upr_s, upr_upr]
  congr 1
  funext i
  unfold ur
  by_cases e : i = c + (k : Int)
  · subst e
    rw [if_pos rfl, if_pos (by omega), show a + (c + (k : Int) - c) = a + k by omega]
  · rw [if_neg e]
    dsimp only
    by_cases g : c ≤ i ∧ i < c + (k : Int)
    · rw [if_pos g, if_pos (by omega)]
    · rw [if_neg g, if_neg (by omega)]
theorem mvM_R {M : xMem} {a n : Int} (h : xR M) : xR (mvM M a n) := upr_R h (fun j => by show inR (if 0 ≤ j ∧ j < n then M 14 (a + j) else M 15 j); split <;> exact h _ _)
theorem mwM_R {M : xMem} {a c n k : Int} (h : xR M) : xR (mwM M a c n k) := upr_R (mvM_R h) (fun j => by show inR (if c ≤ j ∧ j < c + k then M 14 (a + (j - c)) else M 14 j); split <;> exact h _ _)
theorem dX7_copy_0 : decode cX7_copy 0 = .ok (.iload_n 1, 1) := by decide +kernel
theorem dX7_copy_1 : decode cX7_copy 1 = .ok (.invokestatic 280, 3) := by decide +kernel
theorem dX7_copy_4 : decode cX7_copy 4 = .ok (.ifCond .eq 10, 3) := by decide +kernel
theorem dX7_copy_7 : decode cX7_copy 7 = .ok (.iload_n 3, 1) := by decide +kernel
theorem dX7_copy_8 : decode cX7_copy 8 = .ok (.invokestatic 280, 3) := by decide +kernel
theorem dX7_copy_11 : decode cX7_copy 11 = .ok (.ifCond .ne 10, 3) := by decide +kernel
theorem dX7_copy_14 : decode cX7_copy 14 = .ok (.aload_n 0, 1) := by decide +kernel
theorem dX7_copy_15 : decode cX7_copy 15 = .ok (.ldc 76, 2) := by decide +kernel
theorem dX7_copy_17 : decode cX7_copy 17 = .ok (.invokevirtual 101, 3) := by decide +kernel
theorem dX7_copy_20 : decode cX7_copy 20 = .ok (.ireturn, 1) := by decide +kernel
theorem dX7_copy_21 : decode cX7_copy 21 = .ok (.aload_n 0, 1) := by decide +kernel
theorem dX7_copy_22 : decode cX7_copy 22 = .ok (.getfield 60, 3) := by decide +kernel
theorem dX7_copy_25 : decode cX7_copy 25 = .ok (.iload_n 1, 1) := by decide +kernel
theorem dX7_copy_26 : decode cX7_copy 26 = .ok (.iaload, 1) := by decide +kernel
theorem dX7_copy_27 : decode cX7_copy 27 = .ok (.ifCond .eq 12, 3) := by decide +kernel
theorem dX7_copy_30 : decode cX7_copy 30 = .ok (.aload_n 0, 1) := by decide +kernel
theorem dX7_copy_31 : decode cX7_copy 31 = .ok (.getfield 60, 3) := by decide +kernel
theorem dX7_copy_34 : decode cX7_copy 34 = .ok (.iload_n 3, 1) := by decide +kernel
theorem dX7_copy_35 : decode cX7_copy 35 = .ok (.iaload, 1) := by decide +kernel
theorem dX7_copy_36 : decode cX7_copy 36 = .ok (.ifCond .ne 11, 3) := by decide +kernel
theorem dX7_copy_39 : decode cX7_copy 39 = .ok (.aload_n 0, 1) := by decide +kernel
theorem dX7_copy_40 : decode cX7_copy 40 = .ok (.ldc_w 283, 3) := by decide +kernel
theorem dX7_copy_43 : decode cX7_copy 43 = .ok (.invokevirtual 101, 3) := by decide +kernel
theorem dX7_copy_46 : decode cX7_copy 46 = .ok (.ireturn, 1) := by decide +kernel
theorem dX7_copy_47 : decode cX7_copy 47 = .ok (.aload_n 0, 1) := by decide +kernel
theorem dX7_copy_48 : decode cX7_copy 48 = .ok (.getfield 60, 3) := by decide +kernel
theorem dX7_copy_51 : decode cX7_copy 51 = .ok (.iload_n 1, 1) := by decide +kernel
theorem dX7_copy_52 : decode cX7_copy 52 = .ok (.iaload, 1) := by decide +kernel
theorem dX7_copy_53 : decode cX7_copy 53 = .ok (.aload_n 0, 1) := by decide +kernel
theorem dX7_copy_54 : decode cX7_copy 54 = .ok (.getfield 60, 3) := by decide +kernel
theorem dX7_copy_57 : decode cX7_copy 57 = .ok (.iload_n 3, 1) := by decide +kernel
theorem dX7_copy_58 : decode cX7_copy 58 = .ok (.iaload, 1) := by decide +kernel
theorem dX7_copy_59 : decode cX7_copy 59 = .ok (.if_icmp .eq 11, 3) := by decide +kernel
theorem dX7_copy_62 : decode cX7_copy 62 = .ok (.aload_n 0, 1) := by decide +kernel
theorem dX7_copy_63 : decode cX7_copy 63 = .ok (.ldc_w 377, 3) := by decide +kernel
theorem dX7_copy_66 : decode cX7_copy 66 = .ok (.invokevirtual 101, 3) := by decide +kernel
theorem dX7_copy_69 : decode cX7_copy 69 = .ok (.ireturn, 1) := by decide +kernel
theorem dX7_copy_70 : decode cX7_copy 70 = .ok (.iload_n 2, 1) := by decide +kernel
theorem dX7_copy_71 : decode cX7_copy 71 = .ok (.ifCond .lt 48, 3) := by decide +kernel
theorem dX7_copy_74 : decode cX7_copy 74 = .ok (.iload 4, 2) := by decide +kernel
theorem dX7_copy_76 : decode cX7_copy 76 = .ok (.ifCond .lt 43, 3) := by decide +kernel
theorem dX7_copy_79 : decode cX7_copy 79 = .ok (.iload 5, 2) := by decide +kernel
theorem dX7_copy_81 : decode cX7_copy 81 = .ok (.ifCond .lt 38, 3) := by decide +kernel
theorem dX7_copy_84 : decode cX7_copy 84 = .ok (.iload_n 2, 1) := by decide +kernel
theorem dX7_copy_85 : decode cX7_copy 85 = .ok (.i2l, 1) := by decide +kernel
theorem dX7_copy_86 : decode cX7_copy 86 = .ok (.iload 5, 2) := by decide +kernel
theorem dX7_copy_88 : decode cX7_copy 88 = .ok (.i2l, 1) := by decide +kernel
theorem dX7_copy_89 : decode cX7_copy 89 = .ok (.ladd, 1) := by decide +kernel
theorem dX7_copy_90 : decode cX7_copy 90 = .ok (.aload_n 0, 1) := by decide +kernel
theorem dX7_copy_91 : decode cX7_copy 91 = .ok (.getfield 63, 3) := by decide +kernel
theorem dX7_copy_94 : decode cX7_copy 94 = .ok (.iload_n 1, 1) := by decide +kernel
theorem dX7_copy_95 : decode cX7_copy 95 = .ok (.iaload, 1) := by decide +kernel
theorem dX7_copy_96 : decode cX7_copy 96 = .ok (.i2l, 1) := by decide +kernel
theorem dX7_copy_97 : decode cX7_copy 97 = .ok (.lcmp, 1) := by decide +kernel
theorem dX7_copy_98 : decode cX7_copy 98 = .ok (.ifCond .gt 21, 3) := by decide +kernel
theorem dX7_copy_101 : decode cX7_copy 101 = .ok (.iload 4, 2) := by decide +kernel
theorem dX7_copy_103 : decode cX7_copy 103 = .ok (.i2l, 1) := by decide +kernel
theorem dX7_copy_104 : decode cX7_copy 104 = .ok (.iload 5, 2) := by decide +kernel
theorem dX7_copy_106 : decode cX7_copy 106 = .ok (.i2l, 1) := by decide +kernel
theorem dX7_copy_107 : decode cX7_copy 107 = .ok (.ladd, 1) := by decide +kernel
theorem dX7_copy_108 : decode cX7_copy 108 = .ok (.aload_n 0, 1) := by decide +kernel
theorem dX7_copy_109 : decode cX7_copy 109 = .ok (.getfield 63, 3) := by decide +kernel
theorem dX7_copy_112 : decode cX7_copy 112 = .ok (.iload_n 3, 1) := by decide +kernel
theorem dX7_copy_113 : decode cX7_copy 113 = .ok (.iaload, 1) := by decide +kernel
theorem dX7_copy_114 : decode cX7_copy 114 = .ok (.i2l, 1) := by decide +kernel
theorem dX7_copy_115 : decode cX7_copy 115 = .ok (.lcmp, 1) := by decide +kernel
theorem dX7_copy_116 : decode cX7_copy 116 = .ok (.ifCond .le 10, 3) := by decide +kernel
theorem dX7_copy_119 : decode cX7_copy 119 = .ok (.aload_n 0, 1) := by decide +kernel
theorem dX7_copy_120 : decode cX7_copy 120 = .ok (.ldc 76, 2) := by decide +kernel
theorem dX7_copy_122 : decode cX7_copy 122 = .ok (.invokevirtual 101, 3) := by decide +kernel
theorem dX7_copy_125 : decode cX7_copy 125 = .ok (.ireturn, 1) := by decide +kernel
theorem dX7_copy_126 : decode cX7_copy 126 = .ok (.iconst 0, 1) := by decide +kernel
theorem dX7_copy_127 : decode cX7_copy 127 = .ok (.istore 6, 2) := by decide +kernel
theorem dX7_copy_129 : decode cX7_copy 129 = .ok (.iload 6, 2) := by decide +kernel
theorem dX7_copy_131 : decode cX7_copy 131 = .ok (.iload 5, 2) := by decide +kernel
theorem dX7_copy_133 : decode cX7_copy 133 = .ok (.if_icmp .ge 30, 3) := by decide +kernel
theorem dX7_copy_136 : decode cX7_copy 136 = .ok (.aload_n 0, 1) := by decide +kernel
theorem dX7_copy_137 : decode cX7_copy 137 = .ok (.getfield 69, 3) := by decide +kernel
theorem dX7_copy_140 : decode cX7_copy 140 = .ok (.iload 6, 2) := by decide +kernel
theorem dX7_copy_142 : decode cX7_copy 142 = .ok (.aload_n 0, 1) := by decide +kernel
theorem dX7_copy_143 : decode cX7_copy 143 = .ok (.getfield 66, 3) := by decide +kernel
theorem dX7_copy_146 : decode cX7_copy 146 = .ok (.bipush 40, 2) := by decide +kernel
theorem dX7_copy_148 : decode cX7_copy 148 = .ok (.iload_n 1, 1) := by decide +kernel
theorem dX7_copy_149 : decode cX7_copy 149 = .ok (.imul, 1) := by decide +kernel
theorem dX7_copy_150 : decode cX7_copy 150 = .ok (.iload_n 2, 1) := by decide +kernel
theorem dX7_copy_151 : decode cX7_copy 151 = .ok (.iadd, 1) := by decide +kernel
theorem dX7_copy_152 : decode cX7_copy 152 = .ok (.iload 6, 2) := by decide +kernel
theorem dX7_copy_154 : decode cX7_copy 154 = .ok (.iadd, 1) := by decide +kernel
theorem dX7_copy_155 : decode cX7_copy 155 = .ok (.iaload, 1) := by decide +kernel
theorem dX7_copy_156 : decode cX7_copy 156 = .ok (.iastore, 1) := by decide +kernel
theorem dX7_copy_157 : decode cX7_copy 157 = .ok (.iinc 6 1, 3) := by decide +kernel
theorem dX7_copy_160 : decode cX7_copy 160 = .ok (.goto (-31), 3) := by decide +kernel
theorem dX7_copy_163 : decode cX7_copy 163 = .ok (.iconst 0, 1) := by decide +kernel
theorem dX7_copy_164 : decode cX7_copy 164 = .ok (.istore 6, 2) := by decide +kernel
theorem dX7_copy_166 : decode cX7_copy 166 = .ok (.iload 6, 2) := by decide +kernel
theorem dX7_copy_168 : decode cX7_copy 168 = .ok (.iload 5, 2) := by decide +kernel
theorem dX7_copy_170 : decode cX7_copy 170 = .ok (.if_icmp .ge 31, 3) := by decide +kernel
theorem dX7_copy_173 : decode cX7_copy 173 = .ok (.aload_n 0, 1) := by decide +kernel
theorem dX7_copy_174 : decode cX7_copy 174 = .ok (.getfield 66, 3) := by decide +kernel
theorem dX7_copy_177 : decode cX7_copy 177 = .ok (.bipush 40, 2) := by decide +kernel
theorem dX7_copy_179 : decode cX7_copy 179 = .ok (.iload_n 3, 1) := by decide +kernel
theorem dX7_copy_180 : decode cX7_copy 180 = .ok (.imul, 1) := by decide +kernel
theorem dX7_copy_181 : decode cX7_copy 181 = .ok (.iload 4, 2) := by decide +kernel
theorem dX7_copy_183 : decode cX7_copy 183 = .ok (.iadd, 1) := by decide +kernel
theorem dX7_copy_184 : decode cX7_copy 184 = .ok (.iload 6, 2) := by decide +kernel
theorem dX7_copy_186 : decode cX7_copy 186 = .ok (.iadd, 1) := by decide +kernel
theorem dX7_copy_187 : decode cX7_copy 187 = .ok (.aload_n 0, 1) := by decide +kernel
theorem dX7_copy_188 : decode cX7_copy 188 = .ok (.getfield 69, 3) := by decide +kernel
theorem dX7_copy_191 : decode cX7_copy 191 = .ok (.iload 6, 2) := by decide +kernel
theorem dX7_copy_193 : decode cX7_copy 193 = .ok (.iaload, 1) := by decide +kernel
theorem dX7_copy_194 : decode cX7_copy 194 = .ok (.iastore, 1) := by decide +kernel
theorem dX7_copy_195 : decode cX7_copy 195 = .ok (.iinc 6 1, 3) := by decide +kernel
theorem dX7_copy_198 : decode cX7_copy 198 = .ok (.goto (-32), 3) := by decide +kernel
theorem dX7_copy_201 : decode cX7_copy 201 = .ok (.iload 5, 2) := by decide +kernel
theorem dX7_copy_203 : decode cX7_copy 203 = .ok (.ireturn, 1) := by decide +kernel
set_option maxHeartbeats 800000 in
set_option maxRecDepth 100000 in
theorem c_X7_copy {l : Launch} {ω : xO} {ks : Nat → Option Nat} (hm : xsh ω = mdS ks) {s f t u n : Int} {M : xMem} (hz : ∀ t, 0 ≤ t → t < 4 → 0 ≤ M 13 t ∧ M 13 t ≤ 40) (hs : inR s) (hfr : inR f) (ht : inR t) (hu : inR u) (hn : inR n) : Ct l ω yX7_copy ({ frames := 2, cells := 0, slots := 0, locals := 42 } : Room) 7 5 [.ref (xad ω 0), .int (iI s), .int (iI f), .int (iI t), .int (iI u), .int (iI n)] M (some (.int (iI (ncpR M s f t u n)))) (ncpM M s f t u n) := by
  refine Ct.of (bytes := cX7_copy) (ret := (some .int)) (lv0 := [some (.ref (xad ω 0)), some (.int (iI s)), some (.int (iI f)), some (.int (iI t)), some (.int (iI u)), some (.int (iI n)), none]) m_cd_X7_copy m_in_X7 (by decide +kernel) (by decide +kernel) rfl rfl rfl rfl (fun hR => by unfold ncpM tI; (repeat' split) <;> first | exact fnM_R hR | exact mwM_R hR) ?_
  intro κ h he hR
  have hzs := hz s
  have hzt := hz t
  have r12 := hR 12 s
  have r12t := hR 12 t
  have r13 := hR 13 s
  have r13t := hR 13 t
  refine x_iload_n h dX7_copy_0 rfl ?_
  refine x_S1i h dX7_copy_1 m_ml_X7_280 m_st_X7_isSheet (by decide) rfl (c_X7_isSheet hm (by omega)) ?_
  refine x_ifeqB h dX7_copy_4 (tgt := 14) (by decide) (fun q4 => ?_) (fun q4 => ?_)
  · refine x_aload_n h dX7_copy_14 rfl ?_
    refine x_ldc h m_k_X7_76 dX7_copy_15 ?_
    refine x_V1i h dX7_copy_17 m_ml_X7_101 m_im_X7_finding m_se_X7_finding (sM0 hm) rfl (by decide) rfl (c_X7_finding hm (by omega)) ?_
    exact x_iret (ret := none) h he dX7_copy_20 rfl (by unfold ncpR; first | rw [if_neg (by omega)] | rw [if_pos (by omega), if_pos (by omega)] | rw [if_pos (by omega), if_neg (by omega), if_neg (by omega)] | rw [if_pos (by omega), if_neg (by omega), if_pos (by assumption), tI_n (fun z => by unfold ncpGd at z; omega)]) (by unfold ncpM; first | rw [if_neg (by omega)] | rw [if_pos (by omega), if_pos (by omega)] | rw [if_pos (by omega), if_neg (by omega), if_neg (by omega)] | rw [if_pos (by omega), if_neg (by omega), if_pos (by assumption), tI_n (fun z => by unfold ncpGd at z; omega)])
  · refine x_iload_n h dX7_copy_7 rfl ?_
    refine x_S1i h dX7_copy_8 m_ml_X7_280 m_st_X7_isSheet (by decide) rfl (c_X7_isSheet hm (by omega)) ?_
    refine x_ifneB h dX7_copy_11 (tgt := 21) (by decide) (fun q11 => ?_) (fun q11 => ?_)
    · refine x_aload_n h dX7_copy_21 rfl ?_
      refine x_getr (j := 26) (q := 12) h dX7_copy_22 (sM0 hm) rfl in_X7 rfl (by decide) m_fl_X7_60 ?_
      refine x_iload_n h dX7_copy_25 rfl ?_
      refine x_iaload h dX7_copy_26 (sM12 hm) (by omega) (fun r26 => ?_)
      refine x_if_eq h dX7_copy_27 (tgt := 39) (by decide) (by omega) (fun q27 => ?_) (fun q27 => ?_)
      · refine x_aload_n h dX7_copy_39 rfl ?_
        refine x_ldcw h m_k_X7_283 dX7_copy_40 ?_
        refine x_V1i h dX7_copy_43 m_ml_X7_101 m_im_X7_finding m_se_X7_finding (sM0 hm) rfl (by decide) rfl (c_X7_finding hm (by omega)) ?_
        exact x_iret (ret := none) h he dX7_copy_46 rfl (by unfold ncpR; first | rw [if_neg (by omega)] | rw [if_pos (by omega), if_pos (by omega)] | rw [if_pos (by omega), if_neg (by omega), if_neg (by omega)] | rw [if_pos (by omega), if_neg (by omega), if_pos (by assumption), tI_n (fun z => by unfold ncpGd at z; omega)]) (by unfold ncpM; first | rw [if_neg (by omega)] | rw [if_pos (by omega), if_pos (by omega)] | rw [if_pos (by omega), if_neg (by omega), if_neg (by omega)] | rw [if_pos (by omega), if_neg (by omega), if_pos (by assumption), tI_n (fun z => by unfold ncpGd at z; omega)])
      · refine x_aload_n h dX7_copy_30 rfl ?_
        refine x_getr (j := 26) (q := 12) h dX7_copy_31 (sM0 hm) rfl in_X7 rfl (by decide) m_fl_X7_60 ?_
        refine x_iload_n h dX7_copy_34 rfl ?_
        refine x_iaload h dX7_copy_35 (sM12 hm) (by omega) (fun r35 => ?_)
        refine x_if_ne h dX7_copy_36 (tgt := 47) (by decide) (by omega) (fun q36 => ?_) (fun q36 => ?_)
        · refine x_aload_n h dX7_copy_47 rfl ?_
          refine x_getr (j := 26) (q := 12) h dX7_copy_48 (sM0 hm) rfl in_X7 rfl (by decide) m_fl_X7_60 ?_
          refine x_iload_n h dX7_copy_51 rfl ?_
          refine x_iaload h dX7_copy_52 (sM12 hm) (by omega) (fun r52 => ?_)
          refine x_aload_n h dX7_copy_53 rfl ?_
          refine x_getr (j := 26) (q := 12) h dX7_copy_54 (sM0 hm) rfl in_X7 rfl (by decide) m_fl_X7_60 ?_
          refine x_iload_n h dX7_copy_57 rfl ?_
          refine x_iaload h dX7_copy_58 (sM12 hm) (by omega) (fun r58 => ?_)
          refine x_icmp_eq h dX7_copy_59 (tgt := 70) (by decide) (by omega) (by omega) (fun q59 => ?_) (fun q59 => ?_)
          · refine x_iload_n h dX7_copy_70 rfl ?_
            refine x_if_lt h dX7_copy_71 (tgt := 119) (by decide) (by omega) (fun q71 => ?_) (fun q71 => ?_)
            · try rw [cm3_gt] at q98
              try rw [cm3_le] at q116
              refine x_aload_n h dX7_copy_119 rfl ?_
              refine x_ldc h m_k_X7_76 dX7_copy_120 ?_
              refine x_V1i h dX7_copy_122 m_ml_X7_101 m_im_X7_finding m_se_X7_finding (sM0 hm) rfl (by decide) rfl (c_X7_finding hm (by omega)) ?_
              exact x_iret (ret := none) h he dX7_copy_125 rfl (by unfold ncpR; first | rw [if_neg (by omega)] | rw [if_pos (by omega), if_pos (by omega)] | rw [if_pos (by omega), if_neg (by omega), if_neg (by omega)] | rw [if_pos (by omega), if_neg (by omega), if_pos (by assumption), tI_n (fun z => by unfold ncpGd at z; omega)]) (by unfold ncpM; first | rw [if_neg (by omega)] | rw [if_pos (by omega), if_pos (by omega)] | rw [if_pos (by omega), if_neg (by omega), if_neg (by omega)] | rw [if_pos (by omega), if_neg (by omega), if_pos (by assumption), tI_n (fun z => by unfold ncpGd at z; omega)])
            · refine x_iload h dX7_copy_74 rfl ?_
              refine x_if_lt h dX7_copy_76 (tgt := 119) (by decide) (by omega) (fun q76 => ?_) (fun q76 => ?_)
              · try rw [cm3_gt] at q98
                try rw [cm3_le] at q116
                refine x_aload_n h dX7_copy_119 rfl ?_
                refine x_ldc h m_k_X7_76 dX7_copy_120 ?_
                refine x_V1i h dX7_copy_122 m_ml_X7_101 m_im_X7_finding m_se_X7_finding (sM0 hm) rfl (by decide) rfl (c_X7_finding hm (by omega)) ?_
                exact x_iret (ret := none) h he dX7_copy_125 rfl (by unfold ncpR; first | rw [if_neg (by omega)] | rw [if_pos (by omega), if_pos (by omega)] | rw [if_pos (by omega), if_neg (by omega), if_neg (by omega)] | rw [if_pos (by omega), if_neg (by omega), if_pos (by assumption), tI_n (fun z => by unfold ncpGd at z; omega)]) (by unfold ncpM; first | rw [if_neg (by omega)] | rw [if_pos (by omega), if_pos (by omega)] | rw [if_pos (by omega), if_neg (by omega), if_neg (by omega)] | rw [if_pos (by omega), if_neg (by omega), if_pos (by assumption), tI_n (fun z => by unfold ncpGd at z; omega)])
              · refine x_iload h dX7_copy_79 rfl ?_
                refine x_if_lt h dX7_copy_81 (tgt := 119) (by decide) (by omega) (fun q81 => ?_) (fun q81 => ?_)
                · try rw [cm3_gt] at q98
                  try rw [cm3_le] at q116
                  refine x_aload_n h dX7_copy_119 rfl ?_
                  refine x_ldc h m_k_X7_76 dX7_copy_120 ?_
                  refine x_V1i h dX7_copy_122 m_ml_X7_101 m_im_X7_finding m_se_X7_finding (sM0 hm) rfl (by decide) rfl (c_X7_finding hm (by omega)) ?_
                  exact x_iret (ret := none) h he dX7_copy_125 rfl (by unfold ncpR; first | rw [if_neg (by omega)] | rw [if_pos (by omega), if_pos (by omega)] | rw [if_pos (by omega), if_neg (by omega), if_neg (by omega)] | rw [if_pos (by omega), if_neg (by omega), if_pos (by assumption), tI_n (fun z => by unfold ncpGd at z; omega)]) (by unfold ncpM; first | rw [if_neg (by omega)] | rw [if_pos (by omega), if_pos (by omega)] | rw [if_pos (by omega), if_neg (by omega), if_neg (by omega)] | rw [if_pos (by omega), if_neg (by omega), if_pos (by assumption), tI_n (fun z => by unfold ncpGd at z; omega)])
                · refine x_iload_n h dX7_copy_84 rfl ?_
                  refine x_i2l h dX7_copy_85 ?_
                  rw [lI_i (by omega)]
                  refine x_iload h dX7_copy_86 rfl ?_
                  refine x_i2l h dX7_copy_88 ?_
                  rw [lI_i (by omega)]
                  refine x_ladd h dX7_copy_89 ?_
                  refine x_aload_n h dX7_copy_90 rfl ?_
                  refine x_getr (j := 27) (q := 13) h dX7_copy_91 (sM0 hm) rfl in_X7 rfl (by decide) m_fl_X7_63 ?_
                  refine x_iload_n h dX7_copy_94 rfl ?_
                  refine x_iaload h dX7_copy_95 (sM13 hm) (by omega) (fun r95 => ?_)
                  refine x_i2l h dX7_copy_96 ?_
                  rw [lI_i (by omega)]
                  refine x_lcmp h dX7_copy_97 (by omega) (by omega) ?_
                  have hcm := cm3_R (f + n) (M 13 s)
                  refine x_if_gt h dX7_copy_98 (tgt := 119) (by decide) (by omega) (fun q98 => ?_) (fun q98 => ?_)
                  · try rw [cm3_gt] at q98
                    try rw [cm3_le] at q116
                    refine x_aload_n h dX7_copy_119 rfl ?_
                    refine x_ldc h m_k_X7_76 dX7_copy_120 ?_
                    refine x_V1i h dX7_copy_122 m_ml_X7_101 m_im_X7_finding m_se_X7_finding (sM0 hm) rfl (by decide) rfl (c_X7_finding hm (by omega)) ?_
                    exact x_iret (ret := none) h he dX7_copy_125 rfl (by unfold ncpR; first | rw [if_neg (by omega)] | rw [if_pos (by omega), if_pos (by omega)] | rw [if_pos (by omega), if_neg (by omega), if_neg (by omega)] | rw [if_pos (by omega), if_neg (by omega), if_pos (by assumption), tI_n (fun z => by unfold ncpGd at z; omega)]) (by unfold ncpM; first | rw [if_neg (by omega)] | rw [if_pos (by omega), if_pos (by omega)] | rw [if_pos (by omega), if_neg (by omega), if_neg (by omega)] | rw [if_pos (by omega), if_neg (by omega), if_pos (by assumption), tI_n (fun z => by unfold ncpGd at z; omega)])
                  · refine x_iload h dX7_copy_101 rfl ?_
                    refine x_i2l h dX7_copy_103 ?_
                    rw [lI_i (by omega)]
                    refine x_iload h dX7_copy_104 rfl ?_
                    refine x_i2l h dX7_copy_106 ?_
                    rw [lI_i (by omega)]
                    refine x_ladd h dX7_copy_107 ?_
                    refine x_aload_n h dX7_copy_108 rfl ?_
                    refine x_getr (j := 27) (q := 13) h dX7_copy_109 (sM0 hm) rfl in_X7 rfl (by decide) m_fl_X7_63 ?_
                    refine x_iload_n h dX7_copy_112 rfl ?_
                    refine x_iaload h dX7_copy_113 (sM13 hm) (by omega) (fun r113 => ?_)
                    refine x_i2l h dX7_copy_114 ?_
                    rw [lI_i (by omega)]
                    refine x_lcmp h dX7_copy_115 (by omega) (by omega) ?_
                    have hcm2 := cm3_R (u + n) (M 13 t)
                    refine x_if_le h dX7_copy_116 (tgt := 126) (by decide) (by omega) (fun q116 => ?_) (fun q116 => ?_)
                    · refine x_iconst h dX7_copy_126 ?_
                      refine x_istore h dX7_copy_127 rfl rfl ?_
                      dsimp only [xset]
                      have hgd : ncpGd M s f t u n := by unfold cm3 at q98 q116; unfold ncpGd; (repeat' split at q98) <;> (repeat' split at q116) <;> omega
                      have hgs := hzs (by omega) (by omega)
                      have hgt := hzt (by omega) (by omega)
                      have hgd2 := hgd
                      unfold ncpGd at hgd2
                      refine x_mem (M' := mvM M (40 * s + f) ((0 : Nat) : Int)) ?_ ?_
                      · unfold mvM; rw [show (fun i => if 0 ≤ i ∧ i < ((0 : Nat) : Int) then M 14 (40 * s + f + i) else M 15 i) = M 15 from by funext i; rw [if_neg (by omega)], upr_self]
                      refine loop_up (fun k => X ω κ 129 [some (.ref (xad ω 0)), some (.int (iI s)), some (.int (iI f)), some (.int (iI t)), some (.int (iI u)), some (.int (iI n)), some (.int (iI (k : Int)))] [] (mvM M (40 * s + f) (k : Int))) (n.toNat) ?_ ?_
                      · show X ω κ 129 [some (.ref (xad ω 0)), some (.int (iI s)), some (.int (iI f)), some (.int (iI t)), some (.int (iI u)), some (.int (iI n)), some (.int (iI ((n.toNat : Nat) : Int)))] [] (mvM M (40 * s + f) ((n.toNat : Nat) : Int))
                        have g0 : ((n.toNat : Nat) : Int) = n := by omega
                        refine x_iload h dX7_copy_129 rfl ?_
                        refine x_iload h dX7_copy_131 rfl ?_
                        refine x_icmp_ge h dX7_copy_133 (tgt := 163) (by decide) (by omega) (by omega) (fun q133 => ?_) (fun q133 => ?_)
                        · refine x_iconst h dX7_copy_163 ?_
                          refine x_istore h dX7_copy_164 rfl rfl ?_
                          dsimp only [xset]
                          refine x_mem (M' := mwM M (40 * s + f) (40 * t + u) n ((0 : Nat) : Int)) ?_ ?_
                          · rw [g0]; unfold mwM; rw [show (fun i => if 40 * t + u ≤ i ∧ i < 40 * t + u + ((0 : Nat) : Int) then M 14 (40 * s + f + (i - (40 * t + u))) else M 14 i) = mvM M (40 * s + f) n 14 from by unfold mvM; rw [upr_n (by decide)]; funext i; rw [if_neg (by omega)], upr_self]
                          refine loop_up (fun k => X ω κ 166 [some (.ref (xad ω 0)), some (.int (iI s)), some (.int (iI f)), some (.int (iI t)), some (.int (iI u)), some (.int (iI n)), some (.int (iI (k : Int)))] [] (mwM M (40 * s + f) (40 * t + u) n (k : Int))) (n.toNat) ?_ ?_
                          · show X ω κ 166 [some (.ref (xad ω 0)), some (.int (iI s)), some (.int (iI f)), some (.int (iI t)), some (.int (iI u)), some (.int (iI n)), some (.int (iI ((n.toNat : Nat) : Int)))] [] (mwM M (40 * s + f) (40 * t + u) n ((n.toNat : Nat) : Int))
                            have g0 : ((n.toNat : Nat) : Int) = n := by omega
                            refine x_iload h dX7_copy_166 rfl ?_
                            refine x_iload h dX7_copy_168 rfl ?_
                            
                            refine x_icmp_ge h dX7_copy_170 (tgt := 201) (by decide) (by omega) (by omega) (fun q170 => ?_) (fun q170 => ?_)
                            · refine x_iload h dX7_copy_201 rfl ?_
                              exact x_iret (ret := none) h he dX7_copy_203 rfl (by unfold ncpR; rw [if_pos (by omega), if_neg (by omega), if_pos (by assumption), tI_p hgd]) (by unfold ncpM; rw [if_pos (by omega), if_neg (by omega), if_pos (by assumption), tI_p hgd, g0])
                            · exfalso; omega
                          · intro k hk ihk
                            replace ihk : X ω κ 166 [some (.ref (xad ω 0)), some (.int (iI s)), some (.int (iI f)), some (.int (iI t)), some (.int (iI u)), some (.int (iI n)), some (.int (iI ((k + 1 : Nat) : Int)))] [] (mwM M (40 * s + f) (40 * t + u) n ((k + 1 : Nat) : Int)) := ihk
                            show X ω κ 166 [some (.ref (xad ω 0)), some (.int (iI s)), some (.int (iI f)), some (.int (iI t)), some (.int (iI u)), some (.int (iI n)), some (.int (iI (k : Int)))] [] (mwM M (40 * s + f) (40 * t + u) n (k : Int))
                            have g0 : (k : Int) < n := by omega
                            have e15 : mwM M (40 * s + f) (40 * t + u) n (k : Int) 15 (k : Int) = M 14 (40 * s + f + (k : Int)) := by unfold mwM mvM; rw [upr_n (by decide), upr_s, if_pos (by omega)]
                            have r14 := hR 14 (40 * s + f + (k : Int))
                            refine x_iload h dX7_copy_166 rfl ?_
                            refine x_iload h dX7_copy_168 rfl ?_
                            refine x_icmp_ge h dX7_copy_170 (tgt := 201) (by decide) (by omega) (by omega) (fun q170 => ?_) (fun q170 => ?_)
                            · exfalso; omega
                            · refine x_aload_n h dX7_copy_173 rfl ?_
                              refine x_getr (j := 28) (q := 14) h dX7_copy_174 (sM0 hm) rfl in_X7 rfl (by decide) m_fl_X7_66 ?_
                              refine x_bipush h dX7_copy_177 (by decide) ?_
                              refine x_iload_n h dX7_copy_179 rfl ?_
                              refine x_imul h dX7_copy_180 ?_
                              refine x_iload h dX7_copy_181 rfl ?_
                              refine x_iadd h dX7_copy_183 ?_
                              refine x_iload h dX7_copy_184 rfl ?_
                              refine x_iadd h dX7_copy_186 ?_
                              refine x_aload_n h dX7_copy_187 rfl ?_
                              refine x_getr (j := 29) (q := 15) h dX7_copy_188 (sM0 hm) rfl in_X7 rfl (by decide) m_fl_X7_69 ?_
                              refine x_iload h dX7_copy_191 rfl ?_
                              refine x_iaload h dX7_copy_193 (sM15 hm) (by omega) (fun r193 => ?_)
                              rw [e15]
                              refine x_iastore h dX7_copy_194 (sM14 hm) (by omega) (by omega) ?_
                              refine x_iinc h dX7_copy_195 rfl rfl rfl ?_
                              dsimp only [xset]
                              refine x_goto h dX7_copy_198 (tgt := 166) (by decide) ?_
                              rw [mwM_s]
                              exact ihk
                        · exfalso; omega
                      · intro k hk ihk
                        replace ihk : X ω κ 129 [some (.ref (xad ω 0)), some (.int (iI s)), some (.int (iI f)), some (.int (iI t)), some (.int (iI u)), some (.int (iI n)), some (.int (iI ((k + 1 : Nat) : Int)))] [] (mvM M (40 * s + f) ((k + 1 : Nat) : Int)) := ihk
                        show X ω κ 129 [some (.ref (xad ω 0)), some (.int (iI s)), some (.int (iI f)), some (.int (iI t)), some (.int (iI u)), some (.int (iI n)), some (.int (iI (k : Int)))] [] (mvM M (40 * s + f) (k : Int))
                        have g0 : (k : Int) < n := by omega
                        have e14 : mvM M (40 * s + f) (k : Int) 14 = M 14 := by unfold mvM; rw [upr_n (by decide)]
                        have r14 := hR 14 (40 * s + f + (k : Int))
                        refine x_iload h dX7_copy_129 rfl ?_
                        refine x_iload h dX7_copy_131 rfl ?_
                        refine x_icmp_ge h dX7_copy_133 (tgt := 163) (by decide) (by omega) (by omega) (fun q133 => ?_) (fun q133 => ?_)
                        · exfalso; omega
                        · refine x_aload_n h dX7_copy_136 rfl ?_
                          refine x_getr (j := 29) (q := 15) h dX7_copy_137 (sM0 hm) rfl in_X7 rfl (by decide) m_fl_X7_69 ?_
                          refine x_iload h dX7_copy_140 rfl ?_
                          refine x_aload_n h dX7_copy_142 rfl ?_
                          refine x_getr (j := 28) (q := 14) h dX7_copy_143 (sM0 hm) rfl in_X7 rfl (by decide) m_fl_X7_66 ?_
                          refine x_bipush h dX7_copy_146 (by decide) ?_
                          refine x_iload_n h dX7_copy_148 rfl ?_
                          refine x_imul h dX7_copy_149 ?_
                          refine x_iload_n h dX7_copy_150 rfl ?_
                          refine x_iadd h dX7_copy_151 ?_
                          refine x_iload h dX7_copy_152 rfl ?_
                          refine x_iadd h dX7_copy_154 ?_
                          refine x_iaload h dX7_copy_155 (sM14 hm) (by omega) (fun r155 => ?_)
                          rw [e14]
                          refine x_iastore h dX7_copy_156 (sM15 hm) (by omega) (by omega) ?_
                          refine x_iinc h dX7_copy_157 rfl rfl rfl ?_
                          dsimp only [xset]
                          refine x_goto h dX7_copy_160 (tgt := 129) (by decide) ?_
                          rw [mvM_s (by omega)]
                          exact ihk
                    · try rw [cm3_gt] at q98
                      try rw [cm3_le] at q116
                      refine x_aload_n h dX7_copy_119 rfl ?_
                      refine x_ldc h m_k_X7_76 dX7_copy_120 ?_
                      refine x_V1i h dX7_copy_122 m_ml_X7_101 m_im_X7_finding m_se_X7_finding (sM0 hm) rfl (by decide) rfl (c_X7_finding hm (by omega)) ?_
                      exact x_iret (ret := none) h he dX7_copy_125 rfl (by unfold ncpR; first | rw [if_neg (by omega)] | rw [if_pos (by omega), if_pos (by omega)] | rw [if_pos (by omega), if_neg (by omega), if_neg (by omega)] | rw [if_pos (by omega), if_neg (by omega), if_pos (by assumption), tI_n (fun z => by unfold ncpGd at z; omega)]) (by unfold ncpM; first | rw [if_neg (by omega)] | rw [if_pos (by omega), if_pos (by omega)] | rw [if_pos (by omega), if_neg (by omega), if_neg (by omega)] | rw [if_pos (by omega), if_neg (by omega), if_pos (by assumption), tI_n (fun z => by unfold ncpGd at z; omega)])
          · refine x_aload_n h dX7_copy_62 rfl ?_
            refine x_ldcw h m_k_X7_377 dX7_copy_63 ?_
            refine x_V1i h dX7_copy_66 m_ml_X7_101 m_im_X7_finding m_se_X7_finding (sM0 hm) rfl (by decide) rfl (c_X7_finding hm (by omega)) ?_
            exact x_iret (ret := none) h he dX7_copy_69 rfl (by unfold ncpR; first | rw [if_neg (by omega)] | rw [if_pos (by omega), if_pos (by omega)] | rw [if_pos (by omega), if_neg (by omega), if_neg (by omega)] | rw [if_pos (by omega), if_neg (by omega), if_pos (by assumption), tI_n (fun z => by unfold ncpGd at z; omega)]) (by unfold ncpM; first | rw [if_neg (by omega)] | rw [if_pos (by omega), if_pos (by omega)] | rw [if_pos (by omega), if_neg (by omega), if_neg (by omega)] | rw [if_pos (by omega), if_neg (by omega), if_pos (by assumption), tI_n (fun z => by unfold ncpGd at z; omega)])
        · refine x_aload_n h dX7_copy_39 rfl ?_
          refine x_ldcw h m_k_X7_283 dX7_copy_40 ?_
          refine x_V1i h dX7_copy_43 m_ml_X7_101 m_im_X7_finding m_se_X7_finding (sM0 hm) rfl (by decide) rfl (c_X7_finding hm (by omega)) ?_
          exact x_iret (ret := none) h he dX7_copy_46 rfl (by unfold ncpR; first | rw [if_neg (by omega)] | rw [if_pos (by omega), if_pos (by omega)] | rw [if_pos (by omega), if_neg (by omega), if_neg (by omega)] | rw [if_pos (by omega), if_neg (by omega), if_pos (by assumption), tI_n (fun z => by unfold ncpGd at z; omega)]) (by unfold ncpM; first | rw [if_neg (by omega)] | rw [if_pos (by omega), if_pos (by omega)] | rw [if_pos (by omega), if_neg (by omega), if_neg (by omega)] | rw [if_pos (by omega), if_neg (by omega), if_pos (by assumption), tI_n (fun z => by unfold ncpGd at z; omega)])
    · refine x_aload_n h dX7_copy_14 rfl ?_
      refine x_ldc h m_k_X7_76 dX7_copy_15 ?_
      refine x_V1i h dX7_copy_17 m_ml_X7_101 m_im_X7_finding m_se_X7_finding (sM0 hm) rfl (by decide) rfl (c_X7_finding hm (by omega)) ?_
      exact x_iret (ret := none) h he dX7_copy_20 rfl (by unfold ncpR; first | rw [if_neg (by omega)] | rw [if_pos (by omega), if_pos (by omega)] | rw [if_pos (by omega), if_neg (by omega), if_neg (by omega)] | rw [if_pos (by omega), if_neg (by omega), if_pos (by assumption), tI_n (fun z => by unfold ncpGd at z; omega)]) (by unfold ncpM; first | rw [if_neg (by omega)] | rw [if_pos (by omega), if_pos (by omega)] | rw [if_pos (by omega), if_neg (by omega), if_neg (by omega)] | rw [if_pos (by omega), if_neg (by omega), if_pos (by assumption), tI_n (fun z => by unfold ncpGd at z; omega)])

