/-! the class: THE READER -/
section XT
variable {ω : xO} {κ : xK} {l : Launch} {cc : ByteArray} {nL : Nat} {own : String} {R : Room} {pc : Nat} {lv : List (Option Value)} {M : xMem} {ki vi : Nat → Nat} {i idx : Nat} {rest : List Value}
theorem x_VSlen (h : xOk ω κ l cc nL own R) (hφ : xph ω = xStr ki vi (xA ω)) (hi : i < 24) (hd : decode cc pc = .ok (.invokevirtual idx, 3)) (hlk : Cond.methodLink own idx yJ0_length_8abf5 ∈ xtbl) (hrm : 2 ≤ R.frames ∧ 40 ≤ R.locals) (hcat : Nat.ble (rest.map fun v => v.category).sum 8 = true) (kk : X ω κ (pc + 3) lv (.int (iI (stQ i : Int)) :: rest) M) : X ω κ pc lv (.ref (ki i) :: rest) M :=
  x_callVS (As := []) h hφ hi hd hlk m_im_J0_length_8abf5 m_se_J0_length_8abf5 rfl ⟨hrm.1, hrm.2⟩ rfl rfl hcat (c_J0_length_8abf5 hφ hi) kk
theorem x_VSchr {j : Nat} (h : xOk ω κ l cc nL own R) (hφ : xph ω = xStr ki vi (xA ω)) (hi : i < 24) (hj : j < stQ i) (hd : decode cc pc = .ok (.invokevirtual idx, 3)) (hlk : Cond.methodLink own idx yJ0_charAt_5068e ∈ xtbl) (hrm : 4 ≤ R.frames ∧ 85 ≤ R.locals) (hcat : Nat.ble (rest.map fun v => v.category).sum 8 = true) (kk : X ω κ (pc + 3) lv (.int (iI (stB i j)) :: rest) M) : X ω κ pc lv (.int (iI (j : Int)) :: .ref (ki i) :: rest) M :=
  x_callVS (As := [.int (iI (j : Int))]) h hφ hi hd hlk m_im_J0_charAt_5068e m_se_J0_charAt_5068e rfl ⟨hrm.1, hrm.2⟩ rfl rfl hcat (c_J0_charAt_5068e hφ hi hj) kk
end XT
noncomputable def rsM (M : xMem) (q it pe : Int) (pa : Int → Int) : xMem := rrM M (tkS (btC M) q) (tkB (btC M) q) (tkE (btC M) q) (tkV (btC M) q) it pe pa
section RS
variable {M : xMem} {q it pe x : Int} {pa : Int → Int}
theorem rs_r1 : rsM M q it pe pa 49 1 = tkS (btC M) q := rfl
theorem rs_r2 : rsM M q it pe pa 49 2 = tkB (btC M) q := rfl
theorem rs_r3 : rsM M q it pe pa 49 3 = tkE (btC M) q := rfl
theorem rs_r4 : rsM M q it pe pa 49 4 = tkV (btC M) q := rfl
theorem rs_r6 : rsM M q it pe pa 49 6 = it := rfl
theorem rs_r7 : rsM M q it pe pa 49 7 = pe := rfl
theorem rs_r50 : rsM M q it pe pa 50 = pa := rfl
theorem rs_r47 : rsM M q it pe pa 47 = M 47 := rfl
theorem rs_b : btC (rsM M q it pe pa) = btC M := rfl
theorem rs_6 : up (rsM M q it pe pa) 49 6 x = rsM M q x pe pa := rr_6
theorem rs_7 : up (rsM M q it pe pa) 49 7 x = rsM M q it x pa := rr_7
theorem rs_50 {j : Int} : up (rsM M q it pe pa) 50 j x = rsM M q it pe (ur pa j x) := rr_50
theorem tkS_R (b : Int → Int) (q : Int) : 0 ≤ tkS b q ∧ tkS b q ≤ 4 := soF_R _
theorem rs_R {q2 it2 pe2 : Int} {pa2 : Int → Int} (h : xR (rsM M q it pe pa)) (hb : BtO (btC M) (M 47 1)) (hq : 0 ≤ q2 ∧ q2 ≤ M 47 1) (h1 : inR it2) (h2 : inR pe2) (h3 : ∀ j, inR (pa2 j)) : xR (rsM M q2 it2 pe2 pa2) := by
  have e1 := tkB_x hb hq
  have e2 := tkE_x hb hq
  have e3 := tkV_R hb hq
  have e4 := tkS_R (btC M) q2
  have e5 := hb.1
  have q1 : rsM M q2 it2 pe2 pa2 = upr (up (up (rrM M (tkS (btC M) q2) (tkB (btC M) q2) (tkE (btC M) q2) (tkV (btC M) q2) it pe pa) 49 6 it2) 49 7 pe2) 50 pa2 := by
    rw [rr_6, rr_7]
    unfold rsM rrM
    rw [upr_upr]
  rw [q1]
  exact upr_R (up_R (up_R (rr_R2 h (by omega) (by omega) (by omega) (by omega)) h1) h2) h3
end RS
/-- the next TOKEN is this word -/
def wdP (b : Int → Int) (q : Int) (i : Nat) : Prop := tkS b q = 1 ∧ tkE b q - tkB b q = (stQ i : Int) ∧ ∀ k : Nat, k < stQ i → b (tkB b q + k) = stB i k
def nuP (b : Int → Int) (q m : Int) : Prop := tkS b q = 2 ∧ tkV b q ≤ m
noncomputable def nuQ (b : Int → Int) (q m : Int) : Int := tI (nuP b q m) (tkE b q) q
noncomputable def nuA (b : Int → Int) (it i m q : Int) (pa : Int → Int) : Int → Int := tI (nuP b q m) (ur pa (it * 4 + i) (tkV b q)) pa
def opP (b : Int → Int) (q : Int) (wd : Nat) (m : Int) : Prop := ¬ wdP b q wd ∨ nuP b (tkE b q) m
noncomputable def opQ (b : Int → Int) (q : Int) (wd : Nat) (m : Int) : Int := tI (wdP b q wd) (nuQ b (tkE b q) m) q
noncomputable def opA (b : Int → Int) (it i m wo q : Int) (wd : Nat) (pa : Int → Int) : Int → Int := tI (wdP b q wd) (nuA b it i m (tkE b q) (ur pa (it * 4 + i) wo)) (ur pa (it * 4 + i) wo)
/-- a PERSON's three perhaps -/
noncomputable def tp1 (b : Int → Int) (q : Int) : Int := opQ b q 9 9
noncomputable def tp2 (b : Int → Int) (q : Int) : Int := opQ b (tp1 b q) 10 9
noncomputable def tp3 (b : Int → Int) (q : Int) : Int := opQ b (tp2 b q) 11 9
noncomputable def ta1 (b : Int → Int) (it q : Int) (pa : Int → Int) : Int → Int := opA b it 1 9 0 q 9 pa
noncomputable def ta2 (b : Int → Int) (it q : Int) (pa : Int → Int) : Int → Int := opA b it 2 9 (ta1 b it q pa (it * 4 + 1)) (tp1 b q) 10 (ta1 b it q pa)
noncomputable def ta3 (b : Int → Int) (it q : Int) (pa : Int → Int) : Int → Int := opA b it 3 9 3 (tp2 b q) 11 (ta2 b it q pa)
def tpP (b : Int → Int) (q : Int) : Prop := opP b q 9 9 ∧ opP b (tp1 b q) 10 9 ∧ opP b (tp2 b q) 11 9
noncomputable def tpQ (b : Int → Int) (q : Int) : Int := tI (opP b q 9 9) (tI (opP b (tp1 b q) 10 9) (tp3 b q) (tp2 b q)) (tp1 b q)
noncomputable def tpA (b : Int → Int) (it q : Int) (pa : Int → Int) : Int → Int := tI (opP b q 9 9) (tI (opP b (tp1 b q) 10 9) (ta3 b it q pa) (ta2 b it q pa)) (ta1 b it q pa)
/-- three NUMBERS -/
def m2F (hd pe : Int) : Int := if hd = 7 then 9 else pe - 1
def m3F (hd : Int) : Int := if hd = 7 then 9 else 999
noncomputable def th1 (b : Int → Int) (q m : Int) : Int := nuQ b q m
noncomputable def th2 (b : Int → Int) (q m : Int) : Int := nuQ b (th1 b q m) m
noncomputable def th3 (b : Int → Int) (q m m3 : Int) : Int := nuQ b (th2 b q m) m3
noncomputable def tb1 (b : Int → Int) (it q m : Int) (pa : Int → Int) : Int → Int := nuA b it 1 m q pa
noncomputable def tb2 (b : Int → Int) (it q m : Int) (pa : Int → Int) : Int → Int := nuA b it 2 m (th1 b q m) (tb1 b it q m pa)
noncomputable def tb3 (b : Int → Int) (it q m m3 : Int) (pa : Int → Int) : Int → Int := nuA b it 3 m3 (th2 b q m) (tb2 b it q m pa)
def ttE (b : Int → Int) (it q m : Int) (pa : Int → Int) : Prop := tkS b (th1 b q m) = 2 ∧ tkV b (th1 b q m) = tb1 b it q m pa (it * 4 + 1)
def ttP (b : Int → Int) (it q m m3 : Int) (pa : Int → Int) : Prop := nuP b q m ∧ ¬ ttE b it q m pa ∧ nuP b (th1 b q m) m ∧ nuP b (th2 b q m) m3
noncomputable def ttQ (b : Int → Int) (it q m m3 : Int) (pa : Int → Int) : Int := tI (nuP b q m ∧ ¬ ttE b it q m pa) (tI (nuP b (th1 b q m) m) (th3 b q m m3) (th2 b q m)) (th1 b q m)
noncomputable def ttA (b : Int → Int) (it q m m3 : Int) (pa : Int → Int) : Int → Int := tI (nuP b q m ∧ ¬ ttE b it q m pa) (tI (nuP b (th1 b q m) m) (tb3 b it q m m3 pa) (tb2 b it q m pa)) (tb1 b it q m pa)
noncomputable def heF (b : Int → Int) (q : Int) : Int := tI (wdP b q 0) 0 (tI (wdP b q 1) 1 (tI (wdP b q 2) 2 (tI (wdP b q 3) 5 (tI (wdP b q 4) 3 (tI (wdP b q 5) 4 (tI (wdP b q 6) 6 (tI (wdP b q 7) 7 (tI (wdP b q 8) 8 (-1)))))))))
theorem heF_R (b : Int → Int) (q : Int) : -1 ≤ heF b q ∧ heF b q ≤ 8 := by unfold heF tI; (repeat' split) <;> omega
def knd (k : Int) : Prop := 0 ≤ k ∧ k < 7
/-- an ITEM: its state is where the TOKEN begins to be read, how many ITEMS, PEOPLE, the parts -/
abbrev RdS : Type := Int × Int × Int × (Int → Int)
def tiB (b : Int → Int) (r : RdS) : Prop := heF b r.1 = -1 ∨ (knd (heF b r.1) ∧ 8 ≤ r.2.2.1)
noncomputable def ti0 (b : Int → Int) (r : RdS) : Int → Int := ur r.2.2.2 (r.2.1 * 4 + 0) (heF b r.1)
def tiG (b : Int → Int) (r : RdS) : Prop := (knd (heF b r.1) ∧ tpP b (tkE b r.1)) ∨ (¬ knd (heF b r.1) ∧ ttP b r.2.1 (tkE b r.1) (m2F (heF b r.1) r.2.2.1) (m3F (heF b r.1)) (ti0 b r))
def tiP (b : Int → Int) (r : RdS) : Prop := ¬ tiB b r ∧ tiG b r
noncomputable def tjN (b : Int → Int) (r : RdS) : RdS := tI (tiB b r) r
  (tI (knd (heF b r.1)) (tpQ b (tkE b r.1)) (ttQ b r.2.1 (tkE b r.1) (m2F (heF b r.1) r.2.2.1) (m3F (heF b r.1)) (ti0 b r)), tI (tiG b r) (r.2.1 + 1) r.2.1, tI (knd (heF b r.1) ∧ tpP b (tkE b r.1)) (r.2.2.1 + 1) r.2.2.1, tI (knd (heF b r.1)) (tpA b r.2.1 (tkE b r.1) (ti0 b r)) (ttA b r.2.1 (tkE b r.1) (m2F (heF b r.1) r.2.2.1) (m3F (heF b r.1)) (ti0 b r)))
noncomputable def fuR (b : Int → Int) : Nat → RdS → Int
  | 0, r => tkB b r.1
  | n + 1, r => tI (tiP b r) (if tkS b (tjN b r).1 = 0 then -1 else if tkS b (tjN b r).1 = 3 then fuR b n (tkE b (tjN b r).1, (tjN b r).2) else tkB b (tjN b r).1) (tkB b (tjN b r).1)
noncomputable def fuS (b : Int → Int) : Nat → RdS → RdS
  | 0, r => r
  | n + 1, r => tI (tiP b r ∧ tkS b (tjN b r).1 = 3) (fuS b n (tkE b (tjN b r).1, (tjN b r).2)) (tjN b r)
section RG
variable {b : Int → Int} {n q : Int} (hb : BtO b n)
theorem nuQ_R (hb : BtO b n) (hq : 0 ≤ q ∧ q ≤ n) {m : Int} : 0 ≤ nuQ b q m ∧ nuQ b q m ≤ n := by
  have h1 := tkB_x hb hq
  have h2 := tkE_x hb hq
  unfold nuQ tI
  split <;> omega
theorem tkE_R (hb : BtO b n) (hq : 0 ≤ q ∧ q ≤ n) : 0 ≤ tkE b q ∧ tkE b q ≤ n := by
  have h1 := tkB_x hb hq
  have h2 := tkE_x hb hq
  omega
theorem opQ_R (hb : BtO b n) (hq : 0 ≤ q ∧ q ≤ n) {m : Int} {wd : Nat} : 0 ≤ opQ b q wd m ∧ opQ b q wd m ≤ n := by
  unfold opQ tI
  split
  · exact nuQ_R hb (tkE_R hb hq)
  · exact hq
theorem ur_R {r : Int → Int} {j x : Int} (h : ∀ k, inR (r k)) (hx : inR x) : ∀ k, inR (ur r j x k) := by
  intro k
  unfold ur
  split
  · exact hx
  · exact h k
theorem nuA_R (hb : BtO b n) (hq : 0 ≤ q ∧ q ≤ n) {it i m : Int} {pa : Int → Int} (h : ∀ k, inR (pa k)) : ∀ k, inR (nuA b it i m q pa k) := by
  have := tkV_R hb hq
  unfold nuA tI
  split
  · exact ur_R h (by omega)
  · exact h
theorem opA_R (hb : BtO b n) (hq : 0 ≤ q ∧ q ≤ n) {it i m wo : Int} {wd : Nat} {pa : Int → Int} (h : ∀ k, inR (pa k)) (hw : inR wo) : ∀ k, inR (opA b it i m wo q wd pa k) := by
  unfold opA tI
  split
  · exact nuA_R hb (tkE_R hb hq) (ur_R h hw)
  · exact ur_R h hw
theorem tp_R (hb : BtO b n) (hq : 0 ≤ q ∧ q ≤ n) : (0 ≤ tp1 b q ∧ tp1 b q ≤ n) ∧ (0 ≤ tp2 b q ∧ tp2 b q ≤ n) ∧ 0 ≤ tp3 b q ∧ tp3 b q ≤ n := by
  have h1 : 0 ≤ tp1 b q ∧ tp1 b q ≤ n := opQ_R hb hq
  have h2 : 0 ≤ tp2 b q ∧ tp2 b q ≤ n := opQ_R hb h1
  have h3 : 0 ≤ tp3 b q ∧ tp3 b q ≤ n := opQ_R hb h2
  exact ⟨h1, h2, h3⟩
theorem tpQ_R (hb : BtO b n) (hq : 0 ≤ q ∧ q ≤ n) : 0 ≤ tpQ b q ∧ tpQ b q ≤ n := by
  obtain ⟨h1, h2, h3⟩ := tp_R hb hq
  unfold tpQ tI
  split
  · split
    · exact h3
    · exact h2
  · exact h1
theorem ta_R (hb : BtO b n) (hq : 0 ≤ q ∧ q ≤ n) {it : Int} {pa : Int → Int} (h : ∀ k, inR (pa k)) : (∀ k, inR (ta1 b it q pa k)) ∧ (∀ k, inR (ta2 b it q pa k)) ∧ ∀ k, inR (ta3 b it q pa k) := by
  obtain ⟨h1, h2, h3⟩ := tp_R hb hq
  have g1 : ∀ k, inR (ta1 b it q pa k) := opA_R hb hq h (by decide)
  have g2 : ∀ k, inR (ta2 b it q pa k) := opA_R hb h1 g1 (g1 _)
  have g3 : ∀ k, inR (ta3 b it q pa k) := opA_R hb h2 g2 (by decide)
  exact ⟨g1, g2, g3⟩
theorem tpA_R (hb : BtO b n) (hq : 0 ≤ q ∧ q ≤ n) {it : Int} {pa : Int → Int} (h : ∀ k, inR (pa k)) : ∀ k, inR (tpA b it q pa k) := by
  obtain ⟨h1, h2, h3⟩ := ta_R hb hq (it := it) h
  unfold tpA tI
  split
  · split
    · exact h3
    · exact h2
  · exact h1
theorem th_R (hb : BtO b n) (hq : 0 ≤ q ∧ q ≤ n) {m m3 : Int} : (0 ≤ th1 b q m ∧ th1 b q m ≤ n) ∧ (0 ≤ th2 b q m ∧ th2 b q m ≤ n) ∧ 0 ≤ th3 b q m m3 ∧ th3 b q m m3 ≤ n := by
  have h1 : 0 ≤ th1 b q m ∧ th1 b q m ≤ n := nuQ_R hb hq
  have h2 : 0 ≤ th2 b q m ∧ th2 b q m ≤ n := nuQ_R hb h1
  have h3 : 0 ≤ th3 b q m m3 ∧ th3 b q m m3 ≤ n := nuQ_R hb h2
  exact ⟨h1, h2, h3⟩
theorem ttQ_R (hb : BtO b n) (hq : 0 ≤ q ∧ q ≤ n) {it m m3 : Int} {pa : Int → Int} : 0 ≤ ttQ b it q m m3 pa ∧ ttQ b it q m m3 pa ≤ n := by
  obtain ⟨h1, h2, h3⟩ := th_R hb hq (m := m) (m3 := m3)
  unfold ttQ tI
  split
  · split
    · exact h3
    · exact h2
  · exact h1
theorem tb_R (hb : BtO b n) (hq : 0 ≤ q ∧ q ≤ n) {it m m3 : Int} {pa : Int → Int} (h : ∀ k, inR (pa k)) : (∀ k, inR (tb1 b it q m pa k)) ∧ (∀ k, inR (tb2 b it q m pa k)) ∧ ∀ k, inR (tb3 b it q m m3 pa k) := by
  obtain ⟨h1, h2, h3⟩ := th_R hb hq (m := m) (m3 := m3)
  have g1 : ∀ k, inR (tb1 b it q m pa k) := nuA_R hb hq h
  have g2 : ∀ k, inR (tb2 b it q m pa k) := nuA_R hb h1 g1
  have g3 : ∀ k, inR (tb3 b it q m m3 pa k) := nuA_R hb h2 g2
  exact ⟨g1, g2, g3⟩
theorem ttA_R (hb : BtO b n) (hq : 0 ≤ q ∧ q ≤ n) {it m m3 : Int} {pa : Int → Int} (h : ∀ k, inR (pa k)) : ∀ k, inR (ttA b it q m m3 pa k) := by
  obtain ⟨h1, h2, h3⟩ := tb_R hb hq (it := it) (m := m) (m3 := m3) h
  unfold ttA tI
  split
  · split
    · exact h3
    · exact h2
  · exact h1
end RG
theorem c_X2_readTokenS {l : Launch} {ω : xO} (hc : xsh ω = clS) {q it pe : Int} {pa : Int → Int} {M : xMem} (hb : BtO (btC M) (M 47 1)) (hq : 0 ≤ q ∧ q ≤ M 47 1) : Ct l ω yX2_readToken ({ frames := 1, cells := 0, slots := 0, locals := 21 } : Room) 2 0 [.ref (xad ω 49)] (rsM M q it pe pa) none (rsM M (tkE (btC M) q) it pe pa) := by
  have h1 := tkB_x hb hq
  have h3 := tkV_R hb hq
  have h4 := tkS_R (btC M) q
  have h5 := hb.1
  exact c_X2_readToken hc hb (tkE_R hb hq) (by omega) (by omega) (by omega)
theorem dX2_items_0 : decode cX2_items 0 = .ok (.aload_n 0, 1) := by decide +kernel
theorem dX2_items_1 : decode cX2_items 1 = .ok (.getfield 28, 3) := by decide +kernel
theorem dX2_items_4 : decode cX2_items 4 = .ok (.ireturn, 1) := by decide +kernel
set_option maxHeartbeats 800000 in
set_option maxRecDepth 100000 in
theorem c_X2_items {l : Launch} {ω : xO} (hc : xsh ω = clS)  {M : xMem}  : Ct l ω yX2_items ({ frames := 0, cells := 0, slots := 0, locals := 0 } : Room) 1 0 [.ref (xad ω 49)] M (some (.int (iI (M 49 6)))) M := by
  refine Ct.of (bytes := cX2_items) (ret := (some .int)) (lv0 := [some (.ref (xad ω 49))]) m_cd_X2_items m_in_X2 (by decide +kernel) (by decide +kernel) rfl rfl rfl rfl (fun hR => hR) ?_
  intro κ h he hR
  refine x_aload_n h dX2_items_0 rfl ?_
  refine x_geti (j := 6) 6 h dX2_items_1 (sC49 hc) rfl in_X2 rfl (by decide) m_fl_X2_28 rfl (fun r1 => ?_)
  exact x_iret (ret := none) h he dX2_items_4 rfl rfl rfl

theorem dX2_part_0 : decode cX2_part 0 = .ok (.iload_n 1, 1) := by decide +kernel
theorem dX2_part_1 : decode cX2_part 1 = .ok (.ifCond .lt 18, 3) := by decide +kernel
theorem dX2_part_4 : decode cX2_part 4 = .ok (.iload_n 1, 1) := by decide +kernel
theorem dX2_part_5 : decode cX2_part 5 = .ok (.bipush 120, 2) := by decide +kernel
theorem dX2_part_7 : decode cX2_part 7 = .ok (.if_icmp .ge 12, 3) := by decide +kernel
theorem dX2_part_10 : decode cX2_part 10 = .ok (.iload_n 2, 1) := by decide +kernel
theorem dX2_part_11 : decode cX2_part 11 = .ok (.ifCond .lt 8, 3) := by decide +kernel
theorem dX2_part_14 : decode cX2_part 14 = .ok (.iload_n 2, 1) := by decide +kernel
theorem dX2_part_15 : decode cX2_part 15 = .ok (.iconst 4, 1) := by decide +kernel
theorem dX2_part_16 : decode cX2_part 16 = .ok (.if_icmp .lt 5, 3) := by decide +kernel
theorem dX2_part_19 : decode cX2_part 19 = .ok (.iconst 0, 1) := by decide +kernel
theorem dX2_part_20 : decode cX2_part 20 = .ok (.ireturn, 1) := by decide +kernel
theorem dX2_part_21 : decode cX2_part 21 = .ok (.aload_n 0, 1) := by decide +kernel
theorem dX2_part_22 : decode cX2_part 22 = .ok (.getfield 24, 3) := by decide +kernel
theorem dX2_part_25 : decode cX2_part 25 = .ok (.iload_n 1, 1) := by decide +kernel
theorem dX2_part_26 : decode cX2_part 26 = .ok (.iconst 4, 1) := by decide +kernel
theorem dX2_part_27 : decode cX2_part 27 = .ok (.imul, 1) := by decide +kernel
theorem dX2_part_28 : decode cX2_part 28 = .ok (.iload_n 2, 1) := by decide +kernel
theorem dX2_part_29 : decode cX2_part 29 = .ok (.iadd, 1) := by decide +kernel
theorem dX2_part_30 : decode cX2_part 30 = .ok (.iaload, 1) := by decide +kernel
theorem dX2_part_31 : decode cX2_part 31 = .ok (.ireturn, 1) := by decide +kernel
set_option maxHeartbeats 800000 in
set_option maxRecDepth 100000 in
theorem c_X2_part {l : Launch} {ω : xO} (hc : xsh ω = clS) {j i : Int} {M : xMem} (hj : 0 ≤ j ∧ j < 120) (hi : 0 ≤ i ∧ i < 4) : Ct l ω yX2_part ({ frames := 0, cells := 0, slots := 0, locals := 0 } : Room) 3 2 [.ref (xad ω 49), .int (iI j), .int (iI i)] M (some (.int (iI (M 50 (j * 4 + i))))) M := by
  refine Ct.of (bytes := cX2_part) (ret := (some .int)) (lv0 := [some (.ref (xad ω 49)), some (.int (iI j)), some (.int (iI i))]) m_cd_X2_part m_in_X2 (by decide +kernel) (by decide +kernel) rfl rfl rfl rfl (fun hR => hR) ?_
  intro κ h he hR
  refine x_iload_n h dX2_part_0 rfl ?_
  refine x_if_lt h dX2_part_1 (tgt := 19) (by decide) (by omega) (fun q1 => ?_) (fun q1 => ?_)
  · exfalso; omega
  · refine x_iload_n h dX2_part_4 rfl ?_
    refine x_bipush h dX2_part_5 (by decide) ?_
    refine x_icmp_ge h dX2_part_7 (tgt := 19) (by decide) (by omega) (by omega) (fun q7 => ?_) (fun q7 => ?_)
    · exfalso; omega
    · refine x_iload_n h dX2_part_10 rfl ?_
      refine x_if_lt h dX2_part_11 (tgt := 19) (by decide) (by omega) (fun q11 => ?_) (fun q11 => ?_)
      · exfalso; omega
      · refine x_iload_n h dX2_part_14 rfl ?_
        refine x_iconst h dX2_part_15 ?_
        refine x_icmp_lt h dX2_part_16 (tgt := 21) (by decide) (by omega) (by omega) (fun q16 => ?_) (fun q16 => ?_)
        · refine x_aload_n h dX2_part_21 rfl ?_
          refine x_getr (j := 5) (q := 50) h dX2_part_22 (sC49 hc) rfl in_X2 rfl (by decide) m_fl_X2_24 ?_
          refine x_iload_n h dX2_part_25 rfl ?_
          refine x_iconst h dX2_part_26 ?_
          refine x_imul h dX2_part_27 ?_
          refine x_iload_n h dX2_part_28 rfl ?_
          refine x_iadd h dX2_part_29 ?_
          refine x_iaload h dX2_part_30 (sC50 hc) (by omega) (fun r30 => ?_)
          exact x_iret (ret := none) h he dX2_part_31 rfl rfl rfl
        · exfalso; omega

theorem dX2_keep_0 : decode cX2_keep 0 = .ok (.aload_n 0, 1) := by decide +kernel
theorem dX2_keep_1 : decode cX2_keep 1 = .ok (.getfield 28, 3) := by decide +kernel
theorem dX2_keep_4 : decode cX2_keep 4 = .ok (.ifCond .lt 21, 3) := by decide +kernel
theorem dX2_keep_7 : decode cX2_keep 7 = .ok (.aload_n 0, 1) := by decide +kernel
theorem dX2_keep_8 : decode cX2_keep 8 = .ok (.getfield 28, 3) := by decide +kernel
theorem dX2_keep_11 : decode cX2_keep 11 = .ok (.bipush 120, 2) := by decide +kernel
theorem dX2_keep_13 : decode cX2_keep 13 = .ok (.if_icmp .ge 12, 3) := by decide +kernel
theorem dX2_keep_16 : decode cX2_keep 16 = .ok (.iload_n 1, 1) := by decide +kernel
theorem dX2_keep_17 : decode cX2_keep 17 = .ok (.ifCond .lt 8, 3) := by decide +kernel
theorem dX2_keep_20 : decode cX2_keep 20 = .ok (.iload_n 1, 1) := by decide +kernel
theorem dX2_keep_21 : decode cX2_keep 21 = .ok (.iconst 4, 1) := by decide +kernel
theorem dX2_keep_22 : decode cX2_keep 22 = .ok (.if_icmp .lt 4, 3) := by decide +kernel
theorem dX2_keep_25 : decode cX2_keep 25 = .ok (.return_, 1) := by decide +kernel
theorem dX2_keep_26 : decode cX2_keep 26 = .ok (.aload_n 0, 1) := by decide +kernel
theorem dX2_keep_27 : decode cX2_keep 27 = .ok (.getfield 24, 3) := by decide +kernel
theorem dX2_keep_30 : decode cX2_keep 30 = .ok (.aload_n 0, 1) := by decide +kernel
theorem dX2_keep_31 : decode cX2_keep 31 = .ok (.getfield 28, 3) := by decide +kernel
theorem dX2_keep_34 : decode cX2_keep 34 = .ok (.iconst 4, 1) := by decide +kernel
theorem dX2_keep_35 : decode cX2_keep 35 = .ok (.imul, 1) := by decide +kernel
theorem dX2_keep_36 : decode cX2_keep 36 = .ok (.iload_n 1, 1) := by decide +kernel
theorem dX2_keep_37 : decode cX2_keep 37 = .ok (.iadd, 1) := by decide +kernel
theorem dX2_keep_38 : decode cX2_keep 38 = .ok (.iload_n 2, 1) := by decide +kernel
theorem dX2_keep_39 : decode cX2_keep 39 = .ok (.iastore, 1) := by decide +kernel
theorem dX2_keep_40 : decode cX2_keep 40 = .ok (.return_, 1) := by decide +kernel
set_option maxHeartbeats 800000 in
set_option maxRecDepth 100000 in
theorem c_X2_keep {l : Launch} {ω : xO} (hc : xsh ω = clS) {q it pe i v : Int} {pa : Int → Int} {M : xMem} (hit : 0 ≤ it ∧ it < 120) (hi : 0 ≤ i ∧ i < 4) (hv : inR v) : Ct l ω yX2_keep ({ frames := 0, cells := 0, slots := 0, locals := 0 } : Room) 3 2 [.ref (xad ω 49), .int (iI i), .int (iI v)] (rsM M q it pe pa) none (rsM M q it pe (ur pa (it * 4 + i) v)) := by
  refine Ct.of (bytes := cX2_keep) (ret := none) (lv0 := [some (.ref (xad ω 49)), some (.int (iI i)), some (.int (iI v))]) m_cd_X2_keep m_in_X2 (by decide +kernel) (by decide +kernel) rfl rfl rfl rfl (fun hR => by rw [← rs_50]; exact up_R hR hv) ?_
  intro κ h he hR
  refine x_aload_n h dX2_keep_0 rfl ?_
  refine x_geti (j := 6) 6 h dX2_keep_1 (sC49 hc) rfl in_X2 rfl (by decide) m_fl_X2_28 rfl (fun r1 => ?_)
  try simp only [rs_r1, rs_r2, rs_r3, rs_r4, rs_r6, rs_r7, rs_r50, rs_r47, rs_b] at r1 ⊢
  refine x_if_lt h dX2_keep_4 (tgt := 25) (by decide) (by omega) (fun q4 => ?_) (fun q4 => ?_)
  · exfalso; omega
  · refine x_aload_n h dX2_keep_7 rfl ?_
    refine x_geti (j := 6) 6 h dX2_keep_8 (sC49 hc) rfl in_X2 rfl (by decide) m_fl_X2_28 rfl (fun r8 => ?_)
    try simp only [rs_r1, rs_r2, rs_r3, rs_r4, rs_r6, rs_r7, rs_r50, rs_r47, rs_b] at r8 ⊢
    refine x_bipush h dX2_keep_11 (by decide) ?_
    refine x_icmp_ge h dX2_keep_13 (tgt := 25) (by decide) (by omega) (by omega) (fun q13 => ?_) (fun q13 => ?_)
    · exfalso; omega
    · refine x_iload_n h dX2_keep_16 rfl ?_
      refine x_if_lt h dX2_keep_17 (tgt := 25) (by decide) (by omega) (fun q17 => ?_) (fun q17 => ?_)
      · exfalso; omega
      · refine x_iload_n h dX2_keep_20 rfl ?_
        refine x_iconst h dX2_keep_21 ?_
        refine x_icmp_lt h dX2_keep_22 (tgt := 26) (by decide) (by omega) (by omega) (fun q22 => ?_) (fun q22 => ?_)
        · refine x_aload_n h dX2_keep_26 rfl ?_
          refine x_getr (j := 5) (q := 50) h dX2_keep_27 (sC49 hc) rfl in_X2 rfl (by decide) m_fl_X2_24 ?_
          refine x_aload_n h dX2_keep_30 rfl ?_
          refine x_geti (j := 6) 6 h dX2_keep_31 (sC49 hc) rfl in_X2 rfl (by decide) m_fl_X2_28 rfl (fun r31 => ?_)
          try simp only [rs_r1, rs_r2, rs_r3, rs_r4, rs_r6, rs_r7, rs_r50, rs_r47, rs_b] at r31 ⊢
          refine x_iconst h dX2_keep_34 ?_
          refine x_imul h dX2_keep_35 ?_
          refine x_iload_n h dX2_keep_36 rfl ?_
          refine x_iadd h dX2_keep_37 ?_
          refine x_iload_n h dX2_keep_38 rfl ?_
          refine x_iastore h dX2_keep_39 (sC50 hc) (by omega) (by omega) ?_
          exact x_vret h he dX2_keep_40 rs_50
        · exfalso; omega

theorem dX2_isWord_0 : decode cX2_isWord 0 = .ok (.aload_n 0, 1) := by decide +kernel
theorem dX2_isWord_1 : decode cX2_isWord 1 = .ok (.getfield 11, 3) := by decide +kernel
theorem dX2_isWord_4 : decode cX2_isWord 4 = .ok (.iconst 1, 1) := by decide +kernel
theorem dX2_isWord_5 : decode cX2_isWord 5 = .ok (.if_icmp .ne 19, 3) := by decide +kernel
theorem dX2_isWord_8 : decode cX2_isWord 8 = .ok (.aload_n 0, 1) := by decide +kernel
theorem dX2_isWord_9 : decode cX2_isWord 9 = .ok (.getfield 18, 3) := by decide +kernel
theorem dX2_isWord_12 : decode cX2_isWord 12 = .ok (.aload_n 0, 1) := by decide +kernel
theorem dX2_isWord_13 : decode cX2_isWord 13 = .ok (.getfield 15, 3) := by decide +kernel
theorem dX2_isWord_16 : decode cX2_isWord 16 = .ok (.isub, 1) := by decide +kernel
theorem dX2_isWord_17 : decode cX2_isWord 17 = .ok (.aload_n 1, 1) := by decide +kernel
theorem dX2_isWord_18 : decode cX2_isWord 18 = .ok (.invokevirtual 103, 3) := by decide +kernel
theorem dX2_isWord_21 : decode cX2_isWord 21 = .ok (.if_icmp .eq 5, 3) := by decide +kernel
theorem dX2_isWord_24 : decode cX2_isWord 24 = .ok (.iconst 0, 1) := by decide +kernel
theorem dX2_isWord_25 : decode cX2_isWord 25 = .ok (.ireturn, 1) := by decide +kernel
theorem dX2_isWord_26 : decode cX2_isWord 26 = .ok (.iconst 0, 1) := by decide +kernel
theorem dX2_isWord_27 : decode cX2_isWord 27 = .ok (.istore_n 2, 1) := by decide +kernel
theorem dX2_isWord_28 : decode cX2_isWord 28 = .ok (.iload_n 2, 1) := by decide +kernel
theorem dX2_isWord_29 : decode cX2_isWord 29 = .ok (.aload_n 1, 1) := by decide +kernel
theorem dX2_isWord_30 : decode cX2_isWord 30 = .ok (.invokevirtual 103, 3) := by decide +kernel
theorem dX2_isWord_33 : decode cX2_isWord 33 = .ok (.if_icmp .ge 32, 3) := by decide +kernel
theorem dX2_isWord_36 : decode cX2_isWord 36 = .ok (.aload_n 0, 1) := by decide +kernel
theorem dX2_isWord_37 : decode cX2_isWord 37 = .ok (.getfield 34, 3) := by decide +kernel
theorem dX2_isWord_40 : decode cX2_isWord 40 = .ok (.aload_n 0, 1) := by decide +kernel
theorem dX2_isWord_41 : decode cX2_isWord 41 = .ok (.getfield 15, 3) := by decide +kernel
theorem dX2_isWord_44 : decode cX2_isWord 44 = .ok (.iload_n 2, 1) := by decide +kernel
theorem dX2_isWord_45 : decode cX2_isWord 45 = .ok (.iadd, 1) := by decide +kernel
theorem dX2_isWord_46 : decode cX2_isWord 46 = .ok (.invokevirtual 108, 3) := by decide +kernel
theorem dX2_isWord_49 : decode cX2_isWord 49 = .ok (.aload_n 1, 1) := by decide +kernel
theorem dX2_isWord_50 : decode cX2_isWord 50 = .ok (.iload_n 2, 1) := by decide +kernel
theorem dX2_isWord_51 : decode cX2_isWord 51 = .ok (.invokevirtual 114, 3) := by decide +kernel
theorem dX2_isWord_54 : decode cX2_isWord 54 = .ok (.if_icmp .eq 5, 3) := by decide +kernel
theorem dX2_isWord_57 : decode cX2_isWord 57 = .ok (.iconst 0, 1) := by decide +kernel
theorem dX2_isWord_58 : decode cX2_isWord 58 = .ok (.ireturn, 1) := by decide +kernel
theorem dX2_isWord_59 : decode cX2_isWord 59 = .ok (.iinc 2 1, 3) := by decide +kernel
theorem dX2_isWord_62 : decode cX2_isWord 62 = .ok (.goto (-34), 3) := by decide +kernel
theorem dX2_isWord_65 : decode cX2_isWord 65 = .ok (.iconst 1, 1) := by decide +kernel
theorem dX2_isWord_66 : decode cX2_isWord 66 = .ok (.ireturn, 1) := by decide +kernel
set_option maxHeartbeats 800000 in
set_option maxRecDepth 100000 in
theorem c_X2_isWord {l : Launch} {ω : xO} (hc : xsh ω = clS) {ki vi : Nat → Nat} {q it pe : Int} {pa : Int → Int} {i : Nat} {M : xMem} (hφ : xph ω = xStr ki vi (xA ω)) (hb : BtO (btC M) (M 47 1)) (hq : 0 ≤ q ∧ q ≤ M 47 1) (hi : i < 24) : Ct l ω yX2_isWord ({ frames := 4, cells := 0, slots := 0, locals := 85 } : Room) 3 1 [.ref (xad ω 49), .ref (ki i)] (rsM M q it pe pa) (some (.int (iI (bI (wdP (btC M) q i))))) (rsM M q it pe pa) := by
  refine Ct.of (bytes := cX2_isWord) (ret := (some .boolean)) (lv0 := [some (.ref (xad ω 49)), some (.ref (ki i)), none]) m_cd_X2_isWord m_in_X2 (by decide +kernel) (by decide +kernel) rfl rfl rfl rfl (fun hR => hR) ?_
  intro κ h he hR
  have hn := hb.1
  have hBx := tkB_x hb hq
  have hEx := tkE_x hb hq
  have hVR := tkV_R hb hq
  have hSR := tkS_R (btC M) q
  have h20 := (stQ_i i hi).2
  refine x_aload_n h dX2_isWord_0 rfl ?_
  refine x_geti (j := 1) 1 h dX2_isWord_1 (sC49 hc) rfl in_X2 rfl (by decide) m_fl_X2_11 rfl (fun r1 => ?_)
  try simp only [rs_r1, rs_r2, rs_r3, rs_r4, rs_r6, rs_r7, rs_r50, rs_r47, rs_b] at r1 ⊢
  refine x_iconst h dX2_isWord_4 ?_
  refine x_icmp_ne h dX2_isWord_5 (tgt := 24) (by decide) (by omega) (by omega) (fun q5 => ?_) (fun q5 => ?_)
  · refine x_iconst h dX2_isWord_24 ?_
    exact x_zret h he dX2_isWord_25 (by first | exact Or.inl rfl | exact Or.inr rfl | exact bI_01 _ | omega) rfl (bI_f (fun z => by have := z.1; have := z.2.1; omega)).symm rfl
  · refine x_aload_n h dX2_isWord_8 rfl ?_
    refine x_geti (j := 3) 3 h dX2_isWord_9 (sC49 hc) rfl in_X2 rfl (by decide) m_fl_X2_18 rfl (fun r9 => ?_)
    try simp only [rs_r1, rs_r2, rs_r3, rs_r4, rs_r6, rs_r7, rs_r50, rs_r47, rs_b] at r9 ⊢
    refine x_aload_n h dX2_isWord_12 rfl ?_
    refine x_geti (j := 2) 2 h dX2_isWord_13 (sC49 hc) rfl in_X2 rfl (by decide) m_fl_X2_15 rfl (fun r13 => ?_)
    try simp only [rs_r1, rs_r2, rs_r3, rs_r4, rs_r6, rs_r7, rs_r50, rs_r47, rs_b] at r13 ⊢
    refine x_isub h dX2_isWord_16 ?_
    refine x_aload_n h dX2_isWord_17 rfl ?_
    refine x_VSlen (i := i) h hφ hi dX2_isWord_18 m_ml_X2_103 (by decide) rfl ?_
    refine x_icmp_eq h dX2_isWord_21 (tgt := 26) (by decide) (by omega) (by omega) (fun q21 => ?_) (fun q21 => ?_)
    · refine x_iconst h dX2_isWord_26 ?_
      refine x_istore_n h dX2_isWord_27 rfl rfl ?_
      dsimp only [xset]
      have hbr : ∀ k : Int, 0 ≤ k → -1 ≤ btC M k ∧ btC M k ≤ 255 := by
        intro k hk
        by_cases gk : k < M 47 1
        · have := hb.2.2 k hk gk; omega
        · rw [hb.2.1 k (by omega)]; decide
      have HH : ∀ (d k : Nat), k + d = stQ i → (∀ j : Nat, j < k → btC M (tkB (btC M) q + j) = stB i j) → X ω κ 28 [some (.ref (xad ω 49)), some (.ref (ki i)), some (.int (iI (k : Int)))] [] (rsM M q it pe pa) := by
        intro d
        induction d with
        | zero =>
          intro k e hk
          have ek : k = stQ i := by omega
          subst ek
          refine x_iload_n h dX2_isWord_28 rfl ?_
          refine x_aload_n h dX2_isWord_29 rfl ?_
          refine x_VSlen (i := i) h hφ hi dX2_isWord_30 m_ml_X2_103 (by decide) rfl ?_
          refine x_icmp_ge h dX2_isWord_33 (tgt := 65) (by decide) (by omega) (by omega) (fun q33 => ?_) (fun q33 => ?_)
          · refine x_iconst h dX2_isWord_65 ?_
            exact x_zret h he dX2_isWord_66 (by first | exact Or.inl rfl | exact Or.inr rfl | exact bI_01 _ | omega) rfl (bI_t ⟨by omega, by omega, hk⟩).symm rfl
          · exfalso; omega
        | succ d ih =>
          intro k e hk
          have hbk := hbr (tkB (btC M) q + k) (by omega)
          have hsb := stB_i i hi k (by omega)
          refine x_iload_n h dX2_isWord_28 rfl ?_
          refine x_aload_n h dX2_isWord_29 rfl ?_
          refine x_VSlen (i := i) h hφ hi dX2_isWord_30 m_ml_X2_103 (by decide) rfl ?_
          refine x_icmp_ge h dX2_isWord_33 (tgt := 65) (by decide) (by omega) (by omega) (fun q33 => ?_) (fun q33 => ?_)
          · exfalso; omega
          · refine x_aload_n h dX2_isWord_36 rfl ?_
            refine x_getr (j := 0) (q := 47) h dX2_isWord_37 (sC49 hc) rfl in_X2 rfl (by decide) m_fl_X2_34 ?_
            refine x_aload_n h dX2_isWord_40 rfl ?_
            refine x_geti (j := 2) 2 h dX2_isWord_41 (sC49 hc) rfl in_X2 rfl (by decide) m_fl_X2_15 rfl (fun r41 => ?_)
            try simp only [rs_r1, rs_r2, rs_r3, rs_r4, rs_r6, rs_r7, rs_r50, rs_r47, rs_b] at r41 ⊢
            refine x_iload_n h dX2_isWord_44 rfl ?_
            refine x_iadd h dX2_isWord_45 ?_
            refine x_V1i h dX2_isWord_46 m_ml_X2_108 m_im_X5_byteAt m_se_X5_byteAt (sC47 hc) rfl (by decide) rfl (c_X5_byteAt hc (by omega)) ?_
            simp only [rs_b]
            refine x_aload_n h dX2_isWord_49 rfl ?_
            refine x_iload_n h dX2_isWord_50 rfl ?_
            refine x_VSchr (i := i) h hφ hi (by omega) dX2_isWord_51 m_ml_X2_114 (by decide) rfl ?_
            refine x_icmp_eq h dX2_isWord_54 (tgt := 59) (by decide) (by omega) (by omega) (fun q54 => ?_) (fun q54 => ?_)
            · refine x_iinc h dX2_isWord_59 rfl rfl rfl ?_
              dsimp only [xset]
              refine x_goto h dX2_isWord_62 (tgt := 28) (by decide) ?_
              refine ih (k + 1) (by omega) (fun j hj => ?_)
              by_cases ej : j = k
              · rw [ej]; exact q54
              · exact hk j (by omega)
            · refine x_iconst h dX2_isWord_57 ?_
              exact x_zret h he dX2_isWord_58 (by first | exact Or.inl rfl | exact Or.inr rfl | exact bI_01 _ | omega) rfl (bI_f (fun z => q54 (z.2.2 k (by omega)))).symm rfl
      exact HH (stQ i) 0 (by omega) (fun j hj => absurd hj (Nat.not_lt_zero j))
    · refine x_iconst h dX2_isWord_24 ?_
      exact x_zret h he dX2_isWord_25 (by first | exact Or.inl rfl | exact Or.inr rfl | exact bI_01 _ | omega) rfl (bI_f (fun z => by have := z.1; have := z.2.1; omega)).symm rfl

theorem dX2_takeNumber_0 : decode cX2_takeNumber 0 = .ok (.aload_n 0, 1) := by decide +kernel
theorem dX2_takeNumber_1 : decode cX2_takeNumber 1 = .ok (.getfield 11, 3) := by decide +kernel
theorem dX2_takeNumber_4 : decode cX2_takeNumber 4 = .ok (.iconst 2, 1) := by decide +kernel
theorem dX2_takeNumber_5 : decode cX2_takeNumber 5 = .ok (.if_icmp .ne 11, 3) := by decide +kernel
theorem dX2_takeNumber_8 : decode cX2_takeNumber 8 = .ok (.aload_n 0, 1) := by decide +kernel
theorem dX2_takeNumber_9 : decode cX2_takeNumber 9 = .ok (.getfield 21, 3) := by decide +kernel
theorem dX2_takeNumber_12 : decode cX2_takeNumber 12 = .ok (.iload_n 2, 1) := by decide +kernel
theorem dX2_takeNumber_13 : decode cX2_takeNumber 13 = .ok (.if_icmp .le 5, 3) := by decide +kernel
theorem dX2_takeNumber_16 : decode cX2_takeNumber 16 = .ok (.iconst 0, 1) := by decide +kernel
theorem dX2_takeNumber_17 : decode cX2_takeNumber 17 = .ok (.ireturn, 1) := by decide +kernel
theorem dX2_takeNumber_18 : decode cX2_takeNumber 18 = .ok (.aload_n 0, 1) := by decide +kernel
theorem dX2_takeNumber_19 : decode cX2_takeNumber 19 = .ok (.iload_n 1, 1) := by decide +kernel
theorem dX2_takeNumber_20 : decode cX2_takeNumber 20 = .ok (.aload_n 0, 1) := by decide +kernel
theorem dX2_takeNumber_21 : decode cX2_takeNumber 21 = .ok (.getfield 21, 3) := by decide +kernel
theorem dX2_takeNumber_24 : decode cX2_takeNumber 24 = .ok (.invokevirtual 53, 3) := by decide +kernel
theorem dX2_takeNumber_27 : decode cX2_takeNumber 27 = .ok (.aload_n 0, 1) := by decide +kernel
theorem dX2_takeNumber_28 : decode cX2_takeNumber 28 = .ok (.invokevirtual 38, 3) := by decide +kernel
theorem dX2_takeNumber_31 : decode cX2_takeNumber 31 = .ok (.iconst 1, 1) := by decide +kernel
theorem dX2_takeNumber_32 : decode cX2_takeNumber 32 = .ok (.ireturn, 1) := by decide +kernel
set_option maxHeartbeats 800000 in
set_option maxRecDepth 100000 in
theorem c_X2_takeNumber {l : Launch} {ω : xO} (hc : xsh ω = clS) {q it pe i m : Int} {pa : Int → Int} {M : xMem} (hb : BtO (btC M) (M 47 1)) (hq : 0 ≤ q ∧ q ≤ M 47 1) (hit : 0 ≤ it ∧ it < 120) (hi : 0 ≤ i ∧ i < 4) (hm : inR m) : Ct l ω yX2_takeNumber ({ frames := 2, cells := 0, slots := 0, locals := 42 } : Room) 3 2 [.ref (xad ω 49), .int (iI i), .int (iI m)] (rsM M q it pe pa) (some (.int (iI (bI (nuP (btC M) q m))))) (rsM M (nuQ (btC M) q m) it pe (nuA (btC M) it i m q pa)) := by
  refine Ct.of (bytes := cX2_takeNumber) (ret := (some .boolean)) (lv0 := [some (.ref (xad ω 49)), some (.int (iI i)), some (.int (iI m))]) m_cd_X2_takeNumber m_in_X2 (by decide +kernel) (by decide +kernel) rfl rfl rfl rfl (fun hR => rs_R hR hb (nuQ_R hb hq) (by omega) (hR 49 7) (nuA_R hb hq (hR 50))) ?_
  intro κ h he hR
  have hn := hb.1
  have hBx := tkB_x hb hq
  have hEx := tkE_x hb hq
  have hVR := tkV_R hb hq
  have hSR := tkS_R (btC M) q
  refine x_aload_n h dX2_takeNumber_0 rfl ?_
  refine x_geti (j := 1) 1 h dX2_takeNumber_1 (sC49 hc) rfl in_X2 rfl (by decide) m_fl_X2_11 rfl (fun r1 => ?_)
  try simp only [rs_r1, rs_r2, rs_r3, rs_r4, rs_r6, rs_r7, rs_r50, rs_r47, rs_b] at r1 ⊢
  refine x_iconst h dX2_takeNumber_4 ?_
  refine x_icmp_ne h dX2_takeNumber_5 (tgt := 16) (by decide) (by omega) (by omega) (fun q5 => ?_) (fun q5 => ?_)
  · refine x_iconst h dX2_takeNumber_16 ?_
    exact x_zret h he dX2_takeNumber_17 (by first | exact Or.inl rfl | exact Or.inr rfl | exact bI_01 _ | omega) rfl (by first | exact (bI_f (fun z => by have := z.1; have := z.2; omega)).symm | exact (bI_t ⟨by omega, by omega⟩).symm) (by unfold nuQ nuA; first | rw [tI_p ⟨by assumption, by assumption⟩, tI_p ⟨by assumption, by assumption⟩] | rw [tI_n (fun z => by have := z.1; have := z.2; omega), tI_n (fun z => by have := z.1; have := z.2; omega)])
  · refine x_aload_n h dX2_takeNumber_8 rfl ?_
    refine x_geti (j := 4) 4 h dX2_takeNumber_9 (sC49 hc) rfl in_X2 rfl (by decide) m_fl_X2_21 rfl (fun r9 => ?_)
    try simp only [rs_r1, rs_r2, rs_r3, rs_r4, rs_r6, rs_r7, rs_r50, rs_r47, rs_b] at r9 ⊢
    refine x_iload_n h dX2_takeNumber_12 rfl ?_
    refine x_icmp_le h dX2_takeNumber_13 (tgt := 18) (by decide) (by omega) (by omega) (fun q13 => ?_) (fun q13 => ?_)
    · refine x_aload_n h dX2_takeNumber_18 rfl ?_
      refine x_iload_n h dX2_takeNumber_19 rfl ?_
      refine x_aload_n h dX2_takeNumber_20 rfl ?_
      refine x_geti (j := 4) 4 h dX2_takeNumber_21 (sC49 hc) rfl in_X2 rfl (by decide) m_fl_X2_21 rfl (fun r21 => ?_)
      try simp only [rs_r1, rs_r2, rs_r3, rs_r4, rs_r6, rs_r7, rs_r50, rs_r47, rs_b] at r21 ⊢
      refine x_V2v h dX2_takeNumber_24 m_ml_X2_53 m_im_X2_keep m_se_X2_keep (sC49 hc) rfl (by decide) rfl (c_X2_keep hc hit (by omega) (by omega)) ?_
      refine x_aload_n h dX2_takeNumber_27 rfl ?_
      refine x_V0v h dX2_takeNumber_28 m_ml_X2_38 m_im_X2_readToken m_se_X2_readToken (sC49 hc) rfl (by decide) rfl (c_X2_readTokenS hc hb (by first | assumption | exact tkE_R hb (by assumption))) ?_
      refine x_iconst h dX2_takeNumber_31 ?_
      exact x_zret h he dX2_takeNumber_32 (by first | exact Or.inl rfl | exact Or.inr rfl | exact bI_01 _ | omega) rfl (by first | exact (bI_f (fun z => by have := z.1; have := z.2; omega)).symm | exact (bI_t ⟨by omega, by omega⟩).symm) (by unfold nuQ nuA; first | rw [tI_p ⟨by assumption, by assumption⟩, tI_p ⟨by assumption, by assumption⟩] | rw [tI_n (fun z => by have := z.1; have := z.2; omega), tI_n (fun z => by have := z.1; have := z.2; omega)])
    · refine x_iconst h dX2_takeNumber_16 ?_
      exact x_zret h he dX2_takeNumber_17 (by first | exact Or.inl rfl | exact Or.inr rfl | exact bI_01 _ | omega) rfl (by first | exact (bI_f (fun z => by have := z.1; have := z.2; omega)).symm | exact (bI_t ⟨by omega, by omega⟩).symm) (by unfold nuQ nuA; first | rw [tI_p ⟨by assumption, by assumption⟩, tI_p ⟨by assumption, by assumption⟩] | rw [tI_n (fun z => by have := z.1; have := z.2; omega), tI_n (fun z => by have := z.1; have := z.2; omega)])

theorem dX2_takeOption_0 : decode cX2_takeOption 0 = .ok (.aload_n 0, 1) := by decide +kernel
theorem dX2_takeOption_1 : decode cX2_takeOption 1 = .ok (.iload_n 2, 1) := by decide +kernel
theorem dX2_takeOption_2 : decode cX2_takeOption 2 = .ok (.iload 4, 2) := by decide +kernel
theorem dX2_takeOption_4 : decode cX2_takeOption 4 = .ok (.invokevirtual 53, 3) := by decide +kernel
theorem dX2_takeOption_7 : decode cX2_takeOption 7 = .ok (.aload_n 0, 1) := by decide +kernel
theorem dX2_takeOption_8 : decode cX2_takeOption 8 = .ok (.aload_n 1, 1) := by decide +kernel
theorem dX2_takeOption_9 : decode cX2_takeOption 9 = .ok (.invokevirtual 65, 3) := by decide +kernel
theorem dX2_takeOption_12 : decode cX2_takeOption 12 = .ok (.ifCond .ne 5, 3) := by decide +kernel
theorem dX2_takeOption_15 : decode cX2_takeOption 15 = .ok (.iconst 1, 1) := by decide +kernel
theorem dX2_takeOption_16 : decode cX2_takeOption 16 = .ok (.ireturn, 1) := by decide +kernel
theorem dX2_takeOption_17 : decode cX2_takeOption 17 = .ok (.aload_n 0, 1) := by decide +kernel
theorem dX2_takeOption_18 : decode cX2_takeOption 18 = .ok (.invokevirtual 38, 3) := by decide +kernel
theorem dX2_takeOption_21 : decode cX2_takeOption 21 = .ok (.aload_n 0, 1) := by decide +kernel
theorem dX2_takeOption_22 : decode cX2_takeOption 22 = .ok (.iload_n 2, 1) := by decide +kernel
theorem dX2_takeOption_23 : decode cX2_takeOption 23 = .ok (.iload_n 3, 1) := by decide +kernel
theorem dX2_takeOption_24 : decode cX2_takeOption 24 = .ok (.invokevirtual 99, 3) := by decide +kernel
theorem dX2_takeOption_27 : decode cX2_takeOption 27 = .ok (.ireturn, 1) := by decide +kernel
set_option maxHeartbeats 800000 in
set_option maxRecDepth 100000 in
theorem c_X2_takeOption {l : Launch} {ω : xO} (hc : xsh ω = clS) {ki vi : Nat → Nat} {q it pe i m wo : Int} {wd : Nat} {pa : Int → Int} {M : xMem} (hφ : xph ω = xStr ki vi (xA ω)) (hb : BtO (btC M) (M 47 1)) (hq : 0 ≤ q ∧ q ≤ M 47 1) (hit : 0 ≤ it ∧ it < 120) (hi : 0 ≤ i ∧ i < 4) (hm : inR m) (hw : inR wo) (hwd : wd < 24) : Ct l ω yX2_takeOption ({ frames := 5, cells := 0, slots := 0, locals := 107 } : Room) 5 4 [.ref (xad ω 49), .ref (ki wd), .int (iI i), .int (iI m), .int (iI wo)] (rsM M q it pe pa) (some (.int (iI (bI (opP (btC M) q wd m))))) (rsM M (opQ (btC M) q wd m) it pe (opA (btC M) it i m wo q wd pa)) := by
  refine Ct.of (bytes := cX2_takeOption) (ret := (some .boolean)) (lv0 := [some (.ref (xad ω 49)), some (.ref (ki wd)), some (.int (iI i)), some (.int (iI m)), some (.int (iI wo))]) m_cd_X2_takeOption m_in_X2 (by decide +kernel) (by decide +kernel) rfl rfl rfl rfl (fun hR => rs_R hR hb (opQ_R hb hq) (by omega) (hR 49 7) (opA_R hb hq (hR 50) hw)) ?_
  intro κ h he hR
  have hE := tkE_R hb hq
  refine x_aload_n h dX2_takeOption_0 rfl ?_
  refine x_iload_n h dX2_takeOption_1 rfl ?_
  refine x_iload h dX2_takeOption_2 rfl ?_
  refine x_V2v h dX2_takeOption_4 m_ml_X2_53 m_im_X2_keep m_se_X2_keep (sC49 hc) rfl (by decide) rfl (c_X2_keep hc hit (by omega) (by omega)) ?_
  refine x_aload_n h dX2_takeOption_7 rfl ?_
  refine x_aload_n h dX2_takeOption_8 rfl ?_
  refine x_V1i h dX2_takeOption_9 m_ml_X2_65 m_im_X2_isWord m_se_X2_isWord (sC49 hc) rfl (by decide) rfl (c_X2_isWord hc hφ hb (by assumption) (by first | decide | assumption)) ?_
  refine x_ifneB h dX2_takeOption_12 (tgt := 17) (by decide) (fun q12 => ?_) (fun q12 => ?_)
  · refine x_aload_n h dX2_takeOption_17 rfl ?_
    refine x_V0v h dX2_takeOption_18 m_ml_X2_38 m_im_X2_readToken m_se_X2_readToken (sC49 hc) rfl (by decide) rfl (c_X2_readTokenS hc hb (by first | assumption | exact tkE_R hb (by assumption))) ?_
    refine x_aload_n h dX2_takeOption_21 rfl ?_
    refine x_iload_n h dX2_takeOption_22 rfl ?_
    refine x_iload_n h dX2_takeOption_23 rfl ?_
    refine x_V2i h dX2_takeOption_24 m_ml_X2_99 m_im_X2_takeNumber m_se_X2_takeNumber (sC49 hc) rfl (by decide) rfl (c_X2_takeNumber hc hb (by assumption) hit (by omega) (by omega)) ?_
    exact x_zret h he dX2_takeOption_27 (by first | exact Or.inl rfl | exact Or.inr rfl | exact bI_01 _ | omega) rfl (bI_eq ⟨fun z => Or.inr z, fun z => z.elim (fun y => absurd q12 y) id⟩) (by unfold opQ opA; rw [tI_p q12, tI_p q12])
  · refine x_iconst h dX2_takeOption_15 ?_
    exact x_zret h he dX2_takeOption_16 (by first | exact Or.inl rfl | exact Or.inr rfl | exact bI_01 _ | omega) rfl (bI_t (Or.inl q12)).symm (by unfold opQ opA; rw [tI_n q12, tI_n q12])

theorem dX2_takePerson_0 : decode cX2_takePerson 0 = .ok (.aload_n 0, 1) := by decide +kernel
theorem dX2_takePerson_1 : decode cX2_takePerson 1 = .ok (.ldc 85, 2) := by decide +kernel
theorem dX2_takePerson_3 : decode cX2_takePerson 3 = .ok (.iconst 1, 1) := by decide +kernel
theorem dX2_takePerson_4 : decode cX2_takePerson 4 = .ok (.bipush 9, 2) := by decide +kernel
theorem dX2_takePerson_6 : decode cX2_takePerson 6 = .ok (.iconst 0, 1) := by decide +kernel
theorem dX2_takePerson_7 : decode cX2_takePerson 7 = .ok (.invokevirtual 87, 3) := by decide +kernel
theorem dX2_takePerson_10 : decode cX2_takePerson 10 = .ok (.ifCond .ne 5, 3) := by decide +kernel
theorem dX2_takePerson_13 : decode cX2_takePerson 13 = .ok (.iconst 0, 1) := by decide +kernel
theorem dX2_takePerson_14 : decode cX2_takePerson 14 = .ok (.ireturn, 1) := by decide +kernel
theorem dX2_takePerson_15 : decode cX2_takePerson 15 = .ok (.aload_n 0, 1) := by decide +kernel
theorem dX2_takePerson_16 : decode cX2_takePerson 16 = .ok (.ldc 91, 2) := by decide +kernel
theorem dX2_takePerson_18 : decode cX2_takePerson 18 = .ok (.iconst 2, 1) := by decide +kernel
theorem dX2_takePerson_19 : decode cX2_takePerson 19 = .ok (.bipush 9, 2) := by decide +kernel
theorem dX2_takePerson_21 : decode cX2_takePerson 21 = .ok (.aload_n 0, 1) := by decide +kernel
theorem dX2_takePerson_22 : decode cX2_takePerson 22 = .ok (.aload_n 0, 1) := by decide +kernel
theorem dX2_takePerson_23 : decode cX2_takePerson 23 = .ok (.getfield 28, 3) := by decide +kernel
theorem dX2_takePerson_26 : decode cX2_takePerson 26 = .ok (.iconst 1, 1) := by decide +kernel
theorem dX2_takePerson_27 : decode cX2_takePerson 27 = .ok (.invokevirtual 93, 3) := by decide +kernel
theorem dX2_takePerson_30 : decode cX2_takePerson 30 = .ok (.invokevirtual 87, 3) := by decide +kernel
theorem dX2_takePerson_33 : decode cX2_takePerson 33 = .ok (.ifCond .ne 5, 3) := by decide +kernel
theorem dX2_takePerson_36 : decode cX2_takePerson 36 = .ok (.iconst 0, 1) := by decide +kernel
theorem dX2_takePerson_37 : decode cX2_takePerson 37 = .ok (.ireturn, 1) := by decide +kernel
theorem dX2_takePerson_38 : decode cX2_takePerson 38 = .ok (.aload_n 0, 1) := by decide +kernel
theorem dX2_takePerson_39 : decode cX2_takePerson 39 = .ok (.ldc 97, 2) := by decide +kernel
theorem dX2_takePerson_41 : decode cX2_takePerson 41 = .ok (.iconst 3, 1) := by decide +kernel
theorem dX2_takePerson_42 : decode cX2_takePerson 42 = .ok (.bipush 9, 2) := by decide +kernel
theorem dX2_takePerson_44 : decode cX2_takePerson 44 = .ok (.iconst 3, 1) := by decide +kernel
theorem dX2_takePerson_45 : decode cX2_takePerson 45 = .ok (.invokevirtual 87, 3) := by decide +kernel
theorem dX2_takePerson_48 : decode cX2_takePerson 48 = .ok (.ifCond .ne 5, 3) := by decide +kernel
theorem dX2_takePerson_51 : decode cX2_takePerson 51 = .ok (.iconst 0, 1) := by decide +kernel
theorem dX2_takePerson_52 : decode cX2_takePerson 52 = .ok (.ireturn, 1) := by decide +kernel
theorem dX2_takePerson_53 : decode cX2_takePerson 53 = .ok (.aload_n 0, 1) := by decide +kernel
theorem dX2_takePerson_54 : decode cX2_takePerson 54 = .ok (.dup, 1) := by decide +kernel
theorem dX2_takePerson_55 : decode cX2_takePerson 55 = .ok (.getfield 31, 3) := by decide +kernel
theorem dX2_takePerson_58 : decode cX2_takePerson 58 = .ok (.iconst 1, 1) := by decide +kernel
theorem dX2_takePerson_59 : decode cX2_takePerson 59 = .ok (.iadd, 1) := by decide +kernel
theorem dX2_takePerson_60 : decode cX2_takePerson 60 = .ok (.putfield 31, 3) := by decide +kernel
theorem dX2_takePerson_63 : decode cX2_takePerson 63 = .ok (.iconst 1, 1) := by decide +kernel
theorem dX2_takePerson_64 : decode cX2_takePerson 64 = .ok (.ireturn, 1) := by decide +kernel
set_option maxHeartbeats 800000 in
set_option maxRecDepth 100000 in
theorem c_X2_takePerson {l : Launch} {ω : xO} (hc : xsh ω = clS) {ki vi : Nat → Nat} {q it pe : Int} {pa : Int → Int} {M : xMem} (hφ : xph ω = xStr ki vi (xA ω)) (hb : BtO (btC M) (M 47 1)) (hq : 0 ≤ q ∧ q ≤ M 47 1) (hit : 0 ≤ it ∧ it < 120) (hpe : 0 ≤ pe ∧ pe < 8) (hpa : ∀ k, inR (pa k)) : Ct l ω yX2_takePerson ({ frames := 6, cells := 0, slots := 0, locals := 131 } : Room) 1 0 [.ref (xad ω 49)] (rsM M q it pe pa) (some (.int (iI (bI (tpP (btC M) q))))) (rsM M (tpQ (btC M) q) it (tI (tpP (btC M) q) (pe + 1) pe) (tpA (btC M) it q pa)) := by
  refine Ct.of (bytes := cX2_takePerson) (ret := (some .boolean)) (lv0 := [some (.ref (xad ω 49))]) m_cd_X2_takePerson m_in_X2 (by decide +kernel) (by decide +kernel) rfl rfl rfl rfl (fun hR => rs_R hR hb (tpQ_R hb hq) (by omega) (by unfold tI; split <;> omega) (tpA_R hb hq hpa)) ?_
  intro κ h he hR
  have h1 : 0 ≤ tp1 (btC M) q ∧ tp1 (btC M) q ≤ M 47 1 := opQ_R hb hq
  have h2 : 0 ≤ tp2 (btC M) q ∧ tp2 (btC M) q ≤ M 47 1 := opQ_R hb h1
  have h0 : inR 0 := by decide
  have h3 : inR 3 := by decide
  have ha1 : ∀ k, inR (ta1 (btC M) it q pa k) := opA_R hb hq hpa (by decide)
  have ha1x := ha1 (it * 4 + 1)
  have ha2 : ∀ k, inR (ta2 (btC M) it q pa k) := opA_R hb h1 ha1 ha1x
  refine x_aload_n h dX2_takePerson_0 rfl ?_
  refine x_ldcS h hφ 9 (by decide) rfl dX2_takePerson_1 ?_
  refine x_iconst h dX2_takePerson_3 ?_
  refine x_bipush h dX2_takePerson_4 (by decide) ?_
  refine x_iconst h dX2_takePerson_6 ?_
  refine x_V4i h dX2_takePerson_7 m_ml_X2_87 m_im_X2_takeOption m_se_X2_takeOption (sC49 hc) rfl (by decide) rfl (c_X2_takeOption hc hφ hb hq hit (by omega) (by decide) h0 (by decide)) ?_
  refine x_ifneB h dX2_takePerson_10 (tgt := 15) (by decide) (fun q10 => ?_) (fun q10 => ?_)
  · refine x_mem (M' := rsM M (tp1 (btC M) q) it pe (ta1 (btC M) it q pa)) rfl ?_
    refine x_aload_n h dX2_takePerson_15 rfl ?_
    refine x_ldcS h hφ 10 (by decide) rfl dX2_takePerson_16 ?_
    refine x_iconst h dX2_takePerson_18 ?_
    refine x_bipush h dX2_takePerson_19 (by decide) ?_
    refine x_aload_n h dX2_takePerson_21 rfl ?_
    refine x_aload_n h dX2_takePerson_22 rfl ?_
    refine x_geti (j := 6) 6 h dX2_takePerson_23 (sC49 hc) rfl in_X2 rfl (by decide) m_fl_X2_28 rfl (fun r23 => ?_)
    try simp only [rs_r1, rs_r2, rs_r3, rs_r4, rs_r6, rs_r7, rs_r50, rs_r47, rs_b] at r23 ⊢
    refine x_iconst h dX2_takePerson_26 ?_
    refine x_V2i h dX2_takePerson_27 m_ml_X2_93 m_im_X2_part m_se_X2_part (sC49 hc) rfl (by decide) rfl (c_X2_part hc (by omega) (by omega)) ?_
    refine x_V4i h dX2_takePerson_30 m_ml_X2_87 m_im_X2_takeOption m_se_X2_takeOption (sC49 hc) rfl (by decide) rfl (c_X2_takeOption hc hφ hb h1 hit (by omega) (by decide) ha1x (by decide)) ?_
    refine x_ifneB h dX2_takePerson_33 (tgt := 38) (by decide) (fun q33 => ?_) (fun q33 => ?_)
    · refine x_mem (M' := rsM M (tp2 (btC M) q) it pe (ta2 (btC M) it q pa)) rfl ?_
      refine x_aload_n h dX2_takePerson_38 rfl ?_
      refine x_ldcS h hφ 11 (by decide) rfl dX2_takePerson_39 ?_
      refine x_iconst h dX2_takePerson_41 ?_
      refine x_bipush h dX2_takePerson_42 (by decide) ?_
      refine x_iconst h dX2_takePerson_44 ?_
      refine x_V4i h dX2_takePerson_45 m_ml_X2_87 m_im_X2_takeOption m_se_X2_takeOption (sC49 hc) rfl (by decide) rfl (c_X2_takeOption hc hφ hb h2 hit (by omega) (by decide) h3 (by decide)) ?_
      refine x_ifneB h dX2_takePerson_48 (tgt := 53) (by decide) (fun q48 => ?_) (fun q48 => ?_)
      · refine x_mem (M' := rsM M (tp3 (btC M) q) it pe (ta3 (btC M) it q pa)) rfl ?_
        refine x_aload_n h dX2_takePerson_53 rfl ?_
        refine x_dup h dX2_takePerson_54 rfl ?_
        refine x_geti (j := 7) 7 h dX2_takePerson_55 (sC49 hc) rfl in_X2 rfl (by decide) m_fl_X2_31 rfl (fun r55 => ?_)
        try simp only [rs_r1, rs_r2, rs_r3, rs_r4, rs_r6, rs_r7, rs_r50, rs_r47, rs_b] at r55 ⊢
        refine x_iconst h dX2_takePerson_58 ?_
        refine x_iadd h dX2_takePerson_59 ?_
        refine x_puti (j := 7) 7 h dX2_takePerson_60 (sC49 hc) rfl in_X2 rfl (by decide) m_fl_X2_31 tyX2_ok nmX2 rfl (tyX2_ok 7 (by decide)) rfl rfl (by omega) rfl ?_
        refine x_iconst h dX2_takePerson_63 ?_
        exact x_zret h he dX2_takePerson_64 (by first | exact Or.inl rfl | exact Or.inr rfl | exact bI_01 _ | omega) rfl (bI_t ⟨q10, q33, q48⟩).symm (by rw [rs_7]; unfold tpQ tpA; rw [tI_p q10, tI_p q10, tI_p q33, tI_p q33, tI_p ⟨q10, q33, q48⟩])
      · refine x_iconst h dX2_takePerson_51 ?_
        exact x_zret h he dX2_takePerson_52 (by first | exact Or.inl rfl | exact Or.inr rfl | exact bI_01 _ | omega) rfl (bI_f (fun z => q48 z.2.2)).symm (by unfold tpQ tpA; rw [tI_p q10, tI_p q10, tI_p q33, tI_p q33, tI_n (fun z => q48 z.2.2)]; rfl)
    · refine x_iconst h dX2_takePerson_36 ?_
      exact x_zret h he dX2_takePerson_37 (by first | exact Or.inl rfl | exact Or.inr rfl | exact bI_01 _ | omega) rfl (bI_f (fun z => q33 z.2.1)).symm (by unfold tpQ tpA; rw [tI_p q10, tI_p q10, tI_n q33, tI_n q33, tI_n (fun z => q33 z.2.1)]; rfl)
  · refine x_iconst h dX2_takePerson_13 ?_
    exact x_zret h he dX2_takePerson_14 (by first | exact Or.inl rfl | exact Or.inr rfl | exact bI_01 _ | omega) rfl (bI_f (fun z => q10 z.1)).symm (by unfold tpQ tpA; rw [tI_n q10, tI_n q10, tI_n (fun z => q10 z.1)]; rfl)

theorem dX2_takeThree_0 : decode cX2_takeThree 0 = .ok (.iload_n 1, 1) := by decide +kernel
theorem dX2_takeThree_1 : decode cX2_takeThree 1 = .ok (.bipush 7, 2) := by decide +kernel
theorem dX2_takeThree_3 : decode cX2_takeThree 3 = .ok (.if_icmp .ne 8, 3) := by decide +kernel
theorem dX2_takeThree_6 : decode cX2_takeThree 6 = .ok (.bipush 9, 2) := by decide +kernel
theorem dX2_takeThree_8 : decode cX2_takeThree 8 = .ok (.goto 9, 3) := by decide +kernel
theorem dX2_takeThree_11 : decode cX2_takeThree 11 = .ok (.aload_n 0, 1) := by decide +kernel
theorem dX2_takeThree_12 : decode cX2_takeThree 12 = .ok (.getfield 31, 3) := by decide +kernel
theorem dX2_takeThree_15 : decode cX2_takeThree 15 = .ok (.iconst 1, 1) := by decide +kernel
theorem dX2_takeThree_16 : decode cX2_takeThree 16 = .ok (.isub, 1) := by decide +kernel
theorem dX2_takeThree_17 : decode cX2_takeThree 17 = .ok (.istore_n 2, 1) := by decide +kernel
theorem dX2_takeThree_18 : decode cX2_takeThree 18 = .ok (.iload_n 1, 1) := by decide +kernel
theorem dX2_takeThree_19 : decode cX2_takeThree 19 = .ok (.bipush 7, 2) := by decide +kernel
theorem dX2_takeThree_21 : decode cX2_takeThree 21 = .ok (.if_icmp .ne 8, 3) := by decide +kernel
theorem dX2_takeThree_24 : decode cX2_takeThree 24 = .ok (.bipush 9, 2) := by decide +kernel
theorem dX2_takeThree_26 : decode cX2_takeThree 26 = .ok (.goto 6, 3) := by decide +kernel
theorem dX2_takeThree_29 : decode cX2_takeThree 29 = .ok (.sipush 999, 3) := by decide +kernel
theorem dX2_takeThree_32 : decode cX2_takeThree 32 = .ok (.istore_n 3, 1) := by decide +kernel
theorem dX2_takeThree_33 : decode cX2_takeThree 33 = .ok (.aload_n 0, 1) := by decide +kernel
theorem dX2_takeThree_34 : decode cX2_takeThree 34 = .ok (.iconst 1, 1) := by decide +kernel
theorem dX2_takeThree_35 : decode cX2_takeThree 35 = .ok (.iload_n 2, 1) := by decide +kernel
theorem dX2_takeThree_36 : decode cX2_takeThree 36 = .ok (.invokevirtual 99, 3) := by decide +kernel
theorem dX2_takeThree_39 : decode cX2_takeThree 39 = .ok (.ifCond .ne 5, 3) := by decide +kernel
theorem dX2_takeThree_42 : decode cX2_takeThree 42 = .ok (.iconst 0, 1) := by decide +kernel
theorem dX2_takeThree_43 : decode cX2_takeThree 43 = .ok (.ireturn, 1) := by decide +kernel
theorem dX2_takeThree_44 : decode cX2_takeThree 44 = .ok (.aload_n 0, 1) := by decide +kernel
theorem dX2_takeThree_45 : decode cX2_takeThree 45 = .ok (.getfield 11, 3) := by decide +kernel
theorem dX2_takeThree_48 : decode cX2_takeThree 48 = .ok (.iconst 2, 1) := by decide +kernel
theorem dX2_takeThree_49 : decode cX2_takeThree 49 = .ok (.if_icmp .ne 21, 3) := by decide +kernel
theorem dX2_takeThree_52 : decode cX2_takeThree 52 = .ok (.aload_n 0, 1) := by decide +kernel
theorem dX2_takeThree_53 : decode cX2_takeThree 53 = .ok (.getfield 21, 3) := by decide +kernel
theorem dX2_takeThree_56 : decode cX2_takeThree 56 = .ok (.aload_n 0, 1) := by decide +kernel
theorem dX2_takeThree_57 : decode cX2_takeThree 57 = .ok (.aload_n 0, 1) := by decide +kernel
theorem dX2_takeThree_58 : decode cX2_takeThree 58 = .ok (.getfield 28, 3) := by decide +kernel
theorem dX2_takeThree_61 : decode cX2_takeThree 61 = .ok (.iconst 1, 1) := by decide +kernel
theorem dX2_takeThree_62 : decode cX2_takeThree 62 = .ok (.invokevirtual 93, 3) := by decide +kernel
theorem dX2_takeThree_65 : decode cX2_takeThree 65 = .ok (.if_icmp .ne 5, 3) := by decide +kernel
theorem dX2_takeThree_68 : decode cX2_takeThree 68 = .ok (.iconst 0, 1) := by decide +kernel
theorem dX2_takeThree_69 : decode cX2_takeThree 69 = .ok (.ireturn, 1) := by decide +kernel
theorem dX2_takeThree_70 : decode cX2_takeThree 70 = .ok (.aload_n 0, 1) := by decide +kernel
theorem dX2_takeThree_71 : decode cX2_takeThree 71 = .ok (.iconst 2, 1) := by decide +kernel
theorem dX2_takeThree_72 : decode cX2_takeThree 72 = .ok (.iload_n 2, 1) := by decide +kernel
theorem dX2_takeThree_73 : decode cX2_takeThree 73 = .ok (.invokevirtual 99, 3) := by decide +kernel
theorem dX2_takeThree_76 : decode cX2_takeThree 76 = .ok (.ifCond .eq 16, 3) := by decide +kernel
theorem dX2_takeThree_79 : decode cX2_takeThree 79 = .ok (.aload_n 0, 1) := by decide +kernel
theorem dX2_takeThree_80 : decode cX2_takeThree 80 = .ok (.iconst 3, 1) := by decide +kernel
theorem dX2_takeThree_81 : decode cX2_takeThree 81 = .ok (.iload_n 3, 1) := by decide +kernel
theorem dX2_takeThree_82 : decode cX2_takeThree 82 = .ok (.invokevirtual 99, 3) := by decide +kernel
theorem dX2_takeThree_85 : decode cX2_takeThree 85 = .ok (.ifCond .eq 7, 3) := by decide +kernel
theorem dX2_takeThree_88 : decode cX2_takeThree 88 = .ok (.iconst 1, 1) := by decide +kernel
theorem dX2_takeThree_89 : decode cX2_takeThree 89 = .ok (.goto 4, 3) := by decide +kernel
theorem dX2_takeThree_92 : decode cX2_takeThree 92 = .ok (.iconst 0, 1) := by decide +kernel
theorem dX2_takeThree_93 : decode cX2_takeThree 93 = .ok (.ireturn, 1) := by decide +kernel
set_option maxHeartbeats 800000 in
set_option maxRecDepth 100000 in
theorem c_X2_takeThree {l : Launch} {ω : xO} (hc : xsh ω = clS) {q it pe hd : Int} {pa : Int → Int} {M : xMem} (hb : BtO (btC M) (M 47 1)) (hq : 0 ≤ q ∧ q ≤ M 47 1) (hit : 0 ≤ it ∧ it < 120) (hpe : 0 ≤ pe ∧ pe ≤ 8) (hpa : ∀ k, inR (pa k)) (hhd : hd = 7 ∨ hd = 8)  : Ct l ω yX2_takeThree ({ frames := 3, cells := 0, slots := 0, locals := 64 } : Room) 4 1 [.ref (xad ω 49), .int (iI hd)] (rsM M q it pe pa) (some (.int (iI (bI (ttP (btC M) it q (m2F hd pe) (m3F hd) pa))))) (rsM M (ttQ (btC M) it q (m2F hd pe) (m3F hd) pa) it pe (ttA (btC M) it q (m2F hd pe) (m3F hd) pa)) := by
  refine Ct.of (bytes := cX2_takeThree) (ret := (some .boolean)) (lv0 := [some (.ref (xad ω 49)), some (.int (iI hd)), none, none]) m_cd_X2_takeThree m_in_X2 (by decide +kernel) (by decide +kernel) rfl rfl rfl rfl (fun hR => rs_R hR hb (ttQ_R hb hq) (by omega) (hR 49 7) (ttA_R hb hq hpa)) ?_
  intro κ h he hR
  have hm2 : -1 ≤ (m2F hd pe) ∧ (m2F hd pe) ≤ 9 := by unfold m2F; split <;> omega
  have hm3 : 0 ≤ (m3F hd) ∧ (m3F hd) ≤ 999 := by unfold m3F; split <;> omega
  have h1 : 0 ≤ th1 (btC M) q (m2F hd pe) ∧ th1 (btC M) q (m2F hd pe) ≤ M 47 1 := nuQ_R hb hq
  have h2 : 0 ≤ th2 (btC M) q (m2F hd pe) ∧ th2 (btC M) q (m2F hd pe) ≤ M 47 1 := nuQ_R hb h1
  have hb1 : ∀ k, inR (tb1 (btC M) it q (m2F hd pe) pa k) := nuA_R hb hq hpa
  have hv1 := tkV_R hb h1
  have hs1 := tkS_R (btC M) (th1 (btC M) q (m2F hd pe))
  refine x_iload_n h dX2_takeThree_0 rfl ?_
  refine x_bipush h dX2_takeThree_1 (by decide) ?_
  refine x_icmp_ne h dX2_takeThree_3 (tgt := 11) (by decide) (by omega) (by omega) (fun q3 => ?_) (fun q3 => ?_)
  · refine x_aload_n h dX2_takeThree_11 rfl ?_
    refine x_geti (j := 7) 7 h dX2_takeThree_12 (sC49 hc) rfl in_X2 rfl (by decide) m_fl_X2_31 rfl (fun r12 => ?_)
    try simp only [rs_r1, rs_r2, rs_r3, rs_r4, rs_r6, rs_r7, rs_r50, rs_r47, rs_b] at r12 ⊢
    refine x_iconst h dX2_takeThree_15 ?_
    refine x_isub h dX2_takeThree_16 ?_
    refine x_istore_n h dX2_takeThree_17 rfl rfl ?_
    dsimp only [xset]
    refine x_iload_n h dX2_takeThree_18 rfl ?_
    refine x_bipush h dX2_takeThree_19 (by decide) ?_
    refine x_icmp_ne h dX2_takeThree_21 (tgt := 29) (by decide) (by omega) (by omega) (fun q21 => ?_) (fun q21 => ?_)
    · refine x_sipush h dX2_takeThree_29 (by decide) ?_
      refine x_istore_n h dX2_takeThree_32 rfl rfl ?_
      dsimp only [xset]
      refine x_same (lv' := [some (.ref (xad ω 49)), some (.int (iI hd)), some (.int (iI (m2F hd pe))), some (.int (iI (m3F hd)))]) (st' := []) (M' := rsM M q it pe pa) ?_ (by unfold m2F m3F; first | (exfalso; omega) | (rw [if_pos (by omega), if_pos (by omega)]) | (rw [if_neg (by omega), if_neg (by omega)])) rfl rfl
      refine x_aload_n h dX2_takeThree_33 rfl ?_
      refine x_iconst h dX2_takeThree_34 ?_
      refine x_iload_n h dX2_takeThree_35 rfl ?_
      refine x_V2i h dX2_takeThree_36 m_ml_X2_99 m_im_X2_takeNumber m_se_X2_takeNumber (sC49 hc) rfl (by decide) rfl (c_X2_takeNumber hc hb hq hit (by omega) (by omega)) ?_
      refine x_ifneB h dX2_takeThree_39 (tgt := 44) (by decide) (fun q39 => ?_) (fun q39 => ?_)
      · refine x_mem (M' := rsM M (th1 (btC M) q (m2F hd pe)) it pe (tb1 (btC M) it q (m2F hd pe) pa)) rfl ?_
        refine x_aload_n h dX2_takeThree_44 rfl ?_
        refine x_geti (j := 1) 1 h dX2_takeThree_45 (sC49 hc) rfl in_X2 rfl (by decide) m_fl_X2_11 rfl (fun r45 => ?_)
        try simp only [rs_r1, rs_r2, rs_r3, rs_r4, rs_r6, rs_r7, rs_r50, rs_r47, rs_b] at r45 ⊢
        refine x_iconst h dX2_takeThree_48 ?_
        refine x_icmp_ne h dX2_takeThree_49 (tgt := 70) (by decide) (by omega) (by omega) (fun q49 => ?_) (fun q49 => ?_)
        · have hne : ¬ ttE (btC M) it q (m2F hd pe) pa := by first | (have y : ¬ tkS (btC M) (th1 (btC M) q (m2F hd pe)) = 2 := q49; exact fun z => y z.1) | exact fun z => q65 z.2
          have hc1 : nuP (btC M) q (m2F hd pe) ∧ ¬ ttE (btC M) it q (m2F hd pe) pa := ⟨q39, hne⟩
          refine x_aload_n h dX2_takeThree_70 rfl ?_
          refine x_iconst h dX2_takeThree_71 ?_
          refine x_iload_n h dX2_takeThree_72 rfl ?_
          refine x_V2i h dX2_takeThree_73 m_ml_X2_99 m_im_X2_takeNumber m_se_X2_takeNumber (sC49 hc) rfl (by decide) rfl (c_X2_takeNumber hc hb h1 hit (by omega) (by omega)) ?_
          refine x_ifeqB h dX2_takeThree_76 (tgt := 92) (by decide) (fun q76 => ?_) (fun q76 => ?_)
          · refine x_iconst h dX2_takeThree_92 ?_
            exact x_zret h he dX2_takeThree_93 (by first | exact Or.inl rfl | exact Or.inr rfl | exact bI_01 _ | omega) rfl (by first | (have y : ¬ nuP (btC M) (th1 (btC M) q (m2F hd pe)) (m2F hd pe) := q76; exact (bI_f (fun z => y z.2.2.1)).symm) | (have y : ¬ nuP (btC M) (th2 (btC M) q (m2F hd pe)) (m3F hd) := q85; exact (bI_f (fun z => y z.2.2.2)).symm) | exact (bI_t ⟨q39, hne, q76, q85⟩).symm) (by unfold ttQ ttA; rw [tI_p hc1, tI_p hc1]; first | (have y : ¬ nuP (btC M) (th1 (btC M) q (m2F hd pe)) (m2F hd pe) := q76; rw [tI_n y, tI_n y]; rfl) | (have y : nuP (btC M) (th1 (btC M) q (m2F hd pe)) (m2F hd pe) := q76; rw [tI_p y, tI_p y]; rfl))
          · refine x_mem (M' := rsM M (th2 (btC M) q (m2F hd pe)) it pe (tb2 (btC M) it q (m2F hd pe) pa)) rfl ?_
            refine x_aload_n h dX2_takeThree_79 rfl ?_
            refine x_iconst h dX2_takeThree_80 ?_
            refine x_iload_n h dX2_takeThree_81 rfl ?_
            refine x_V2i h dX2_takeThree_82 m_ml_X2_99 m_im_X2_takeNumber m_se_X2_takeNumber (sC49 hc) rfl (by decide) rfl (c_X2_takeNumber hc hb h2 hit (by omega) (by omega)) ?_
            refine x_ifeqB h dX2_takeThree_85 (tgt := 92) (by decide) (fun q85 => ?_) (fun q85 => ?_)
            · refine x_iconst h dX2_takeThree_92 ?_
              exact x_zret h he dX2_takeThree_93 (by first | exact Or.inl rfl | exact Or.inr rfl | exact bI_01 _ | omega) rfl (by first | (have y : ¬ nuP (btC M) (th1 (btC M) q (m2F hd pe)) (m2F hd pe) := q76; exact (bI_f (fun z => y z.2.2.1)).symm) | (have y : ¬ nuP (btC M) (th2 (btC M) q (m2F hd pe)) (m3F hd) := q85; exact (bI_f (fun z => y z.2.2.2)).symm) | exact (bI_t ⟨q39, hne, q76, q85⟩).symm) (by unfold ttQ ttA; rw [tI_p hc1, tI_p hc1]; first | (have y : ¬ nuP (btC M) (th1 (btC M) q (m2F hd pe)) (m2F hd pe) := q76; rw [tI_n y, tI_n y]; rfl) | (have y : nuP (btC M) (th1 (btC M) q (m2F hd pe)) (m2F hd pe) := q76; rw [tI_p y, tI_p y]; rfl))
            · refine x_iconst h dX2_takeThree_88 ?_
              refine x_goto h dX2_takeThree_89 (tgt := 93) (by decide) ?_
              exact x_zret h he dX2_takeThree_93 (by first | exact Or.inl rfl | exact Or.inr rfl | exact bI_01 _ | omega) rfl (by first | (have y : ¬ nuP (btC M) (th1 (btC M) q (m2F hd pe)) (m2F hd pe) := q76; exact (bI_f (fun z => y z.2.2.1)).symm) | (have y : ¬ nuP (btC M) (th2 (btC M) q (m2F hd pe)) (m3F hd) := q85; exact (bI_f (fun z => y z.2.2.2)).symm) | exact (bI_t ⟨q39, hne, q76, q85⟩).symm) (by unfold ttQ ttA; rw [tI_p hc1, tI_p hc1]; first | (have y : ¬ nuP (btC M) (th1 (btC M) q (m2F hd pe)) (m2F hd pe) := q76; rw [tI_n y, tI_n y]; rfl) | (have y : nuP (btC M) (th1 (btC M) q (m2F hd pe)) (m2F hd pe) := q76; rw [tI_p y, tI_p y]; rfl))
        · refine x_aload_n h dX2_takeThree_52 rfl ?_
          refine x_geti (j := 4) 4 h dX2_takeThree_53 (sC49 hc) rfl in_X2 rfl (by decide) m_fl_X2_21 rfl (fun r53 => ?_)
          try simp only [rs_r1, rs_r2, rs_r3, rs_r4, rs_r6, rs_r7, rs_r50, rs_r47, rs_b] at r53 ⊢
          refine x_aload_n h dX2_takeThree_56 rfl ?_
          refine x_aload_n h dX2_takeThree_57 rfl ?_
          refine x_geti (j := 6) 6 h dX2_takeThree_58 (sC49 hc) rfl in_X2 rfl (by decide) m_fl_X2_28 rfl (fun r58 => ?_)
          try simp only [rs_r1, rs_r2, rs_r3, rs_r4, rs_r6, rs_r7, rs_r50, rs_r47, rs_b] at r58 ⊢
          refine x_iconst h dX2_takeThree_61 ?_
          refine x_V2i h dX2_takeThree_62 m_ml_X2_93 m_im_X2_part m_se_X2_part (sC49 hc) rfl (by decide) rfl (c_X2_part hc hit (by omega)) ?_
          refine x_icmp_ne h dX2_takeThree_65 (tgt := 70) (by decide) (by first | omega | exact hb1 _) (by first | omega | exact hb1 _) (fun q65 => ?_) (fun q65 => ?_)
          · have hne : ¬ ttE (btC M) it q (m2F hd pe) pa := by first | (have y : ¬ tkS (btC M) (th1 (btC M) q (m2F hd pe)) = 2 := q49; exact fun z => y z.1) | exact fun z => q65 z.2
            have hc1 : nuP (btC M) q (m2F hd pe) ∧ ¬ ttE (btC M) it q (m2F hd pe) pa := ⟨q39, hne⟩
            refine x_aload_n h dX2_takeThree_70 rfl ?_
            refine x_iconst h dX2_takeThree_71 ?_
            refine x_iload_n h dX2_takeThree_72 rfl ?_
            refine x_V2i h dX2_takeThree_73 m_ml_X2_99 m_im_X2_takeNumber m_se_X2_takeNumber (sC49 hc) rfl (by decide) rfl (c_X2_takeNumber hc hb h1 hit (by omega) (by omega)) ?_
            refine x_ifeqB h dX2_takeThree_76 (tgt := 92) (by decide) (fun q76 => ?_) (fun q76 => ?_)
            · refine x_iconst h dX2_takeThree_92 ?_
              exact x_zret h he dX2_takeThree_93 (by first | exact Or.inl rfl | exact Or.inr rfl | exact bI_01 _ | omega) rfl (by first | (have y : ¬ nuP (btC M) (th1 (btC M) q (m2F hd pe)) (m2F hd pe) := q76; exact (bI_f (fun z => y z.2.2.1)).symm) | (have y : ¬ nuP (btC M) (th2 (btC M) q (m2F hd pe)) (m3F hd) := q85; exact (bI_f (fun z => y z.2.2.2)).symm) | exact (bI_t ⟨q39, hne, q76, q85⟩).symm) (by unfold ttQ ttA; rw [tI_p hc1, tI_p hc1]; first | (have y : ¬ nuP (btC M) (th1 (btC M) q (m2F hd pe)) (m2F hd pe) := q76; rw [tI_n y, tI_n y]; rfl) | (have y : nuP (btC M) (th1 (btC M) q (m2F hd pe)) (m2F hd pe) := q76; rw [tI_p y, tI_p y]; rfl))
            · refine x_mem (M' := rsM M (th2 (btC M) q (m2F hd pe)) it pe (tb2 (btC M) it q (m2F hd pe) pa)) rfl ?_
              refine x_aload_n h dX2_takeThree_79 rfl ?_
              refine x_iconst h dX2_takeThree_80 ?_
              refine x_iload_n h dX2_takeThree_81 rfl ?_
              refine x_V2i h dX2_takeThree_82 m_ml_X2_99 m_im_X2_takeNumber m_se_X2_takeNumber (sC49 hc) rfl (by decide) rfl (c_X2_takeNumber hc hb h2 hit (by omega) (by omega)) ?_
              refine x_ifeqB h dX2_takeThree_85 (tgt := 92) (by decide) (fun q85 => ?_) (fun q85 => ?_)
              · refine x_iconst h dX2_takeThree_92 ?_
                exact x_zret h he dX2_takeThree_93 (by first | exact Or.inl rfl | exact Or.inr rfl | exact bI_01 _ | omega) rfl (by first | (have y : ¬ nuP (btC M) (th1 (btC M) q (m2F hd pe)) (m2F hd pe) := q76; exact (bI_f (fun z => y z.2.2.1)).symm) | (have y : ¬ nuP (btC M) (th2 (btC M) q (m2F hd pe)) (m3F hd) := q85; exact (bI_f (fun z => y z.2.2.2)).symm) | exact (bI_t ⟨q39, hne, q76, q85⟩).symm) (by unfold ttQ ttA; rw [tI_p hc1, tI_p hc1]; first | (have y : ¬ nuP (btC M) (th1 (btC M) q (m2F hd pe)) (m2F hd pe) := q76; rw [tI_n y, tI_n y]; rfl) | (have y : nuP (btC M) (th1 (btC M) q (m2F hd pe)) (m2F hd pe) := q76; rw [tI_p y, tI_p y]; rfl))
              · refine x_iconst h dX2_takeThree_88 ?_
                refine x_goto h dX2_takeThree_89 (tgt := 93) (by decide) ?_
                exact x_zret h he dX2_takeThree_93 (by first | exact Or.inl rfl | exact Or.inr rfl | exact bI_01 _ | omega) rfl (by first | (have y : ¬ nuP (btC M) (th1 (btC M) q (m2F hd pe)) (m2F hd pe) := q76; exact (bI_f (fun z => y z.2.2.1)).symm) | (have y : ¬ nuP (btC M) (th2 (btC M) q (m2F hd pe)) (m3F hd) := q85; exact (bI_f (fun z => y z.2.2.2)).symm) | exact (bI_t ⟨q39, hne, q76, q85⟩).symm) (by unfold ttQ ttA; rw [tI_p hc1, tI_p hc1]; first | (have y : ¬ nuP (btC M) (th1 (btC M) q (m2F hd pe)) (m2F hd pe) := q76; rw [tI_n y, tI_n y]; rfl) | (have y : nuP (btC M) (th1 (btC M) q (m2F hd pe)) (m2F hd pe) := q76; rw [tI_p y, tI_p y]; rfl))
          · refine x_iconst h dX2_takeThree_68 ?_
            exact x_zret h he dX2_takeThree_69 (by first | exact Or.inl rfl | exact Or.inr rfl | exact bI_01 _ | omega) rfl (bI_f (fun z => z.2.1 ⟨q49, q65⟩)).symm (by unfold ttQ ttA; rw [tI_n (fun z => z.2 ⟨q49, q65⟩), tI_n (fun z => z.2 ⟨q49, q65⟩)])
      · refine x_iconst h dX2_takeThree_42 ?_
        exact x_zret h he dX2_takeThree_43 (by first | exact Or.inl rfl | exact Or.inr rfl | exact bI_01 _ | omega) rfl (bI_f (fun z => q39 z.1)).symm (by unfold ttQ ttA; rw [tI_n (fun z => q39 z.1), tI_n (fun z => q39 z.1)]; rfl)
    · refine x_bipush h dX2_takeThree_24 (by decide) ?_
      refine x_goto h dX2_takeThree_26 (tgt := 32) (by decide) ?_
      refine x_istore_n h dX2_takeThree_32 rfl rfl ?_
      dsimp only [xset]
      refine x_same (lv' := [some (.ref (xad ω 49)), some (.int (iI hd)), some (.int (iI (m2F hd pe))), some (.int (iI (m3F hd)))]) (st' := []) (M' := rsM M q it pe pa) ?_ (by unfold m2F m3F; first | (exfalso; omega) | (rw [if_pos (by omega), if_pos (by omega)]) | (rw [if_neg (by omega), if_neg (by omega)])) rfl rfl
      refine x_aload_n h dX2_takeThree_33 rfl ?_
      refine x_iconst h dX2_takeThree_34 ?_
      refine x_iload_n h dX2_takeThree_35 rfl ?_
      refine x_V2i h dX2_takeThree_36 m_ml_X2_99 m_im_X2_takeNumber m_se_X2_takeNumber (sC49 hc) rfl (by decide) rfl (c_X2_takeNumber hc hb hq hit (by omega) (by omega)) ?_
      refine x_ifneB h dX2_takeThree_39 (tgt := 44) (by decide) (fun q39 => ?_) (fun q39 => ?_)
      · refine x_mem (M' := rsM M (th1 (btC M) q (m2F hd pe)) it pe (tb1 (btC M) it q (m2F hd pe) pa)) rfl ?_
        refine x_aload_n h dX2_takeThree_44 rfl ?_
        refine x_geti (j := 1) 1 h dX2_takeThree_45 (sC49 hc) rfl in_X2 rfl (by decide) m_fl_X2_11 rfl (fun r45 => ?_)
        try simp only [rs_r1, rs_r2, rs_r3, rs_r4, rs_r6, rs_r7, rs_r50, rs_r47, rs_b] at r45 ⊢
        refine x_iconst h dX2_takeThree_48 ?_
        refine x_icmp_ne h dX2_takeThree_49 (tgt := 70) (by decide) (by omega) (by omega) (fun q49 => ?_) (fun q49 => ?_)
        · have hne : ¬ ttE (btC M) it q (m2F hd pe) pa := by first | (have y : ¬ tkS (btC M) (th1 (btC M) q (m2F hd pe)) = 2 := q49; exact fun z => y z.1) | exact fun z => q65 z.2
          have hc1 : nuP (btC M) q (m2F hd pe) ∧ ¬ ttE (btC M) it q (m2F hd pe) pa := ⟨q39, hne⟩
          refine x_aload_n h dX2_takeThree_70 rfl ?_
          refine x_iconst h dX2_takeThree_71 ?_
          refine x_iload_n h dX2_takeThree_72 rfl ?_
          refine x_V2i h dX2_takeThree_73 m_ml_X2_99 m_im_X2_takeNumber m_se_X2_takeNumber (sC49 hc) rfl (by decide) rfl (c_X2_takeNumber hc hb h1 hit (by omega) (by omega)) ?_
          refine x_ifeqB h dX2_takeThree_76 (tgt := 92) (by decide) (fun q76 => ?_) (fun q76 => ?_)
          · refine x_iconst h dX2_takeThree_92 ?_
            exact x_zret h he dX2_takeThree_93 (by first | exact Or.inl rfl | exact Or.inr rfl | exact bI_01 _ | omega) rfl (by first | (have y : ¬ nuP (btC M) (th1 (btC M) q (m2F hd pe)) (m2F hd pe) := q76; exact (bI_f (fun z => y z.2.2.1)).symm) | (have y : ¬ nuP (btC M) (th2 (btC M) q (m2F hd pe)) (m3F hd) := q85; exact (bI_f (fun z => y z.2.2.2)).symm) | exact (bI_t ⟨q39, hne, q76, q85⟩).symm) (by unfold ttQ ttA; rw [tI_p hc1, tI_p hc1]; first | (have y : ¬ nuP (btC M) (th1 (btC M) q (m2F hd pe)) (m2F hd pe) := q76; rw [tI_n y, tI_n y]; rfl) | (have y : nuP (btC M) (th1 (btC M) q (m2F hd pe)) (m2F hd pe) := q76; rw [tI_p y, tI_p y]; rfl))
          · refine x_mem (M' := rsM M (th2 (btC M) q (m2F hd pe)) it pe (tb2 (btC M) it q (m2F hd pe) pa)) rfl ?_
            refine x_aload_n h dX2_takeThree_79 rfl ?_
            refine x_iconst h dX2_takeThree_80 ?_
            refine x_iload_n h dX2_takeThree_81 rfl ?_
            refine x_V2i h dX2_takeThree_82 m_ml_X2_99 m_im_X2_takeNumber m_se_X2_takeNumber (sC49 hc) rfl (by decide) rfl (c_X2_takeNumber hc hb h2 hit (by omega) (by omega)) ?_
            refine x_ifeqB h dX2_takeThree_85 (tgt := 92) (by decide) (fun q85 => ?_) (fun q85 => ?_)
            · refine x_iconst h dX2_takeThree_92 ?_
              exact x_zret h he dX2_takeThree_93 (by first | exact Or.inl rfl | exact Or.inr rfl | exact bI_01 _ | omega) rfl (by first | (have y : ¬ nuP (btC M) (th1 (btC M) q (m2F hd pe)) (m2F hd pe) := q76; exact (bI_f (fun z => y z.2.2.1)).symm) | (have y : ¬ nuP (btC M) (th2 (btC M) q (m2F hd pe)) (m3F hd) := q85; exact (bI_f (fun z => y z.2.2.2)).symm) | exact (bI_t ⟨q39, hne, q76, q85⟩).symm) (by unfold ttQ ttA; rw [tI_p hc1, tI_p hc1]; first | (have y : ¬ nuP (btC M) (th1 (btC M) q (m2F hd pe)) (m2F hd pe) := q76; rw [tI_n y, tI_n y]; rfl) | (have y : nuP (btC M) (th1 (btC M) q (m2F hd pe)) (m2F hd pe) := q76; rw [tI_p y, tI_p y]; rfl))
            · refine x_iconst h dX2_takeThree_88 ?_
              refine x_goto h dX2_takeThree_89 (tgt := 93) (by decide) ?_
              exact x_zret h he dX2_takeThree_93 (by first | exact Or.inl rfl | exact Or.inr rfl | exact bI_01 _ | omega) rfl (by first | (have y : ¬ nuP (btC M) (th1 (btC M) q (m2F hd pe)) (m2F hd pe) := q76; exact (bI_f (fun z => y z.2.2.1)).symm) | (have y : ¬ nuP (btC M) (th2 (btC M) q (m2F hd pe)) (m3F hd) := q85; exact (bI_f (fun z => y z.2.2.2)).symm) | exact (bI_t ⟨q39, hne, q76, q85⟩).symm) (by unfold ttQ ttA; rw [tI_p hc1, tI_p hc1]; first | (have y : ¬ nuP (btC M) (th1 (btC M) q (m2F hd pe)) (m2F hd pe) := q76; rw [tI_n y, tI_n y]; rfl) | (have y : nuP (btC M) (th1 (btC M) q (m2F hd pe)) (m2F hd pe) := q76; rw [tI_p y, tI_p y]; rfl))
        · refine x_aload_n h dX2_takeThree_52 rfl ?_
          refine x_geti (j := 4) 4 h dX2_takeThree_53 (sC49 hc) rfl in_X2 rfl (by decide) m_fl_X2_21 rfl (fun r53 => ?_)
          try simp only [rs_r1, rs_r2, rs_r3, rs_r4, rs_r6, rs_r7, rs_r50, rs_r47, rs_b] at r53 ⊢
          refine x_aload_n h dX2_takeThree_56 rfl ?_
          refine x_aload_n h dX2_takeThree_57 rfl ?_
          refine x_geti (j := 6) 6 h dX2_takeThree_58 (sC49 hc) rfl in_X2 rfl (by decide) m_fl_X2_28 rfl (fun r58 => ?_)
          try simp only [rs_r1, rs_r2, rs_r3, rs_r4, rs_r6, rs_r7, rs_r50, rs_r47, rs_b] at r58 ⊢
          refine x_iconst h dX2_takeThree_61 ?_
          refine x_V2i h dX2_takeThree_62 m_ml_X2_93 m_im_X2_part m_se_X2_part (sC49 hc) rfl (by decide) rfl (c_X2_part hc hit (by omega)) ?_
          refine x_icmp_ne h dX2_takeThree_65 (tgt := 70) (by decide) (by first | omega | exact hb1 _) (by first | omega | exact hb1 _) (fun q65 => ?_) (fun q65 => ?_)
          · have hne : ¬ ttE (btC M) it q (m2F hd pe) pa := by first | (have y : ¬ tkS (btC M) (th1 (btC M) q (m2F hd pe)) = 2 := q49; exact fun z => y z.1) | exact fun z => q65 z.2
            have hc1 : nuP (btC M) q (m2F hd pe) ∧ ¬ ttE (btC M) it q (m2F hd pe) pa := ⟨q39, hne⟩
            refine x_aload_n h dX2_takeThree_70 rfl ?_
            refine x_iconst h dX2_takeThree_71 ?_
            refine x_iload_n h dX2_takeThree_72 rfl ?_
            refine x_V2i h dX2_takeThree_73 m_ml_X2_99 m_im_X2_takeNumber m_se_X2_takeNumber (sC49 hc) rfl (by decide) rfl (c_X2_takeNumber hc hb h1 hit (by omega) (by omega)) ?_
            refine x_ifeqB h dX2_takeThree_76 (tgt := 92) (by decide) (fun q76 => ?_) (fun q76 => ?_)
            · refine x_iconst h dX2_takeThree_92 ?_
              exact x_zret h he dX2_takeThree_93 (by first | exact Or.inl rfl | exact Or.inr rfl | exact bI_01 _ | omega) rfl (by first | (have y : ¬ nuP (btC M) (th1 (btC M) q (m2F hd pe)) (m2F hd pe) := q76; exact (bI_f (fun z => y z.2.2.1)).symm) | (have y : ¬ nuP (btC M) (th2 (btC M) q (m2F hd pe)) (m3F hd) := q85; exact (bI_f (fun z => y z.2.2.2)).symm) | exact (bI_t ⟨q39, hne, q76, q85⟩).symm) (by unfold ttQ ttA; rw [tI_p hc1, tI_p hc1]; first | (have y : ¬ nuP (btC M) (th1 (btC M) q (m2F hd pe)) (m2F hd pe) := q76; rw [tI_n y, tI_n y]; rfl) | (have y : nuP (btC M) (th1 (btC M) q (m2F hd pe)) (m2F hd pe) := q76; rw [tI_p y, tI_p y]; rfl))
            · refine x_mem (M' := rsM M (th2 (btC M) q (m2F hd pe)) it pe (tb2 (btC M) it q (m2F hd pe) pa)) rfl ?_
              refine x_aload_n h dX2_takeThree_79 rfl ?_
              refine x_iconst h dX2_takeThree_80 ?_
              refine x_iload_n h dX2_takeThree_81 rfl ?_
              refine x_V2i h dX2_takeThree_82 m_ml_X2_99 m_im_X2_takeNumber m_se_X2_takeNumber (sC49 hc) rfl (by decide) rfl (c_X2_takeNumber hc hb h2 hit (by omega) (by omega)) ?_
              refine x_ifeqB h dX2_takeThree_85 (tgt := 92) (by decide) (fun q85 => ?_) (fun q85 => ?_)
              · refine x_iconst h dX2_takeThree_92 ?_
                exact x_zret h he dX2_takeThree_93 (by first | exact Or.inl rfl | exact Or.inr rfl | exact bI_01 _ | omega) rfl (by first | (have y : ¬ nuP (btC M) (th1 (btC M) q (m2F hd pe)) (m2F hd pe) := q76; exact (bI_f (fun z => y z.2.2.1)).symm) | (have y : ¬ nuP (btC M) (th2 (btC M) q (m2F hd pe)) (m3F hd) := q85; exact (bI_f (fun z => y z.2.2.2)).symm) | exact (bI_t ⟨q39, hne, q76, q85⟩).symm) (by unfold ttQ ttA; rw [tI_p hc1, tI_p hc1]; first | (have y : ¬ nuP (btC M) (th1 (btC M) q (m2F hd pe)) (m2F hd pe) := q76; rw [tI_n y, tI_n y]; rfl) | (have y : nuP (btC M) (th1 (btC M) q (m2F hd pe)) (m2F hd pe) := q76; rw [tI_p y, tI_p y]; rfl))
              · refine x_iconst h dX2_takeThree_88 ?_
                refine x_goto h dX2_takeThree_89 (tgt := 93) (by decide) ?_
                exact x_zret h he dX2_takeThree_93 (by first | exact Or.inl rfl | exact Or.inr rfl | exact bI_01 _ | omega) rfl (by first | (have y : ¬ nuP (btC M) (th1 (btC M) q (m2F hd pe)) (m2F hd pe) := q76; exact (bI_f (fun z => y z.2.2.1)).symm) | (have y : ¬ nuP (btC M) (th2 (btC M) q (m2F hd pe)) (m3F hd) := q85; exact (bI_f (fun z => y z.2.2.2)).symm) | exact (bI_t ⟨q39, hne, q76, q85⟩).symm) (by unfold ttQ ttA; rw [tI_p hc1, tI_p hc1]; first | (have y : ¬ nuP (btC M) (th1 (btC M) q (m2F hd pe)) (m2F hd pe) := q76; rw [tI_n y, tI_n y]; rfl) | (have y : nuP (btC M) (th1 (btC M) q (m2F hd pe)) (m2F hd pe) := q76; rw [tI_p y, tI_p y]; rfl))
          · refine x_iconst h dX2_takeThree_68 ?_
            exact x_zret h he dX2_takeThree_69 (by first | exact Or.inl rfl | exact Or.inr rfl | exact bI_01 _ | omega) rfl (bI_f (fun z => z.2.1 ⟨q49, q65⟩)).symm (by unfold ttQ ttA; rw [tI_n (fun z => z.2 ⟨q49, q65⟩), tI_n (fun z => z.2 ⟨q49, q65⟩)])
      · refine x_iconst h dX2_takeThree_42 ?_
        exact x_zret h he dX2_takeThree_43 (by first | exact Or.inl rfl | exact Or.inr rfl | exact bI_01 _ | omega) rfl (bI_f (fun z => q39 z.1)).symm (by unfold ttQ ttA; rw [tI_n (fun z => q39 z.1), tI_n (fun z => q39 z.1)]; rfl)
  · refine x_bipush h dX2_takeThree_6 (by decide) ?_
    refine x_goto h dX2_takeThree_8 (tgt := 17) (by decide) ?_
    refine x_istore_n h dX2_takeThree_17 rfl rfl ?_
    dsimp only [xset]
    refine x_iload_n h dX2_takeThree_18 rfl ?_
    refine x_bipush h dX2_takeThree_19 (by decide) ?_
    refine x_icmp_ne h dX2_takeThree_21 (tgt := 29) (by decide) (by omega) (by omega) (fun q21 => ?_) (fun q21 => ?_)
    · refine x_sipush h dX2_takeThree_29 (by decide) ?_
      refine x_istore_n h dX2_takeThree_32 rfl rfl ?_
      dsimp only [xset]
      refine x_same (lv' := [some (.ref (xad ω 49)), some (.int (iI hd)), some (.int (iI (m2F hd pe))), some (.int (iI (m3F hd)))]) (st' := []) (M' := rsM M q it pe pa) ?_ (by unfold m2F m3F; first | (exfalso; omega) | (rw [if_pos (by omega), if_pos (by omega)]) | (rw [if_neg (by omega), if_neg (by omega)])) rfl rfl
      refine x_aload_n h dX2_takeThree_33 rfl ?_
      refine x_iconst h dX2_takeThree_34 ?_
      refine x_iload_n h dX2_takeThree_35 rfl ?_
      refine x_V2i h dX2_takeThree_36 m_ml_X2_99 m_im_X2_takeNumber m_se_X2_takeNumber (sC49 hc) rfl (by decide) rfl (c_X2_takeNumber hc hb hq hit (by omega) (by omega)) ?_
      refine x_ifneB h dX2_takeThree_39 (tgt := 44) (by decide) (fun q39 => ?_) (fun q39 => ?_)
      · refine x_mem (M' := rsM M (th1 (btC M) q (m2F hd pe)) it pe (tb1 (btC M) it q (m2F hd pe) pa)) rfl ?_
        refine x_aload_n h dX2_takeThree_44 rfl ?_
        refine x_geti (j := 1) 1 h dX2_takeThree_45 (sC49 hc) rfl in_X2 rfl (by decide) m_fl_X2_11 rfl (fun r45 => ?_)
        try simp only [rs_r1, rs_r2, rs_r3, rs_r4, rs_r6, rs_r7, rs_r50, rs_r47, rs_b] at r45 ⊢
        refine x_iconst h dX2_takeThree_48 ?_
        refine x_icmp_ne h dX2_takeThree_49 (tgt := 70) (by decide) (by omega) (by omega) (fun q49 => ?_) (fun q49 => ?_)
        · have hne : ¬ ttE (btC M) it q (m2F hd pe) pa := by first | (have y : ¬ tkS (btC M) (th1 (btC M) q (m2F hd pe)) = 2 := q49; exact fun z => y z.1) | exact fun z => q65 z.2
          have hc1 : nuP (btC M) q (m2F hd pe) ∧ ¬ ttE (btC M) it q (m2F hd pe) pa := ⟨q39, hne⟩
          refine x_aload_n h dX2_takeThree_70 rfl ?_
          refine x_iconst h dX2_takeThree_71 ?_
          refine x_iload_n h dX2_takeThree_72 rfl ?_
          refine x_V2i h dX2_takeThree_73 m_ml_X2_99 m_im_X2_takeNumber m_se_X2_takeNumber (sC49 hc) rfl (by decide) rfl (c_X2_takeNumber hc hb h1 hit (by omega) (by omega)) ?_
          refine x_ifeqB h dX2_takeThree_76 (tgt := 92) (by decide) (fun q76 => ?_) (fun q76 => ?_)
          · refine x_iconst h dX2_takeThree_92 ?_
            exact x_zret h he dX2_takeThree_93 (by first | exact Or.inl rfl | exact Or.inr rfl | exact bI_01 _ | omega) rfl (by first | (have y : ¬ nuP (btC M) (th1 (btC M) q (m2F hd pe)) (m2F hd pe) := q76; exact (bI_f (fun z => y z.2.2.1)).symm) | (have y : ¬ nuP (btC M) (th2 (btC M) q (m2F hd pe)) (m3F hd) := q85; exact (bI_f (fun z => y z.2.2.2)).symm) | exact (bI_t ⟨q39, hne, q76, q85⟩).symm) (by unfold ttQ ttA; rw [tI_p hc1, tI_p hc1]; first | (have y : ¬ nuP (btC M) (th1 (btC M) q (m2F hd pe)) (m2F hd pe) := q76; rw [tI_n y, tI_n y]; rfl) | (have y : nuP (btC M) (th1 (btC M) q (m2F hd pe)) (m2F hd pe) := q76; rw [tI_p y, tI_p y]; rfl))
          · refine x_mem (M' := rsM M (th2 (btC M) q (m2F hd pe)) it pe (tb2 (btC M) it q (m2F hd pe) pa)) rfl ?_
            refine x_aload_n h dX2_takeThree_79 rfl ?_
            refine x_iconst h dX2_takeThree_80 ?_
            refine x_iload_n h dX2_takeThree_81 rfl ?_
            refine x_V2i h dX2_takeThree_82 m_ml_X2_99 m_im_X2_takeNumber m_se_X2_takeNumber (sC49 hc) rfl (by decide) rfl (c_X2_takeNumber hc hb h2 hit (by omega) (by omega)) ?_
            refine x_ifeqB h dX2_takeThree_85 (tgt := 92) (by decide) (fun q85 => ?_) (fun q85 => ?_)
            · refine x_iconst h dX2_takeThree_92 ?_
              exact x_zret h he dX2_takeThree_93 (by first | exact Or.inl rfl | exact Or.inr rfl | exact bI_01 _ | omega) rfl (by first | (have y : ¬ nuP (btC M) (th1 (btC M) q (m2F hd pe)) (m2F hd pe) := q76; exact (bI_f (fun z => y z.2.2.1)).symm) | (have y : ¬ nuP (btC M) (th2 (btC M) q (m2F hd pe)) (m3F hd) := q85; exact (bI_f (fun z => y z.2.2.2)).symm) | exact (bI_t ⟨q39, hne, q76, q85⟩).symm) (by unfold ttQ ttA; rw [tI_p hc1, tI_p hc1]; first | (have y : ¬ nuP (btC M) (th1 (btC M) q (m2F hd pe)) (m2F hd pe) := q76; rw [tI_n y, tI_n y]; rfl) | (have y : nuP (btC M) (th1 (btC M) q (m2F hd pe)) (m2F hd pe) := q76; rw [tI_p y, tI_p y]; rfl))
            · refine x_iconst h dX2_takeThree_88 ?_
              refine x_goto h dX2_takeThree_89 (tgt := 93) (by decide) ?_
              exact x_zret h he dX2_takeThree_93 (by first | exact Or.inl rfl | exact Or.inr rfl | exact bI_01 _ | omega) rfl (by first | (have y : ¬ nuP (btC M) (th1 (btC M) q (m2F hd pe)) (m2F hd pe) := q76; exact (bI_f (fun z => y z.2.2.1)).symm) | (have y : ¬ nuP (btC M) (th2 (btC M) q (m2F hd pe)) (m3F hd) := q85; exact (bI_f (fun z => y z.2.2.2)).symm) | exact (bI_t ⟨q39, hne, q76, q85⟩).symm) (by unfold ttQ ttA; rw [tI_p hc1, tI_p hc1]; first | (have y : ¬ nuP (btC M) (th1 (btC M) q (m2F hd pe)) (m2F hd pe) := q76; rw [tI_n y, tI_n y]; rfl) | (have y : nuP (btC M) (th1 (btC M) q (m2F hd pe)) (m2F hd pe) := q76; rw [tI_p y, tI_p y]; rfl))
        · refine x_aload_n h dX2_takeThree_52 rfl ?_
          refine x_geti (j := 4) 4 h dX2_takeThree_53 (sC49 hc) rfl in_X2 rfl (by decide) m_fl_X2_21 rfl (fun r53 => ?_)
          try simp only [rs_r1, rs_r2, rs_r3, rs_r4, rs_r6, rs_r7, rs_r50, rs_r47, rs_b] at r53 ⊢
          refine x_aload_n h dX2_takeThree_56 rfl ?_
          refine x_aload_n h dX2_takeThree_57 rfl ?_
          refine x_geti (j := 6) 6 h dX2_takeThree_58 (sC49 hc) rfl in_X2 rfl (by decide) m_fl_X2_28 rfl (fun r58 => ?_)
          try simp only [rs_r1, rs_r2, rs_r3, rs_r4, rs_r6, rs_r7, rs_r50, rs_r47, rs_b] at r58 ⊢
          refine x_iconst h dX2_takeThree_61 ?_
          refine x_V2i h dX2_takeThree_62 m_ml_X2_93 m_im_X2_part m_se_X2_part (sC49 hc) rfl (by decide) rfl (c_X2_part hc hit (by omega)) ?_
          refine x_icmp_ne h dX2_takeThree_65 (tgt := 70) (by decide) (by first | omega | exact hb1 _) (by first | omega | exact hb1 _) (fun q65 => ?_) (fun q65 => ?_)
          · have hne : ¬ ttE (btC M) it q (m2F hd pe) pa := by first | (have y : ¬ tkS (btC M) (th1 (btC M) q (m2F hd pe)) = 2 := q49; exact fun z => y z.1) | exact fun z => q65 z.2
            have hc1 : nuP (btC M) q (m2F hd pe) ∧ ¬ ttE (btC M) it q (m2F hd pe) pa := ⟨q39, hne⟩
            refine x_aload_n h dX2_takeThree_70 rfl ?_
            refine x_iconst h dX2_takeThree_71 ?_
            refine x_iload_n h dX2_takeThree_72 rfl ?_
            refine x_V2i h dX2_takeThree_73 m_ml_X2_99 m_im_X2_takeNumber m_se_X2_takeNumber (sC49 hc) rfl (by decide) rfl (c_X2_takeNumber hc hb h1 hit (by omega) (by omega)) ?_
            refine x_ifeqB h dX2_takeThree_76 (tgt := 92) (by decide) (fun q76 => ?_) (fun q76 => ?_)
            · refine x_iconst h dX2_takeThree_92 ?_
              exact x_zret h he dX2_takeThree_93 (by first | exact Or.inl rfl | exact Or.inr rfl | exact bI_01 _ | omega) rfl (by first | (have y : ¬ nuP (btC M) (th1 (btC M) q (m2F hd pe)) (m2F hd pe) := q76; exact (bI_f (fun z => y z.2.2.1)).symm) | (have y : ¬ nuP (btC M) (th2 (btC M) q (m2F hd pe)) (m3F hd) := q85; exact (bI_f (fun z => y z.2.2.2)).symm) | exact (bI_t ⟨q39, hne, q76, q85⟩).symm) (by unfold ttQ ttA; rw [tI_p hc1, tI_p hc1]; first | (have y : ¬ nuP (btC M) (th1 (btC M) q (m2F hd pe)) (m2F hd pe) := q76; rw [tI_n y, tI_n y]; rfl) | (have y : nuP (btC M) (th1 (btC M) q (m2F hd pe)) (m2F hd pe) := q76; rw [tI_p y, tI_p y]; rfl))
            · refine x_mem (M' := rsM M (th2 (btC M) q (m2F hd pe)) it pe (tb2 (btC M) it q (m2F hd pe) pa)) rfl ?_
              refine x_aload_n h dX2_takeThree_79 rfl ?_
              refine x_iconst h dX2_takeThree_80 ?_
              refine x_iload_n h dX2_takeThree_81 rfl ?_
              refine x_V2i h dX2_takeThree_82 m_ml_X2_99 m_im_X2_takeNumber m_se_X2_takeNumber (sC49 hc) rfl (by decide) rfl (c_X2_takeNumber hc hb h2 hit (by omega) (by omega)) ?_
              refine x_ifeqB h dX2_takeThree_85 (tgt := 92) (by decide) (fun q85 => ?_) (fun q85 => ?_)
              · refine x_iconst h dX2_takeThree_92 ?_
                exact x_zret h he dX2_takeThree_93 (by first | exact Or.inl rfl | exact Or.inr rfl | exact bI_01 _ | omega) rfl (by first | (have y : ¬ nuP (btC M) (th1 (btC M) q (m2F hd pe)) (m2F hd pe) := q76; exact (bI_f (fun z => y z.2.2.1)).symm) | (have y : ¬ nuP (btC M) (th2 (btC M) q (m2F hd pe)) (m3F hd) := q85; exact (bI_f (fun z => y z.2.2.2)).symm) | exact (bI_t ⟨q39, hne, q76, q85⟩).symm) (by unfold ttQ ttA; rw [tI_p hc1, tI_p hc1]; first | (have y : ¬ nuP (btC M) (th1 (btC M) q (m2F hd pe)) (m2F hd pe) := q76; rw [tI_n y, tI_n y]; rfl) | (have y : nuP (btC M) (th1 (btC M) q (m2F hd pe)) (m2F hd pe) := q76; rw [tI_p y, tI_p y]; rfl))
              · refine x_iconst h dX2_takeThree_88 ?_
                refine x_goto h dX2_takeThree_89 (tgt := 93) (by decide) ?_
                exact x_zret h he dX2_takeThree_93 (by first | exact Or.inl rfl | exact Or.inr rfl | exact bI_01 _ | omega) rfl (by first | (have y : ¬ nuP (btC M) (th1 (btC M) q (m2F hd pe)) (m2F hd pe) := q76; exact (bI_f (fun z => y z.2.2.1)).symm) | (have y : ¬ nuP (btC M) (th2 (btC M) q (m2F hd pe)) (m3F hd) := q85; exact (bI_f (fun z => y z.2.2.2)).symm) | exact (bI_t ⟨q39, hne, q76, q85⟩).symm) (by unfold ttQ ttA; rw [tI_p hc1, tI_p hc1]; first | (have y : ¬ nuP (btC M) (th1 (btC M) q (m2F hd pe)) (m2F hd pe) := q76; rw [tI_n y, tI_n y]; rfl) | (have y : nuP (btC M) (th1 (btC M) q (m2F hd pe)) (m2F hd pe) := q76; rw [tI_p y, tI_p y]; rfl))
          · refine x_iconst h dX2_takeThree_68 ?_
            exact x_zret h he dX2_takeThree_69 (by first | exact Or.inl rfl | exact Or.inr rfl | exact bI_01 _ | omega) rfl (bI_f (fun z => z.2.1 ⟨q49, q65⟩)).symm (by unfold ttQ ttA; rw [tI_n (fun z => z.2 ⟨q49, q65⟩), tI_n (fun z => z.2 ⟨q49, q65⟩)])
      · refine x_iconst h dX2_takeThree_42 ?_
        exact x_zret h he dX2_takeThree_43 (by first | exact Or.inl rfl | exact Or.inr rfl | exact bI_01 _ | omega) rfl (bI_f (fun z => q39 z.1)).symm (by unfold ttQ ttA; rw [tI_n (fun z => q39 z.1), tI_n (fun z => q39 z.1)]; rfl)
    · refine x_bipush h dX2_takeThree_24 (by decide) ?_
      refine x_goto h dX2_takeThree_26 (tgt := 32) (by decide) ?_
      refine x_istore_n h dX2_takeThree_32 rfl rfl ?_
      dsimp only [xset]
      refine x_same (lv' := [some (.ref (xad ω 49)), some (.int (iI hd)), some (.int (iI (m2F hd pe))), some (.int (iI (m3F hd)))]) (st' := []) (M' := rsM M q it pe pa) ?_ (by unfold m2F m3F; first | (exfalso; omega) | (rw [if_pos (by omega), if_pos (by omega)]) | (rw [if_neg (by omega), if_neg (by omega)])) rfl rfl
      refine x_aload_n h dX2_takeThree_33 rfl ?_
      refine x_iconst h dX2_takeThree_34 ?_
      refine x_iload_n h dX2_takeThree_35 rfl ?_
      refine x_V2i h dX2_takeThree_36 m_ml_X2_99 m_im_X2_takeNumber m_se_X2_takeNumber (sC49 hc) rfl (by decide) rfl (c_X2_takeNumber hc hb hq hit (by omega) (by omega)) ?_
      refine x_ifneB h dX2_takeThree_39 (tgt := 44) (by decide) (fun q39 => ?_) (fun q39 => ?_)
      · refine x_mem (M' := rsM M (th1 (btC M) q (m2F hd pe)) it pe (tb1 (btC M) it q (m2F hd pe) pa)) rfl ?_
        refine x_aload_n h dX2_takeThree_44 rfl ?_
        refine x_geti (j := 1) 1 h dX2_takeThree_45 (sC49 hc) rfl in_X2 rfl (by decide) m_fl_X2_11 rfl (fun r45 => ?_)
        try simp only [rs_r1, rs_r2, rs_r3, rs_r4, rs_r6, rs_r7, rs_r50, rs_r47, rs_b] at r45 ⊢
        refine x_iconst h dX2_takeThree_48 ?_
        refine x_icmp_ne h dX2_takeThree_49 (tgt := 70) (by decide) (by omega) (by omega) (fun q49 => ?_) (fun q49 => ?_)
        · have hne : ¬ ttE (btC M) it q (m2F hd pe) pa := by first | (have y : ¬ tkS (btC M) (th1 (btC M) q (m2F hd pe)) = 2 := q49; exact fun z => y z.1) | exact fun z => q65 z.2
          have hc1 : nuP (btC M) q (m2F hd pe) ∧ ¬ ttE (btC M) it q (m2F hd pe) pa := ⟨q39, hne⟩
          refine x_aload_n h dX2_takeThree_70 rfl ?_
          refine x_iconst h dX2_takeThree_71 ?_
          refine x_iload_n h dX2_takeThree_72 rfl ?_
          refine x_V2i h dX2_takeThree_73 m_ml_X2_99 m_im_X2_takeNumber m_se_X2_takeNumber (sC49 hc) rfl (by decide) rfl (c_X2_takeNumber hc hb h1 hit (by omega) (by omega)) ?_
          refine x_ifeqB h dX2_takeThree_76 (tgt := 92) (by decide) (fun q76 => ?_) (fun q76 => ?_)
          · refine x_iconst h dX2_takeThree_92 ?_
            exact x_zret h he dX2_takeThree_93 (by first | exact Or.inl rfl | exact Or.inr rfl | exact bI_01 _ | omega) rfl (by first | (have y : ¬ nuP (btC M) (th1 (btC M) q (m2F hd pe)) (m2F hd pe) := q76; exact (bI_f (fun z => y z.2.2.1)).symm) | (have y : ¬ nuP (btC M) (th2 (btC M) q (m2F hd pe)) (m3F hd) := q85; exact (bI_f (fun z => y z.2.2.2)).symm) | exact (bI_t ⟨q39, hne, q76, q85⟩).symm) (by unfold ttQ ttA; rw [tI_p hc1, tI_p hc1]; first | (have y : ¬ nuP (btC M) (th1 (btC M) q (m2F hd pe)) (m2F hd pe) := q76; rw [tI_n y, tI_n y]; rfl) | (have y : nuP (btC M) (th1 (btC M) q (m2F hd pe)) (m2F hd pe) := q76; rw [tI_p y, tI_p y]; rfl))
          · refine x_mem (M' := rsM M (th2 (btC M) q (m2F hd pe)) it pe (tb2 (btC M) it q (m2F hd pe) pa)) rfl ?_
            refine x_aload_n h dX2_takeThree_79 rfl ?_
            refine x_iconst h dX2_takeThree_80 ?_
            refine x_iload_n h dX2_takeThree_81 rfl ?_
            refine x_V2i h dX2_takeThree_82 m_ml_X2_99 m_im_X2_takeNumber m_se_X2_takeNumber (sC49 hc) rfl (by decide) rfl (c_X2_takeNumber hc hb h2 hit (by omega) (by omega)) ?_
            refine x_ifeqB h dX2_takeThree_85 (tgt := 92) (by decide) (fun q85 => ?_) (fun q85 => ?_)
            · refine x_iconst h dX2_takeThree_92 ?_
              exact x_zret h he dX2_takeThree_93 (by first | exact Or.inl rfl | exact Or.inr rfl | exact bI_01 _ | omega) rfl (by first | (have y : ¬ nuP (btC M) (th1 (btC M) q (m2F hd pe)) (m2F hd pe) := q76; exact (bI_f (fun z => y z.2.2.1)).symm) | (have y : ¬ nuP (btC M) (th2 (btC M) q (m2F hd pe)) (m3F hd) := q85; exact (bI_f (fun z => y z.2.2.2)).symm) | exact (bI_t ⟨q39, hne, q76, q85⟩).symm) (by unfold ttQ ttA; rw [tI_p hc1, tI_p hc1]; first | (have y : ¬ nuP (btC M) (th1 (btC M) q (m2F hd pe)) (m2F hd pe) := q76; rw [tI_n y, tI_n y]; rfl) | (have y : nuP (btC M) (th1 (btC M) q (m2F hd pe)) (m2F hd pe) := q76; rw [tI_p y, tI_p y]; rfl))
            · refine x_iconst h dX2_takeThree_88 ?_
              refine x_goto h dX2_takeThree_89 (tgt := 93) (by decide) ?_
              exact x_zret h he dX2_takeThree_93 (by first | exact Or.inl rfl | exact Or.inr rfl | exact bI_01 _ | omega) rfl (by first | (have y : ¬ nuP (btC M) (th1 (btC M) q (m2F hd pe)) (m2F hd pe) := q76; exact (bI_f (fun z => y z.2.2.1)).symm) | (have y : ¬ nuP (btC M) (th2 (btC M) q (m2F hd pe)) (m3F hd) := q85; exact (bI_f (fun z => y z.2.2.2)).symm) | exact (bI_t ⟨q39, hne, q76, q85⟩).symm) (by unfold ttQ ttA; rw [tI_p hc1, tI_p hc1]; first | (have y : ¬ nuP (btC M) (th1 (btC M) q (m2F hd pe)) (m2F hd pe) := q76; rw [tI_n y, tI_n y]; rfl) | (have y : nuP (btC M) (th1 (btC M) q (m2F hd pe)) (m2F hd pe) := q76; rw [tI_p y, tI_p y]; rfl))
        · refine x_aload_n h dX2_takeThree_52 rfl ?_
          refine x_geti (j := 4) 4 h dX2_takeThree_53 (sC49 hc) rfl in_X2 rfl (by decide) m_fl_X2_21 rfl (fun r53 => ?_)
          try simp only [rs_r1, rs_r2, rs_r3, rs_r4, rs_r6, rs_r7, rs_r50, rs_r47, rs_b] at r53 ⊢
          refine x_aload_n h dX2_takeThree_56 rfl ?_
          refine x_aload_n h dX2_takeThree_57 rfl ?_
          refine x_geti (j := 6) 6 h dX2_takeThree_58 (sC49 hc) rfl in_X2 rfl (by decide) m_fl_X2_28 rfl (fun r58 => ?_)
          try simp only [rs_r1, rs_r2, rs_r3, rs_r4, rs_r6, rs_r7, rs_r50, rs_r47, rs_b] at r58 ⊢
          refine x_iconst h dX2_takeThree_61 ?_
          refine x_V2i h dX2_takeThree_62 m_ml_X2_93 m_im_X2_part m_se_X2_part (sC49 hc) rfl (by decide) rfl (c_X2_part hc hit (by omega)) ?_
          refine x_icmp_ne h dX2_takeThree_65 (tgt := 70) (by decide) (by first | omega | exact hb1 _) (by first | omega | exact hb1 _) (fun q65 => ?_) (fun q65 => ?_)
          · have hne : ¬ ttE (btC M) it q (m2F hd pe) pa := by first | (have y : ¬ tkS (btC M) (th1 (btC M) q (m2F hd pe)) = 2 := q49; exact fun z => y z.1) | exact fun z => q65 z.2
            have hc1 : nuP (btC M) q (m2F hd pe) ∧ ¬ ttE (btC M) it q (m2F hd pe) pa := ⟨q39, hne⟩
            refine x_aload_n h dX2_takeThree_70 rfl ?_
            refine x_iconst h dX2_takeThree_71 ?_
            refine x_iload_n h dX2_takeThree_72 rfl ?_
            refine x_V2i h dX2_takeThree_73 m_ml_X2_99 m_im_X2_takeNumber m_se_X2_takeNumber (sC49 hc) rfl (by decide) rfl (c_X2_takeNumber hc hb h1 hit (by omega) (by omega)) ?_
            refine x_ifeqB h dX2_takeThree_76 (tgt := 92) (by decide) (fun q76 => ?_) (fun q76 => ?_)
            · refine x_iconst h dX2_takeThree_92 ?_
              exact x_zret h he dX2_takeThree_93 (by first | exact Or.inl rfl | exact Or.inr rfl | exact bI_01 _ | omega) rfl (by first | (have y : ¬ nuP (btC M) (th1 (btC M) q (m2F hd pe)) (m2F hd pe) := q76; exact (bI_f (fun z => y z.2.2.1)).symm) | (have y : ¬ nuP (btC M) (th2 (btC M) q (m2F hd pe)) (m3F hd) := q85; exact (bI_f (fun z => y z.2.2.2)).symm) | exact (bI_t ⟨q39, hne, q76, q85⟩).symm) (by unfold ttQ ttA; rw [tI_p hc1, tI_p hc1]; first | (have y : ¬ nuP (btC M) (th1 (btC M) q (m2F hd pe)) (m2F hd pe) := q76; rw [tI_n y, tI_n y]; rfl) | (have y : nuP (btC M) (th1 (btC M) q (m2F hd pe)) (m2F hd pe) := q76; rw [tI_p y, tI_p y]; rfl))
            · refine x_mem (M' := rsM M (th2 (btC M) q (m2F hd pe)) it pe (tb2 (btC M) it q (m2F hd pe) pa)) rfl ?_
              refine x_aload_n h dX2_takeThree_79 rfl ?_
              refine x_iconst h dX2_takeThree_80 ?_
              refine x_iload_n h dX2_takeThree_81 rfl ?_
              refine x_V2i h dX2_takeThree_82 m_ml_X2_99 m_im_X2_takeNumber m_se_X2_takeNumber (sC49 hc) rfl (by decide) rfl (c_X2_takeNumber hc hb h2 hit (by omega) (by omega)) ?_
              refine x_ifeqB h dX2_takeThree_85 (tgt := 92) (by decide) (fun q85 => ?_) (fun q85 => ?_)
              · refine x_iconst h dX2_takeThree_92 ?_
                exact x_zret h he dX2_takeThree_93 (by first | exact Or.inl rfl | exact Or.inr rfl | exact bI_01 _ | omega) rfl (by first | (have y : ¬ nuP (btC M) (th1 (btC M) q (m2F hd pe)) (m2F hd pe) := q76; exact (bI_f (fun z => y z.2.2.1)).symm) | (have y : ¬ nuP (btC M) (th2 (btC M) q (m2F hd pe)) (m3F hd) := q85; exact (bI_f (fun z => y z.2.2.2)).symm) | exact (bI_t ⟨q39, hne, q76, q85⟩).symm) (by unfold ttQ ttA; rw [tI_p hc1, tI_p hc1]; first | (have y : ¬ nuP (btC M) (th1 (btC M) q (m2F hd pe)) (m2F hd pe) := q76; rw [tI_n y, tI_n y]; rfl) | (have y : nuP (btC M) (th1 (btC M) q (m2F hd pe)) (m2F hd pe) := q76; rw [tI_p y, tI_p y]; rfl))
              · refine x_iconst h dX2_takeThree_88 ?_
                refine x_goto h dX2_takeThree_89 (tgt := 93) (by decide) ?_
                exact x_zret h he dX2_takeThree_93 (by first | exact Or.inl rfl | exact Or.inr rfl | exact bI_01 _ | omega) rfl (by first | (have y : ¬ nuP (btC M) (th1 (btC M) q (m2F hd pe)) (m2F hd pe) := q76; exact (bI_f (fun z => y z.2.2.1)).symm) | (have y : ¬ nuP (btC M) (th2 (btC M) q (m2F hd pe)) (m3F hd) := q85; exact (bI_f (fun z => y z.2.2.2)).symm) | exact (bI_t ⟨q39, hne, q76, q85⟩).symm) (by unfold ttQ ttA; rw [tI_p hc1, tI_p hc1]; first | (have y : ¬ nuP (btC M) (th1 (btC M) q (m2F hd pe)) (m2F hd pe) := q76; rw [tI_n y, tI_n y]; rfl) | (have y : nuP (btC M) (th1 (btC M) q (m2F hd pe)) (m2F hd pe) := q76; rw [tI_p y, tI_p y]; rfl))
          · refine x_iconst h dX2_takeThree_68 ?_
            exact x_zret h he dX2_takeThree_69 (by first | exact Or.inl rfl | exact Or.inr rfl | exact bI_01 _ | omega) rfl (bI_f (fun z => z.2.1 ⟨q49, q65⟩)).symm (by unfold ttQ ttA; rw [tI_n (fun z => z.2 ⟨q49, q65⟩), tI_n (fun z => z.2 ⟨q49, q65⟩)])
      · refine x_iconst h dX2_takeThree_42 ?_
        exact x_zret h he dX2_takeThree_43 (by first | exact Or.inl rfl | exact Or.inr rfl | exact bI_01 _ | omega) rfl (bI_f (fun z => q39 z.1)).symm (by unfold ttQ ttA; rw [tI_n (fun z => q39 z.1), tI_n (fun z => q39 z.1)]; rfl)

