/-! both worlds: what is tried ahead -/
/-- what is tried stands as the reference's own row -/
def TrR (K : Int) (A X : xMem) : Prop := PIn A 31 1 ∧ MInv X ∧ PeR A 31 (X 1) ∧ RoR A 1 (X 1) ∧ A 31 2 ≤ K
theorem stC_12 {M : xMem} {b r : Nat} (hb : pI b r) (h : PIn M b r) : 0 ≤ stC b r M b 12 ∧ ∀ p, 0 ≤ p → p < 8 → 0 ≤ stC b r M (b + 9) p ∧ stC b r M (b + 9) p ≤ 100 := by
  have hn := h.2.1.1
  obtain ⟨h1, h2⟩ := stA_in hb h (M b 1).toNat (by omega)
  unfold stC
  rw [up_nn (by omega), up_n (by omega)]
  refine ⟨h1.2.2.2.1.1, fun p p0 p1 => ?_⟩
  have := h1.2.2.2.2 p p0 p1
  omega
theorem TrR.st {K : Int} {A X : xMem} {h1 h2 : Prop} (h : TrR K A X) (hk : K < 99999) (k1 : h1 → X 0 8 = -1) (k2 : h2 → ((0 ≤ X 0 9 ∧ X 0 9 < 8) ∧ X 0 10 = 0)) : TrR (K + 1) (stC 31 1 A) (stN X) ∧ SeR 31 1 h1 h2 (stC 31 1 A) (stN X) := by
  obtain ⟨a1, a2, a3, a4, a5⟩ := h
  have s := stR H31 a1 a2 (by omega) a3 a4 k1 k2
  have e := (stC_r H31 a1).2.2
  exact ⟨⟨stC_in H31 a1, (stN_I a2).1, s.1, s.2.1, by rw [e]; omega⟩, s⟩
theorem TrR.n {K : Int} {A X : xMem} (h : TrR K A X) : X 1 1 = A 31 1 := h.2.2.1.1
theorem TrR.at {K : Int} {A X : xMem} {p : Int} (h : TrR K A X) (hp : 0 ≤ p ∧ p < A 31 1) : (X 1 (113 + 8 * p + 1) = X 1 (113 + 8 * p + 2)) ↔ thr A 31 p := by
  have a := h.2.2.1.2.2 p hp.1 hp.2
  unfold thr
  rw [a.2.1, a.2.2.1]
def whI (w : Int) : Int := if w = 1000000 then 61 else w
theorem suS {K p : Int} {X : xMem} (hk : K ≤ 90000) : ∀ (d n : Nat) (A : xMem), n + d = 60 → TrR (K + n) A (siN X n) → (0 ≤ p ∧ p < A 31 1) → suN 31 1 p d n A = whI (whF X p d n) := by
  intro d
  induction d with
  | zero =>
    intro n A hn h hp
    have e := h.at hp
    unfold suN whF
    by_cases q : thr A 31 p
    · rw [tI_p q, if_pos (e.2 q)]
      unfold whI
      rw [if_neg (by omega)]
      omega
    · rw [tI_n q, if_neg (fun z => q (e.1 z))]
      rfl
  | succ d ih =>
    intro n A hn h hp
    have e := h.at hp
    unfold suN whF
    by_cases q : thr A 31 p
    · rw [tI_p q, if_pos (e.2 q)]
      unfold whI
      rw [if_neg (by omega)]
    · rw [tI_n q, if_neg (fun z => q (e.1 z))]
      have s := (h.st (h1 := False) (h2 := False) (by omega) (fun z => z.elim) (fun z => z.elim)).1
      have e1 := (stC_r H31 h.1).2.1 1 (by omega) (by omega) (by omega)
      have := ih (n + 1) (stC 31 1 A) (by omega) (by rw [show K + ((n + 1 : Nat) : Int) = K + n + 1 by omega]; exact s) (by rw [e1]; exact hp)
      rw [← this]
      congr 1
theorem TrR.of {K : Int} {C N : xMem} (h : Wo K C N) (hx : xR C) : TrR K (trC C) N := by
  have e : PeC C (trC C) 11 31 := ⟨trC_1, trC_2, fun j a b p p0 p1 => bc_row (by omega) j a b p p0 p1⟩
  refine ⟨trC_in hx h.1.1.1 h.1.rd.1, h.inv.2, h.1.2.1.cp h.1.cn.2 e, h.1.2.2.1.c (fun k a b => trC_n (by omega)), ?_⟩
  rw [trC_2]
  exact h.1.2.2.2.2.2.1
theorem TrR.z {K : Int} {A X : xMem} (h : TrR K A X) : TrR (K + ((0 : Nat) : Int)) A (siN X 0) := by
  rw [show K + ((0 : Nat) : Int) = K by omega]
  exact h
theorem whS {K p : Int} {A X : xMem} (h : TrR K A X) (hk : K ≤ 90000) (hp : 0 ≤ p ∧ p < A 31 1) : suN 31 1 p 60 0 A = whI (nwhN X p) := suS hk 60 0 A rfl h.z hp
theorem whI_61 {X : xMem} {p : Int} : whI (nwhN X p) = 61 ↔ nwhN X p = 1000000 := by
  have := nwhN_R X p
  unfold whI
  split <;> omega
section CALLS
variable {K : Int} {C N : xMem}
theorem w_when {p : Int} (h : Wo K C N) (hx : xR C) (hk : kI K) : Sa K (whenR C p) (nweR N p) (whenM C p) (nweM N p) := by
  unfold whenR nweR whenM nweM toR toM
  by_cases q : clHas C 11 p
  · have q' := (h.1.has p).2 q
    have hT := TrR.of h hx
    have w := whS (p := p) hT (by omega) (by rw [trC_1]; exact ⟨q.1, q.2.1⟩)
    have hW : Wo K (whM C p) N := h.trE (suT_e trC_e hT.1)
    have r := nwhN_R N p
    rw [if_pos q, if_pos q, if_pos q', if_pos q']
    unfold whN
    rw [w]
    by_cases g : nwhN N p = 1000000
    · rw [if_pos (whI_61.2 g), if_pos (whI_61.2 g), if_pos g, if_pos g]
      exact ⟨rfl, hW.fnd hk (by omega) rfl⟩
    · rw [if_neg (fun z => g (whI_61.1 z)), if_neg (fun z => g (whI_61.1 z)), if_neg g, if_neg g]
      refine ⟨?_, hW.le (by omega)⟩
      unfold whI
      rw [if_neg g]
  · have q' : ¬ (0 ≤ p ∧ p < N 1 1) := fun z => q ((h.1.has p).1 z)
    rw [if_neg q, if_neg q, if_neg q', if_neg q']
    exact ⟨rfl, h.fnd hk (by omega) rfl⟩
theorem w_ahead {n : Int} (h : Wo K C N) (hx : xR C) (hk : kI K) : Sa K (aheadR C n) (nahR N n) (aheadM C n) (nahM N n) := by
  unfold aheadR nahR aheadM nahM
  by_cases q : 0 ≤ n ∧ n ≤ 60
  · have hT := TrR.of h hx
    have s := siS H31 hT.1 hT.2.1 hT.2.2.1 hT.2.2.2.1 n.toNat (by have := hT.2.2.2.2; omega)
    rw [if_pos q, if_pos q, if_pos q, if_pos q]
    refine ⟨s.1.th.symm, ?_⟩
    have r := tkC_r H31 hT.1 n.toNat
    exact (h.trE (trC_e.tr (fun k g => r.1 k (by omega) (by omega) (by omega) (by omega) (by omega)))).le (by omega)
  · rw [if_neg q, if_neg q, if_neg q, if_neg q]
    exact ⟨rfl, h.fnd hk (by omega) rfl⟩
theorem heS {L : Int} {X : xMem} (hL : L ≤ 90000) (hk : kI K) : ∀ (d n : Nat) (A : xMem), n + d = 60 → TrR (L + n) A (siN X n) → siN X n 0 8 = -1 → Wo K A N → heN d A = (if hdF X d n < 0 then -1000004 else hdF X d n) ∧ Wo (K + 100) (heM d A) (if hdF X d n < 0 then fnM N (-1000004) else N) := by
  intro d
  induction d with
  | zero =>
    intro n A hn h h8 hW
    have e : hdF X 0 n = -1 := h8
    rw [e, if_pos (by omega), if_pos (by omega)]
    exact ⟨rfl, hW.fnd hk (by omega) rfl⟩
  | succ d ih =>
    intro n A hn h h8 hW
    obtain ⟨s, t⟩ := h.st (h1 := siN X n 0 8 = -1) (h2 := False) (by omega) id (fun z => z.elim)
    have t8 := t.2.2.2.1 h8
    have hW2 : Wo K (stC 31 1 A) N := hW.trE (TrE.of_f (stC_f H31 h.1))
    have e1 : hdF X (d + 1) n = hdF X d (n + 1) := by
      rw [hdF, if_pos (by omega)]
    have e2 : siN X (n + 1) = stN (siN X n) := rfl
    rw [e1]
    unfold heN heM
    by_cases g : stC 31 1 A 31 13 = -1
    · rw [tI_p g, tI_p g]
      exact ih (n + 1) _ (by omega) (by rw [show L + ((n + 1 : Nat) : Int) = L + n + 1 by omega]; exact s) (by rw [e2, ← t8.1]; exact g) hW2
    · rw [tI_n g, tI_n g]
      have v : ¬ siN X (n + 1) 0 8 < 0 := by rw [e2]; omega
      have e3 : hdF X d (n + 1) = siN X (n + 1) 0 8 := by
        cases d with
        | zero => rfl
        | succ d => rw [hdF, if_neg v]
      rw [e3, if_neg v, if_neg v, e2]
      exact ⟨t8.1, hW2.le (by omega)⟩
theorem w_held (h : Wo K C N) (hx : xR C) (hk : kI K) : Sa K (heldR C) (nheR N) (heldM C) (nheM N) := by
  have hT := TrR.of h hx
  have hT2 : TrR K (trC C) (up (cyM N 1 3) 0 8 (-1)) := hT
  exact heS (X := up (cyM N 1 3) 0 8 (-1)) (L := K) (by omega) hk 60 0 (trC C) rfl hT2.z (by show up (cyM N 1 3) 0 8 (-1) 0 8 = -1; rw [up_ss]) (h.trE trC_e)
theorem slS {L : Int} {X : xMem} (hL : L ≤ 90000) (hk : kI K) : ∀ (d n : Nat) (A : xMem), n + d = 60 → TrR (L + n) A (siN X n) → Wo K A N → slN (d + 1) n A = toR (nslF X d n) ∧ Wo (K + 100) (slM (d + 1) A) (toM N (nslF X d n)) := by
  intro d
  induction d with
  | zero =>
    intro n A hn h hW
    obtain ⟨s, t⟩ := h.st (h1 := False) (h2 := False) (by omega) (fun z => z.elim) (fun z => z.elim)
    have t7 : stC 31 1 A 31 12 = siN X (n + 1) 0 7 := t.2.2.1
    have hW2 : Wo K (stC 31 1 A) N := hW.trE (TrE.of_f (stC_f H31 h.1))
    unfold slN slM nslF
    by_cases g : stC 31 1 A 31 12 = 0
    · rw [tI_p g, tI_p g, if_pos (by omega)]
      unfold toR toM
      rw [if_neg (by omega), if_neg (by omega)]
      exact ⟨rfl, hW2.le (by omega)⟩
    · rw [tI_n g, tI_n g, if_neg (by omega)]
      exact ⟨rfl, hW2.fnd hk (by omega) rfl⟩
  | succ d ih =>
    intro n A hn h hW
    obtain ⟨s, t⟩ := h.st (h1 := False) (h2 := False) (by omega) (fun z => z.elim) (fun z => z.elim)
    have t7 : stC 31 1 A 31 12 = siN X (n + 1) 0 7 := t.2.2.1
    have hW2 : Wo K (stC 31 1 A) N := hW.trE (TrE.of_f (stC_f H31 h.1))
    have p7 := (stC_12 H31 h.1).1
    rw [slN, slM, nslF]
    by_cases g : stC 31 1 A 31 12 = 0
    · rw [tI_p g, tI_p g, if_neg (by omega), if_pos (by omega)]
      unfold toR toM
      rw [if_neg (by omega), if_neg (by omega)]
      exact ⟨rfl, hW2.le (by omega)⟩
    · rw [tI_n g, tI_n g, if_pos (by omega)]
      exact ih (n + 1) _ (by omega) (by rw [show L + ((n + 1 : Nat) : Int) = L + n + 1 by omega]; exact s) hW2
theorem w_still (h : Wo K C N) (hx : xR C) (hk : kI K) : Sa K (stillR C) (toR (nslN N)) (stillM C) (toM N (nslN N)) := by
  have hT := TrR.of h hx
  have hT2 : TrR K (trC C) (cyM N 1 3) := hT
  exact slS (X := cyM N 1 3) (L := K) (by omega) hk 60 0 (trC C) rfl hT2.z (h.trE trC_e)
theorem teN_lg {p m i : Int} (h1 : N 1 (113 + 8 * p + 3) = m) (h2 : N 1 (113 + 8 * m + 3) = p) (hp : 0 ≤ p) (hm : 0 ≤ m) (hpm : m ≠ p) : teN N p m i 1 = lgN N p i 1 := by
  unfold teN lgN
  rw [h1]
  have e1 : frN N p = up (up (up (up N 1 (113 + 8 * p + 3) (-1)) 1 (113 + 8 * p + 5) 0) 1 (113 + 8 * m + 3) (-1)) 1 (113 + 8 * m + 5) 0 := by unfold frN; rw [h1, if_pos hm]
  have e2 : frN N p 1 (113 + 8 * m + 3) = -1 := by rw [e1, up_nn (by omega), up_ss]
  have e3 : ∀ Q : xMem, Q 1 (113 + 8 * m + 3) = -1 → frN Q m = up (up Q 1 (113 + 8 * m + 3) (-1)) 1 (113 + 8 * m + 5) 0 := fun Q hQ => by unfold frN; rw [hQ, if_neg (by omega)]
  rw [e3 _ e2, e1]
  simp only [up_s]
  funext j
  by_cases g1 : j = 113 + 8 * m + 5
  · subst g1; rw [ur_s, ur_s]
  rw [ur_n g1, ur_n g1]
  by_cases g2 : j = 113 + 8 * p + 5
  · subst g2; rw [ur_s, ur_s]
  rw [ur_n g2, ur_n g2]
  by_cases g3 : j = 113 + 8 * m + 3
  · subst g3; rw [ur_s, h2]
  rw [ur_n g3]
  by_cases g4 : j = 113 + 8 * p + 3
  · subst g4; rw [ur_s, h1]
  rw [ur_n g4, ur_n g1, ur_n g3, ur_n g1, ur_n g3, ur_n g2, ur_n g4]
theorem TrR.lg {p i : Int} (h : Wo K C N) (hx : xR C) (hp : clHas C 11 p) (hm : clHas C 11 (C (11 + 4) p)) (hi : 0 ≤ i ∧ i ≤ 999) : TrR K (lgC C p i) (lgN N p i) := by
  have hT := TrR.of h hx
  have a := h.1.2.1.2.2 p hp.1 hp.2.1
  have c := h.1.2.1.2.2 _ hm.1 hm.2.1
  have s := h.1.2.2.2.1 p hp.1 hp.2.1 hm.1
  have hpN := (h.1.has p).2 hp
  have m' : 0 ≤ N 1 (113 + 8 * p + 3) := by rw [a.2.2.2.1]; exact hm.1
  have e := teN_lg (N := N) (p := p) (m := C (11 + 4) p) (i := i) a.2.2.2.1 (by rw [c.2.2.2.1]; exact s.1) hp.1 hm.1 s.2.1
  have hP := hT.2.2.1.joi (x := p) (y := C (11 + 4) p) (l := i) hT.1.2.1 (by rw [trC_1]; exact ⟨hp.1, hp.2.1⟩) (by rw [trC_1]; exact ⟨hm.1, hm.2.1⟩) (fun z => s.2.1 z.symm)
  refine ⟨lgC_in hx h.inv.1 hp hm hi, lgN_I h.inv.2 hpN m' hi, ?_, ?_, ?_⟩
  · rw [← e]; exact hP
  · have y : wyr (lgN N p i 1) = wyr (N 1) := lgN_y (M := N) hp.1 m'
    exact (hT.2.2.2.1.n y).c (fun k g1 g2 => joiC_b (by omega) (by omega))
  · show joiC (trC C) 31 p (C (11 + 4) p) i 31 2 ≤ K
    rw [joiC_b (by omega) (by omega)]
    exact hT.2.2.2.2
theorem leS {p : Int} (hk : kI K) : ∀ (d i : Nat) (C : xMem), i + d = 100 → Wo K C N → xR C → clHas C 11 p → clHas C 11 (C (11 + 4) p) → leN p d i C = (if 99 < lnF N p d i then -1000004 else lnF N p d i) ∧ Wo (K + 100) (leM p d i C) (if 99 < lnF N p d i then fnM N (-1000004) else N) := by
  intro d
  induction d with
  | zero =>
    intro i C hi h hx hp hm
    have e : lnF N p 0 i = (i : Int) := rfl
    rw [e, if_pos (by omega), if_pos (by omega)]
    exact ⟨rfl, h.fnd hk (by omega) rfl⟩
  | succ d ih =>
    intro i C hi h hx hp hm
    have hT := TrR.lg (i := (i : Int)) h hx hp hm (by omega)
    have w := whS (p := p) hT (by omega) (by rw [lgC_1]; exact ⟨hp.1, hp.2.1⟩)
    have he := suT_e (p := p) (d := 60) (lgC_e (M := C) (p := p) (i := i)) hT.1
    have hW := h.trE he
    unfold leN leM lnF
    rw [w]
    by_cases g : nwhN (lgN N p i) p = 1000000
    · rw [tI_p (whI_61.2 g), tI_p (whI_61.2 g), if_pos g]
      exact ih (i + 1) _ (by omega) hW (suM_in H31 60 _ hT.1).1 (by unfold clHas; rw [he 11 (by omega)]; exact hp) (by unfold clHas; rw [he 11 (by omega), he (11 + 4) (by omega)]; exact hm)
    · rw [tI_n (fun z => g (whI_61.1 z)), tI_n (fun z => g (whI_61.1 z)), if_neg g, if_neg (by omega), if_neg (by omega)]
      exact ⟨rfl, hW.le (by omega)⟩
theorem w_length {p : Int} (h : Wo K C N) (hx : xR C) (hk : kI K) : Sa K (lengthR C p) (nlnR N p) (lengthM C p) (nlnM N p) := by
  unfold lengthR nlnR lengthM nlnM
  by_cases q : clHas C 11 p
  · have q' := (h.1.has p).2 q
    have a := h.1.2.1.2.2 p q.1 q.2.1
    have i := h.1.1.1.2.2 p q.1 q.2.1
    have hn := h.1.cn
    rw [if_pos q, if_pos q, if_pos q', if_pos q', a.2.2.2.1]
    by_cases m : clHas C 11 (C (11 + 4) p)
    · rw [if_pos m, if_pos m, if_pos m.1, if_pos m.1]
      exact leS hk 100 0 C rfl h hx q m
    · have m' : ¬ 0 ≤ C (11 + 4) p := fun z => m ⟨z, by omega, by omega⟩
      rw [if_neg m, if_neg m, if_neg m', if_neg m']
      exact ⟨rfl, h.fnd hk (by omega) rfl⟩
  · have q' : ¬ (0 ≤ p ∧ p < N 1 1) := fun z => q ((h.1.has p).1 z)
    rw [if_neg q, if_neg q, if_neg q', if_neg q']
    exact ⟨rfl, h.fnd hk (by omega) rfl⟩
/-- the soonest of some, tried one after another -/
theorem sfS {p i : Int} {T : xMem → Int → xMem} {m : Int} (hk : kI K) (hp : clHas C 11 p) (h : Wo K C N) (hx : xR C) (hT : ∀ (A : xMem) (v : Int), Wo K A N → xR A → TrE C A → 0 ≤ v → v < m → TrR K (T A v) (up N 1 i v) ∧ TrE A (T A v) ∧ clHas (T A v) 31 p) : ∀ n : Nat, (n : Int) ≤ m → (sfF T p C n).1 = (snN N i p n).1 ∧ (sfF T p C n).2.1 = whI (snN N i p n).2 ∧ Wo K (sfF T p C n).2.2 N ∧ xR (sfF T p C n).2.2 ∧ TrE C (sfF T p C n).2.2 ∧ (((snN N i p n).1 = -1 ∧ (snN N i p n).2 = 1000000) ∨ (0 ≤ (snN N i p n).1 ∧ 0 ≤ (snN N i p n).2 ∧ (snN N i p n).2 ≤ 60)) := by
  intro n
  induction n with
  | zero => intro _; exact ⟨rfl, rfl, h, hx, TrE.rf, Or.inl ⟨rfl, rfl⟩⟩
  | succ n ih =>
    intro hn
    obtain ⟨i1, i2, i3, i4, i5, i6⟩ := ih (by omega)
    obtain ⟨t1, t2, t3⟩ := hT _ n i3 i4 i5 (by omega) (by omega)
    have w := whS (p := p) t1 (by omega) ⟨t3.1, t3.2.1⟩
    have r := nwhN_R (up N 1 i n) p
    have he := suT_e (p := p) (d := 60) t2 t1.1
    rw [sfF_s, snN_s]
    unfold sfG snG
    dsimp only
    rw [w, i1, i2]
    generalize (snN N i p n).1 = s1 at i6 ⊢
    generalize (snN N i p n).2 = s2 at i6 ⊢
    generalize nwhN (up N 1 i n) p = z at r ⊢
    have key : whI z < whI s2 ↔ z < s2 := by unfold whI; split <;> split <;> omega
    refine ⟨?_, ?_, i3.trE he, (suM_in H31 60 _ t1.1).1, i5.tr he, ?_⟩
    · by_cases g : z < s2
      · rw [if_pos g, if_pos (key.2 g)]
      · rw [if_neg g, if_neg (fun y => g (key.1 y))]
    · by_cases g : z < s2
      · rw [if_pos (key.2 g), Int.min_eq_right (by omega)]
      · rw [if_neg (fun y => g (key.1 y)), Int.min_eq_left (by omega)]
    · by_cases g : z < s2
      · rw [if_pos g, Int.min_eq_right (by omega)]
        omega
      · rw [if_neg g, Int.min_eq_left (by omega)]
        omega
theorem sfA {p i m : Int} {T : xMem → Int → xMem} (hk : kI K) (hm : 0 ≤ m) (hp : clHas C 11 p) (h : Wo K C N) (hx : xR C) (hT : ∀ (A : xMem) (v : Int), Wo K A N → xR A → TrE C A → 0 ≤ v → v < m → TrR K (T A v) (up N 1 i v) ∧ TrE A (T A v) ∧ clHas (T A v) 31 p) : Sa K (if (sfF T p C m.toNat).2.1 = 61 then -1000004 else (sfF T p C m.toNat).1) (snA N i p m) (if (sfF T p C m.toNat).2.1 = 61 then fndC (sfF T p C m.toNat).2.2 3 else (sfF T p C m.toNat).2.2) (snM N i p m) := by
  obtain ⟨i1, i2, i3, i4, i5, i6⟩ := sfS hk hp h hx hT m.toNat (by omega)
  unfold snA snM
  rw [i2, i1]
  generalize (snN N i p m.toNat).1 = s1 at i6 ⊢
  generalize (snN N i p m.toNat).2 = s2 at i6 ⊢
  have key : whI s2 = 61 ↔ s1 < 0 := by unfold whI; split <;> omega
  by_cases g : s1 < 0
  · rw [if_pos (key.2 g), if_pos (key.2 g), if_pos g, if_pos g]
    exact ⟨rfl, i3.fnd hk (by omega) rfl⟩
  · rw [if_neg (fun y => g (key.1 y)), if_neg (fun y => g (key.1 y)), if_neg g, if_neg g]
    exact ⟨rfl, i3.le (by omega)⟩
theorem w_kindFor {p : Int} (h : Wo K C N) (hx : xR C) (hk : kI K) : Sa K (kindForR C p) (nkiR N p) (kindForM C p) (nkiM N p) := by
  unfold kindForR nkiR kindForM nkiM
  by_cases q : clHas C 11 p
  · have q' := (h.1.has p).2 q
    rw [if_pos q, if_pos q, if_pos q', if_pos q']
    refine sfA (m := 7) hk (by omega) q h hx (fun A v hA xA eA v0 v1 => ?_)
    have qA : clHas A 11 p := by unfold clHas; rw [eA 11 (by omega)]; exact q
    obtain ⟨k1, k2, k3⟩ := kfS_in (k := v) xA hA.inv.1 qA (by omega)
    have hT := TrR.of hA xA
    refine ⟨⟨k1, hT.2.1.up1 q' (by unfold fOk; omega), ?_, ?_, ?_⟩, k2, k3⟩
    · rw [up_s]; exact hT.2.2.1.upg q.1 0 (by omega) _ (by omega) _ (by omega)
    · rw [up_s]; exact (hT.2.2.2.1.n (wyr_ur (by omega))).c (fun k a b => up_n (by omega))
    · show up (trC A) (31 + 1) p v 31 2 ≤ K
      rw [up_n (by omega)]; exact hT.2.2.2.2
  · have q' : ¬ (0 ≤ p ∧ p < N 1 1) := fun z => q ((h.1.has p).1 z)
    rw [if_neg q, if_neg q, if_neg q', if_neg q']
    exact ⟨rfl, h.fnd hk (by omega) rfl⟩
theorem w_lead {p : Int} (h : Wo K C N) (hx : xR C) (hk : kI K) : Sa K (leadR C p) (nleR N p) (leadM C p) (nleM N p) := by
  unfold leadR nleR leadM nleM
  by_cases q : clHas C 11 p
  · have q' := (h.1.has p).2 q
    have a := h.1.2.1.2.2 p q.1 q.2.1
    have i := h.1.1.1.2.2 p q.1 q.2.1
    have hn := h.1.cn
    rw [if_pos q, if_pos q, if_pos q', if_pos q', a.2.2.2.1]
    by_cases m : clHas C 11 (C (11 + 4) p)
    · rw [if_pos m, if_pos m, if_pos m.1, if_pos m.1]
      refine sfA (m := 10) hk (by omega) q h hx (fun A v hA xA eA v0 v1 => ?_)
      have qA : clHas A 11 p := by unfold clHas; rw [eA 11 (by omega)]; exact q
      obtain ⟨k1, k2, k3⟩ := ldS_in (k := v) xA hA.inv.1 qA (by omega)
      have hT := TrR.of hA xA
      have eA4 : A (11 + 4) = C (11 + 4) := eA _ (by omega)
      refine ⟨⟨k1, hT.2.1.up1 ((h.1.has _).2 m) (by unfold fOk; omega), ?_, ?_, ?_⟩, k2, k3⟩
      · rw [up_s]
        unfold ldS
        rw [eA4]
        exact hT.2.2.1.upf m.1 2 (by omega) _ (by omega) _ (by omega)
      · rw [up_s]; exact (hT.2.2.2.1.n (wyr_ur (by omega))).c (fun k a b => up_n (by omega))
      · show up (trC A) (31 + 3) _ v 31 2 ≤ K
        rw [up_n (by omega)]; exact hT.2.2.2.2
    · have m' : ¬ 0 ≤ C (11 + 4) p := fun z => m ⟨z, by omega, by omega⟩
      rw [if_neg m, if_neg m, if_neg m', if_neg m']
      exact ⟨rfl, h.fnd hk (by omega) rfl⟩
  · have q' : ¬ (0 ≤ p ∧ p < N 1 1) := fun z => q ((h.1.has p).1 z)
    rw [if_neg q, if_neg q, if_neg q', if_neg q']
    exact ⟨rfl, h.fnd hk (by omega) rfl⟩
end CALLS
