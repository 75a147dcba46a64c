/-! both worlds: a move, a step, steps -/
theorem PeR.pl {C N : xMem} {b : Nat} {p : Int} (h : PeR C b (N 1)) (hp : 0 ≤ p ∧ p < C b 1) : plN N p = plC C b p := by
  have a := h.2.2 p hp.1 hp.2
  unfold plN plC
  rw [a.1, a.2.2.2.2.1, h.2.1]
theorem PeR.rp {C N : xMem} {b : Nat} {p : Int} (h : PeR C b (N 1)) (hp : 0 ≤ p ∧ p < C b 1) (hm : 0 ≤ C (b + 4) p ∧ C (b + 4) p < C b 1) : rpN N p = rchC C b p := by
  have a := h.2.2 p hp.1 hp.2
  have m := h.2.2 _ hm.1 hm.2
  unfold rpN rchC
  rw [a.1, a.2.2.2.1, a.2.2.2.2.2.1 hm.1, m.1]
theorem RoR.di {C N : xMem} {r : Nat} {a c : Int} (h : RoR C r (N 1)) (ha : plc a) (hc : plc c) : dN N (10 * a + c) = C (r + 2) (a * 10 + c) := by
  rw [show 10 * a + c = a * 10 + c by omega]
  exact (h.2.1 _ (by omega) (by omega)).symm
theorem RoR.wn {C N : xMem} {b r : Nat} {p : Int} (hP : PeR C b (N 1)) (h : RoR C r (N 1)) (hI : PeInv C b) (hp : 0 ≤ p ∧ p < C b 1) : wnN N p = wntC C b r p := by
  have a := hP.2.2 p hp.1 hp.2
  have i := hI.2.2 p hp.1 hp.2
  unfold wnN wntC
  rw [a.2.1, a.2.2.1]
  exact ((h.2.2 _ _ i.2.1 i.2.2.1).1).symm
theorem RoR.lt {C N : xMem} {b r : Nat} {p w t : Int} (hP : PeR C b (N 1)) (h : RoR C r (N 1)) (hI : PeInv C b) (hp : 0 ≤ p ∧ p < C b 1) (hw : plc w) (ht : plc t) : ltN N p w t ↔ (¬ clHas C b (C (b + 4) p) ∨ C (r + 2) (w * 10 + t) ≤ rchC C b p) := by
  have a := hP.2.2 p hp.1 hp.2
  have i := hI.2.2 p hp.1 hp.2
  have hn := hI.1
  unfold ltN
  rw [a.2.2.2.1, h.di hw ht]
  by_cases hm : 0 ≤ C (b + 4) p
  · rw [hP.rp hp ⟨hm, by omega⟩]
    have : clHas C b (C (b + 4) p) := ⟨hm, by omega, by omega⟩
    constructor
    · intro z; rcases z with z | z
      · omega
      · exact Or.inr z
    · intro z; rcases z with z | z
      · exact absurd this z
      · exact Or.inr z
  · exact ⟨fun _ => Or.inl (fun z => hm z.1), fun _ => Or.inl (by omega)⟩
theorem RoR.let {C N : xMem} {b r : Nat} {p w : Int} (hP : PeR C b (N 1)) (h : RoR C r (N 1)) (hI : PeInv C b) (hp : 0 ≤ p ∧ p < C b 1) (hw : plc w) : ltN N p w (pmN N p) ↔ letC C b r p w := by
  have a := hP.2.2 p hp.1 hp.2
  have i := hI.2.2 p hp.1 hp.2
  have hn := hI.1
  by_cases hm : 0 ≤ C (b + 4) p
  · have m := hP.2.2 _ hm (by omega)
    have im := hI.2.2 _ hm (by omega)
    have e : pmN N p = C (b + 2) (C (b + 4) p) := by
      unfold pmN
      rw [a.2.2.2.1, if_pos hm, m.2.1]
    rw [e]
    exact RoR.lt hP h hI hp hw im.2.1
  · unfold ltN letC
    rw [a.2.2.2.1]
    exact ⟨fun _ => Or.inl (fun z => hm z.1), fun _ => Or.inl (by omega)⟩
theorem RoR.ct {C N : xMem} {b r : Nat} {p : Int} (hP : PeR C b (N 1)) (h : RoR C r (N 1)) (hI : PeInv C b) (hp : 0 ≤ p ∧ p < C b 1) (hw : plc (wntC C b r p)) (hm : 0 ≤ C (b + 4) p) : (ctN N p ↔ canTug C b r p (wntC C b r p)) ∧ (ctN N p → beN N p = tugTo C b r p (wntC C b r p)) := by
  have a := hP.2.2 p hp.1 hp.2
  have i := hI.2.2 p hp.1 hp.2
  have hn := hI.1
  have hm' : 0 ≤ C (b + 4) p ∧ C (b + 4) p < C b 1 := ⟨hm, by omega⟩
  have m := hP.2.2 _ hm (by omega)
  have im := hI.2.2 _ hm (by omega)
  have e1 := RoR.wn hP h hI hp
  have e2 : beN N p = nbN N (C (b + 2) (C (b + 4) p)) (wntC C b r p) := by unfold beN; rw [a.2.2.2.1, m.2.1, e1]
  have eS := (h.2.2 _ _ im.2.1 hw).2
  have rS := nbN_R N (C (b + 2) (C (b + 4) p)) (wntC C b r p)
  have hcl : clHas C b (C (b + 4) p) := ⟨hm, by omega, by omega⟩
  by_cases q : nbN N (C (b + 2) (C (b + 4) p)) (wntC C b r p) = -1
  · have e3 := nbN_G q
    have : tugTo C b r p (wntC C b r p) = C (b + 2) (C (b + 4) p) := eS.trans e3
    have no : ¬ ctN N p := by
      intro z
      have := z.2.1
      rw [e2, q] at this
      omega
    refine ⟨⟨fun z => absurd z no, fun z => ?_⟩, fun z => absurd z no⟩
    have z2 := z.2.2.1
    rw [this] at z2
    omega
  · have e3 : neF (wyM N) (dN N) _ _ = _ := nbN_F q
    have e4 : beN N p = tugTo C b r p (wntC C b r p) := by rw [e2]; exact (eS.trans e3).symm
    have e5 : plc (tugTo C b r p (wntC C b r p)) := by rw [← e4, e2]; exact ⟨by omega, by omega⟩
    refine ⟨?_, fun _ => e4⟩
    unfold ctN canTug
    rw [e4, e1, a.2.2.2.1, m.2.1, hP.pl hp, hP.pl hm', RoR.lt hP h hI hp hw e5, h.di e5 hw, h.di im.2.1 hw]
    constructor
    · rintro ⟨z1, z2, z3, z4⟩
      refine ⟨hcl, z1, z3, ?_⟩
      rcases z4 with z4 | z4
      · exact absurd hcl z4
      · exact z4
    · rintro ⟨z1, z2, z3, z4⟩
      exact ⟨z2, e5.1, z3, Or.inr z4⟩
/-- the class's STEP stands as the reference's -/
def SeR (b r : Nat) (h1 h2 : Prop) (C N : xMem) : Prop := PeR C b (N 1) ∧ RoR C r (N 1) ∧ C b 12 = N 0 7 ∧ (h1 → (C b 13 = N 0 8 ∧ -1 ≤ N 0 8)) ∧ (h2 → ((0 ≤ N 0 9 ∧ N 0 9 < 8) ∧ C (b + 9) (N 0 9) = N 0 10))
set_option maxHeartbeats 1000000 in
theorem mvS {b r : Nat} {h1 h2 : Prop} {C N : xMem} {c p : Int} (hb : pI b r) (hw : WIn C b r c) (hc : 0 ≤ c ∧ c < 1000000) (hN : MInv N) (h : SeR b r h1 h2 C N) (hp : 0 ≤ p ∧ p < C b 1) : SeR b r h1 h2 (mvC C b r p) (mvN N p) ∧ (goC C b r p ↔ gonN N p) := by
  obtain ⟨hP, hR, hS, hH, hT⟩ := h
  obtain ⟨wR, hI, hD, hB⟩ := hw
  have a := hP.2.2 p hp.1 hp.2
  have i := hI.2.2 p hp.1 hp.2
  have hn := hI.1
  have hB1 := hB.1
  have d := hD _ _ i.2.1.1 i.2.1.2 i.2.2.1.1 i.2.2.1.2
  have hwn : plc (wntC C b r p) := d.2.2.1
  have e1 := RoR.wn hP hR hI hp
  have eL := RoR.let hP hR hI hp hwn
  have hRo : RoR (mvC C b r p) r (mvN N p 1) := (hR.c (mvC_r.rd hb)).n (mvN_y hp.1)
  have hbr := pI_lt hb
  have e9 : mvN N p 0 9 = N 0 9 := (mvN_r hN (by rw [hP.1]; exact hp)).2.1 9 (by decide) (by decide) (by decide)
  by_cases q1 : wntC C b r p = C (b + 2) p
  · have g1 : mvC C b r p = C := by unfold mvC; rw [tI_p q1]
    have g2 : mvN N p = N := mvN_1 (by rw [e1, a.2.1]; exact q1)
    rw [g1, g2]
    refine ⟨⟨hP, hR, hS, hH, hT⟩, ⟨fun z => absurd q1 z.1, fun z => absurd (by rw [e1, a.2.1]; exact q1) z.1⟩⟩
  have q1' : wnN N p ≠ N 1 (113 + 8 * p + 1) := by rw [e1, a.2.1]; exact q1
  by_cases q2 : letC C b r p (wntC C b r p)
  · have q2' : ltN N p (wnN N p) (pmN N p) := by rw [e1]; exact eL.2 q2
    have g1 : mvC C b r p = up (up C (b + 2) p (wntC C b r p)) b 12 (C b 12 + 1) := by unfold mvC; rw [tI_n q1, tI_p q2]
    have g2 := mvN_2 q1' q2'
    refine ⟨⟨?_, hRo, ?_, ?_, ?_⟩, ⟨fun _ => ⟨q1', Or.inl q2'⟩, fun _ => ⟨q1, Or.inl q2⟩⟩⟩
    · rw [g1, g2]
      unfold wkN
      rw [up_n (by decide), up_s, e1]
      exact (hP.upf hp.1 1 (by omega) _ (by omega) _ (by omega)).up0 (by omega)
    · rw [g1, g2]
      unfold wkN
      rw [up_ss, up_ss, ← hS, wr_eq (by omega)]
    · rw [g1, g2]
      unfold wkN
      rw [up_nn (by omega), up_n (by omega), up_nn (by omega), up_10]
      exact hH
    · intro z
      rw [e9, g1, g2]
      have e10 : wkN N p 0 10 = N 0 10 := by unfold wkN; rw [up_nn (by omega), up_10]
      rw [e10, up_n (by omega), up_n (by omega)]
      exact hT z
  have q2' : ¬ ltN N p (wnN N p) (pmN N p) := by rw [e1]; exact fun z => q2 (eL.1 z)
  have hm : clHas C b (C (b + 4) p) := by
    by_cases z : clHas C b (C (b + 4) p)
    · exact z
    · exact absurd (Or.inl z) q2
  have m := hP.2.2 _ hm.1 hm.2.1
  have im := hI.2.2 _ hm.1 hm.2.1
  have eC := RoR.ct hP hR hI hp hwn hm.1
  by_cases q3 : canTug C b r p (wntC C b r p)
  · have q3' := eC.1.2 q3
    have eB := eC.2 q3'
    have g1 : mvC C b r p = tugC C b r p (wntC C b r p) := by unfold mvC; rw [tI_n q1, tI_n q2, tI_p q3]
    have g2 := mvN_3 q1' q2' q3'
    have e0 : tg0 N p = up (up N 1 (113 + 8 * p + 1) (wntC C b r p)) 1 (113 + 8 * C (b + 4) p + 1) (tugTo C b r p (wntC C b r p)) := by unfold tg0; rw [e1, eB, a.2.2.2.1]
    have e7 : tg0 N p 1 (113 + 8 * C (b + 4) p + 7) = C (b + 8) (C (b + 4) p) := by
      rw [e0, up_nn (by omega), up_nn (by omega)]; exact m.2.2.2.2.2.2.2
    refine ⟨⟨?_, hRo, ?_, ?_, ?_⟩, ⟨fun _ => ⟨q1', Or.inr q3'⟩, fun _ => ⟨q1, Or.inr q3⟩⟩⟩
    · rw [g1, g2]
      unfold tgN cnN tugC
      rw [up_n (by decide), up_n (by decide), up_s, a.2.2.2.1, e7, e0, up_s, up_s, Int.min_comm, ]
      exact ((((hP.upf hp.1 1 (by omega) _ (by omega) _ (by omega)).upf hm.1 1 (by omega) _ (by omega) _ (by omega)).up0 (by omega)).upn (by omega)).upf hm.1 7 (by omega) _ (by omega) _ (by omega)
    · rw [g1, g2]
      unfold tgN tugC
      rw [up_nn (by omega), up_nn (by omega), up_ss, up_nn (by omega), up_ss, ← hS, wr_eq (by omega)]
    · rw [g1, g2]
      unfold tgN cnN tugC
      rw [up_nn (by omega), up_nn (by omega), up_nn (by omega), up_n (by omega), up_n (by omega), up_nn (by omega), up_nn (by omega), up_10, e0, up_10, up_10]
      exact hH
    · intro z
      obtain ⟨t1, t2⟩ := hT z
      rw [e9, g1, g2]
      have e10 : tgN N p 0 10 = wr (N 0 10 + bI (C (b + 4) p = N 0 9)) := by unfold tgN; rw [up_ss, a.2.2.2.1]
      have e11 : tugC C b r p (wntC C b r p) (b + 9) = ur (up (up (up C (b + 2) p (wntC C b r p)) (b + 2) (C (b + 4) p) (tugTo C b r p (wntC C b r p))) b 12 (C b 12 + 1) (b + 9)) (C (b + 4) p) (C (b + 9) (C (b + 4) p) + 1) := by unfold tugC; rw [up_n (by omega), up_s]
      rw [e10, e11]
      refine ⟨t1, ?_⟩
      have hB2 := hB.2 _ t1.1 t1.2
      by_cases e : N 0 9 = C (b + 4) p
      · rw [e, ur_s, bI_t rfl, ← t2, e, wr_eq (by rw [e] at hB2; omega)]
      · rw [ur_n e, bI_f (fun z => e z.symm), up_n (by omega), up_n (by omega), up_n (by omega), t2, wr_eq (by omega)]
        omega
  · have q3' : ¬ ctN N p := fun z => q3 (eC.1.1 z)
    have g1 : mvC C b r p = hldC C b p := by unfold mvC; rw [tI_n q1, tI_n q2, tI_n q3]
    have g2 := mvN_4 q1' q2' q3'
    refine ⟨⟨?_, hRo, ?_, ?_, ?_⟩, ⟨fun z => ?_, fun z => ?_⟩⟩
    · rw [g1, g2]
      unfold hlN cnN hldC
      rw [up_n (by decide), up_s, a.2.2.2.2.2.2.1, Int.min_comm]
      have hP1 : PeR (if C b 13 = -1 then up C b 13 p else C) b (N 1) := by
        split
        · exact hP.up0 (by omega)
        · exact hP
      exact hP1.upf hp.1 6 (by omega) _ (by omega) _ (by omega)
    · rw [g1, g2]
      unfold hlN cnN hldC
      rw [up_n (by omega), up_nn (by omega), up_10, ← hS]
      split
      · exact up_nn (by omega)
      · rfl
    · rw [g1, g2]
      unfold hlN cnN hldC
      rw [up_n (by omega), up_ss]
      intro z
      obtain ⟨z1, z2⟩ := hH z
      by_cases e : C b 13 = -1
      · rw [if_pos e, up_ss, if_pos (by omega)]
        exact ⟨rfl, by omega⟩
      · rw [if_neg e, if_neg (by omega)]
        exact ⟨z1, z2⟩
    · intro z
      obtain ⟨t1, t2⟩ := hT z
      rw [e9, g1, g2]
      have e10 : hlN N p 0 10 = N 0 10 := by unfold hlN cnN; rw [up_nn (by omega), up_10]
      rw [e10]
      refine ⟨t1, ?_⟩
      unfold hldC
      rw [up_n (by omega)]
      split
      · rw [up_n (by omega)]; exact t2
      · exact t2
    · rcases z.2 with y | y
      · exact absurd y q2
      · exact absurd y q3
    · rcases z.2 with y | y
      · exact absurd y q2'
      · exact absurd y q3'
theorem wkS {b r : Nat} {h1 h2 : Prop} {p : Int} (hb : pI b r) : ∀ (n : Nat) (C N : xMem) (c : Int), WIn C b r c → 0 ≤ c → c + n < 1000000 → MInv N → SeR b r h1 h2 C N → (0 ≤ p ∧ p < C b 1) → SeR b r h1 h2 (wkC b r p n C) (gwN p n N) := by
  intro n
  induction n with
  | zero => intro C N c _ _ _ _ h _; exact h
  | succ n ih =>
    intro C N c hw h0 hc hN h hp
    have hn := hw.2.1.1
    have h3 := mvS hb hw ⟨h0, by omega⟩ hN h hp
    unfold wkC gwN
    by_cases q : goC C b r p
    · rw [tI_p q, tI_p (h3.2.1 q)]
      exact ih _ _ (c + 1) (mvC_in hb hw ⟨hp.1, hp.2, by omega⟩ ⟨h0, by omega⟩) (by omega) (by omega) (mvN_I hN (by rw [h.1.1]; exact hp)) h3.1 (by rw [mvC_r.2 1 (by omega) (by omega)]; exact hp)
    · rw [tI_n q, tI_n (fun z => q (h3.2.2 z))]
      exact h3.1
/-- one STEP of all, in both worlds -/
theorem stS {b r : Nat} {h1 h2 : Prop} {C N : xMem} (hb : pI b r) (hC : PIn C b r) (hN : MInv N) (hP : PeR C b (N 1)) (hR : RoR C r (N 1)) (k1 : h1 → N 0 8 = -1) (k2 : h2 → ((0 ≤ N 0 9 ∧ N 0 9 < 8) ∧ N 0 10 = 0)) : ∀ k : Nat, (k : Int) ≤ C b 1 → SeR b r h1 h2 (stA b r C k) (saN (up N 0 7 0) k) := by
  have hbr := pI_lt hb
  intro k
  induction k with
  | zero =>
    intro _
    show SeR b r h1 h2 (st0 C b) (up N 0 7 0)
    refine ⟨?_, ?_, ?_, ?_, ?_⟩
    · show PeR (st0 C b) b (N 1)
      refine hP.c (fun k g1 g2 g3 => ?_) ?_ ?_
      · unfold st0; rw [up_n g3, up_n g3, upr_n (by omega)]
      · exact st0_r.2 1 (by omega) (by omega)
      · exact st0_r.2 2 (by omega) (by omega)
    · exact hR.c (st0_r.rd hb)
    · rw [up_ss]; unfold st0; rw [up_nn (by omega), up_ss]
    · intro z
      rw [up_nn (by omega), k1 z]
      unfold st0
      rw [up_ss]
      exact ⟨rfl, by omega⟩
    · intro z
      obtain ⟨t1, t2⟩ := k2 z
      rw [up_nn (by omega), up_nn (by omega), t2]
      refine ⟨t1, ?_⟩
      unfold st0
      rw [up_n (by omega), up_n (by omega), upr_s]
      unfold flC
      rw [if_pos (by omega)]
  | succ k ih =>
    intro hk
    have h := ih (by omega)
    obtain ⟨w1, w2⟩ := stA_in hb hC k (by omega)
    have hn := hC.2.1.1
    have e1 := w2.2 1 (by omega) (by omega)
    have hg := goN_R (stA b r C k) b (k : Int)
    have hpe := h.1.2.2 (k : Int) (by omega) (by omega)
    have hI2 := saN_I (M := up N 0 7 0) hN.up0 k (by rw [up_01, hP.1]; omega)
    rw [saN]
    rw [hpe.1]
    show SeR b r h1 h2 (wkC b r (k : Int) (goN (stA b r C k) b (k : Int)) (stA b r C k)) _
    exact wkS hb _ _ _ (3 * k) w1 (by omega) (by omega) hI2.1 h ⟨by omega, by omega⟩
theorem stR {b r : Nat} {h1 h2 : Prop} {C N : xMem} (hb : pI b r) (hC : PIn C b r) (hN : MInv N) (hk : C b 2 < 99999) (hP : PeR C b (N 1)) (hR : RoR C r (N 1)) (k1 : h1 → N 0 8 = -1) (k2 : h2 → ((0 ≤ N 0 9 ∧ N 0 9 < 8) ∧ N 0 10 = 0)) : SeR b r h1 h2 (stC b r C) (stN N) := by
  have hbr := pI_lt hb
  have hn := hC.2.1.1
  have e : (C b 1).toNat = (N 1 1).toNat := by rw [hP.1]
  have h := stS hb hC hN hP hR k1 k2 (C b 1).toNat (by omega)
  obtain ⟨w1, w2⟩ := stA_in hb hC (C b 1).toNat (by omega)
  have e2 := w2.2 2 (by omega) (by omega)
  have c0 := hC.2.1.2.1
  unfold stC stN sa0
  rw [← e]
  generalize saN (up N 0 7 0) (C b 1).toNat = N' at h ⊢
  generalize stA b r C (C b 1).toNat = C' at h e2 ⊢
  obtain ⟨a1, a2, a3, a4, a5⟩ := h
  refine ⟨?_, ?_, ?_, ?_, ?_⟩
  · rw [up_s]
    refine ⟨?_, ?_, fun p g1 g2 => ?_⟩
    · rw [ur_n (by decide), up_nn (by omega)]; exact a1.1
    · rw [ur_s, up_ss, a1.2.1]; omega
    · rw [up_nn (by omega)] at g2
      have t := a1.2.2 p g1 g2
      rw [ur_n (by omega), ur_n (by omega), ur_n (by omega), ur_n (by omega), ur_n (by omega), ur_n (by omega), ur_n (by omega), ur_n (by omega), up_n (by omega), up_n (by omega), up_n (by omega), up_n (by omega), up_n (by omega), up_n (by omega), up_n (by omega), up_n (by omega)]
      exact t
  · rw [up_s]
    exact (a2.c (fun k g1 g2 => up_n (by omega))).n (wyr_ur (by omega))
  · rw [up_nn (by omega), up_10]; exact a3
  · rw [up_nn (by omega), up_10]; exact a4
  · intro z
    obtain ⟨t1, t2⟩ := a5 z
    refine ⟨t1, ?_⟩
    show up C' b 2 _ (b + 9) (N' 0 9) = N' 0 10
    rw [up_n (by omega)]; exact t2
theorem siS {b r : Nat} {C N : xMem} (hb : pI b r) (hC : PIn C b r) (hN : MInv N) (hP : PeR C b (N 1)) (hR : RoR C r (N 1)) : ∀ n : Nat, C b 2 + n ≤ 99999 → PeR (tkC b r C n) b (siN N n 1) ∧ RoR (tkC b r C n) r (siN N n 1) ∧ tkC b r C n b 2 = C b 2 + n := by
  intro n
  induction n with
  | zero => intro _; exact ⟨hP, hR, by show C b 2 = C b 2 + ((0 : Nat) : Int); omega⟩
  | succ n ih =>
    intro hn
    obtain ⟨a1, a2, a3⟩ := ih (by omega)
    have hC' := tkC_in hb hC n
    have h := stR (h1 := False) (h2 := False) hb hC' (siN_I hN n).1 (by omega) a1 a2 (fun z => z.elim) (fun z => z.elim)
    have e := (stC_r hb hC').2.2
    refine ⟨h.1, h.2.1, ?_⟩
    show stC b r (tkC b r C n) b 2 = _
    rw [e, a3]
    omega
