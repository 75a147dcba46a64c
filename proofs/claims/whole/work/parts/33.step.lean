/-! the reference: one moves, all move: a step -/
theorem up_ca1 {N : xMem} {f i v : Int} {d : Int → Int} : up (ca N f d) 1 i v = ca (up N 1 i v) f d := by
  funext k
  unfold up ca upr
  by_cases h1 : k = 1
  · subst h1; rfl
  · by_cases h0 : k = 0
    · subst h0; rfl
    · rw [if_neg h1]
      by_cases h5 : k = 5
      · subst h5; rfl
      · rw [if_neg h0, if_neg h5, if_neg h0, if_neg h5, if_neg h1]
theorem up_ca0 {N : xMem} {f i v : Int} {d : Int → Int} (hi : i ≠ 6) : up (ca N f d) 0 i v = ca (up N 0 i v) f d := by
  funext k
  by_cases h0 : k = 0
  · subst h0
    funext j
    show ur (ur (N 0) 6 f) i v j = ur (ur (N 0) i v) 6 f j
    unfold ur
    by_cases h : j = i
    · rw [if_pos h, if_neg (by omega), if_pos h]
    · rw [if_neg h, if_neg h]
  · rw [up_n h0]
    by_cases h5 : k = 5
    · subst h5; rfl
    · rw [ca_n h0 h5, ca_n h0 h5, up_n h0]
theorem up_ca07 {N : xMem} {f v : Int} {d : Int → Int} : up (ca N f d) 0 7 v = ca (up N 0 7 v) f d := up_ca0 (by decide)
theorem up_ca08 {N : xMem} {f v : Int} {d : Int → Int} : up (ca N f d) 0 8 v = ca (up N 0 8 v) f d := up_ca0 (by decide)
theorem up_ca09 {N : xMem} {f v : Int} {d : Int → Int} : up (ca N f d) 0 9 v = ca (up N 0 9 v) f d := up_ca0 (by decide)
theorem up_ca010 {N : xMem} {f v : Int} {d : Int → Int} : up (ca N f d) 0 10 v = ca (up N 0 10 v) f d := up_ca0 (by decide)
theorem ca_07 {N : xMem} {f : Int} {d : Int → Int} : ca N f d 0 7 = N 0 7 := rfl
theorem ca_08 {N : xMem} {f : Int} {d : Int → Int} : ca N f d 0 8 = N 0 8 := rfl
theorem ca_09 {N : xMem} {f : Int} {d : Int → Int} : ca N f d 0 9 = N 0 9 := rfl
theorem ca_010 {N : xMem} {f : Int} {d : Int → Int} : ca N f d 0 10 = N 0 10 := rfl
theorem up_10 {N : xMem} {i v : Int} : up N 1 i v 0 = N 0 := rfl
theorem up_01 {N : xMem} {i v : Int} : up N 0 i v 1 = N 1 := rfl
theorem wyM_up {N : xMem} {i v : Int} (h : i < 13 ∨ 113 ≤ i) : wyM (up N 1 i v) = wyM N := by
  funext j
  unfold wyM
  by_cases hj : 0 ≤ j ∧ j < 100
  · rw [if_pos hj, if_pos hj, up_nn (by omega)]
  · rw [if_neg hj, if_neg hj]
theorem wyM_up0 {N : xMem} {i v : Int} : wyM (up N 0 i v) = wyM N := rfl
theorem Fc_e {N N' : xMem} {f : Int} {d : Int → Int} (e : wyM N' = wyM N) (h : Fc (ca N f d)) : Fc (ca N' f d) := by
  refine ⟨h.1, fun z => ?_⟩
  have := h.2 z
  rw [dN_ca] at this ⊢
  unfold dN at this ⊢
  rw [e]
  exact this
def fOk (n f v : Int) : Prop := (f = 0 ∧ 0 ≤ v ∧ v ≤ 6) ∨ (f = 1 ∧ 0 ≤ v ∧ v < 10) ∨ (f = 2 ∧ 0 ≤ v ∧ v < 10) ∨ (f = 3 ∧ -1 ≤ v ∧ v < n) ∨ (f = 4 ∧ 0 ≤ v ∧ v ≤ 9) ∨ (f = 5 ∧ 0 ≤ v ∧ v ≤ 999) ∨ (f = 6 ∧ 0 ≤ v ∧ v ≤ 9999) ∨ (f = 7 ∧ 0 ≤ v ∧ v ≤ 9999)
theorem MInv.up1 {M : xMem} {p f v : Int} (h : MInv M) (hp : 0 ≤ p ∧ p < M 1 1) (hv : fOk (M 1 1) f v) : MInv (up M 1 (113 + 8 * p + f) v) := by
  have h1 := h.1
  unfold fOk at hv
  refine ⟨?_, ?_, ?_, ?_⟩
  · rw [up_nn (by omega)]; exact h1
  · rw [up_nn (by omega)]; exact h.2.1
  · rw [wyM_up (by omega)]; exact h.2.2.1
  · intro q q0 q1
    rw [up_nn (by omega)] at q1
    have i := h.2.2.2 q q0 q1
    rw [show up M 1 (113 + 8 * p + f) v 1 1 = M 1 1 from up_nn (by omega)]
    refine ⟨?_, ?_, ?_, ?_, ?_, ?_, ?_, ?_⟩ <;> (rw [up_s]; unfold ur; split <;> omega)
theorem MInv.up0 {M : xMem} {i v : Int} (h : MInv M) : MInv (up M 0 i v) := h
theorem MInv.ca {M : xMem} {f : Int} {d : Int → Int} (h : MInv M) : MInv (ca M f d) := h
theorem nbD_R {L D : Int → Int} {a c : Int} : ∀ (k : Nat) (acc : Int), k ≤ 10 → -1 ≤ acc ∧ acc < 10 → -1 ≤ nbD L D a c k acc ∧ nbD L D a c k acc < 10 := by
  intro k
  induction k with
  | zero => intro acc _ h; exact h
  | succ k ih =>
    intro acc hk h
    unfold nbD
    split
    · exact ih _ (by omega) (by omega)
    · exact ih _ (by omega) h
theorem nbN_R (M : xMem) (a c : Int) : -1 ≤ nbN M a c ∧ nbN M a c < 10 := nbD_R 10 (-1) (by omega) (by omega)
theorem wnN_R {M : xMem} {p : Int} (hI : MInv M) (hp : 0 ≤ p ∧ p < M 1 1) : 0 ≤ wnN M p ∧ wnN M p < 10 := nxF_R (hI.2.2.2 p hp.1 hp.2).2.1
theorem plN_R {M : xMem} {p : Int} (hI : MInv M) (hp : 0 ≤ p ∧ p < M 1 1) : 0 ≤ plN M p ∧ plN M p ≤ 28 := by
  have ip := hI.2.2.2 p hp.1 hp.2
  unfold plN pullsF dnF rnF
  (repeat' split) <;> omega
def cnN (M : xMem) (i : Int) : xMem := up M 1 i (min 9999 (M 1 i + 1))
noncomputable def beN (M : xMem) (p : Int) : Int := nbN M (M 1 (113 + 8 * M 1 (113 + 8 * p + 3) + 1)) (wnN M p)
noncomputable def wkN (M : xMem) (p : Int) : xMem := up (up M 1 (113 + 8 * p + 1) (wnN M p)) 0 7 (wr (M 0 7 + 1))
noncomputable def tg0 (M : xMem) (p : Int) : xMem := up (up M 1 (113 + 8 * p + 1) (wnN M p)) 1 (113 + 8 * M 1 (113 + 8 * p + 3) + 1) (beN M p)
noncomputable def tgN (M : xMem) (p : Int) : xMem := up (up (cnN (tg0 M p) (113 + 8 * M 1 (113 + 8 * p + 3) + 7)) 0 7 (wr (M 0 7 + 1))) 0 10 (wr (M 0 10 + bI (M 1 (113 + 8 * p + 3) = M 0 9)))
def hlN (M : xMem) (p : Int) : xMem := up (cnN M (113 + 8 * p + 6)) 0 8 (if M 0 8 < 0 then p else M 0 8)
def ctN (M : xMem) (p : Int) : Prop := plN M (M 1 (113 + 8 * p + 3)) < plN M p ∧ 0 ≤ beN M p ∧ dN M (10 * beN M p + wnN M p) < dN M (10 * M 1 (113 + 8 * M 1 (113 + 8 * p + 3) + 1) + wnN M p) ∧ ltN M p (wnN M p) (beN M p)
noncomputable def mvN (M : xMem) (p : Int) : xMem := tI (wnN M p = M 1 (113 + 8 * p + 1)) M (tI (ltN M p (wnN M p) (pmN M p)) (wkN M p) (tI (ctN M p) (tgN M p) (hlN M p)))
def gonN (M : xMem) (p : Int) : Prop := wnN M p ≠ M 1 (113 + 8 * p + 1) ∧ (ltN M p (wnN M p) (pmN M p) ∨ ctN M p)
section MV
variable {M : xMem} {p f : Int} {d : Int → Int}
theorem beN_ca : beN (ca M f d) p = beN M p := rfl
theorem ctN_ca : ctN (ca M f d) p = ctN M p := rfl
theorem gonN_ca : gonN (ca M f d) p = gonN M p := rfl
theorem cnN_ca {i : Int} : cnN (ca M f d) i = ca (cnN M i) f d := by unfold cnN; rw [ca_1, up_ca1]
theorem wkN_ca : wkN (ca M f d) p = ca (wkN M p) f d := by unfold wkN; rw [ca_07, wnN_ca, up_ca1, up_ca07]
theorem tg0_ca : tg0 (ca M f d) p = ca (tg0 M p) f d := by unfold tg0; rw [wnN_ca, beN_ca, ca_1, up_ca1, up_ca1]
theorem tgN_ca : tgN (ca M f d) p = ca (tgN M p) f d := by unfold tgN; rw [tg0_ca, ca_07, ca_010, ca_09, ca_1, cnN_ca, up_ca07, up_ca010]
theorem hlN_ca : hlN (ca M f d) p = ca (hlN M p) f d := by unfold hlN; rw [cnN_ca, ca_08, up_ca08]
theorem mvN_ca : mvN (ca M f d) p = ca (mvN M p) f d := by
  unfold mvN tI
  rw [wnN_ca, ca_1, ltN_ca, pmN_ca, ctN_ca, wkN_ca, tgN_ca, hlN_ca]
  (repeat' split) <;> rfl
theorem mvN_1 (h : wnN M p = M 1 (113 + 8 * p + 1)) : mvN M p = M := by unfold mvN; rw [tI_p h]
theorem mvN_2 (h : wnN M p ≠ M 1 (113 + 8 * p + 1)) (h2 : ltN M p (wnN M p) (pmN M p)) : mvN M p = wkN M p := by unfold mvN; rw [tI_n h, tI_p h2]
theorem mvN_3 (h : wnN M p ≠ M 1 (113 + 8 * p + 1)) (h2 : ¬ ltN M p (wnN M p) (pmN M p)) (h3 : ctN M p) : mvN M p = tgN M p := by unfold mvN; rw [tI_n h, tI_n h2, tI_p h3]
theorem mvN_4 (h : wnN M p ≠ M 1 (113 + 8 * p + 1)) (h2 : ¬ ltN M p (wnN M p) (pmN M p)) (h3 : ¬ ctN M p) : mvN M p = hlN M p := by unfold mvN; rw [tI_n h, tI_n h2, tI_n h3]
theorem mvN_y (hp : 0 ≤ p) : wyM (mvN M p) = wyM M := by
  unfold mvN tI
  split
  · rfl
  · split
    · unfold wkN; rw [wyM_up0, wyM_up (by omega)]
    · rename_i q
      have hm : 0 ≤ M 1 (113 + 8 * p + 3) := by unfold ltN at q; omega
      split
      · unfold tgN cnN tg0; rw [wyM_up0, wyM_up0, wyM_up (by omega), wyM_up (by omega), wyM_up (by omega)]
      · unfold hlN cnN; rw [wyM_up0, wyM_up (by omega)]
/-- what a move may change -/
def MvR (M M' : xMem) : Prop := (∀ k, k ≠ 0 → k ≠ 1 → M' k = M k) ∧ (∀ j, j ≠ 7 → j ≠ 8 → j ≠ 10 → M' 0 j = M 0 j) ∧ (∀ j, (j < 113 ∨ 177 ≤ j) → M' 1 j = M 1 j) ∧ ∀ q g, 0 ≤ q → q < 8 → (g = 0 ∨ g = 2 ∨ g = 3 ∨ g = 4 ∨ g = 5) → M' 1 (113 + 8 * q + g) = M 1 (113 + 8 * q + g)
theorem MvR.rf : MvR M M := ⟨fun _ _ _ => rfl, fun _ _ _ _ => rfl, fun _ _ => rfl, fun _ _ _ _ _ => rfl⟩
theorem MvR.tr {M1 M2 M3 : xMem} (h1 : MvR M1 M2) (h2 : MvR M2 M3) : MvR M1 M3 := ⟨fun k a b => (h2.1 k a b).trans (h1.1 k a b), fun j a b c => (h2.2.1 j a b c).trans (h1.2.1 j a b c), fun j a => (h2.2.2.1 j a).trans (h1.2.2.1 j a), fun q g a b c => (h2.2.2.2 q g a b c).trans (h1.2.2.2 q g a b c)⟩
theorem MvR.up1 {M1 M2 : xMem} {q g v : Int} (h : MvR M1 M2) (hq : 0 ≤ q ∧ q < 8) (hg : g = 1 ∨ g = 6 ∨ g = 7) : MvR M1 (up M2 1 (113 + 8 * q + g) v) :=
  ⟨fun k a b => by rw [up_n b]; exact h.1 k a b, fun j a b c => h.2.1 j a b c, fun j a => by rw [up_nn (by omega)]; exact h.2.2.1 j a, fun r s a b c => by rw [up_nn (by omega)]; exact h.2.2.2 r s a b c⟩
theorem MvR.up0 {M1 M2 : xMem} {i v : Int} (h : MvR M1 M2) (hi : i = 7 ∨ i = 8 ∨ i = 10) : MvR M1 (up M2 0 i v) :=
  ⟨fun k a b => by rw [up_n a]; exact h.1 k a b, fun j a b c => by rw [up_nn (by omega)]; exact h.2.1 j a b c, fun j a => h.2.2.1 j a, fun r s a b c => h.2.2.2 r s a b c⟩
theorem mvN_r (hI : MInv M) (hp : 0 ≤ p ∧ p < M 1 1) : MvR M (mvN M p) := by
  have hn := hI.1
  have ip := hI.2.2.2 p hp.1 hp.2
  unfold mvN tI
  split
  · exact MvR.rf
  · split
    · unfold wkN; exact (MvR.rf.up1 (by omega) (by omega)).up0 (by omega)
    · rename_i q
      have hm : 0 ≤ M 1 (113 + 8 * p + 3) := by unfold ltN at q; omega
      split
      · unfold tgN cnN tg0; exact ((((MvR.rf.up1 (by omega) (by omega)).up1 (by omega) (by omega)).up1 (by omega) (by omega)).up0 (by omega)).up0 (by omega)
      · unfold hlN cnN; exact (MvR.rf.up1 (by omega) (by omega)).up0 (by omega)
theorem mvN_I (hI : MInv M) (hp : 0 ≤ p ∧ p < M 1 1) : MInv (mvN M p) := by
  have hn := hI.1
  have ip := hI.2.2.2 p hp.1 hp.2
  have hw := wnN_R hI hp
  unfold mvN tI
  split
  · exact hI
  · split
    · unfold wkN; exact (hI.up1 hp (by unfold fOk; omega)).up0
    · rename_i q
      have hm : 0 ≤ M 1 (113 + 8 * p + 3) := by unfold ltN at q; omega
      have im := hI.2.2.2 _ hm (by omega)
      split
      · rename_i q3
        have hb := nbN_R M (M 1 (113 + 8 * M 1 (113 + 8 * p + 3) + 1)) (wnN M p)
        have hb0 := q3.2.1
        unfold beN at hb0
        unfold tgN cnN
        refine MInv.up0 (MInv.up0 ?_)
        have h1 : MInv (up M 1 (113 + 8 * p + 1) (wnN M p)) := hI.up1 hp (by unfold fOk; omega)
        have e1 : up M 1 (113 + 8 * p + 1) (wnN M p) 1 1 = M 1 1 := up_nn (by omega)
        have h2 : MInv (tg0 M p) := by
          unfold tg0
          exact h1.up1 (by rw [e1]; omega) (by unfold fOk beN; omega)
        have e2 : tg0 M p 1 1 = M 1 1 := by unfold tg0; rw [up_nn (by omega), e1]
        have e3 : tg0 M p 1 (113 + 8 * M 1 (113 + 8 * p + 3) + 7) = M 1 (113 + 8 * M 1 (113 + 8 * p + 3) + 7) := by unfold tg0; rw [up_nn (by omega), up_nn (by omega)]
        exact h2.up1 (by rw [e2]; omega) (by rw [e3]; unfold fOk; omega)
      · unfold hlN cnN; exact (hI.up1 hp (by unfold fOk; omega)).up0
theorem hl_p (h : ¬ 0 ≤ M 0 8) : hlN M p = up (up M 1 (113 + 8 * p + 6) (min 9999 (M 1 (113 + 8 * p + 6) + 1))) 0 8 p := by unfold hlN cnN; rw [if_pos (by omega)]
theorem hl_n (h : 0 ≤ M 0 8) : hlN M p = up (up M 1 (113 + 8 * p + 6) (min 9999 (M 1 (113 + 8 * p + 6) + 1))) 0 8 (M 0 8) := by unfold hlN cnN; rw [if_neg (by omega)]
theorem tg_p (h : M 1 (113 + 8 * p + 3) = M 0 9) : tgN M p = up (up (up (up (up M 1 (113 + 8 * p + 1) (wnN M p)) 1 (113 + 8 * M 1 (113 + 8 * p + 3) + 1) (beN M p)) 1 (113 + 8 * M 1 (113 + 8 * p + 3) + 7) (min 9999 (up (up M 1 (113 + 8 * p + 1) (wnN M p)) 1 (113 + 8 * M 1 (113 + 8 * p + 3) + 1) (beN M p) 1 (113 + 8 * M 1 (113 + 8 * p + 3) + 7) + 1))) 0 7 (wr (M 0 7 + 1))) 0 10 (wr (M 0 10 + 1)) := by unfold tgN cnN tg0; rw [bI_t h]
theorem tg_n (h : M 1 (113 + 8 * p + 3) ≠ M 0 9) : tgN M p = up (up (up (up (up M 1 (113 + 8 * p + 1) (wnN M p)) 1 (113 + 8 * M 1 (113 + 8 * p + 3) + 1) (beN M p)) 1 (113 + 8 * M 1 (113 + 8 * p + 3) + 7) (min 9999 (up (up M 1 (113 + 8 * p + 1) (wnN M p)) 1 (113 + 8 * M 1 (113 + 8 * p + 3) + 1) (beN M p) 1 (113 + 8 * M 1 (113 + 8 * p + 3) + 7) + 1))) 0 7 (wr (M 0 7 + 1))) 0 10 (wr (M 0 10 + 0)) := by unfold tgN cnN tg0; rw [bI_f h]
theorem up_0710 {v : Int} : up M 0 7 v 0 10 = M 0 10 := rfl
theorem up_0709 {v : Int} : up M 0 7 v 0 9 = M 0 9 := rfl
end MV
theorem dX7_movesOn_0 : decode cX7_movesOn 0 = .ok (.aload_n 0, 1) := by decide +kernel
theorem dX7_movesOn_1 : decode cX7_movesOn 1 = .ok (.iload_n 1, 1) := by decide +kernel
theorem dX7_movesOn_2 : decode cX7_movesOn 2 = .ok (.invokevirtual 178, 3) := by decide +kernel
theorem dX7_movesOn_5 : decode cX7_movesOn 5 = .ok (.istore_n 2, 1) := by decide +kernel
theorem dX7_movesOn_6 : decode cX7_movesOn 6 = .ok (.iload_n 2, 1) := by decide +kernel
theorem dX7_movesOn_7 : decode cX7_movesOn 7 = .ok (.aload_n 0, 1) := by decide +kernel
theorem dX7_movesOn_8 : decode cX7_movesOn 8 = .ok (.iload_n 1, 1) := by decide +kernel
theorem dX7_movesOn_9 : decode cX7_movesOn 9 = .ok (.iconst 1, 1) := by decide +kernel
theorem dX7_movesOn_10 : decode cX7_movesOn 10 = .ok (.invokevirtual 133, 3) := by decide +kernel
theorem dX7_movesOn_13 : decode cX7_movesOn 13 = .ok (.if_icmp .ne 5, 3) := by decide +kernel
theorem dX7_movesOn_16 : decode cX7_movesOn 16 = .ok (.iconst 0, 1) := by decide +kernel
theorem dX7_movesOn_17 : decode cX7_movesOn 17 = .ok (.ireturn, 1) := by decide +kernel
theorem dX7_movesOn_18 : decode cX7_movesOn 18 = .ok (.aload_n 0, 1) := by decide +kernel
theorem dX7_movesOn_19 : decode cX7_movesOn 19 = .ok (.iload_n 1, 1) := by decide +kernel
theorem dX7_movesOn_20 : decode cX7_movesOn 20 = .ok (.iload_n 2, 1) := by decide +kernel
theorem dX7_movesOn_21 : decode cX7_movesOn 21 = .ok (.aload_n 0, 1) := by decide +kernel
theorem dX7_movesOn_22 : decode cX7_movesOn 22 = .ok (.iload_n 1, 1) := by decide +kernel
theorem dX7_movesOn_23 : decode cX7_movesOn 23 = .ok (.invokevirtual 157, 3) := by decide +kernel
theorem dX7_movesOn_26 : decode cX7_movesOn 26 = .ok (.invokevirtual 160, 3) := by decide +kernel
theorem dX7_movesOn_29 : decode cX7_movesOn 29 = .ok (.ifCond .eq 26, 3) := by decide +kernel
theorem dX7_movesOn_32 : decode cX7_movesOn 32 = .ok (.aload_n 0, 1) := by decide +kernel
theorem dX7_movesOn_33 : decode cX7_movesOn 33 = .ok (.getfield 9, 3) := by decide +kernel
theorem dX7_movesOn_36 : decode cX7_movesOn 36 = .ok (.iload_n 1, 1) := by decide +kernel
theorem dX7_movesOn_37 : decode cX7_movesOn 37 = .ok (.iconst 1, 1) := by decide +kernel
theorem dX7_movesOn_38 : decode cX7_movesOn 38 = .ok (.invokestatic 119, 3) := by decide +kernel
theorem dX7_movesOn_41 : decode cX7_movesOn 41 = .ok (.iload_n 2, 1) := by decide +kernel
theorem dX7_movesOn_42 : decode cX7_movesOn 42 = .ok (.iastore, 1) := by decide +kernel
theorem dX7_movesOn_43 : decode cX7_movesOn 43 = .ok (.aload_n 0, 1) := by decide +kernel
theorem dX7_movesOn_44 : decode cX7_movesOn 44 = .ok (.dup, 1) := by decide +kernel
theorem dX7_movesOn_45 : decode cX7_movesOn 45 = .ok (.getfield 181, 3) := by decide +kernel
theorem dX7_movesOn_48 : decode cX7_movesOn 48 = .ok (.iconst 1, 1) := by decide +kernel
theorem dX7_movesOn_49 : decode cX7_movesOn 49 = .ok (.iadd, 1) := by decide +kernel
theorem dX7_movesOn_50 : decode cX7_movesOn 50 = .ok (.putfield 181, 3) := by decide +kernel
theorem dX7_movesOn_53 : decode cX7_movesOn 53 = .ok (.iconst 1, 1) := by decide +kernel
theorem dX7_movesOn_54 : decode cX7_movesOn 54 = .ok (.ireturn, 1) := by decide +kernel
theorem dX7_movesOn_55 : decode cX7_movesOn 55 = .ok (.aload_n 0, 1) := by decide +kernel
theorem dX7_movesOn_56 : decode cX7_movesOn 56 = .ok (.iload_n 1, 1) := by decide +kernel
theorem dX7_movesOn_57 : decode cX7_movesOn 57 = .ok (.iconst 3, 1) := by decide +kernel
theorem dX7_movesOn_58 : decode cX7_movesOn 58 = .ok (.invokevirtual 133, 3) := by decide +kernel
theorem dX7_movesOn_61 : decode cX7_movesOn 61 = .ok (.istore_n 3, 1) := by decide +kernel
theorem dX7_movesOn_62 : decode cX7_movesOn 62 = .ok (.aload_n 0, 1) := by decide +kernel
theorem dX7_movesOn_63 : decode cX7_movesOn 63 = .ok (.iload_n 3, 1) := by decide +kernel
theorem dX7_movesOn_64 : decode cX7_movesOn 64 = .ok (.iconst 1, 1) := by decide +kernel
theorem dX7_movesOn_65 : decode cX7_movesOn 65 = .ok (.invokevirtual 133, 3) := by decide +kernel
theorem dX7_movesOn_68 : decode cX7_movesOn 68 = .ok (.istore 4, 2) := by decide +kernel
theorem dX7_movesOn_70 : decode cX7_movesOn 70 = .ok (.aload_n 0, 1) := by decide +kernel
theorem dX7_movesOn_71 : decode cX7_movesOn 71 = .ok (.iload 4, 2) := by decide +kernel
theorem dX7_movesOn_73 : decode cX7_movesOn 73 = .ok (.iload_n 2, 1) := by decide +kernel
theorem dX7_movesOn_74 : decode cX7_movesOn 74 = .ok (.invokevirtual 185, 3) := by decide +kernel
theorem dX7_movesOn_77 : decode cX7_movesOn 77 = .ok (.istore 5, 2) := by decide +kernel
theorem dX7_movesOn_79 : decode cX7_movesOn 79 = .ok (.aload_n 0, 1) := by decide +kernel
theorem dX7_movesOn_80 : decode cX7_movesOn 80 = .ok (.iload_n 1, 1) := by decide +kernel
theorem dX7_movesOn_81 : decode cX7_movesOn 81 = .ok (.invokevirtual 151, 3) := by decide +kernel
theorem dX7_movesOn_84 : decode cX7_movesOn 84 = .ok (.aload_n 0, 1) := by decide +kernel
theorem dX7_movesOn_85 : decode cX7_movesOn 85 = .ok (.iload_n 3, 1) := by decide +kernel
theorem dX7_movesOn_86 : decode cX7_movesOn 86 = .ok (.invokevirtual 151, 3) := by decide +kernel
theorem dX7_movesOn_89 : decode cX7_movesOn 89 = .ok (.if_icmp .le 103, 3) := by decide +kernel
theorem dX7_movesOn_92 : decode cX7_movesOn 92 = .ok (.iload 5, 2) := by decide +kernel
theorem dX7_movesOn_94 : decode cX7_movesOn 94 = .ok (.ifCond .lt 98, 3) := by decide +kernel
theorem dX7_movesOn_97 : decode cX7_movesOn 97 = .ok (.aload_n 0, 1) := by decide +kernel
theorem dX7_movesOn_98 : decode cX7_movesOn 98 = .ok (.iload 5, 2) := by decide +kernel
theorem dX7_movesOn_100 : decode cX7_movesOn 100 = .ok (.iload_n 2, 1) := by decide +kernel
theorem dX7_movesOn_101 : decode cX7_movesOn 101 = .ok (.invokevirtual 116, 3) := by decide +kernel
theorem dX7_movesOn_104 : decode cX7_movesOn 104 = .ok (.aload_n 0, 1) := by decide +kernel
theorem dX7_movesOn_105 : decode cX7_movesOn 105 = .ok (.iload 4, 2) := by decide +kernel
theorem dX7_movesOn_107 : decode cX7_movesOn 107 = .ok (.iload_n 2, 1) := by decide +kernel
theorem dX7_movesOn_108 : decode cX7_movesOn 108 = .ok (.invokevirtual 116, 3) := by decide +kernel
theorem dX7_movesOn_111 : decode cX7_movesOn 111 = .ok (.if_icmp .ge 81, 3) := by decide +kernel
theorem dX7_movesOn_114 : decode cX7_movesOn 114 = .ok (.aload_n 0, 1) := by decide +kernel
theorem dX7_movesOn_115 : decode cX7_movesOn 115 = .ok (.iload_n 1, 1) := by decide +kernel
theorem dX7_movesOn_116 : decode cX7_movesOn 116 = .ok (.iload_n 2, 1) := by decide +kernel
theorem dX7_movesOn_117 : decode cX7_movesOn 117 = .ok (.iload 5, 2) := by decide +kernel
theorem dX7_movesOn_119 : decode cX7_movesOn 119 = .ok (.invokevirtual 160, 3) := by decide +kernel
theorem dX7_movesOn_122 : decode cX7_movesOn 122 = .ok (.ifCond .eq 70, 3) := by decide +kernel
theorem dX7_movesOn_125 : decode cX7_movesOn 125 = .ok (.aload_n 0, 1) := by decide +kernel
theorem dX7_movesOn_126 : decode cX7_movesOn 126 = .ok (.getfield 9, 3) := by decide +kernel
theorem dX7_movesOn_129 : decode cX7_movesOn 129 = .ok (.iload_n 1, 1) := by decide +kernel
theorem dX7_movesOn_130 : decode cX7_movesOn 130 = .ok (.iconst 1, 1) := by decide +kernel
theorem dX7_movesOn_131 : decode cX7_movesOn 131 = .ok (.invokestatic 119, 3) := by decide +kernel
theorem dX7_movesOn_134 : decode cX7_movesOn 134 = .ok (.iload_n 2, 1) := by decide +kernel
theorem dX7_movesOn_135 : decode cX7_movesOn 135 = .ok (.iastore, 1) := by decide +kernel
theorem dX7_movesOn_136 : decode cX7_movesOn 136 = .ok (.aload_n 0, 1) := by decide +kernel
theorem dX7_movesOn_137 : decode cX7_movesOn 137 = .ok (.getfield 9, 3) := by decide +kernel
theorem dX7_movesOn_140 : decode cX7_movesOn 140 = .ok (.iload_n 3, 1) := by decide +kernel
theorem dX7_movesOn_141 : decode cX7_movesOn 141 = .ok (.iconst 1, 1) := by decide +kernel
theorem dX7_movesOn_142 : decode cX7_movesOn 142 = .ok (.invokestatic 119, 3) := by decide +kernel
theorem dX7_movesOn_145 : decode cX7_movesOn 145 = .ok (.iload 5, 2) := by decide +kernel
theorem dX7_movesOn_147 : decode cX7_movesOn 147 = .ok (.iastore, 1) := by decide +kernel
theorem dX7_movesOn_148 : decode cX7_movesOn 148 = .ok (.aload_n 0, 1) := by decide +kernel
theorem dX7_movesOn_149 : decode cX7_movesOn 149 = .ok (.iload_n 3, 1) := by decide +kernel
theorem dX7_movesOn_150 : decode cX7_movesOn 150 = .ok (.bipush 7, 2) := by decide +kernel
theorem dX7_movesOn_152 : decode cX7_movesOn 152 = .ok (.invokestatic 119, 3) := by decide +kernel
theorem dX7_movesOn_155 : decode cX7_movesOn 155 = .ok (.invokevirtual 188, 3) := by decide +kernel
theorem dX7_movesOn_158 : decode cX7_movesOn 158 = .ok (.aload_n 0, 1) := by decide +kernel
theorem dX7_movesOn_159 : decode cX7_movesOn 159 = .ok (.dup, 1) := by decide +kernel
theorem dX7_movesOn_160 : decode cX7_movesOn 160 = .ok (.getfield 181, 3) := by decide +kernel
theorem dX7_movesOn_163 : decode cX7_movesOn 163 = .ok (.iconst 1, 1) := by decide +kernel
theorem dX7_movesOn_164 : decode cX7_movesOn 164 = .ok (.iadd, 1) := by decide +kernel
theorem dX7_movesOn_165 : decode cX7_movesOn 165 = .ok (.putfield 181, 3) := by decide +kernel
theorem dX7_movesOn_168 : decode cX7_movesOn 168 = .ok (.aload_n 0, 1) := by decide +kernel
theorem dX7_movesOn_169 : decode cX7_movesOn 169 = .ok (.dup, 1) := by decide +kernel
theorem dX7_movesOn_170 : decode cX7_movesOn 170 = .ok (.getfield 192, 3) := by decide +kernel
theorem dX7_movesOn_173 : decode cX7_movesOn 173 = .ok (.iload_n 3, 1) := by decide +kernel
theorem dX7_movesOn_174 : decode cX7_movesOn 174 = .ok (.aload_n 0, 1) := by decide +kernel
theorem dX7_movesOn_175 : decode cX7_movesOn 175 = .ok (.getfield 195, 3) := by decide +kernel
theorem dX7_movesOn_178 : decode cX7_movesOn 178 = .ok (.if_icmp .ne 7, 3) := by decide +kernel
theorem dX7_movesOn_181 : decode cX7_movesOn 181 = .ok (.iconst 1, 1) := by decide +kernel
theorem dX7_movesOn_182 : decode cX7_movesOn 182 = .ok (.goto 4, 3) := by decide +kernel
theorem dX7_movesOn_185 : decode cX7_movesOn 185 = .ok (.iconst 0, 1) := by decide +kernel
theorem dX7_movesOn_186 : decode cX7_movesOn 186 = .ok (.iadd, 1) := by decide +kernel
theorem dX7_movesOn_187 : decode cX7_movesOn 187 = .ok (.putfield 192, 3) := by decide +kernel
theorem dX7_movesOn_190 : decode cX7_movesOn 190 = .ok (.iconst 1, 1) := by decide +kernel
theorem dX7_movesOn_191 : decode cX7_movesOn 191 = .ok (.ireturn, 1) := by decide +kernel
theorem dX7_movesOn_192 : decode cX7_movesOn 192 = .ok (.aload_n 0, 1) := by decide +kernel
theorem dX7_movesOn_193 : decode cX7_movesOn 193 = .ok (.iload_n 1, 1) := by decide +kernel
theorem dX7_movesOn_194 : decode cX7_movesOn 194 = .ok (.bipush 6, 2) := by decide +kernel
theorem dX7_movesOn_196 : decode cX7_movesOn 196 = .ok (.invokestatic 119, 3) := by decide +kernel
theorem dX7_movesOn_199 : decode cX7_movesOn 199 = .ok (.invokevirtual 188, 3) := by decide +kernel
theorem dX7_movesOn_202 : decode cX7_movesOn 202 = .ok (.aload_n 0, 1) := by decide +kernel
theorem dX7_movesOn_203 : decode cX7_movesOn 203 = .ok (.aload_n 0, 1) := by decide +kernel
theorem dX7_movesOn_204 : decode cX7_movesOn 204 = .ok (.getfield 198, 3) := by decide +kernel
theorem dX7_movesOn_207 : decode cX7_movesOn 207 = .ok (.ifCond .ge 7, 3) := by decide +kernel
theorem dX7_movesOn_210 : decode cX7_movesOn 210 = .ok (.iload_n 1, 1) := by decide +kernel
theorem dX7_movesOn_211 : decode cX7_movesOn 211 = .ok (.goto 7, 3) := by decide +kernel
theorem dX7_movesOn_214 : decode cX7_movesOn 214 = .ok (.aload_n 0, 1) := by decide +kernel
theorem dX7_movesOn_215 : decode cX7_movesOn 215 = .ok (.getfield 198, 3) := by decide +kernel
theorem dX7_movesOn_218 : decode cX7_movesOn 218 = .ok (.putfield 198, 3) := by decide +kernel
theorem dX7_movesOn_221 : decode cX7_movesOn 221 = .ok (.iconst 0, 1) := by decide +kernel
theorem dX7_movesOn_222 : decode cX7_movesOn 222 = .ok (.ireturn, 1) := by decide +kernel
set_option maxHeartbeats 800000 in
set_option maxRecDepth 100000 in
theorem c_X7_movesOn {l : Launch} {ω : xO} {ks : Nat → Option Nat} (hm : xsh ω = mdS ks) {p : Int} {M : xMem} (hI : MInv M) (hf : Fc M) (hp : 0 ≤ p ∧ p < M 1 1) : Cq l ω yX7_movesOn ({ frames := 5, cells := 0, slots := 0, locals := 108 } : Room) 6 1 [.ref (xad ω 0), .int (iI p)] M (pI1 (fun r N' => r = bI (gonN M p) ∧ CaE (mvN M p) N')) := by
  refine Cq.of (bytes := cX7_movesOn) (ret := (some .boolean)) (lv0 := [some (.ref (xad ω 0)), some (.int (iI p)), none, none, none, none]) m_cd_X7_movesOn m_in_X7 (by decide +kernel) (by decide +kernel) rfl rfl rfl rfl ?_
  intro κ h he hR
  have hn := hI.1
  have hk := hI.2.1
  have hL := hI.2.2.1
  have ip := hI.2.2.2 p hp.1 hp.2
  have hw := wnN_R hI hp
  have hpm := pmN_R hI hp
  have g09 : inR (M 0 9) := hR 0 9
  have g08 : inR (M 0 8) := hR 0 8
  refine x_aload_n h dX7_movesOn_0 rfl ?_
  refine x_iload_n h dX7_movesOn_1 rfl ?_
  refine x_Q1i h dX7_movesOn_2 m_ml_X7_178 m_im_X7_wants m_se_X7_wants (sM0 hm) rfl (by decide) rfl (c_X7_wants hm (by exact hI) (by assumption) (by first | omega | (simp only [ca_1]; omega))) (fun r2 N2 h2 => ?_)
  obtain ⟨rfl, f2, d2, rfl, c2⟩ := h2
  try simp only [ca_ca, ca_1, dN_ca, wyM_ca, plN_ca, rpN_ca, ltN_ca, pmN_ca, wnN_ca, nbN_ca, ca_07, ca_08, ca_09, ca_010, beN_ca, ctN_ca, gonN_ca, mvN_ca] at c2 ⊢
  refine x_istore_n h dX7_movesOn_5 rfl rfl ?_
  dsimp only [xset]
  refine x_iload_n h dX7_movesOn_6 rfl ?_
  refine x_aload_n h dX7_movesOn_7 rfl ?_
  refine x_iload_n h dX7_movesOn_8 rfl ?_
  refine x_iconst h dX7_movesOn_9 ?_
  refine x_V2i h dX7_movesOn_10 m_ml_X7_133 m_im_X7_personIs m_se_X7_personIs (sM0 hm) rfl (by decide) rfl (c_X7_personIs hm (by omega) (by omega)) ?_
  try simp only [ca_ca, ca_1, dN_ca, wyM_ca, plN_ca, rpN_ca, ltN_ca, pmN_ca, wnN_ca, nbN_ca, ca_07, ca_08, ca_09, ca_010, beN_ca, ctN_ca, gonN_ca, mvN_ca]
  refine x_icmp_ne h dX7_movesOn_13 (tgt := 18) (by decide) (by omega) (by omega) (fun q13 => ?_) (fun q13 => ?_)
  · refine x_aload_n h dX7_movesOn_18 rfl ?_
    refine x_iload_n h dX7_movesOn_19 rfl ?_
    refine x_iload_n h dX7_movesOn_20 rfl ?_
    refine x_aload_n h dX7_movesOn_21 rfl ?_
    refine x_iload_n h dX7_movesOn_22 rfl ?_
    refine x_V1i h dX7_movesOn_23 m_ml_X7_157 m_im_X7_placeOfMate m_se_X7_placeOfMate (sM0 hm) rfl (by decide) rfl (c_X7_placeOfMate hm (by exact hI) (by first | omega | (simp only [ca_1]; omega))) ?_
    try simp only [ca_ca, ca_1, dN_ca, wyM_ca, plN_ca, rpN_ca, ltN_ca, pmN_ca, wnN_ca, nbN_ca, ca_07, ca_08, ca_09, ca_010, beN_ca, ctN_ca, gonN_ca, mvN_ca]
    refine x_Q3i h dX7_movesOn_26 m_ml_X7_160 m_im_X7_lets m_se_X7_lets (sM0 hm) rfl (by decide) rfl (c_X7_lets hm (by exact hI) (by assumption) (by first | omega | (simp only [ca_1]; omega)) (by first | omega | (simp only [ca_1]; omega)) (by first | omega | (simp only [ca_1]; omega))) (fun r26 N26 h26 => ?_)
    obtain ⟨rfl, f26, d26, rfl, c26⟩ := h26
    try simp only [ca_ca, ca_1, dN_ca, wyM_ca, plN_ca, rpN_ca, ltN_ca, pmN_ca, wnN_ca, nbN_ca, ca_07, ca_08, ca_09, ca_010, beN_ca, ctN_ca, gonN_ca, mvN_ca] at c26 ⊢
    refine x_ifeqB h dX7_movesOn_29 (tgt := 55) (by decide) (fun q29 => ?_) (fun q29 => ?_)
    · have hmt : 0 ≤ M 1 (113 + 8 * p + 3) := by unfold ltN at q29; omega
      have im := hI.2.2.2 _ hmt (by omega)
      refine x_aload_n h dX7_movesOn_55 rfl ?_
      refine x_iload_n h dX7_movesOn_56 rfl ?_
      refine x_iconst h dX7_movesOn_57 ?_
      refine x_V2i h dX7_movesOn_58 m_ml_X7_133 m_im_X7_personIs m_se_X7_personIs (sM0 hm) rfl (by decide) rfl (c_X7_personIs hm (by omega) (by omega)) ?_
      try simp only [ca_ca, ca_1, dN_ca, wyM_ca, plN_ca, rpN_ca, ltN_ca, pmN_ca, wnN_ca, nbN_ca, ca_07, ca_08, ca_09, ca_010, beN_ca, ctN_ca, gonN_ca, mvN_ca]
      refine x_istore_n h dX7_movesOn_61 rfl rfl ?_
      dsimp only [xset]
      refine x_aload_n h dX7_movesOn_62 rfl ?_
      refine x_iload_n h dX7_movesOn_63 rfl ?_
      refine x_iconst h dX7_movesOn_64 ?_
      refine x_V2i h dX7_movesOn_65 m_ml_X7_133 m_im_X7_personIs m_se_X7_personIs (sM0 hm) rfl (by decide) rfl (c_X7_personIs hm (by omega) (by omega)) ?_
      try simp only [ca_ca, ca_1, dN_ca, wyM_ca, plN_ca, rpN_ca, ltN_ca, pmN_ca, wnN_ca, nbN_ca, ca_07, ca_08, ca_09, ca_010, beN_ca, ctN_ca, gonN_ca, mvN_ca]
      refine x_istore h dX7_movesOn_68 rfl rfl ?_
      dsimp only [xset]
      refine x_aload_n h dX7_movesOn_70 rfl ?_
      refine x_iload h dX7_movesOn_71 rfl ?_
      refine x_iload_n h dX7_movesOn_73 rfl ?_
      refine x_Q2i h dX7_movesOn_74 m_ml_X7_185 m_im_X7_nearestBeside m_se_X7_nearestBeside (sM0 hm) rfl (by decide) rfl (c_X7_nearestBeside hm (by exact hI) (by assumption) (by first | omega | (simp only [ca_1]; omega)) (by first | omega | (simp only [ca_1]; omega))) (fun r74 N74 h74 => ?_)
      obtain ⟨rfl, f74, d74, rfl, c74⟩ := h74
      try simp only [ca_ca, ca_1, dN_ca, wyM_ca, plN_ca, rpN_ca, ltN_ca, pmN_ca, wnN_ca, nbN_ca, ca_07, ca_08, ca_09, ca_010, beN_ca, ctN_ca, gonN_ca, mvN_ca] at c74 ⊢
      have hbR := nbN_R M (M 1 (113 + 8 * M 1 (113 + 8 * p + 3) + 1)) (wnN M p)
      rw [show nbN M (M 1 (113 + 8 * M 1 (113 + 8 * p + 3) + 1)) (wnN M p) = beN M p from rfl]
      have hbR2 : -1 ≤ beN M p ∧ beN M p < 10 := hbR
      refine x_istore h dX7_movesOn_77 rfl rfl ?_
      dsimp only [xset]
      have pl1 := plN_R hI hp
      have pl2 := plN_R hI (p := M 1 (113 + 8 * p + 3)) (by omega)
      refine x_aload_n h dX7_movesOn_79 rfl ?_
      refine x_iload_n h dX7_movesOn_80 rfl ?_
      refine x_V1i h dX7_movesOn_81 m_ml_X7_151 m_im_X7_pullsOf m_se_X7_pullsOf (sM0 hm) rfl (by decide) rfl (c_X7_pullsOf hm (by exact hI) (by first | omega | (simp only [ca_1]; omega))) ?_
      try simp only [ca_ca, ca_1, dN_ca, wyM_ca, plN_ca, rpN_ca, ltN_ca, pmN_ca, wnN_ca, nbN_ca, ca_07, ca_08, ca_09, ca_010, beN_ca, ctN_ca, gonN_ca, mvN_ca]
      refine x_aload_n h dX7_movesOn_84 rfl ?_
      refine x_iload_n h dX7_movesOn_85 rfl ?_
      refine x_V1i h dX7_movesOn_86 m_ml_X7_151 m_im_X7_pullsOf m_se_X7_pullsOf (sM0 hm) rfl (by decide) rfl (c_X7_pullsOf hm (by exact hI) (by first | omega | (simp only [ca_1]; omega))) ?_
      try simp only [ca_ca, ca_1, dN_ca, wyM_ca, plN_ca, rpN_ca, ltN_ca, pmN_ca, wnN_ca, nbN_ca, ca_07, ca_08, ca_09, ca_010, beN_ca, ctN_ca, gonN_ca, mvN_ca]
      refine x_icmp_le h dX7_movesOn_89 (tgt := 192) (by decide) (by omega) (by omega) (fun q89 => ?_) (fun q89 => ?_)
      · have hct : ¬ ctN M p := by
          intro z
          obtain ⟨z1, z2, z3, z4⟩ := z
          first | omega | exact absurd z4 (by assumption)
        refine x_aload_n h dX7_movesOn_192 rfl ?_
        refine x_iload_n h dX7_movesOn_193 rfl ?_
        refine x_bipush h dX7_movesOn_194 (by decide) ?_
        refine x_S2i h dX7_movesOn_196 m_ml_X7_119 m_st_X7_at (by decide) rfl (c_X7_at hm) ?_
        try simp only [ca_ca, ca_1, dN_ca, wyM_ca, plN_ca, rpN_ca, ltN_ca, pmN_ca, wnN_ca, nbN_ca, ca_07, ca_08, ca_09, ca_010, beN_ca, ctN_ca, gonN_ca, mvN_ca]
        refine x_V1v h dX7_movesOn_199 m_ml_X7_188 m_im_X7_counts m_se_X7_counts (sM0 hm) rfl (by decide) rfl (c_X7_counts hm (by first | omega | (simp only [ca_1]; omega)) (by first | omega | (simp only [ca_1]; omega))) ?_
        try simp only [up_ca1, up_ca07, up_ca08, up_ca09, up_ca010, up_10, up_01, up_0709, up_0710, ca_ca, ca_1, dN_ca, wyM_ca, plN_ca, rpN_ca, ltN_ca, pmN_ca, wnN_ca, nbN_ca, ca_07, ca_08, ca_09, ca_010, beN_ca, ctN_ca, gonN_ca, mvN_ca]
        refine x_aload_n h dX7_movesOn_202 rfl ?_
        refine x_aload_n h dX7_movesOn_203 rfl ?_
        refine x_geti (j := 8) 8 h dX7_movesOn_204 (sM0 hm) rfl in_X7 rfl (by decide) m_fl_X7_198 rfl (fun r204 => ?_)
        try simp only [up_ca1, up_ca07, up_ca08, up_ca09, up_ca010, up_10, up_01, up_0709, up_0710, ca_ca, ca_1, dN_ca, wyM_ca, plN_ca, rpN_ca, ltN_ca, pmN_ca, wnN_ca, nbN_ca, ca_07, ca_08, ca_09, ca_010, beN_ca, ctN_ca, gonN_ca, mvN_ca]
        refine x_if_ge h dX7_movesOn_207 (tgt := 214) (by decide) (by omega) (fun q207 => ?_) (fun q207 => ?_)
        · refine x_aload_n h dX7_movesOn_214 rfl ?_
          refine x_geti (j := 8) 8 h dX7_movesOn_215 (sM0 hm) rfl in_X7 rfl (by decide) m_fl_X7_198 rfl (fun r215 => ?_)
          try simp only [up_ca1, up_ca07, up_ca08, up_ca09, up_ca010, up_10, up_01, up_0709, up_0710, ca_ca, ca_1, dN_ca, wyM_ca, plN_ca, rpN_ca, ltN_ca, pmN_ca, wnN_ca, nbN_ca, ca_07, ca_08, ca_09, ca_010, beN_ca, ctN_ca, gonN_ca, mvN_ca]
          refine x_puti (j := 8) 8 h dX7_movesOn_218 (sM0 hm) rfl in_X7 rfl (by decide) m_fl_X7_198 tyX7_ok nmX7 rfl (tyX7_ok 8 (by decide)) rfl rfl (by omega) rfl ?_
          try simp only [up_ca1, up_ca07, up_ca08, up_ca09, up_ca010, up_10, up_01, up_0709, up_0710, ca_ca, ca_1, dN_ca, wyM_ca, plN_ca, rpN_ca, ltN_ca, pmN_ca, wnN_ca, nbN_ca, ca_07, ca_08, ca_09, ca_010, beN_ca, ctN_ca, gonN_ca, mvN_ca]
          refine x_iconst h dX7_movesOn_221 ?_
          first
            | rw [← hl_p q207]
            | rw [← hl_n q207]
          exact x_zretq h he dX7_movesOn_222 (by first | exact Or.inl rfl | exact Or.inr rfl | exact bI_01 _ | omega) ⟨(bI_f (fun z => z.2.elim q29 hct)).symm, by rw [mvN_4 q13 q29 hct]; exact ⟨_, _, rfl, Fc_e ((congrArg wyM (mvN_4 q13 q29 hct)).symm.trans (mvN_y hp.1)) (by assumption)⟩⟩
        · refine x_iload_n h dX7_movesOn_210 rfl ?_
          refine x_goto h dX7_movesOn_211 (tgt := 218) (by decide) ?_
          try simp only [up_ca1, up_ca07, up_ca08, up_ca09, up_ca010, up_10, up_01, up_0709, up_0710, ca_ca, ca_1, dN_ca, wyM_ca, plN_ca, rpN_ca, ltN_ca, pmN_ca, wnN_ca, nbN_ca, ca_07, ca_08, ca_09, ca_010, beN_ca, ctN_ca, gonN_ca, mvN_ca]
          refine x_puti (j := 8) 8 h dX7_movesOn_218 (sM0 hm) rfl in_X7 rfl (by decide) m_fl_X7_198 tyX7_ok nmX7 rfl (tyX7_ok 8 (by decide)) rfl rfl (by omega) rfl ?_
          try simp only [up_ca1, up_ca07, up_ca08, up_ca09, up_ca010, up_10, up_01, up_0709, up_0710, ca_ca, ca_1, dN_ca, wyM_ca, plN_ca, rpN_ca, ltN_ca, pmN_ca, wnN_ca, nbN_ca, ca_07, ca_08, ca_09, ca_010, beN_ca, ctN_ca, gonN_ca, mvN_ca]
          refine x_iconst h dX7_movesOn_221 ?_
          first
            | rw [← hl_p q207]
            | rw [← hl_n q207]
          exact x_zretq h he dX7_movesOn_222 (by first | exact Or.inl rfl | exact Or.inr rfl | exact bI_01 _ | omega) ⟨(bI_f (fun z => z.2.elim q29 hct)).symm, by rw [mvN_4 q13 q29 hct]; exact ⟨_, _, rfl, Fc_e ((congrArg wyM (mvN_4 q13 q29 hct)).symm.trans (mvN_y hp.1)) (by assumption)⟩⟩
      · refine x_iload h dX7_movesOn_92 rfl ?_
        refine x_if_lt h dX7_movesOn_94 (tgt := 192) (by decide) (by omega) (fun q94 => ?_) (fun q94 => ?_)
        · have hct : ¬ ctN M p := by
            intro z
            obtain ⟨z1, z2, z3, z4⟩ := z
            first | omega | exact absurd z4 (by assumption)
          refine x_aload_n h dX7_movesOn_192 rfl ?_
          refine x_iload_n h dX7_movesOn_193 rfl ?_
          refine x_bipush h dX7_movesOn_194 (by decide) ?_
          refine x_S2i h dX7_movesOn_196 m_ml_X7_119 m_st_X7_at (by decide) rfl (c_X7_at hm) ?_
          try simp only [ca_ca, ca_1, dN_ca, wyM_ca, plN_ca, rpN_ca, ltN_ca, pmN_ca, wnN_ca, nbN_ca, ca_07, ca_08, ca_09, ca_010, beN_ca, ctN_ca, gonN_ca, mvN_ca]
          refine x_V1v h dX7_movesOn_199 m_ml_X7_188 m_im_X7_counts m_se_X7_counts (sM0 hm) rfl (by decide) rfl (c_X7_counts hm (by first | omega | (simp only [ca_1]; omega)) (by first | omega | (simp only [ca_1]; omega))) ?_
          try simp only [up_ca1, up_ca07, up_ca08, up_ca09, up_ca010, up_10, up_01, up_0709, up_0710, ca_ca, ca_1, dN_ca, wyM_ca, plN_ca, rpN_ca, ltN_ca, pmN_ca, wnN_ca, nbN_ca, ca_07, ca_08, ca_09, ca_010, beN_ca, ctN_ca, gonN_ca, mvN_ca]
          refine x_aload_n h dX7_movesOn_202 rfl ?_
          refine x_aload_n h dX7_movesOn_203 rfl ?_
          refine x_geti (j := 8) 8 h dX7_movesOn_204 (sM0 hm) rfl in_X7 rfl (by decide) m_fl_X7_198 rfl (fun r204 => ?_)
          try simp only [up_ca1, up_ca07, up_ca08, up_ca09, up_ca010, up_10, up_01, up_0709, up_0710, ca_ca, ca_1, dN_ca, wyM_ca, plN_ca, rpN_ca, ltN_ca, pmN_ca, wnN_ca, nbN_ca, ca_07, ca_08, ca_09, ca_010, beN_ca, ctN_ca, gonN_ca, mvN_ca]
          refine x_if_ge h dX7_movesOn_207 (tgt := 214) (by decide) (by omega) (fun q207 => ?_) (fun q207 => ?_)
          · refine x_aload_n h dX7_movesOn_214 rfl ?_
            refine x_geti (j := 8) 8 h dX7_movesOn_215 (sM0 hm) rfl in_X7 rfl (by decide) m_fl_X7_198 rfl (fun r215 => ?_)
            try simp only [up_ca1, up_ca07, up_ca08, up_ca09, up_ca010, up_10, up_01, up_0709, up_0710, ca_ca, ca_1, dN_ca, wyM_ca, plN_ca, rpN_ca, ltN_ca, pmN_ca, wnN_ca, nbN_ca, ca_07, ca_08, ca_09, ca_010, beN_ca, ctN_ca, gonN_ca, mvN_ca]
            refine x_puti (j := 8) 8 h dX7_movesOn_218 (sM0 hm) rfl in_X7 rfl (by decide) m_fl_X7_198 tyX7_ok nmX7 rfl (tyX7_ok 8 (by decide)) rfl rfl (by omega) rfl ?_
            try simp only [up_ca1, up_ca07, up_ca08, up_ca09, up_ca010, up_10, up_01, up_0709, up_0710, ca_ca, ca_1, dN_ca, wyM_ca, plN_ca, rpN_ca, ltN_ca, pmN_ca, wnN_ca, nbN_ca, ca_07, ca_08, ca_09, ca_010, beN_ca, ctN_ca, gonN_ca, mvN_ca]
            refine x_iconst h dX7_movesOn_221 ?_
            first
              | rw [← hl_p q207]
              | rw [← hl_n q207]
            exact x_zretq h he dX7_movesOn_222 (by first | exact Or.inl rfl | exact Or.inr rfl | exact bI_01 _ | omega) ⟨(bI_f (fun z => z.2.elim q29 hct)).symm, by rw [mvN_4 q13 q29 hct]; exact ⟨_, _, rfl, Fc_e ((congrArg wyM (mvN_4 q13 q29 hct)).symm.trans (mvN_y hp.1)) (by assumption)⟩⟩
          · refine x_iload_n h dX7_movesOn_210 rfl ?_
            refine x_goto h dX7_movesOn_211 (tgt := 218) (by decide) ?_
            try simp only [up_ca1, up_ca07, up_ca08, up_ca09, up_ca010, up_10, up_01, up_0709, up_0710, ca_ca, ca_1, dN_ca, wyM_ca, plN_ca, rpN_ca, ltN_ca, pmN_ca, wnN_ca, nbN_ca, ca_07, ca_08, ca_09, ca_010, beN_ca, ctN_ca, gonN_ca, mvN_ca]
            refine x_puti (j := 8) 8 h dX7_movesOn_218 (sM0 hm) rfl in_X7 rfl (by decide) m_fl_X7_198 tyX7_ok nmX7 rfl (tyX7_ok 8 (by decide)) rfl rfl (by omega) rfl ?_
            try simp only [up_ca1, up_ca07, up_ca08, up_ca09, up_ca010, up_10, up_01, up_0709, up_0710, ca_ca, ca_1, dN_ca, wyM_ca, plN_ca, rpN_ca, ltN_ca, pmN_ca, wnN_ca, nbN_ca, ca_07, ca_08, ca_09, ca_010, beN_ca, ctN_ca, gonN_ca, mvN_ca]
            refine x_iconst h dX7_movesOn_221 ?_
            first
              | rw [← hl_p q207]
              | rw [← hl_n q207]
            exact x_zretq h he dX7_movesOn_222 (by first | exact Or.inl rfl | exact Or.inr rfl | exact bI_01 _ | omega) ⟨(bI_f (fun z => z.2.elim q29 hct)).symm, by rw [mvN_4 q13 q29 hct]; exact ⟨_, _, rfl, Fc_e ((congrArg wyM (mvN_4 q13 q29 hct)).symm.trans (mvN_y hp.1)) (by assumption)⟩⟩
        · have hd1 := dN_B hL (10 * beN M p + wnN M p) (by omega) (by omega)
          have hd2 := dN_B hL (10 * M 1 (113 + 8 * M 1 (113 + 8 * p + 3) + 1) + wnN M p) (by omega) (by omega)
          refine x_aload_n h dX7_movesOn_97 rfl ?_
          refine x_iload h dX7_movesOn_98 rfl ?_
          refine x_iload_n h dX7_movesOn_100 rfl ?_
          refine x_Q2i h dX7_movesOn_101 m_ml_X7_116 m_im_X7_farFrom m_se_X7_farFrom (sM0 hm) rfl (by decide) rfl (c_X7_farFrom hm (by exact hL) (by assumption) (by first | omega | (simp only [ca_1]; omega)) (by first | omega | (simp only [ca_1]; omega))) (fun r101 N101 h101 => ?_)
          obtain ⟨rfl, f101, d101, rfl, c101⟩ := h101
          try simp only [ca_ca, ca_1, dN_ca, wyM_ca, plN_ca, rpN_ca, ltN_ca, pmN_ca, wnN_ca, nbN_ca, ca_07, ca_08, ca_09, ca_010, beN_ca, ctN_ca, gonN_ca, mvN_ca] at c101 ⊢
          refine x_aload_n h dX7_movesOn_104 rfl ?_
          refine x_iload h dX7_movesOn_105 rfl ?_
          refine x_iload_n h dX7_movesOn_107 rfl ?_
          refine x_Q2i h dX7_movesOn_108 m_ml_X7_116 m_im_X7_farFrom m_se_X7_farFrom (sM0 hm) rfl (by decide) rfl (c_X7_farFrom hm (by exact hL) (by assumption) (by first | omega | (simp only [ca_1]; omega)) (by first | omega | (simp only [ca_1]; omega))) (fun r108 N108 h108 => ?_)
          obtain ⟨rfl, f108, d108, rfl, c108⟩ := h108
          try simp only [ca_ca, ca_1, dN_ca, wyM_ca, plN_ca, rpN_ca, ltN_ca, pmN_ca, wnN_ca, nbN_ca, ca_07, ca_08, ca_09, ca_010, beN_ca, ctN_ca, gonN_ca, mvN_ca] at c108 ⊢
          refine x_icmp_ge h dX7_movesOn_111 (tgt := 192) (by decide) (by omega) (by omega) (fun q111 => ?_) (fun q111 => ?_)
          · have hct : ¬ ctN M p := by
              intro z
              obtain ⟨z1, z2, z3, z4⟩ := z
              first | omega | exact absurd z4 (by assumption)
            refine x_aload_n h dX7_movesOn_192 rfl ?_
            refine x_iload_n h dX7_movesOn_193 rfl ?_
            refine x_bipush h dX7_movesOn_194 (by decide) ?_
            refine x_S2i h dX7_movesOn_196 m_ml_X7_119 m_st_X7_at (by decide) rfl (c_X7_at hm) ?_
            try simp only [ca_ca, ca_1, dN_ca, wyM_ca, plN_ca, rpN_ca, ltN_ca, pmN_ca, wnN_ca, nbN_ca, ca_07, ca_08, ca_09, ca_010, beN_ca, ctN_ca, gonN_ca, mvN_ca]
            refine x_V1v h dX7_movesOn_199 m_ml_X7_188 m_im_X7_counts m_se_X7_counts (sM0 hm) rfl (by decide) rfl (c_X7_counts hm (by first | omega | (simp only [ca_1]; omega)) (by first | omega | (simp only [ca_1]; omega))) ?_
            try simp only [up_ca1, up_ca07, up_ca08, up_ca09, up_ca010, up_10, up_01, up_0709, up_0710, ca_ca, ca_1, dN_ca, wyM_ca, plN_ca, rpN_ca, ltN_ca, pmN_ca, wnN_ca, nbN_ca, ca_07, ca_08, ca_09, ca_010, beN_ca, ctN_ca, gonN_ca, mvN_ca]
            refine x_aload_n h dX7_movesOn_202 rfl ?_
            refine x_aload_n h dX7_movesOn_203 rfl ?_
            refine x_geti (j := 8) 8 h dX7_movesOn_204 (sM0 hm) rfl in_X7 rfl (by decide) m_fl_X7_198 rfl (fun r204 => ?_)
            try simp only [up_ca1, up_ca07, up_ca08, up_ca09, up_ca010, up_10, up_01, up_0709, up_0710, ca_ca, ca_1, dN_ca, wyM_ca, plN_ca, rpN_ca, ltN_ca, pmN_ca, wnN_ca, nbN_ca, ca_07, ca_08, ca_09, ca_010, beN_ca, ctN_ca, gonN_ca, mvN_ca]
            refine x_if_ge h dX7_movesOn_207 (tgt := 214) (by decide) (by omega) (fun q207 => ?_) (fun q207 => ?_)
            · refine x_aload_n h dX7_movesOn_214 rfl ?_
              refine x_geti (j := 8) 8 h dX7_movesOn_215 (sM0 hm) rfl in_X7 rfl (by decide) m_fl_X7_198 rfl (fun r215 => ?_)
              try simp only [up_ca1, up_ca07, up_ca08, up_ca09, up_ca010, up_10, up_01, up_0709, up_0710, ca_ca, ca_1, dN_ca, wyM_ca, plN_ca, rpN_ca, ltN_ca, pmN_ca, wnN_ca, nbN_ca, ca_07, ca_08, ca_09, ca_010, beN_ca, ctN_ca, gonN_ca, mvN_ca]
              refine x_puti (j := 8) 8 h dX7_movesOn_218 (sM0 hm) rfl in_X7 rfl (by decide) m_fl_X7_198 tyX7_ok nmX7 rfl (tyX7_ok 8 (by decide)) rfl rfl (by omega) rfl ?_
              try simp only [up_ca1, up_ca07, up_ca08, up_ca09, up_ca010, up_10, up_01, up_0709, up_0710, ca_ca, ca_1, dN_ca, wyM_ca, plN_ca, rpN_ca, ltN_ca, pmN_ca, wnN_ca, nbN_ca, ca_07, ca_08, ca_09, ca_010, beN_ca, ctN_ca, gonN_ca, mvN_ca]
              refine x_iconst h dX7_movesOn_221 ?_
              first
                | rw [← hl_p q207]
                | rw [← hl_n q207]
              exact x_zretq h he dX7_movesOn_222 (by first | exact Or.inl rfl | exact Or.inr rfl | exact bI_01 _ | omega) ⟨(bI_f (fun z => z.2.elim q29 hct)).symm, by rw [mvN_4 q13 q29 hct]; exact ⟨_, _, rfl, Fc_e ((congrArg wyM (mvN_4 q13 q29 hct)).symm.trans (mvN_y hp.1)) (by assumption)⟩⟩
            · refine x_iload_n h dX7_movesOn_210 rfl ?_
              refine x_goto h dX7_movesOn_211 (tgt := 218) (by decide) ?_
              try simp only [up_ca1, up_ca07, up_ca08, up_ca09, up_ca010, up_10, up_01, up_0709, up_0710, ca_ca, ca_1, dN_ca, wyM_ca, plN_ca, rpN_ca, ltN_ca, pmN_ca, wnN_ca, nbN_ca, ca_07, ca_08, ca_09, ca_010, beN_ca, ctN_ca, gonN_ca, mvN_ca]
              refine x_puti (j := 8) 8 h dX7_movesOn_218 (sM0 hm) rfl in_X7 rfl (by decide) m_fl_X7_198 tyX7_ok nmX7 rfl (tyX7_ok 8 (by decide)) rfl rfl (by omega) rfl ?_
              try simp only [up_ca1, up_ca07, up_ca08, up_ca09, up_ca010, up_10, up_01, up_0709, up_0710, ca_ca, ca_1, dN_ca, wyM_ca, plN_ca, rpN_ca, ltN_ca, pmN_ca, wnN_ca, nbN_ca, ca_07, ca_08, ca_09, ca_010, beN_ca, ctN_ca, gonN_ca, mvN_ca]
              refine x_iconst h dX7_movesOn_221 ?_
              first
                | rw [← hl_p q207]
                | rw [← hl_n q207]
              exact x_zretq h he dX7_movesOn_222 (by first | exact Or.inl rfl | exact Or.inr rfl | exact bI_01 _ | omega) ⟨(bI_f (fun z => z.2.elim q29 hct)).symm, by rw [mvN_4 q13 q29 hct]; exact ⟨_, _, rfl, Fc_e ((congrArg wyM (mvN_4 q13 q29 hct)).symm.trans (mvN_y hp.1)) (by assumption)⟩⟩
          · refine x_aload_n h dX7_movesOn_114 rfl ?_
            refine x_iload_n h dX7_movesOn_115 rfl ?_
            refine x_iload_n h dX7_movesOn_116 rfl ?_
            refine x_iload h dX7_movesOn_117 rfl ?_
            refine x_Q3i h dX7_movesOn_119 m_ml_X7_160 m_im_X7_lets m_se_X7_lets (sM0 hm) rfl (by decide) rfl (c_X7_lets hm (by exact hI) (by assumption) (by first | omega | (simp only [ca_1]; omega)) (by first | omega | (simp only [ca_1]; omega)) (by first | omega | (simp only [ca_1]; omega))) (fun r119 N119 h119 => ?_)
            obtain ⟨rfl, f119, d119, rfl, c119⟩ := h119
            try simp only [ca_ca, ca_1, dN_ca, wyM_ca, plN_ca, rpN_ca, ltN_ca, pmN_ca, wnN_ca, nbN_ca, ca_07, ca_08, ca_09, ca_010, beN_ca, ctN_ca, gonN_ca, mvN_ca] at c119 ⊢
            refine x_ifeqB h dX7_movesOn_122 (tgt := 192) (by decide) (fun q122 => ?_) (fun q122 => ?_)
            · have hct : ¬ ctN M p := by
                intro z
                obtain ⟨z1, z2, z3, z4⟩ := z
                first | omega | exact absurd z4 (by assumption)
              refine x_aload_n h dX7_movesOn_192 rfl ?_
              refine x_iload_n h dX7_movesOn_193 rfl ?_
              refine x_bipush h dX7_movesOn_194 (by decide) ?_
              refine x_S2i h dX7_movesOn_196 m_ml_X7_119 m_st_X7_at (by decide) rfl (c_X7_at hm) ?_
              try simp only [ca_ca, ca_1, dN_ca, wyM_ca, plN_ca, rpN_ca, ltN_ca, pmN_ca, wnN_ca, nbN_ca, ca_07, ca_08, ca_09, ca_010, beN_ca, ctN_ca, gonN_ca, mvN_ca]
              refine x_V1v h dX7_movesOn_199 m_ml_X7_188 m_im_X7_counts m_se_X7_counts (sM0 hm) rfl (by decide) rfl (c_X7_counts hm (by first | omega | (simp only [ca_1]; omega)) (by first | omega | (simp only [ca_1]; omega))) ?_
              try simp only [up_ca1, up_ca07, up_ca08, up_ca09, up_ca010, up_10, up_01, up_0709, up_0710, ca_ca, ca_1, dN_ca, wyM_ca, plN_ca, rpN_ca, ltN_ca, pmN_ca, wnN_ca, nbN_ca, ca_07, ca_08, ca_09, ca_010, beN_ca, ctN_ca, gonN_ca, mvN_ca]
              refine x_aload_n h dX7_movesOn_202 rfl ?_
              refine x_aload_n h dX7_movesOn_203 rfl ?_
              refine x_geti (j := 8) 8 h dX7_movesOn_204 (sM0 hm) rfl in_X7 rfl (by decide) m_fl_X7_198 rfl (fun r204 => ?_)
              try simp only [up_ca1, up_ca07, up_ca08, up_ca09, up_ca010, up_10, up_01, up_0709, up_0710, ca_ca, ca_1, dN_ca, wyM_ca, plN_ca, rpN_ca, ltN_ca, pmN_ca, wnN_ca, nbN_ca, ca_07, ca_08, ca_09, ca_010, beN_ca, ctN_ca, gonN_ca, mvN_ca]
              refine x_if_ge h dX7_movesOn_207 (tgt := 214) (by decide) (by omega) (fun q207 => ?_) (fun q207 => ?_)
              · refine x_aload_n h dX7_movesOn_214 rfl ?_
                refine x_geti (j := 8) 8 h dX7_movesOn_215 (sM0 hm) rfl in_X7 rfl (by decide) m_fl_X7_198 rfl (fun r215 => ?_)
                try simp only [up_ca1, up_ca07, up_ca08, up_ca09, up_ca010, up_10, up_01, up_0709, up_0710, ca_ca, ca_1, dN_ca, wyM_ca, plN_ca, rpN_ca, ltN_ca, pmN_ca, wnN_ca, nbN_ca, ca_07, ca_08, ca_09, ca_010, beN_ca, ctN_ca, gonN_ca, mvN_ca]
                refine x_puti (j := 8) 8 h dX7_movesOn_218 (sM0 hm) rfl in_X7 rfl (by decide) m_fl_X7_198 tyX7_ok nmX7 rfl (tyX7_ok 8 (by decide)) rfl rfl (by omega) rfl ?_
                try simp only [up_ca1, up_ca07, up_ca08, up_ca09, up_ca010, up_10, up_01, up_0709, up_0710, ca_ca, ca_1, dN_ca, wyM_ca, plN_ca, rpN_ca, ltN_ca, pmN_ca, wnN_ca, nbN_ca, ca_07, ca_08, ca_09, ca_010, beN_ca, ctN_ca, gonN_ca, mvN_ca]
                refine x_iconst h dX7_movesOn_221 ?_
                first
                  | rw [← hl_p q207]
                  | rw [← hl_n q207]
                exact x_zretq h he dX7_movesOn_222 (by first | exact Or.inl rfl | exact Or.inr rfl | exact bI_01 _ | omega) ⟨(bI_f (fun z => z.2.elim q29 hct)).symm, by rw [mvN_4 q13 q29 hct]; exact ⟨_, _, rfl, Fc_e ((congrArg wyM (mvN_4 q13 q29 hct)).symm.trans (mvN_y hp.1)) (by assumption)⟩⟩
              · refine x_iload_n h dX7_movesOn_210 rfl ?_
                refine x_goto h dX7_movesOn_211 (tgt := 218) (by decide) ?_
                try simp only [up_ca1, up_ca07, up_ca08, up_ca09, up_ca010, up_10, up_01, up_0709, up_0710, ca_ca, ca_1, dN_ca, wyM_ca, plN_ca, rpN_ca, ltN_ca, pmN_ca, wnN_ca, nbN_ca, ca_07, ca_08, ca_09, ca_010, beN_ca, ctN_ca, gonN_ca, mvN_ca]
                refine x_puti (j := 8) 8 h dX7_movesOn_218 (sM0 hm) rfl in_X7 rfl (by decide) m_fl_X7_198 tyX7_ok nmX7 rfl (tyX7_ok 8 (by decide)) rfl rfl (by omega) rfl ?_
                try simp only [up_ca1, up_ca07, up_ca08, up_ca09, up_ca010, up_10, up_01, up_0709, up_0710, ca_ca, ca_1, dN_ca, wyM_ca, plN_ca, rpN_ca, ltN_ca, pmN_ca, wnN_ca, nbN_ca, ca_07, ca_08, ca_09, ca_010, beN_ca, ctN_ca, gonN_ca, mvN_ca]
                refine x_iconst h dX7_movesOn_221 ?_
                first
                  | rw [← hl_p q207]
                  | rw [← hl_n q207]
                exact x_zretq h he dX7_movesOn_222 (by first | exact Or.inl rfl | exact Or.inr rfl | exact bI_01 _ | omega) ⟨(bI_f (fun z => z.2.elim q29 hct)).symm, by rw [mvN_4 q13 q29 hct]; exact ⟨_, _, rfl, Fc_e ((congrArg wyM (mvN_4 q13 q29 hct)).symm.trans (mvN_y hp.1)) (by assumption)⟩⟩
            · have hct : ctN M p := ⟨by omega, by omega, by omega, by assumption⟩
              refine x_aload_n h dX7_movesOn_125 rfl ?_
              refine x_getr (j := 0) (q := 1) h dX7_movesOn_126 (sM0 hm) rfl in_X7 rfl (by decide) m_fl_X7_9 ?_
              refine x_iload_n h dX7_movesOn_129 rfl ?_
              refine x_iconst h dX7_movesOn_130 ?_
              refine x_S2i h dX7_movesOn_131 m_ml_X7_119 m_st_X7_at (by decide) rfl (c_X7_at hm) ?_
              try simp only [ca_ca, ca_1, dN_ca, wyM_ca, plN_ca, rpN_ca, ltN_ca, pmN_ca, wnN_ca, nbN_ca, ca_07, ca_08, ca_09, ca_010, beN_ca, ctN_ca, gonN_ca, mvN_ca]
              refine x_iload_n h dX7_movesOn_134 rfl ?_
              refine x_iastore h dX7_movesOn_135 (sM1 hm) (by omega) (by omega) ?_
              refine x_aload_n h dX7_movesOn_136 rfl ?_
              refine x_getr (j := 0) (q := 1) h dX7_movesOn_137 (sM0 hm) rfl in_X7 rfl (by decide) m_fl_X7_9 ?_
              refine x_iload_n h dX7_movesOn_140 rfl ?_
              refine x_iconst h dX7_movesOn_141 ?_
              refine x_S2i h dX7_movesOn_142 m_ml_X7_119 m_st_X7_at (by decide) rfl (c_X7_at hm) ?_
              try simp only [ca_ca, ca_1, dN_ca, wyM_ca, plN_ca, rpN_ca, ltN_ca, pmN_ca, wnN_ca, nbN_ca, ca_07, ca_08, ca_09, ca_010, beN_ca, ctN_ca, gonN_ca, mvN_ca]
              refine x_iload h dX7_movesOn_145 rfl ?_
              refine x_iastore h dX7_movesOn_147 (sM1 hm) (by omega) (by omega) ?_
              try simp only [up_ca1, up_ca07, up_ca08, up_ca09, up_ca010, up_10, up_01, up_0709, up_0710, ca_ca, ca_1, dN_ca, wyM_ca, plN_ca, rpN_ca, ltN_ca, pmN_ca, wnN_ca, nbN_ca, ca_07, ca_08, ca_09, ca_010, beN_ca, ctN_ca, gonN_ca, mvN_ca]
              have e7 : up (up M 1 (113 + 8 * p + 1) (wnN M p)) 1 (113 + 8 * M 1 (113 + 8 * p + 3) + 1) (beN M p) 1 (113 + 8 * M 1 (113 + 8 * p + 3) + 7) = M 1 (113 + 8 * M 1 (113 + 8 * p + 3) + 7) := by rw [up_nn (by omega), up_nn (by omega)]
              refine x_aload_n h dX7_movesOn_148 rfl ?_
              refine x_iload_n h dX7_movesOn_149 rfl ?_
              refine x_bipush h dX7_movesOn_150 (by decide) ?_
              refine x_S2i h dX7_movesOn_152 m_ml_X7_119 m_st_X7_at (by decide) rfl (c_X7_at hm) ?_
              try simp only [ca_ca, ca_1, dN_ca, wyM_ca, plN_ca, rpN_ca, ltN_ca, pmN_ca, wnN_ca, nbN_ca, ca_07, ca_08, ca_09, ca_010, beN_ca, ctN_ca, gonN_ca, mvN_ca]
              refine x_V1v h dX7_movesOn_155 m_ml_X7_188 m_im_X7_counts m_se_X7_counts (sM0 hm) rfl (by decide) rfl (c_X7_counts hm (by first | omega | (simp only [ca_1]; omega)) (by first | omega | (simp only [ca_1]; omega))) ?_
              try simp only [up_ca1, up_ca07, up_ca08, up_ca09, up_ca010, up_10, up_01, up_0709, up_0710, ca_ca, ca_1, dN_ca, wyM_ca, plN_ca, rpN_ca, ltN_ca, pmN_ca, wnN_ca, nbN_ca, ca_07, ca_08, ca_09, ca_010, beN_ca, ctN_ca, gonN_ca, mvN_ca]
              refine x_aload_n h dX7_movesOn_158 rfl ?_
              refine x_dup h dX7_movesOn_159 rfl ?_
              refine x_geti (j := 7) 7 h dX7_movesOn_160 (sM0 hm) rfl in_X7 rfl (by decide) m_fl_X7_181 rfl (fun r160 => ?_)
              try simp only [up_ca1, up_ca07, up_ca08, up_ca09, up_ca010, up_10, up_01, up_0709, up_0710, ca_ca, ca_1, dN_ca, wyM_ca, plN_ca, rpN_ca, ltN_ca, pmN_ca, wnN_ca, nbN_ca, ca_07, ca_08, ca_09, ca_010, beN_ca, ctN_ca, gonN_ca, mvN_ca]
              refine x_iconst h dX7_movesOn_163 ?_
              refine x_iadd h dX7_movesOn_164 ?_
              refine x_wr (fun r165 => ?_)
              refine x_puti (j := 7) 7 h dX7_movesOn_165 (sM0 hm) rfl in_X7 rfl (by decide) m_fl_X7_181 tyX7_ok nmX7 rfl (tyX7_ok 7 (by decide)) rfl rfl (wr_R _) rfl ?_
              try simp only [up_ca1, up_ca07, up_ca08, up_ca09, up_ca010, up_10, up_01, up_0709, up_0710, ca_ca, ca_1, dN_ca, wyM_ca, plN_ca, rpN_ca, ltN_ca, pmN_ca, wnN_ca, nbN_ca, ca_07, ca_08, ca_09, ca_010, beN_ca, ctN_ca, gonN_ca, mvN_ca]
              refine x_aload_n h dX7_movesOn_168 rfl ?_
              refine x_dup h dX7_movesOn_169 rfl ?_
              refine x_geti (j := 10) 10 h dX7_movesOn_170 (sM0 hm) rfl in_X7 rfl (by decide) m_fl_X7_192 rfl (fun r170 => ?_)
              try simp only [up_ca1, up_ca07, up_ca08, up_ca09, up_ca010, up_10, up_01, up_0709, up_0710, ca_ca, ca_1, dN_ca, wyM_ca, plN_ca, rpN_ca, ltN_ca, pmN_ca, wnN_ca, nbN_ca, ca_07, ca_08, ca_09, ca_010, beN_ca, ctN_ca, gonN_ca, mvN_ca]
              refine x_iload_n h dX7_movesOn_173 rfl ?_
              refine x_aload_n h dX7_movesOn_174 rfl ?_
              refine x_geti (j := 9) 9 h dX7_movesOn_175 (sM0 hm) rfl in_X7 rfl (by decide) m_fl_X7_195 rfl (fun r175 => ?_)
              try simp only [up_ca1, up_ca07, up_ca08, up_ca09, up_ca010, up_10, up_01, up_0709, up_0710, ca_ca, ca_1, dN_ca, wyM_ca, plN_ca, rpN_ca, ltN_ca, pmN_ca, wnN_ca, nbN_ca, ca_07, ca_08, ca_09, ca_010, beN_ca, ctN_ca, gonN_ca, mvN_ca]
              refine x_icmp_ne h dX7_movesOn_178 (tgt := 185) (by decide) (by omega) (by omega) (fun q178 => ?_) (fun q178 => ?_)
              · refine x_iconst h dX7_movesOn_185 ?_
                refine x_iadd h dX7_movesOn_186 ?_
                refine x_wr (fun r187 => ?_)
                refine x_puti (j := 10) 10 h dX7_movesOn_187 (sM0 hm) rfl in_X7 rfl (by decide) m_fl_X7_192 tyX7_ok nmX7 rfl (tyX7_ok 10 (by decide)) rfl rfl (wr_R _) rfl ?_
                try simp only [up_ca1, up_ca07, up_ca08, up_ca09, up_ca010, up_10, up_01, up_0709, up_0710, ca_ca, ca_1, dN_ca, wyM_ca, plN_ca, rpN_ca, ltN_ca, pmN_ca, wnN_ca, nbN_ca, ca_07, ca_08, ca_09, ca_010, beN_ca, ctN_ca, gonN_ca, mvN_ca]
                refine x_iconst h dX7_movesOn_190 ?_
                first
                  | rw [← tg_p q178]
                  | rw [← tg_n q178]
                exact x_zretq h he dX7_movesOn_191 (by first | exact Or.inl rfl | exact Or.inr rfl | exact bI_01 _ | omega) ⟨(bI_t ⟨q13, Or.inr hct⟩).symm, by rw [mvN_3 q13 q29 hct]; exact ⟨_, _, rfl, Fc_e ((congrArg wyM (mvN_3 q13 q29 hct)).symm.trans (mvN_y hp.1)) (by assumption)⟩⟩
              · refine x_iconst h dX7_movesOn_181 ?_
                refine x_goto h dX7_movesOn_182 (tgt := 186) (by decide) ?_
                refine x_iadd h dX7_movesOn_186 ?_
                refine x_wr (fun r187 => ?_)
                refine x_puti (j := 10) 10 h dX7_movesOn_187 (sM0 hm) rfl in_X7 rfl (by decide) m_fl_X7_192 tyX7_ok nmX7 rfl (tyX7_ok 10 (by decide)) rfl rfl (wr_R _) rfl ?_
                try simp only [up_ca1, up_ca07, up_ca08, up_ca09, up_ca010, up_10, up_01, up_0709, up_0710, ca_ca, ca_1, dN_ca, wyM_ca, plN_ca, rpN_ca, ltN_ca, pmN_ca, wnN_ca, nbN_ca, ca_07, ca_08, ca_09, ca_010, beN_ca, ctN_ca, gonN_ca, mvN_ca]
                refine x_iconst h dX7_movesOn_190 ?_
                first
                  | rw [← tg_p q178]
                  | rw [← tg_n q178]
                exact x_zretq h he dX7_movesOn_191 (by first | exact Or.inl rfl | exact Or.inr rfl | exact bI_01 _ | omega) ⟨(bI_t ⟨q13, Or.inr hct⟩).symm, by rw [mvN_3 q13 q29 hct]; exact ⟨_, _, rfl, Fc_e ((congrArg wyM (mvN_3 q13 q29 hct)).symm.trans (mvN_y hp.1)) (by assumption)⟩⟩
    · refine x_aload_n h dX7_movesOn_32 rfl ?_
      refine x_getr (j := 0) (q := 1) h dX7_movesOn_33 (sM0 hm) rfl in_X7 rfl (by decide) m_fl_X7_9 ?_
      refine x_iload_n h dX7_movesOn_36 rfl ?_
      refine x_iconst h dX7_movesOn_37 ?_
      refine x_S2i h dX7_movesOn_38 m_ml_X7_119 m_st_X7_at (by decide) rfl (c_X7_at hm) ?_
      try simp only [ca_ca, ca_1, dN_ca, wyM_ca, plN_ca, rpN_ca, ltN_ca, pmN_ca, wnN_ca, nbN_ca, ca_07, ca_08, ca_09, ca_010, beN_ca, ctN_ca, gonN_ca, mvN_ca]
      refine x_iload_n h dX7_movesOn_41 rfl ?_
      refine x_iastore h dX7_movesOn_42 (sM1 hm) (by omega) (by omega) ?_
      try simp only [up_ca1, up_ca07, up_ca08, up_ca09, up_ca010, up_10, up_01, up_0709, up_0710, ca_ca, ca_1, dN_ca, wyM_ca, plN_ca, rpN_ca, ltN_ca, pmN_ca, wnN_ca, nbN_ca, ca_07, ca_08, ca_09, ca_010, beN_ca, ctN_ca, gonN_ca, mvN_ca]
      refine x_aload_n h dX7_movesOn_43 rfl ?_
      refine x_dup h dX7_movesOn_44 rfl ?_
      refine x_geti (j := 7) 7 h dX7_movesOn_45 (sM0 hm) rfl in_X7 rfl (by decide) m_fl_X7_181 rfl (fun r45 => ?_)
      try simp only [up_ca1, up_ca07, up_ca08, up_ca09, up_ca010, up_10, up_01, up_0709, up_0710, ca_ca, ca_1, dN_ca, wyM_ca, plN_ca, rpN_ca, ltN_ca, pmN_ca, wnN_ca, nbN_ca, ca_07, ca_08, ca_09, ca_010, beN_ca, ctN_ca, gonN_ca, mvN_ca]
      refine x_iconst h dX7_movesOn_48 ?_
      refine x_iadd h dX7_movesOn_49 ?_
      refine x_wr (fun r50 => ?_)
      refine x_puti (j := 7) 7 h dX7_movesOn_50 (sM0 hm) rfl in_X7 rfl (by decide) m_fl_X7_181 tyX7_ok nmX7 rfl (tyX7_ok 7 (by decide)) rfl rfl (wr_R _) rfl ?_
      try simp only [up_ca1, up_ca07, up_ca08, up_ca09, up_ca010, up_10, up_01, up_0709, up_0710, ca_ca, ca_1, dN_ca, wyM_ca, plN_ca, rpN_ca, ltN_ca, pmN_ca, wnN_ca, nbN_ca, ca_07, ca_08, ca_09, ca_010, beN_ca, ctN_ca, gonN_ca, mvN_ca]
      refine x_iconst h dX7_movesOn_53 ?_
      exact x_zretq h he dX7_movesOn_54 (by first | exact Or.inl rfl | exact Or.inr rfl | exact bI_01 _ | omega) ⟨(bI_t ⟨q13, Or.inl q29⟩).symm, by rw [mvN_2 q13 q29]; exact ⟨_, _, rfl, Fc_e ((congrArg wyM (mvN_2 q13 q29)).symm.trans (mvN_y hp.1)) (by assumption)⟩⟩
  · refine x_iconst h dX7_movesOn_16 ?_
    exact x_zretq h he dX7_movesOn_17 (by first | exact Or.inl rfl | exact Or.inr rfl | exact bI_01 _ | omega) ⟨(bI_f (fun z => z.1 q13)).symm, by rw [mvN_1 q13]; exact CaE.of (by assumption)⟩
