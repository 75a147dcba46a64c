/-! the class: PEOPLE's STEPS: what stays true -/
theorem x_alen {ω : xO} {κ : xK} {l : Launch} {cc : ByteArray} {nL : Nat} {own : String} {R : Room} {pc : Nat} {lv : List (Option Value)} {st : List Value} {M : xMem} {k n : Nat} (h : xOk ω κ l cc nL own R) (hd : decode cc pc = .ok (.arraylength, 1)) (hs : (xsh ω)[k]? = some (.inl n)) (kk : X ω κ (pc + 1) lv (.int (iI (n : Int)) :: st) M) : X ω κ pc lv (.ref (xad ω k) :: st) M :=
  fun hR H locs ls hP hS hl => va_alen h.1 h.2.1 h.2.2.2.2.2.1 hP k 0 (xw_at hs) rfl (v := iI (n : Int)) rfl hd (kk hR H locs ls hP hS hl)
def RdInv (M : xMem) (r : Nat) : Prop := ∀ a c, 0 ≤ a → a < 10 → 0 ≤ c → c < 10 → ((0 ≤ M (r + 1) (a * 10 + c) ∧ M (r + 1) (a * 10 + c) ≤ 9) ∧ (0 ≤ M (r + 2) (a * 10 + c) ∧ M (r + 2) (a * 10 + c) ≤ 999) ∧ (0 ≤ M (r + 3) (a * 10 + c) ∧ M (r + 3) (a * 10 + c) < 10) ∧ (0 ≤ M (r + 4) (a * 10 + c) ∧ M (r + 4) (a * 10 + c) < 10))
def StB (M : xMem) (b : Nat) (c : Int) : Prop := (0 ≤ M b 12 ∧ M b 12 ≤ c) ∧ ∀ p, 0 ≤ p → p < 8 → 0 ≤ M (b + 9) p ∧ M (b + 9) p ≤ c
theorem pI_lt {b r : Nat} (h : pI b r) : r + 5 ≤ b := by unfold pI at h; omega
theorem RdInv_of {M M' : xMem} {r : Nat} (h : RdInv M r) (e : ∀ k, r + 1 ≤ k → k ≤ r + 4 → M' k = M k) : RdInv M' r := by
  intro a c h1 h2 h3 h4
  rw [e (r + 1) (by omega) (by omega), e (r + 2) (by omega) (by omega), e (r + 3) (by omega) (by omega), e (r + 4) (by omega) (by omega)]
  exact h a c h1 h2 h3 h4
theorem PeInv_of {M M' : xMem} {b : Nat} (h : PeInv M b) (e0 : M' b 1 = M b 1) (e1 : M' b 2 = M b 2) (e : ∀ f : Nat, 1 ≤ f → f ≤ 8 → f ≠ 2 → f ≠ 7 → f ≠ 8 → M' (b + f) = M (b + f)) (e2 : ∀ p, 0 ≤ p → p < M b 1 → 0 ≤ M' (b + 2) p ∧ M' (b + 2) p < 10) (e7 : ∀ p, 0 ≤ p → p < M b 1 → 0 ≤ M' (b + 7) p ∧ M' (b + 7) p ≤ 9999) (e8 : ∀ p, 0 ≤ p → p < M b 1 → 0 ≤ M' (b + 8) p ∧ M' (b + 8) p ≤ 9999) : PeInv M' b := by
  refine ⟨by rw [e0]; exact h.1, by rw [e1]; exact h.2.1, fun p h1 h2 => ?_⟩
  rw [e0] at h2 ⊢
  have i := h.2.2 p h1 h2
  rw [e 1 (by omega) (by omega) (by omega) (by omega) (by omega), e 3 (by omega) (by omega) (by omega) (by omega) (by omega), e 4 (by omega) (by omega) (by omega) (by omega) (by omega), e 5 (by omega) (by omega) (by omega) (by omega) (by omega), e 6 (by omega) (by omega) (by omega) (by omega) (by omega)]
  exact ⟨i.1, e2 p h1 h2, i.2.2.1, i.2.2.2.1, i.2.2.2.2.1, i.2.2.2.2.2.1, e7 p h1 h2, e8 p h1 h2⟩
def hldC (M : xMem) (b : Nat) (p : Int) : xMem := up (if M b 13 = -1 then up M b 13 p else M) (b + 7) p (min (M (b + 7) p + 1) 9999)
abbrev wntC (M : xMem) (b r : Nat) (p : Int) : Int := M (r + 3) (M (b + 2) p * 10 + M (b + 3) p)
abbrev tugTo (M : xMem) (b r : Nat) (p w : Int) : Int := M (r + 4) (M (b + 2) (M (b + 4) p) * 10 + w)
def canTug (M : xMem) (b r : Nat) (p w : Int) : Prop := clHas M b (M (b + 4) p) ∧ plC M b (M (b + 4) p) < plC M b p ∧ M (r + 2) (tugTo M b r p w * 10 + w) < M (r + 2) (M (b + 2) (M (b + 4) p) * 10 + w) ∧ M (r + 2) (w * 10 + tugTo M b r p w) ≤ rchC M b p
def tugC (M : xMem) (b r : Nat) (p w : Int) : xMem := up (up (up (up (up M (b + 2) p w) (b + 2) (M (b + 4) p) (tugTo M b r p w)) b 12 (M b 12 + 1)) (b + 9) (M (b + 4) p) (M (b + 9) (M (b + 4) p) + 1)) (b + 8) (M (b + 4) p) (min (M (b + 8) (M (b + 4) p) + 1) 9999)
noncomputable def tI {α : Type} (c : Prop) (x y : α) : α := @ite α c (Classical.propDecidable c) x y
theorem tI_p {α : Type} {c : Prop} {x y : α} (h : c) : tI c x y = x := by unfold tI; exact if_pos h
theorem tI_n {α : Type} {c : Prop} {x y : α} (h : ¬ c) : tI c x y = y := by unfold tI; exact if_neg h
noncomputable def mvC (M : xMem) (b r : Nat) (p : Int) : xMem := tI (wntC M b r p = M (b + 2) p) M (tI (letC M b r p (wntC M b r p)) (up (up M (b + 2) p (wntC M b r p)) b 12 (M b 12 + 1)) (tI (canTug M b r p (wntC M b r p)) (tugC M b r p (wntC M b r p)) (hldC M b p)))
def goC (M : xMem) (b r : Nat) (p : Int) : Prop := wntC M b r p ≠ M (b + 2) p ∧ (letC M b r p (wntC M b r p) ∨ canTug M b r p (wntC M b r p))
noncomputable def wkC (b r : Nat) (p : Int) : Nat → xMem → xMem
  | 0, M => M
  | n + 1, M => tI (goC M b r p) (wkC b r p n (mvC M b r p)) (mvC M b r p)
/-- the rows that a move may change -/
def StR (b : Nat) (M M' : xMem) : Prop := (∀ k, k ≠ b → k ≠ b + 2 → k ≠ b + 7 → k ≠ b + 8 → k ≠ b + 9 → M' k = M k) ∧ ∀ j, j ≠ 12 → j ≠ 13 → M' b j = M b j
theorem StR.rf {b : Nat} {M : xMem} : StR b M M := ⟨fun _ _ _ _ _ _ => rfl, fun _ _ _ => rfl⟩
theorem StR.tr {b : Nat} {M M1 M2 : xMem} (h1 : StR b M M1) (h2 : StR b M1 M2) : StR b M M2 := ⟨fun k a1 a2 a3 a4 a5 => (h2.1 k a1 a2 a3 a4 a5).trans (h1.1 k a1 a2 a3 a4 a5), fun j a1 a2 => (h2.2 j a1 a2).trans (h1.2 j a1 a2)⟩
theorem StR.up {b k : Nat} {M M' : xMem} {j z : Int} (h : StR b M M') (hk : (k = b ∧ (j = 12 ∨ j = 13)) ∨ k = b + 2 ∨ k = b + 7 ∨ k = b + 8 ∨ k = b + 9) : StR b M (up M' k j z) := by
  refine ⟨fun i a1 a2 a3 a4 a5 => ?_, fun i a1 a2 => ?_⟩
  · rw [up_n (by omega)]
    exact h.1 i a1 a2 a3 a4 a5
  · rw [up_nn (by omega)]
    exact h.2 i a1 a2
theorem hldC_r {M : xMem} {b : Nat} {p : Int} : StR b M (hldC M b p) := by
  unfold hldC
  split
  · exact (StR.rf.up (by omega)).up (by omega)
  · exact StR.rf.up (by omega)
theorem tugC_r {M : xMem} {b r : Nat} {p v : Int} : StR b M (tugC M b r p v) := by
  unfold tugC
  exact ((((StR.rf.up (by omega)).up (by omega)).up (by omega)).up (by omega)).up (by omega)
theorem mvC_r {M : xMem} {b r : Nat} {p : Int} : StR b M (mvC M b r p) := by
  unfold mvC tI
  split
  · exact StR.rf
  · split
    · exact (StR.rf.up (by omega)).up (by omega)
    · split
      · exact tugC_r
      · exact hldC_r
theorem StR.has {M M' : xMem} {b : Nat} {p : Int} (h : StR b M M') : clHas M' b p = clHas M b p := by unfold clHas; rw [h.2 1 (by omega) (by omega)]
theorem StR.rd {M M' : xMem} {b r : Nat} (h : StR b M M') (hb : pI b r) : ∀ k, r + 1 ≤ k → k ≤ r + 4 → M' k = M k := fun k h1 h2 => h.1 k (by have := pI_lt hb; omega) (by have := pI_lt hb; omega) (by have := pI_lt hb; omega) (by have := pI_lt hb; omega) (by have := pI_lt hb; omega)
/-- what a STEP of one needs, and leaves -/
def WIn (M : xMem) (b r : Nat) (c : Int) : Prop := xR M ∧ PeInv M b ∧ RdInv M r ∧ StB M b c
theorem mvC_in {M : xMem} {b r : Nat} {p c : Int} (hb : pI b r) (h : WIn M b r c) (hp : clHas M b p) (hc : 0 ≤ c ∧ c < 1000000) : WIn (mvC M b r p) b r (c + 1) := by
  obtain ⟨hR, hI, hD, hS⟩ := h
  have ip := hI.2.2 p hp.1 hp.2.1
  have iw := hD (M (b + 2) p) (M (b + 3) p) (by omega) (by omega) (by omega) (by omega)
  have hw : 0 ≤ wntC M b r p ∧ wntC M b r p < 10 := iw.2.2.1
  have hst := mvC_r (M := M) (b := b) (r := r) (p := p)
  have st0 := hS.1
  have key : xR (mvC M b r p) ∧ (∀ q, 0 ≤ q → q < M b 1 → 0 ≤ mvC M b r p (b + 2) q ∧ mvC M b r p (b + 2) q < 10) ∧ (∀ q, 0 ≤ q → q < M b 1 → 0 ≤ mvC M b r p (b + 7) q ∧ mvC M b r p (b + 7) q ≤ 9999) ∧ (∀ q, 0 ≤ q → q < M b 1 → 0 ≤ mvC M b r p (b + 8) q ∧ mvC M b r p (b + 8) q ≤ 9999) ∧ StB (mvC M b r p) b (c + 1) := by
    unfold mvC tI
    split
    · exact ⟨hR, fun q h1 h2 => (hI.2.2 q h1 h2).2.1, fun q h1 h2 => (hI.2.2 q h1 h2).2.2.2.2.2.2.1, fun q h1 h2 => (hI.2.2 q h1 h2).2.2.2.2.2.2.2, ⟨⟨by omega, by omega⟩, fun q h1 h2 => by have := hS.2 q h1 h2; omega⟩⟩
    · split
      · refine ⟨up_R (up_R hR (by omega)) (by omega), fun q h1 h2 => ?_, fun q h1 h2 => ?_, fun q h1 h2 => ?_, ⟨?_, fun q h1 h2 => ?_⟩⟩
        · have := hI.2.2 q h1 h2
          rw [up_n (by omega), up_s]; unfold ur; split <;> omega
        · rw [up_n (by omega), up_n (by omega)]; exact (hI.2.2 q h1 h2).2.2.2.2.2.2.1
        · rw [up_n (by omega), up_n (by omega)]; exact (hI.2.2 q h1 h2).2.2.2.2.2.2.2
        · rw [up_ss]; omega
        · have := hS.2 q h1 h2
          rw [up_n (by omega), up_n (by omega)]; omega
      · split
        · rename_i q1 q2 q3
          have hm := q3.1
          have im := hI.2.2 _ hm.1 hm.2.1
          have it := hD (M (b + 2) (M (b + 4) p)) (wntC M b r p) (by omega) (by omega) (by omega) (by omega)
          have ht : 0 ≤ tugTo M b r p (wntC M b r p) ∧ tugTo M b r p (wntC M b r p) < 10 := it.2.2.2
          have s9 := hS.2 _ hm.1 hm.2.2
          unfold tugC
          refine ⟨up_R (up_R (up_R (up_R (up_R hR (by omega)) (by omega)) (by omega)) (by omega)) (by omega), fun q h1 h2 => ?_, fun q h1 h2 => ?_, fun q h1 h2 => ?_, ⟨?_, fun q h1 h2 => ?_⟩⟩
          · have := hI.2.2 q h1 h2
            rw [up_n (by omega), up_n (by omega), up_n (by omega), up_s]; unfold ur; split
            · omega
            · rw [up_s]; unfold ur; split <;> omega
          · rw [up_n (by omega), up_n (by omega), up_n (by omega), up_n (by omega), up_n (by omega)]; exact (hI.2.2 q h1 h2).2.2.2.2.2.2.1
          · have := hI.2.2 q h1 h2
            rw [up_s]; unfold ur; split
            · omega
            · rw [up_n (by omega), up_n (by omega), up_n (by omega), up_n (by omega)]; omega
          · rw [up_n (by omega), up_n (by omega), up_ss]; omega
          · have := hS.2 q h1 h2
            rw [up_n (by omega), up_s]; unfold ur; split
            · omega
            · rw [up_n (by omega), up_n (by omega), up_n (by omega)]; omega
        · unfold hldC
          refine ⟨up_R (by split; exact up_R hR (by omega); exact hR) (by omega), fun q h1 h2 => ?_, fun q h1 h2 => ?_, fun q h1 h2 => ?_, ⟨?_, fun q h1 h2 => ?_⟩⟩
          · rw [up_n (by omega)]
            split
            · rw [up_n (by omega)]; exact (hI.2.2 q h1 h2).2.1
            · exact (hI.2.2 q h1 h2).2.1
          · have := hI.2.2 q h1 h2
            rw [up_s]; unfold ur; split
            · omega
            · split
              · rw [up_n (by omega)]; omega
              · omega
          · rw [up_n (by omega)]
            split
            · rw [up_n (by omega)]; exact (hI.2.2 q h1 h2).2.2.2.2.2.2.2
            · exact (hI.2.2 q h1 h2).2.2.2.2.2.2.2
          · rw [up_n (by omega)]
            split
            · rw [up_nn (by omega)]; omega
            · omega
          · have := hS.2 q h1 h2
            rw [up_n (by omega)]
            split
            · rw [up_n (by omega)]; omega
            · omega
  refine ⟨key.1, PeInv_of hI (hst.2 1 (by omega) (by omega)) (hst.2 2 (by omega) (by omega)) (fun f h1 h2 h3 h4 h5 => hst.1 _ (by omega) (by omega) (by omega) (by omega) (by omega)) key.2.1 key.2.2.1 key.2.2.2.1, RdInv_of hD (hst.rd hb), key.2.2.2.2⟩
theorem wkC_r {b r : Nat} {p : Int} : ∀ (n : Nat) (M : xMem), StR b M (wkC b r p n M) := by
  intro n
  induction n with
  | zero => intro M; exact StR.rf
  | succ n ih =>
    intro M
    unfold wkC tI
    split
    · exact mvC_r.tr (ih _)
    · exact mvC_r
theorem WIn.le {M : xMem} {b r : Nat} {c d : Int} (h : WIn M b r c) (hcd : c ≤ d) : WIn M b r d := ⟨h.1, h.2.1, h.2.2.1, ⟨⟨h.2.2.2.1.1, by have := h.2.2.2.1; omega⟩, fun p h1 h2 => by have := h.2.2.2.2 p h1 h2; omega⟩⟩
theorem wkC_in {b r : Nat} {p : Int} (hb : pI b r) : ∀ (n : Nat) (M : xMem) (c : Int), WIn M b r c → clHas M b p → 0 ≤ c → c + n < 1000000 → WIn (wkC b r p n M) b r (c + n) := by
  intro n
  induction n with
  | zero => intro M c h _ _ _; exact h.le (by omega)
  | succ n ih =>
    intro M c h hp h0 h1
    have h2 := mvC_in hb h hp ⟨h0, by omega⟩
    unfold wkC tI
    split
    · exact (ih _ (c + 1) h2 (by rw [mvC_r.has]; exact hp) (by omega) (by omega)).le (by omega)
    · exact h2.le (by omega)
