/-! both worlds: roads, people, a move, a step, steps -/
theorem fsF_c {P Q : Int → Prop} : ∀ (d : Nat) (i z : Int), (∀ y, i ≤ y → y < i + d → (P y ↔ Q y)) → fsF P d i z = fsF Q d i z := by
  intro d
  induction d with
  | zero => intro i z _; rfl
  | succ d ih =>
    intro i z h
    have h0 := h i (by omega) (by omega)
    have h1 := ih (i + 1) z (fun y a b => h y (by omega) (by omega))
    unfold fsF
    rw [h1]
    by_cases q : P i
    · rw [tI_p q, tI_p (h0.1 q)]
    · rw [tI_n q, tI_n (fun z => q (h0.2 z))]
theorem nxF_c {L D L' D' : Int → Int} (hL : E100 L L') (hD : E100 D D') {a c : Int} (ha : plc a) (hc : plc c) : nxF L D a c = nxF L' D' a c := by
  have e0 := hD (a * 10 + c) (by omega) (by omega)
  have e1 : fsF (nxP L D a c) 10 0 a = fsF (nxP L' D' a c) 10 0 a := by
    refine fsF_c 10 0 a (fun y h0 h1 => ?_)
    have e2 := hL (a * 10 + y) (by omega) (by omega)
    have e3 := hD (y * 10 + c) (by omega) (by omega)
    unfold nxP
    rw [e0, e2, e3]
  unfold nxF
  rw [e0, e1]
theorem neR_c {L D L' D' : Int → Int} (hL : E100 L L') (hD : E100 D D') {a c : Int} (ha : plc a) (hc : plc c) : ∀ n : Nat, n ≤ 10 → neR L D a c n = neR L' D' a c n := by
  intro n
  induction n with
  | zero => intro _; rfl
  | succ n ih =>
    intro hn
    have h1 := ih (by omega)
    have h2 := neR_R L' D' a c n
    rw [neR_s, neR_s, h1]
    have e2 := hL (a * 10 + (n : Int)) (by omega) (by omega)
    have e3 := hD ((n : Int) * 10 + c) (by omega) (by omega)
    unfold neG
    by_cases q : neR L' D' a c n = -1
    · rw [q, e2]
      simp
    · have e4 := hD (neR L' D' a c n * 10 + c) (by omega) (by omega)
      rw [e2, e3, e4]
theorem neF_c {L D L' D' : Int → Int} (hL : E100 L L') (hD : E100 D D') {a c : Int} (ha : plc a) (hc : plc c) : neF L D a c = neF L' D' a c := by
  unfold neF
  rw [neR_c hL hD ha hc 10 (by omega)]
theorem meC_c {L L' r r' : Int → Int} (h : E100 L L') (hL : LB L') : E100 (meC L r) (meC L' r') := by
  have hL1 : LB L := fun i h1 h2 => by rw [h i h1 h2]; exact hL i h1 h2
  have e : E100 (fiC (d0F L) 100 r) (fiC (d0F L') 100 r') := by
    intro i h1 h2
    have e1 := h i h1 h2
    unfold fiC d0F
    rw [if_pos (show 0 ≤ i ∧ i < 100 from ⟨h1, h2⟩), if_pos (show 0 ≤ i ∧ i < 100 from ⟨h1, h2⟩), e1]
  have a1 := (mwC_e (D := fiC (d0F L) 100 r) (E := fiC (d0F L') 100 r') (d0F_B hL) e 10 (by omega)).1
  have a2 := (mwC_e (D := fiC (d0F L) 100 r) (E := fiC (d0F L) 100 r) (d0F_B hL1) (fun _ _ _ => rfl) 10 (by omega)).1
  intro i h1 h2
  unfold meC
  rw [← a2 i h1 h2, a1 i h1 h2]
/-- the nearest beside, of those from `lo` on and before `hi`, the lowest first -/
def nbS (L D : Int → Int) (a c lo hi m : Int) : Prop := (m = -1 ∧ ∀ y, lo ≤ y → y < hi → ¬ 0 < L (a * 10 + y)) ∨ ((lo ≤ m ∧ m < hi) ∧ 0 < L (a * 10 + m) ∧ ∀ y, lo ≤ y → y < hi → 0 < L (a * 10 + y) → (D (m * 10 + c) < D (y * 10 + c) ∨ (D (m * 10 + c) = D (y * 10 + c) ∧ m ≤ y)))
theorem nbS_u {L D : Int → Int} {a c lo hi m m' : Int} (h : nbS L D a c lo hi m) (h' : nbS L D a c lo hi m') : m = m' := by
  rcases h with ⟨h1, h2⟩ | ⟨h1, h2, h3⟩ <;> rcases h' with ⟨k1, k2⟩ | ⟨k1, k2, k3⟩
  · omega
  · exact absurd k2 (h2 _ k1.1 k1.2)
  · exact absurd h2 (k2 _ h1.1 h1.2)
  · have a1 := h3 _ k1.1 k1.2 k2
    have a2 := k3 _ h1.1 h1.2 h2
    omega
theorem nbD_S {L D : Int → Int} {a c : Int} : ∀ (k : Nat) (acc : Int), k ≤ 10 → nbS L D a c (k : Int) 10 acc → nbS L D a c 0 10 (nbD L D a c k acc) := by
  intro k
  induction k with
  | zero => intro acc _ h; exact h
  | succ k ih =>
    intro acc hk h
    unfold nbD
    refine ih _ (by omega) ?_
    by_cases q : 0 < L (a * 10 + (k : Int)) ∧ (acc < 0 ∨ D ((k : Int) * 10 + c) ≤ D (acc * 10 + c))
    · rw [if_pos q]
      refine Or.inr ⟨⟨by omega, by omega⟩, q.1, fun y h1 h2 h3 => ?_⟩
      by_cases e : y = (k : Int)
      · subst e; exact Or.inr ⟨rfl, by omega⟩
      · rcases h with ⟨b1, b2⟩ | ⟨b1, b2, b3⟩
        · exact absurd h3 (b2 y (by omega) h2)
        · have := b3 y (by omega) h2 h3
          have := q.2
          omega
    · rw [if_neg q]
      rcases h with ⟨b1, b2⟩ | ⟨b1, b2, b3⟩
      · refine Or.inl ⟨b1, fun y h1 h2 h3 => ?_⟩
        by_cases e : y = (k : Int)
        · subst e; exact q ⟨h3, by omega⟩
        · exact b2 y (by omega) h2 h3
      · refine Or.inr ⟨⟨by omega, b1.2⟩, b2, fun y h1 h2 h3 => ?_⟩
        by_cases e : y = (k : Int)
        · subst e
          by_cases w : D (acc * 10 + c) < D ((k : Int) * 10 + c)
          · exact Or.inl w
          · exact absurd ⟨h3, Or.inr (by omega)⟩ q
        · exact b3 y (by omega) h2 h3
theorem neR_S {L D : Int → Int} {a c : Int} : ∀ n : Nat, n ≤ 10 → nbS L D a c 0 (n : Int) (neR L D a c n) := by
  intro n
  induction n with
  | zero => intro _; exact Or.inl ⟨rfl, fun y h1 h2 => by omega⟩
  | succ n ih =>
    intro hn
    have h := ih (by omega)
    rw [neR_s]
    generalize neR L D a c n = m at h ⊢
    unfold neG
    by_cases q : 0 < L (a * 10 + (n : Int)) ∧ (m = -1 ∨ D ((n : Int) * 10 + c) < D (m * 10 + c))
    · rw [if_pos q]
      refine Or.inr ⟨⟨by omega, by omega⟩, q.1, fun y h1 h2 h3 => ?_⟩
      by_cases e : y = (n : Int)
      · subst e; exact Or.inr ⟨rfl, by omega⟩
      · rcases h with ⟨b1, b2⟩ | ⟨b1, b2, b3⟩
        · exact absurd h3 (b2 y h1 (by omega))
        · have := b3 y h1 (by omega) h3
          have := q.2
          omega
    · rw [if_neg q]
      rcases h with ⟨b1, b2⟩ | ⟨b1, b2, b3⟩
      · refine Or.inl ⟨b1, fun y h1 h2 h3 => ?_⟩
        by_cases e : y = (n : Int)
        · subst e; exact q ⟨h3, Or.inl b1⟩
        · exact b2 y h1 (by omega) h3
      · refine Or.inr ⟨⟨b1.1, by omega⟩, b2, fun y h1 h2 h3 => ?_⟩
        by_cases e : y = (n : Int)
        · subst e
          by_cases w : D ((n : Int) * 10 + c) < D (m * 10 + c)
          · exact absurd ⟨h3, Or.inr w⟩ q
          · omega
        · exact b3 y h1 (by omega) h3
theorem nbN_e {M : xMem} {a c : Int} : nbN M a c = neR (wyM M) (dN M) a c 10 := by
  unfold nbN
  exact nbS_u (nbD_S 10 (-1) (by omega) (Or.inl ⟨rfl, fun y h1 h2 => by omega⟩)) (neR_S 10 (by omega))
theorem nbN_F {M : xMem} {a c : Int} (h : nbN M a c ≠ -1) : neF (wyM M) (dN M) a c = nbN M a c := by
  rw [nbN_e] at h ⊢
  unfold neF
  rw [if_neg h]
theorem nbN_G {M : xMem} {a c : Int} (h : nbN M a c = -1) : neF (wyM M) (dN M) a c = a := by
  rw [nbN_e] at h
  unfold neF
  rw [if_pos h]
/-- the ways in a row of the reference, and how far it is by them -/
def wyr (n : Int → Int) : Int → Int := fun i => if 0 ≤ i ∧ i < 100 then n (13 + i) else 0
def dR (n : Int → Int) : Int → Int := meC (wyr n) (fun _ => 0)
theorem wyM_r (M : xMem) : wyM M = wyr (M 1) := rfl
theorem dN_r (M : xMem) : dN M = dR (M 1) := rfl
/-- the class's ROADS stand as the reference's -/
def RoR (C : xMem) (r : Nat) (n : Int → Int) : Prop := E100 (C (r + 1)) (wyr n) ∧ E100 (C (r + 2)) (dR n) ∧ ∀ a c, plc a → plc c → C (r + 3) (a * 10 + c) = nxF (wyr n) (dR n) a c ∧ C (r + 4) (a * 10 + c) = neF (wyr n) (dR n) a c
theorem wyr_ur {n : Int → Int} {i v : Int} (h : i < 13 ∨ 113 ≤ i) : wyr (ur n i v) = wyr n := by
  funext j
  unfold wyr
  by_cases hj : 0 ≤ j ∧ j < 100
  · rw [if_pos hj, if_pos hj, ur_n (by omega)]
  · rw [if_neg hj, if_neg hj]
theorem RoR.n {C : xMem} {r : Nat} {n n' : Int → Int} (h : RoR C r n) (e : wyr n' = wyr n) : RoR C r n' := by
  unfold RoR dR at h ⊢
  rw [e]
  exact h
theorem RoR.c {C C' : xMem} {r : Nat} {n : Int → Int} (h : RoR C r n) (e : ∀ k, r + 1 ≤ k → k ≤ r + 4 → C' k = C k) : RoR C' r n := by
  unfold RoR at h ⊢
  rw [e (r + 1) (by omega) (by omega), e (r + 2) (by omega) (by omega), e (r + 3) (by omega) (by omega), e (r + 4) (by omega) (by omega)]
  exact h
theorem RoR.su {C : xMem} {r : Nat} {n : Int → Int} (h : E100 (C (r + 1)) (wyr n)) (hL : LB (wyr n)) : RoR (suC C r) r n := by
  have hm : E100 (meC (C (r + 1)) (C (r + 2))) (dR n) := meC_c h hL
  refine ⟨?_, ?_, fun a c ha hc => ⟨?_, ?_⟩⟩
  · unfold suC; rw [suA_1]; exact h
  · unfold suC; rw [suA_2]; exact hm
  · unfold suC suA
    rw [upr_n (by omega), upr_s]
    unfold fiC nxI
    rw [if_pos (by omega), show (a * 10 + c) / 10 = a by omega, show (a * 10 + c) % 10 = c by omega]
    exact nxF_c h hm ha hc
  · unfold suC suA
    rw [upr_s]
    unfold fiC neI
    rw [if_pos (by omega), show (a * 10 + c) / 10 = a by omega, show (a * 10 + c) % 10 = c by omega]
    exact neF_c h hm ha hc
/-- the class's PEOPLE stand as the reference's -/
def PeR (C : xMem) (b : Nat) (n : Int → Int) : Prop := n 1 = C b 1 ∧ n 0 = C b 2 ∧ ∀ p, 0 ≤ p → p < C b 1 → (n (113 + 8 * p + 0) = C (b + 1) p ∧ n (113 + 8 * p + 1) = C (b + 2) p ∧ n (113 + 8 * p + 2) = C (b + 3) p ∧ n (113 + 8 * p + 3) = C (b + 4) p ∧ n (113 + 8 * p + 4) = C (b + 5) p ∧ (0 ≤ C (b + 4) p → n (113 + 8 * p + 5) = C (b + 6) p) ∧ n (113 + 8 * p + 6) = C (b + 7) p ∧ n (113 + 8 * p + 7) = C (b + 8) p)
theorem PeR.c {C C' : xMem} {b : Nat} {n : Int → Int} (h : PeR C b n) (e : ∀ k, b ≤ k → k ≤ b + 8 → k ≠ b → C' k = C k) (e1 : C' b 1 = C b 1) (e2 : C' b 2 = C b 2) : PeR C' b n := by
  unfold PeR at h ⊢
  rw [e1, e2, e (b + 1) (by omega) (by omega) (by omega), e (b + 2) (by omega) (by omega) (by omega), e (b + 3) (by omega) (by omega) (by omega), e (b + 4) (by omega) (by omega) (by omega), e (b + 5) (by omega) (by omega) (by omega), e (b + 6) (by omega) (by omega) (by omega), e (b + 7) (by omega) (by omega) (by omega), e (b + 8) (by omega) (by omega) (by omega)]
  exact h
theorem PeR.up0 {C : xMem} {b : Nat} {n : Int → Int} {j v : Int} (h : PeR C b n) (hj : j ≠ 1 ∧ j ≠ 2) : PeR (up C b j v) b n :=
  h.c (fun k _ _ h3 => up_n h3) (up_nn (by omega)) (up_nn (by omega))
theorem PeR.upn {C : xMem} {b k : Nat} {n : Int → Int} {j v : Int} (h : PeR C b n) (hk : k < b ∨ b + 8 < k) : PeR (up C k j v) b n :=
  h.c (fun i h1 h2 _ => up_n (by omega)) (by rw [up_n (by omega)]) (by rw [up_n (by omega)])
theorem PeR.upf {C : xMem} {b : Nat} {n : Int → Int} {p v : Int} (h : PeR C b n) (hp : 0 ≤ p) (f : Nat) (hf : f = 1 ∨ f = 2 ∨ f = 6 ∨ f = 7) (i : Int) (hi : i = 113 + 8 * p + f) (k : Nat) (hk : k = b + 1 + f) : PeR (up C k p v) b (ur n i v) := by
  subst hi hk
  refine ⟨?_, ?_, fun q h1 h2 => ?_⟩
  · rw [ur_n (by omega), up_n (by omega)]; exact h.1
  · rw [ur_n (by omega), up_n (by omega)]; exact h.2.1
  · rw [show up C (b + 1 + f) p v b = C b from up_n (by omega)] at h2
    obtain ⟨a0, a1, a2, a3, a4, a5, a6, a7⟩ := h.2.2 q h1 h2
    by_cases e : q = p
    · subst e
      rcases hf with rfl | rfl | rfl | rfl
      · refine ⟨?_, ?_, ?_, ?_, ?_, ?_, ?_, ?_⟩ <;> first | (rw [ur_n (by omega), up_n (by omega)]; assumption) | (rw [show b + 2 = b + 1 + 1 from rfl, up_ss]; exact ur_s _ _ _) | (rw [up_n (by omega), ur_n (by omega), up_n (by omega)]; assumption)
      · refine ⟨?_, ?_, ?_, ?_, ?_, ?_, ?_, ?_⟩ <;> first | (rw [ur_n (by omega), up_n (by omega)]; assumption) | (rw [show b + 3 = b + 1 + 2 from rfl, up_ss]; exact ur_s _ _ _) | (rw [up_n (by omega), ur_n (by omega), up_n (by omega)]; assumption)
      · refine ⟨?_, ?_, ?_, ?_, ?_, ?_, ?_, ?_⟩ <;> first | (rw [ur_n (by omega), up_n (by omega)]; assumption) | (rw [show b + 7 = b + 1 + 6 from rfl, up_ss]; exact ur_s _ _ _) | (rw [up_n (by omega), ur_n (by omega), up_n (by omega)]; assumption)
      · refine ⟨?_, ?_, ?_, ?_, ?_, ?_, ?_, ?_⟩ <;> first | (rw [ur_n (by omega), up_n (by omega)]; assumption) | (rw [show b + 8 = b + 1 + 7 from rfl, up_ss]; exact ur_s _ _ _) | (rw [up_n (by omega), ur_n (by omega), up_n (by omega)]; assumption)
    · refine ⟨?_, ?_, ?_, ?_, ?_, ?_, ?_, ?_⟩
      · rw [ur_n (by omega), up_nn (by omega)]; exact a0
      · rw [ur_n (by omega), up_nn (by omega)]; exact a1
      · rw [ur_n (by omega), up_nn (by omega)]; exact a2
      · rw [ur_n (by omega), up_nn (by omega)]; exact a3
      · rw [ur_n (by omega), up_nn (by omega)]; exact a4
      · rw [ur_n (by omega), up_nn (by omega), up_nn (by omega)]; exact a5
      · rw [ur_n (by omega), up_nn (by omega)]; exact a6
      · rw [ur_n (by omega), up_nn (by omega)]; exact a7
