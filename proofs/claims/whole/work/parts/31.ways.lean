/-! shortest ways: what Floyd and Warshall's numbers are -/
theorem fwA_x {y a : Int} {D : Int → Int} (hy : 0 ≤ y ∧ y < 10) (ha : 0 ≤ a ∧ a < 10) (hD : DB D) (h0 : D (y * 10 + y) = 0) : ∀ n : Nat, n ≤ 10 → ∀ i, 0 ≤ i → i < 100 → xfo (fwB y a (D (a * 10 + y))) D n i = if a * 10 ≤ i ∧ i < a * 10 + n then min (D i) (D (a * 10 + y) + D (y * 10 + (i - a * 10))) else D i := by
  intro n
  induction n with
  | zero => intro _ i _ _; rw [if_neg (by omega)]; rfl
  | succ n ih =>
    intro hn i hi1 hi2
    rw [xfo_s (fwB y a (D (a * 10 + y))) D n]
    have ih' := ih (by omega)
    generalize xfo (fwB y a (D (a * 10 + y))) D n = E at ih' ⊢
    have e1 : E (y * 10 + n) = D (y * 10 + n) := by
      rw [ih' (y * 10 + n) (by omega) (by omega)]
      by_cases h : y = a
      · rw [if_neg (by omega)]
      · rw [if_neg (by omega)]
    have e2 : E (a * 10 + n) = D (a * 10 + n) := by
      rw [ih' (a * 10 + n) (by omega) (by omega), if_neg (by omega)]
    have e3 := ih' i hi1 hi2
    unfold fwB
    rw [e1, e2]
    by_cases hi : i = a * 10 + n
    · subst hi
      have e5 : a * 10 ≤ a * 10 + (n : Int) ∧ a * 10 + (n : Int) < a * 10 + ((n + 1 : Nat) : Int) := by omega
      rw [if_pos e5, show a * 10 + (n : Int) - a * 10 = n by omega]
      split
      · unfold ur; rw [if_pos rfl]; omega
      · rw [e2]; omega
    · have e4 : (if D (a * 10 + y) + D (y * 10 + (n : Int)) < D (a * 10 + (n : Int)) then ur E (a * 10 + (n : Int)) (D (a * 10 + y) + D (y * 10 + (n : Int))) else E) i = E i := by
        split
        · unfold ur; rw [if_neg hi]
        · rfl
      rw [e4, e3]
      by_cases h : a * 10 ≤ i ∧ i < a * 10 + n
      · rw [if_pos h, if_pos (by omega)]
      · rw [if_neg h, if_neg (by omega)]
theorem fwK_x {y : Int} {D : Int → Int} (hy : 0 ≤ y ∧ y < 10) (hD : DB D) (h0 : D (y * 10 + y) = 0) : ∀ n : Nat, n ≤ 10 → ∀ a c, 0 ≤ a → a < 10 → 0 ≤ c → c < 10 → xfo (fwA y) D n (a * 10 + c) = if a < n then min (D (a * 10 + c)) (D (a * 10 + y) + D (y * 10 + c)) else D (a * 10 + c) := by
  intro n
  induction n with
  | zero => intro _ a c h1 _ _ _; rw [if_neg (by omega)]; rfl
  | succ n ih =>
    intro hn a c ha1 ha2 hc1 hc2
    have ih' := ih (by omega)
    have hB := fwK_B hD hy n (by omega)
    rw [xfo_s (fwA y) D n]
    generalize xfo (fwA y) D n = E at ih' hB ⊢
    have hrow : ∀ c, 0 ≤ c → c < 10 → E (y * 10 + c) = D (y * 10 + c) := by
      intro c g1 g2
      have := hD (y * 10 + c) (by omega) (by omega)
      rw [ih' y c hy.1 hy.2 g1 g2]
      split
      · rw [h0]; omega
      · rfl
    have hy0 : E (y * 10 + y) = 0 := by rw [hrow y hy.1 hy.2, h0]
    have hx := fwA_x hy (a := (n : Int)) ⟨by omega, by omega⟩ hB hy0 10 (by omega) (a * 10 + c) (by omega) (by omega)
    unfold fwA
    rw [hx]
    by_cases h : a = (n : Int)
    · subst h
      rw [if_pos (by omega), if_pos (by omega), show (n : Int) * 10 + c - (n : Int) * 10 = c by omega, hrow c hc1 hc2, ih' n c ha1 ha2 hc1 hc2, ih' n y ha1 ha2 hy.1 hy.2, if_neg (by omega), if_neg (by omega)]
    · rw [if_neg (by omega), ih' a c ha1 ha2 hc1 hc2]
      by_cases g : a < (n : Int)
      · rw [if_pos g, if_pos (by omega)]
      · rw [if_neg g, if_neg (by omega)]
/-- the numbers after the first k places: triangles over them, and a first step for each way -/
def FwI (L D : Int → Int) (k : Int) : Prop := DB D ∧ (∀ a, 0 ≤ a → a < 10 → D (a * 10 + a) = 0) ∧ (∀ a c, 0 ≤ a → a < 10 → 0 ≤ c → c < 10 → a ≠ c → 0 < L (a * 10 + c) → D (a * 10 + c) ≤ L (a * 10 + c)) ∧
  (∀ a y c, 0 ≤ a → a < 10 → 0 ≤ y → y < k → 0 ≤ c → c < 10 → D (a * 10 + c) ≤ D (a * 10 + y) + D (y * 10 + c)) ∧
  (∀ a c, 0 ≤ a → a < 10 → 0 ≤ c → c < 10 → a ≠ c → D (a * 10 + c) < 999 → ∃ x, (0 ≤ x ∧ x < 10) ∧ x ≠ a ∧ 0 < L (a * 10 + x) ∧ L (a * 10 + x) + D (x * 10 + c) ≤ D (a * 10 + c))
theorem FwI.of0 {L r : Int → Int} (hL : LB L) : FwI L (fiC (d0F L) 100 r) 0 := by
  have e : ∀ a c, 0 ≤ a → a < 10 → 0 ≤ c → c < 10 → fiC (d0F L) 100 r (a * 10 + c) = if a = c then 0 else if L (a * 10 + c) = 0 then 999 else L (a * 10 + c) := by
    intro a c h1 h2 h3 h4
    unfold fiC d0F
    rw [if_pos (by omega), show (a * 10 + c) / 10 = a by omega, show (a * 10 + c) % 10 = c by omega]
  refine ⟨d0F_B hL, ?_, ?_, ?_, ?_⟩
  · intro a h1 h2; rw [e a a h1 h2 h1 h2, if_pos rfl]
  · intro a c h1 h2 h3 h4 h5 h6
    rw [e a c h1 h2 h3 h4, if_neg h5, if_neg (by omega)]
    omega
  · intro a y c _ _ h1 h2; omega
  · intro a c h1 h2 h3 h4 h5 h6
    have hl := hL (a * 10 + c) (by omega) (by omega)
    rw [e a c h1 h2 h3 h4, if_neg h5] at h6 ⊢
    by_cases h : L (a * 10 + c) = 0
    · rw [if_pos h] at h6; omega
    · refine ⟨c, ⟨h3, h4⟩, fun z => h5 z.symm, by omega, ?_⟩
      rw [if_neg h, e c c h3 h4 h3 h4, if_pos rfl]
      omega
theorem FwI.step {L D : Int → Int} {y : Int} (hy : 0 ≤ y ∧ y < 10) (h : FwI L D y) : FwI L (fwK y D) (y + 1) := by
  obtain ⟨hB, h0, hl, hT, hW⟩ := h
  have hB' : DB (fwK y D) := by
    unfold fwK
    exact fwK_B hB hy 10 (by omega)
  have e : ∀ a c, 0 ≤ a → a < 10 → 0 ≤ c → c < 10 → fwK y D (a * 10 + c) = min (D (a * 10 + c)) (D (a * 10 + y) + D (y * 10 + c)) := by
    intro a c h1 h2 h3 h4
    unfold fwK
    rw [fwK_x hy hB (h0 y hy.1 hy.2) 10 (by omega) a c h1 h2 h3 h4, if_pos (by omega)]
  generalize fwK y D = E at hB' e ⊢
  have p : ∀ a c, 0 ≤ a → a < 10 → 0 ≤ c → c < 10 → 0 ≤ D (a * 10 + c) ∧ D (a * 10 + c) ≤ 999 := fun a c h1 h2 h3 h4 => hB (a * 10 + c) (by omega) (by omega)
  have hyy := h0 y hy.1 hy.2
  refine ⟨hB', ?_, ?_, ?_, ?_⟩
  · intro a h1 h2
    have := h0 a h1 h2
    have q1 := p a y h1 h2 hy.1 hy.2
    have q2 := p y a hy.1 hy.2 h1 h2
    rw [e a a h1 h2 h1 h2]
    omega
  · intro a c h1 h2 h3 h4 h5 h6
    have := hl a c h1 h2 h3 h4 h5 h6
    rw [e a c h1 h2 h3 h4]
    omega
  · intro a z c h1 h2 h3 h4 h5 h6
    have hz : z < 10 := by omega
    rw [e a c h1 h2 h5 h6, e a z h1 h2 h3 hz, e z c h3 hz h5 h6]
    have q1 := p a y h1 h2 hy.1 hy.2
    have q2 := p y c hy.1 hy.2 h5 h6
    have q3 := p y z hy.1 hy.2 h3 hz
    have q4 := p z y h3 hz hy.1 hy.2
    by_cases g : z = y
    · subst g
      omega
    · have t1 := hT a z c h1 h2 h3 (by omega) h5 h6
      have t2 := hT a z y h1 h2 h3 (by omega) hy.1 hy.2
      have t3 := hT y z c hy.1 hy.2 h3 (by omega) h5 h6
      omega
  · intro a c h1 h2 h3 h4 h5 h6
    rw [e a c h1 h2 h3 h4] at h6 ⊢
    have q1 := p a y h1 h2 hy.1 hy.2
    have q2 := p y c hy.1 hy.2 h3 h4
    by_cases g : D (a * 10 + c) ≤ D (a * 10 + y) + D (y * 10 + c)
    · obtain ⟨x, hx, x1, x2, x3⟩ := hW a c h1 h2 h3 h4 h5 (by omega)
      refine ⟨x, hx, x1, x2, ?_⟩
      rw [e x c hx.1 hx.2 h3 h4]
      omega
    · have g1 : a ≠ y := fun z => by subst z; omega
      obtain ⟨x, hx, x1, x2, x3⟩ := hW a y h1 h2 hy.1 hy.2 g1 (by omega)
      refine ⟨x, hx, x1, x2, ?_⟩
      rw [e x c hx.1 hx.2 h3 h4]
      omega
theorem fwC_I {L r : Int → Int} (hL : LB L) : ∀ n : Nat, n ≤ 10 → FwI L (fwC (fiC (d0F L) 100 r) n) n := by
  intro n
  induction n with
  | zero => intro _; exact FwI.of0 hL
  | succ n ih =>
    intro hn
    rw [fwC_s, show ((n + 1 : Nat) : Int) = (n : Int) + 1 by omega]
    exact FwI.step ⟨by omega, by omega⟩ (ih (by omega))
theorem meC_I {L r : Int → Int} (hL : LB L) : FwI L (meC L r) 10 := by
  unfold meC
  exact fwC_I hL 10 (by omega)
/-- from a place that is not the goal, and not FAR of it, a shortest way begins with some place beside -/
theorem wnt_x {L r : Int → Int} (hL : LB L) {a c : Int} (ha : plc a) (hc : plc c) (h1 : a ≠ c) (h2 : meC L r (a * 10 + c) ≠ 999) : ∃ x, plc x ∧ nxP L (meC L r) a c x := by
  obtain ⟨hB, -, hl, hT, hW⟩ := meC_I (r := r) hL
  have := hB (a * 10 + c) (by omega) (by omega)
  obtain ⟨x, hx, x1, x2, x3⟩ := hW a c ha.1 ha.2 hc.1 hc.2 h1 (by omega)
  have t := hT a x c ha.1 ha.2 hx.1 hx.2 hc.1 hc.2
  have t2 := hl a x ha.1 ha.2 hx.1 hx.2 (fun z => x1 z.symm) x2
  exact ⟨x, hx, x2, by omega⟩
theorem fsF_first {P : Int → Prop} : ∀ (d : Nat) (i z x : Int), i ≤ x → x < i + d → P x → (∀ y, i ≤ y → y < x → ¬ P y) → fsF P d i z = x := by
  intro d
  induction d with
  | zero => intro i z x h1 h2; omega
  | succ d ih =>
    intro i z x h1 h2 hP hn
    unfold fsF
    by_cases h : i = x
    · subst h; rw [tI_p hP]
    · rw [tI_n (hn i (by omega) (by omega))]
      exact ih (i + 1) z x (by omega) (by omega) hP (fun y g1 g2 => hn y (by omega) g2)
