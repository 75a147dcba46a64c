/-! the reference's cache stays right over every call that finds nothing anew -/
section FC
theorem tI_or {α : Type} (c : Prop) (x y : α) : tI c x y = x ∨ tI c x y = y := by
  by_cases h : c
  · exact Or.inl (tI_p h)
  · exact Or.inr (tI_n h)
variable {N : xMem}
theorem F_0 (h : N 0 6 = 0) : Fc N := ⟨Or.inl h, fun e => absurd (h.symm.trans e) (by decide)⟩
theorem F_fn {v : Int} (h : Fc N) : Fc (fnM N v) := Fc_e1 (N := N) fnM_y rfl rfl h
theorem F_u1 {i v : Int} (hi : i < 13 ∨ 113 ≤ i) (h : Fc N) : Fc (up N 1 i v) := Fc_e1 (N := N) (wyM_up hi) rfl rfl h
theorem F_uk {k : Nat} {i v : Int} (hk : k ≠ 0 ∧ k ≠ 1 ∧ k ≠ 5) (h : Fc N) : Fc (up N k i v) := by
  refine Fc_e1 (N := N) ?_ ?_ ?_ h
  · unfold wyM; rw [up_n (Ne.symm hk.2.1)]
  · rw [up_n (Ne.symm hk.1)]
  · rw [up_n (Ne.symm hk.2.2)]
theorem F_rk {k : Nat} {r : Int → Int} (hk : k ≠ 0 ∧ k ≠ 1 ∧ k ≠ 5) (h : Fc N) : Fc (upr N k r) := by
  refine Fc_e1 (N := N) ?_ ?_ ?_ h
  · unfold wyM; rw [upr_n (Ne.symm hk.2.1)]
  · rw [upr_n (Ne.symm hk.1)]
  · rw [upr_n (Ne.symm hk.2.2)]
theorem F_u0 {i v : Int} (hi : i ≠ 6) (h : Fc N) : Fc (up N 0 i v) := by
  refine Fc_e1 (N := N) wyM_up0 ?_ ?_ h
  · rw [up_nn (by omega)]
  · rw [up_n (by decide)]
theorem F_way {a c v : Int} (h : Fc N) : Fc (nwaM N a c v) := by
  unfold nwaM
  split
  · refine F_0 ?_
    unfold lyM
    rw [up_n (by decide), up_n (by decide), up_s, ur_s]
  · exact F_fn h
theorem F_person {k a : Int} (hI : MInv N) (h : Fc N) : Fc (npeM N k a) := by
  unfold npeM
  split
  · split
    · exact F_fn h
    · refine Fc_e1 (N := N) (coM_y (by have := hI.1; omega)) ?_ ?_ h
      · unfold coM; simp only [up_n (show (0 : Nat) ≠ 1 by decide)]
      · unfold coM; simp only [up_n (show (5 : Nat) ≠ 1 by decide)]
  · exact F_fn h
theorem F_of {p x : Int} (h : Fc N) : Fc (nofM N p x) := by
  unfold nofM
  split
  · exact h
  · exact F_fn h
theorem F_cut {p : Int} (h : Fc N) : Fc (ncuM N p) := by
  unfold ncuM
  split
  · split
    · unfold frN
      rw [if_pos ‹_›]
      exact F_u1 (by omega) (F_u1 (by omega) (F_u1 (by omega) (F_u1 (by omega) h)))
    · exact F_fn h
  · exact F_fn h
theorem F_rope {p : Int} (h : Fc N) : Fc (nroM N p) := by
  unfold nroM
  split
  · split
    · exact h
    · exact F_fn h
  · exact F_fn h
theorem F_pulls {s : Int} (h : Fc N) : Fc (npuM N s) := by
  unfold npuM
  split
  · exact h
  · exact F_fn h
theorem F_knots {n v : Int} (h : Fc N) : Fc (nknM N n v) := by
  unfold nknM
  rcases tI_or (knGd n v) N (fnM N (-1000001)) with e | e
  · rw [e]; exact h
  · rw [e]; exact F_fn h
theorem F_seed {v : Int} (h : Fc N) : Fc (up N 1 2 v) := F_u1 (by omega) h
theorem F_fd {x n : Int} (h : Fc N) : ∀ k : Nat, Fc (fdC x n N k) := by
  intro k
  induction k with
  | zero => exact h
  | succ k ih =>
    rw [fdC_s]
    exact F_u0 (by decide) (F_uk (by decide) ih)
theorem F_feed {x n : Int} (h : Fc N) : Fc (nfdM N x n) := by
  unfold nfdM
  split
  · split
    · exact F_fn h
    · exact F_fd h _
  · exact F_fn h
theorem F_hold {i p : Int} (h : Fc N) : Fc (nhoM N i p) := by
  unfold nhoM
  split
  · exact F_u1 (by omega) h
  · exact F_fn h
theorem F_as {i k : Int} (h : Fc N) : Fc (nasM N i k) := by
  unfold nasM
  split
  · split
    · exact F_fn h
    · rcases tI_or (unF (dpF (N 1 (113 + 8 * N 1 (3 + i) + 0))) (N 1 (113 + 8 * N 1 (3 + i) + 0)) k) N (fnM N (-1000003)) with e | e
      · rw [e]; exact h
      · rw [e]; exact F_fn h
  · exact F_fn h
theorem F_sheet {s b n : Int} (h : Fc N) : Fc (nshM N s b n) := by
  unfold nshM
  split
  · split
    · exact F_fn h
    · split
      · exact F_fn h
      · unfold shM shH
        exact F_rk (by decide) (F_uk (by decide) (F_uk (by decide) h))
  · exact F_fn h
theorem F_write {s i v : Int} (h : Fc N) : Fc (nwrM N s i v) := by
  unfold nwrM
  split
  · split
    · exact F_fn h
    · split
      · exact F_uk (by decide) h
      · exact F_fn h
  · exact F_fn h
theorem F_copy {s f t u n : Int} (h : Fc N) : Fc (ncpM N s f t u n) := by
  unfold ncpM
  split
  · split
    · exact F_fn h
    · split
      · rcases tI_or (ncpGd N s f t u n) (mwM N (40 * s + f) (40 * t + u) n n) (fnM N (-1000001)) with e | e
        · rw [e]
          unfold mwM mvM
          exact F_rk (by decide) (F_rk (by decide) h)
        · rw [e]; exact F_fn h
      · exact F_fn h
  · exact F_fn h
theorem F_ld {s : Int} : ∀ (k n : Nat) (N : xMem), Fc N → Fc (ldX s k n N) := by
  intro k
  induction k with
  | zero => intro n N h; exact h
  | succ k ih =>
    intro n N h
    unfold ldX
    split
    · exact ih _ _ (F_u1 (by omega) h)
    · exact h
theorem F_load {s : Int} (h : Fc N) : Fc (nloM N s) := by
  unfold nloM
  split
  · split
    · exact F_fn h
    · exact F_ld _ _ _ h
  · exact F_fn h
theorem F_image (h : Fc N) : Fc (up (cyM N 1 2) 0 3 1) := by
  unfold cyM
  exact F_u0 (by decide) (F_rk (by decide) h)
theorem F_undo (h : Fc N) : Fc (nunM N) := by
  unfold nunM
  split
  · exact F_fn h
  · exact F_0 (by rw [up_s, ur_s])
theorem F_status {x : Int} (h : Fc N) : Fc (nstM N x) := by
  unfold nstM
  split
  · exact h
  · exact F_fn h
theorem F_count {x : Int} (h : Fc N) : Fc (nctM N x) := by
  unfold nctM
  split
  · exact h
  · exact F_fn h
theorem F_text {C : Int → Int} {N' : xMem} (h : Fc N) (hT : ntxM N C N') : Fc N' := by
  obtain ⟨T, ⟨h1, h2, -⟩, h3, h4⟩ := hT
  have hFT : Fc T := by
    refine Fc_e1 (N := N) ?_ (h2 6 (by omega)) (h1 5 (by decide) (by decide)) h
    unfold wyM
    rw [h1 1 (by decide) (by decide)]
  by_cases e : tnF N C = -1
  · obtain ⟨-, f, d, rfl, h5⟩ := h4 e
    exact h5
  · rw [h3 e]
    exact hFT
end FC
