/-! the reference: days -/
theorem MInv.lo {M : xMem} {i v : Int} (h : MInv M) (hi : 2 ≤ i ∧ i < 13) : MInv (up M 1 i v) := by
  refine ⟨?_, ?_, ?_, ?_⟩
  · rw [up_nn (by omega)]; exact h.1
  · rw [up_nn (by omega)]; exact h.2.1
  · rw [wyM_up (by omega)]; exact h.2.2.1
  · intro q q0 q1
    rw [up_nn (by omega)] at q1
    have g := h.2.2.2 q q0 q1
    rw [show up M 1 i v 1 1 = M 1 1 from up_nn (by omega)]
    rw [up_nn (by omega), up_nn (by omega), up_nn (by omega), up_nn (by omega), up_nn (by omega), up_nn (by omega), up_nn (by omega), up_nn (by omega)]
    exact g
def neN (N : xMem) : Int := brem (bushr (ndN N) 8) 10
theorem ndN_ca {N : xMem} {f : Int} {d : Int → Int} : ndN (ca N f d) = ndN N := rfl
theorem neN_ca {N : xMem} {f : Int} {d : Int → Int} : neN (ca N f d) = neN N := rfl
def ndG (p : Int) (N : xMem) : xMem := up (up N 1 2 (ndN N)) 1 (113 + 8 * p + 2) (neN N)
def ndF (N : xMem) (k : Nat) : xMem := xfo ndG N k
theorem ndF_s (N : xMem) (k : Nat) : ndF N (k + 1) = ndG (k : Int) (ndF N k) := by
  unfold ndF
  rw [xfo_s ndG N k]
noncomputable def ndD (N : xMem) : xMem := siN (ndF N (N 1 1).toNat) 10
noncomputable def ndI (N : xMem) : Nat → xMem
  | 0 => N
  | k + 1 => ndD (ndI N k)
noncomputable def ndS (N : xMem) : Nat → Int
  | 0 => 0
  | k + 1 => ndS N k + pc8 (thN (ndI N (k + 1)))
