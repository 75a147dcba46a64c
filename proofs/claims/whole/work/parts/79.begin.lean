/-! both worlds: as they begin -/
/-- the first ways: each place to the next, one long -/
def lwL : Int → Int := fun i => if (0 ≤ i ∧ i < 100) ∧ (i / 10 - i % 10 = 1 ∨ i % 10 - i / 10 = 1) then 1 else 0
def zRw : Int → Int := fun _ => 0
def zM : xMem := fun _ => zRw
/-- the class's memory behind its constructor -/
noncomputable def C0 : xMem := fun k => if k = 0 then ur (ur zRw 3 1) 7 1 else if 1 < k ∧ k ≤ 5 then suC (upr zM 2 lwL) 1 k else if 6 < k ∧ k ≤ 10 then suC (upr zM 7 lwL) 6 k else if k = 41 then flC (-1) 10 zRw else if k = 11 ∨ k = 21 ∨ k = 31 then ur zRw 13 (-1) else zRw
/-- the reference's memory behind its constructor -/
def N0 : xMem := fun k => if k = 1 then (fun j => if j = 2 then 1 else if 3 ≤ j ∧ j < 13 then -1 else if 13 ≤ j ∧ j < 113 then lwL (j - 13) else 0) else zRw
theorem lwL_R (i : Int) : 0 ≤ lwL i ∧ lwL i ≤ 1 := by unfold lwL; split <;> omega
theorem C0_z {k : Nat} (h : 11 < k) (h2 : k ≠ 41) (h3 : k ≠ 21 ∧ k ≠ 31) : C0 k = zRw := by
  unfold C0
  rw [if_neg (by omega), if_neg (by omega), if_neg (by omega), if_neg h2, if_neg (by omega)]
theorem C0_11 : C0 11 = ur zRw 13 (-1) := by
  unfold C0
  rw [if_neg (by omega), if_neg (by omega), if_neg (by omega), if_neg (by omega), if_pos (by omega)]
theorem N0_z {k : Nat} (h : k ≠ 1) : N0 k = zRw := by unfold N0; rw [if_neg h]
theorem N0_1 (j : Int) : N0 1 j = if j = 2 then 1 else if 3 ≤ j ∧ j < 13 then -1 else if 13 ≤ j ∧ j < 113 then lwL (j - 13) else 0 := rfl
theorem C0_41 : C0 41 = flC (-1) 10 zRw := by
  unfold C0
  rw [if_neg (by omega), if_neg (by omega), if_neg (by omega), if_pos rfl]
theorem C0_r {k : Nat} (h : 1 < k ∧ k ≤ 5) : C0 k = suC (upr zM 2 lwL) 1 k := by
  unfold C0
  rw [if_neg (by omega), if_pos h]
theorem N0_w : wyr (N0 1) = fun i => if 0 ≤ i ∧ i < 100 then lwL i else 0 := by
  funext i
  unfold wyr
  by_cases h : 0 ≤ i ∧ i < 100
  · rw [if_pos h, if_pos h, N0_1, if_neg (by omega), if_neg (by omega), if_pos (by omega), show 13 + i - 13 = i by omega]
  · rw [if_neg h, if_neg h]
theorem N0_I : MInv N0 := by
  refine ⟨?_, ?_, ?_, fun p p0 p1 => ?_⟩
  · rw [N0_1, if_neg (by omega), if_neg (by omega), if_neg (by omega)]; omega
  · rw [N0_1, if_neg (by omega), if_neg (by omega), if_neg (by omega)]; omega
  · show LB (wyr (N0 1))
    rw [N0_w]
    intro i i0 i1
    have := lwL_R i
    dsimp only
    rw [if_pos ⟨i0, i1⟩]
    omega
  · rw [N0_1, if_neg (by omega), if_neg (by omega), if_neg (by omega)] at p1
    omega
theorem N0_F : Fc N0 := by
  rw [Fc]
  rw [N0_z (by decide)]
  exact ⟨Or.inl rfl, fun h => absurd h (by show ¬ (0 : Int) = 1; decide)⟩
theorem zz {k : Nat} {j : Int} (h : 42 < k) (h2 : k ≠ 41) : C0 k j = 0 := by rw [C0_z (by omega) h2 (by omega)]; rfl
theorem C0_0 : C0 0 = ur (ur zRw 3 1) 7 1 := by unfold C0; rw [if_pos rfl]
/-- as they begin, the class's object stands as the reference's -/
theorem Wo_0 : Wo 0 C0 N0 := by
  have c1 : C0 11 1 = 0 := by rw [C0_11]; rfl
  have c2 : C0 11 2 = 0 := by rw [C0_11]; rfl
  refine ⟨⟨⟨⟨by rw [c1]; omega, by rw [c2]; omega, fun p p0 p1 => by rw [c1] at p1; omega⟩, N0_I⟩, ⟨?_, ?_, fun p p0 p1 => by rw [c1] at p1; omega⟩, ?_, fun p p0 p1 => by rw [c1] at p1; omega, fun a c ha hc => ?_, by rw [c2]; omega, fun i i0 i1 => ?_, ?_⟩, ?_, ?_, ?_, ⟨?_, ?_, fun i i0 i1 => ?_⟩, fun s s0 s1 => ?_, fun f f0 f1 => ?_, ?_⟩
  · rw [c1, N0_1, if_neg (by omega), if_neg (by omega), if_neg (by omega)]
  · rw [c2, N0_1, if_neg (by omega), if_neg (by omega), if_neg (by omega)]
  · have e : E100 (upr zM 2 lwL (1 + 1)) (wyr (N0 1)) := by
      intro i i0 i1
      rw [N0_w, show (1 + 1 : Nat) = 2 from rfl, upr_s]
      dsimp only
      rw [if_pos ⟨i0, i1⟩]
    exact (RoR.su e N0_I.2.2.1).c (fun k a b => C0_r (by omega))
  · rw [N0_1, N0_1, if_neg (by omega), if_neg (by omega), if_pos (by omega), if_neg (by omega), if_neg (by omega), if_pos (by omega)]
    unfold lwL
    constructor
    · by_cases g : a - c = 1 ∨ c - a = 1
      · rw [if_pos (by omega), if_pos (by omega)]
      · rw [if_neg (by omega), if_neg (by omega)]
    · intro e
      rw [if_neg (by omega)]
  · rw [c1, C0_41, N0_1, if_neg (by omega), if_pos (by omega)]
    unfold flC
    rw [if_pos (by omega)]
    omega
  · rw [N0_1, if_pos rfl, C0_0, ur_n (by decide), ur_s]
  · rw [C0_0, ur_n (by decide), ur_n (by decide)]; exact Or.inl rfl
  · rw [C0_0, ur_n (by decide), ur_n (by decide), N0_z (by decide)]; rfl
  · rw [C0_0, ur_n (by decide), ur_n (by decide)]
    intro z
    exact absurd z (by show ¬ (0 : Int) = 1; decide)
  · rw [N0_z (by decide), zz (by omega) (by omega)]; rfl
  · rw [zz (by omega) (by omega)]; omega
  · rw [zz (by omega) (by omega)] at i1; omega
  · rw [zz (by omega) (by omega), zz (by omega) (by omega), N0_z (by decide), N0_z (by decide)]
    refine ⟨rfl, rfl, by omega, by omega, fun i i0 i1 => by omega⟩
  · rw [zz (by omega) (by omega), N0_z (by decide)]
    exact ⟨rfl, by omega⟩
  · rw [tyS_7, N0_z (by decide), zz (by omega) (by omega), zz (by omega) (by omega), zz (by omega) (by omega), zz (by omega) (by omega), zz (by omega) (by omega), zz (by omega) (by omega), zz (by omega) (by omega)]
    rfl
