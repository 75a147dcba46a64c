/-! both worlds: counts, tape, sheets, the kept image -/
theorem pc_n : ∀ a, a < 256 → ∀ n, n < 8 → a < 2 ^ n → pcN (a ||| 2 ^ n) = pcN a + 1 ∧ (a ||| 2 ^ n) < 2 ^ (n + 1) := by
  have : (List.range 256).all (fun a => (List.range 8).all (fun n => !(decide (a < 2 ^ n)) || (pcN (a ||| 2 ^ n) == pcN a + 1 && decide ((a ||| 2 ^ n) < 2 ^ (n + 1))))) = true := by decide +kernel
  intro a ha n hn h
  have h1 := List.all_eq_true.mp (List.all_eq_true.mp this a (List.mem_range.mpr ha)) n (List.mem_range.mpr hn)
  simp only [h, decide_true, Bool.not_true, Bool.false_or, Bool.and_eq_true, decide_eq_true_eq] at h1
  exact ⟨eq_of_beq h1.1, h1.2⟩
theorem pc_b {a : Int} {n : Nat} (hn : n < 8) (h : 0 ≤ a ∧ a < 2 ^ n) : pc8 (bor a (bshl 1 (n : Int))) = pc8 a + 1 ∧ 0 ≤ bor a (bshl 1 (n : Int)) ∧ bor a (bshl 1 (n : Int)) < 2 ^ (n + 1) := by
  obtain ⟨m, rfl⟩ := Int.eq_ofNat_of_zero_le h.1
  have hm : m < 2 ^ n := by have := h.2; exact_mod_cast this
  have h8 : (2 : Nat) ^ n ≤ 2 ^ 7 := Nat.pow_le_pow_right (by decide) (by omega)
  have h7 : (2 : Nat) ^ 7 = 128 := by decide
  have k := pc_n m (by omega) n hn hm
  rw [bshl_n n (by omega), bor_nat m (2 ^ n) (by omega) (by omega), pc8_N, pc8_N, k.1]
  refine ⟨by omega, by omega, ?_⟩
  exact_mod_cast k.2
theorem bytF_B (x i : Int) : 0 ≤ bytF x i ∧ bytF x i ≤ 255 := by
  unfold bytF
  have e : band (bshr x (8 * i)) 255 = band 255 (bshr x (8 * i)) := by unfold band; rw [Int32.and_comm]
  rw [e]
  have := band_255 (s := 255) (by decide) (bshr x (8 * i))
  omega
section CALLS
variable {K : Int} {C N : xMem}
theorem PeR.lm (h : PeR C 11 (N 1)) (hI : PeInv C 11) : ctL N (N 1 1).toNat = pc8 (lmS C 11) := by
  have hn := hI.1
  have key : ∀ n : Nat, (n : Int) ≤ C 11 1 → ctL N n = pc8 (xfo (fun (p acc : Int) => if p < C (11 + 4) p then bor acc (bshl 1 p) else acc) 0 n) ∧ 0 ≤ xfo (fun (p acc : Int) => if p < C (11 + 4) p then bor acc (bshl 1 p) else acc) 0 n ∧ xfo (fun (p acc : Int) => if p < C (11 + 4) p then bor acc (bshl 1 p) else acc) 0 n < 2 ^ n := by
    intro n
    induction n with
    | zero => intro _; exact ⟨rfl, by show (0 : Int) ≤ 0; omega, by show (0 : Int) < 2 ^ 0; decide⟩
    | succ n ih =>
      intro hk
      obtain ⟨i1, i2, i3⟩ := ih (by omega)
      rw [ctL_s, xfo_s, (h.2.2 (n : Int) (by omega) (by omega)).2.2.2.1]
      generalize xfo (fun (p acc : Int) => if p < C (11 + 4) p then bor acc (bshl 1 p) else acc) 0 n = A at i1 i2 i3 ⊢
      have k := pc_b (a := A) (n := n) (by omega) ⟨i2, i3⟩
      by_cases g : (n : Int) < C (11 + 4) n
      · rw [if_pos g, if_pos g, i1, k.1]
        exact ⟨rfl, k.2⟩
      · rw [if_neg g, if_neg g]
        refine ⟨i1, i2, ?_⟩
        have : (2 : Int) ^ (n + 1) = 2 ^ n * 2 := Int.pow_succ _ _
        omega
  rw [h.1]
  exact (key (C 11 1).toNat (by omega)).1
theorem PeR.ro (h : PeR C 11 (N 1)) (hI : PeInv C 11) : ctR N (N 1 1).toNat = roS C 11 := by
  have hn := hI.1
  unfold ctR roS
  rw [h.1]
  refine xfo_c _ (fun k hk acc => ?_)
  have a := h.2.2 (k : Int) (by omega) (by omega)
  rw [a.2.2.2.1]
  by_cases g : (k : Int) < C (11 + 4) k
  · rw [if_pos g, if_pos g, a.2.2.2.2.2.1 (by omega)]
  · rw [if_neg g, if_neg g]
theorem SpR.ct (h : SpR C 41 (C 11 1) (N 1)) : ctS N 10 = fsS C 10 := by
  unfold ctS fsS
  refine xfo_c _ (fun k hk acc => ?_)
  have a := h (k : Int) (by omega) (by omega)
  unfold fsG
  rw [a.1]
  by_cases g : C 41 (k : Int) = -1
  · rw [if_pos (by omega), if_pos g]
  · rw [if_neg (by omega), if_neg g]
set_option maxRecDepth 100000 in
theorem ct_100 : ctW N 100 = 0 + N 1 (13 + 0) + N 1 (13 + 1) + N 1 (13 + 2) + N 1 (13 + 3) + N 1 (13 + 4) + N 1 (13 + 5) + N 1 (13 + 6) + N 1 (13 + 7) + N 1 (13 + 8) + N 1 (13 + 9) + N 1 (13 + 10) + N 1 (13 + 11) + N 1 (13 + 12) + N 1 (13 + 13) + N 1 (13 + 14) + N 1 (13 + 15) + N 1 (13 + 16) + N 1 (13 + 17) + N 1 (13 + 18) + N 1 (13 + 19) + N 1 (13 + 20) + N 1 (13 + 21) + N 1 (13 + 22) + N 1 (13 + 23) + N 1 (13 + 24) + N 1 (13 + 25) + N 1 (13 + 26) + N 1 (13 + 27) + N 1 (13 + 28) + N 1 (13 + 29) + N 1 (13 + 30) + N 1 (13 + 31) + N 1 (13 + 32) + N 1 (13 + 33) + N 1 (13 + 34) + N 1 (13 + 35) + N 1 (13 + 36) + N 1 (13 + 37) + N 1 (13 + 38) + N 1 (13 + 39) + N 1 (13 + 40) + N 1 (13 + 41) + N 1 (13 + 42) + N 1 (13 + 43) + N 1 (13 + 44) + N 1 (13 + 45) + N 1 (13 + 46) + N 1 (13 + 47) + N 1 (13 + 48) + N 1 (13 + 49) + N 1 (13 + 50) + N 1 (13 + 51) + N 1 (13 + 52) + N 1 (13 + 53) + N 1 (13 + 54) + N 1 (13 + 55) + N 1 (13 + 56) + N 1 (13 + 57) + N 1 (13 + 58) + N 1 (13 + 59) + N 1 (13 + 60) + N 1 (13 + 61) + N 1 (13 + 62) + N 1 (13 + 63) + N 1 (13 + 64) + N 1 (13 + 65) + N 1 (13 + 66) + N 1 (13 + 67) + N 1 (13 + 68) + N 1 (13 + 69) + N 1 (13 + 70) + N 1 (13 + 71) + N 1 (13 + 72) + N 1 (13 + 73) + N 1 (13 + 74) + N 1 (13 + 75) + N 1 (13 + 76) + N 1 (13 + 77) + N 1 (13 + 78) + N 1 (13 + 79) + N 1 (13 + 80) + N 1 (13 + 81) + N 1 (13 + 82) + N 1 (13 + 83) + N 1 (13 + 84) + N 1 (13 + 85) + N 1 (13 + 86) + N 1 (13 + 87) + N 1 (13 + 88) + N 1 (13 + 89) + N 1 (13 + 90) + N 1 (13 + 91) + N 1 (13 + 92) + N 1 (13 + 93) + N 1 (13 + 94) + N 1 (13 + 95) + N 1 (13 + 96) + N 1 (13 + 97) + N 1 (13 + 98) + N 1 (13 + 99) := rfl
set_option maxRecDepth 100000 in
theorem la_10 (L : Int → Int) : laO L 10 = 0 + L (1 * 10 + 0) + L (2 * 10 + 0) + L (2 * 10 + 1) + L (3 * 10 + 0) + L (3 * 10 + 1) + L (3 * 10 + 2) + L (4 * 10 + 0) + L (4 * 10 + 1) + L (4 * 10 + 2) + L (4 * 10 + 3) + L (5 * 10 + 0) + L (5 * 10 + 1) + L (5 * 10 + 2) + L (5 * 10 + 3) + L (5 * 10 + 4) + L (6 * 10 + 0) + L (6 * 10 + 1) + L (6 * 10 + 2) + L (6 * 10 + 3) + L (6 * 10 + 4) + L (6 * 10 + 5) + L (7 * 10 + 0) + L (7 * 10 + 1) + L (7 * 10 + 2) + L (7 * 10 + 3) + L (7 * 10 + 4) + L (7 * 10 + 5) + L (7 * 10 + 6) + L (8 * 10 + 0) + L (8 * 10 + 1) + L (8 * 10 + 2) + L (8 * 10 + 3) + L (8 * 10 + 4) + L (8 * 10 + 5) + L (8 * 10 + 6) + L (8 * 10 + 7) + L (9 * 10 + 0) + L (9 * 10 + 1) + L (9 * 10 + 2) + L (9 * 10 + 3) + L (9 * 10 + 4) + L (9 * 10 + 5) + L (9 * 10 + 6) + L (9 * 10 + 7) + L (9 * 10 + 8) := rfl
set_option maxRecDepth 100000 in
set_option maxHeartbeats 1000000 in
theorem CoR.la (h : CoR K C 11 1 41 3 (N 1)) : bdiv (ctW N 100) 2 = laO (C (1 + 1)) 10 := by
  have hw := h.2.2.2.2.1
  have hL := h.1.2.2.2.1
  have d0 : N 1 (13 + 0) = 0 := (hw 0 0 (by decide) (by decide)).2 rfl
  have e10 : N 1 (13 + 1) = N 1 (13 + 10) := (hw 0 1 (by decide) (by decide)).1
  have l10 : C (1 + 1) (1 * 10 + 0) = N 1 (13 + 10) := (h.2.2.1.1 (1 * 10 + 0) (by decide) (by decide)).trans rfl
  have b10 : 0 ≤ N 1 (13 + 10) ∧ N 1 (13 + 10) ≤ 9 := hL 10 (by decide) (by decide)
  have d1 : N 1 (13 + 11) = 0 := (hw 1 1 (by decide) (by decide)).2 rfl
  have e20 : N 1 (13 + 2) = N 1 (13 + 20) := (hw 0 2 (by decide) (by decide)).1
  have l20 : C (1 + 1) (2 * 10 + 0) = N 1 (13 + 20) := (h.2.2.1.1 (2 * 10 + 0) (by decide) (by decide)).trans rfl
  have b20 : 0 ≤ N 1 (13 + 20) ∧ N 1 (13 + 20) ≤ 9 := hL 20 (by decide) (by decide)
  have e21 : N 1 (13 + 12) = N 1 (13 + 21) := (hw 1 2 (by decide) (by decide)).1
  have l21 : C (1 + 1) (2 * 10 + 1) = N 1 (13 + 21) := (h.2.2.1.1 (2 * 10 + 1) (by decide) (by decide)).trans rfl
  have b21 : 0 ≤ N 1 (13 + 21) ∧ N 1 (13 + 21) ≤ 9 := hL 21 (by decide) (by decide)
  have d2 : N 1 (13 + 22) = 0 := (hw 2 2 (by decide) (by decide)).2 rfl
  have e30 : N 1 (13 + 3) = N 1 (13 + 30) := (hw 0 3 (by decide) (by decide)).1
  have l30 : C (1 + 1) (3 * 10 + 0) = N 1 (13 + 30) := (h.2.2.1.1 (3 * 10 + 0) (by decide) (by decide)).trans rfl
  have b30 : 0 ≤ N 1 (13 + 30) ∧ N 1 (13 + 30) ≤ 9 := hL 30 (by decide) (by decide)
  have e31 : N 1 (13 + 13) = N 1 (13 + 31) := (hw 1 3 (by decide) (by decide)).1
  have l31 : C (1 + 1) (3 * 10 + 1) = N 1 (13 + 31) := (h.2.2.1.1 (3 * 10 + 1) (by decide) (by decide)).trans rfl
  have b31 : 0 ≤ N 1 (13 + 31) ∧ N 1 (13 + 31) ≤ 9 := hL 31 (by decide) (by decide)
  have e32 : N 1 (13 + 23) = N 1 (13 + 32) := (hw 2 3 (by decide) (by decide)).1
  have l32 : C (1 + 1) (3 * 10 + 2) = N 1 (13 + 32) := (h.2.2.1.1 (3 * 10 + 2) (by decide) (by decide)).trans rfl
  have b32 : 0 ≤ N 1 (13 + 32) ∧ N 1 (13 + 32) ≤ 9 := hL 32 (by decide) (by decide)
  have d3 : N 1 (13 + 33) = 0 := (hw 3 3 (by decide) (by decide)).2 rfl
  have e40 : N 1 (13 + 4) = N 1 (13 + 40) := (hw 0 4 (by decide) (by decide)).1
  have l40 : C (1 + 1) (4 * 10 + 0) = N 1 (13 + 40) := (h.2.2.1.1 (4 * 10 + 0) (by decide) (by decide)).trans rfl
  have b40 : 0 ≤ N 1 (13 + 40) ∧ N 1 (13 + 40) ≤ 9 := hL 40 (by decide) (by decide)
  have e41 : N 1 (13 + 14) = N 1 (13 + 41) := (hw 1 4 (by decide) (by decide)).1
  have l41 : C (1 + 1) (4 * 10 + 1) = N 1 (13 + 41) := (h.2.2.1.1 (4 * 10 + 1) (by decide) (by decide)).trans rfl
  have b41 : 0 ≤ N 1 (13 + 41) ∧ N 1 (13 + 41) ≤ 9 := hL 41 (by decide) (by decide)
  have e42 : N 1 (13 + 24) = N 1 (13 + 42) := (hw 2 4 (by decide) (by decide)).1
  have l42 : C (1 + 1) (4 * 10 + 2) = N 1 (13 + 42) := (h.2.2.1.1 (4 * 10 + 2) (by decide) (by decide)).trans rfl
  have b42 : 0 ≤ N 1 (13 + 42) ∧ N 1 (13 + 42) ≤ 9 := hL 42 (by decide) (by decide)
  have e43 : N 1 (13 + 34) = N 1 (13 + 43) := (hw 3 4 (by decide) (by decide)).1
  have l43 : C (1 + 1) (4 * 10 + 3) = N 1 (13 + 43) := (h.2.2.1.1 (4 * 10 + 3) (by decide) (by decide)).trans rfl
  have b43 : 0 ≤ N 1 (13 + 43) ∧ N 1 (13 + 43) ≤ 9 := hL 43 (by decide) (by decide)
  have d4 : N 1 (13 + 44) = 0 := (hw 4 4 (by decide) (by decide)).2 rfl
  have e50 : N 1 (13 + 5) = N 1 (13 + 50) := (hw 0 5 (by decide) (by decide)).1
  have l50 : C (1 + 1) (5 * 10 + 0) = N 1 (13 + 50) := (h.2.2.1.1 (5 * 10 + 0) (by decide) (by decide)).trans rfl
  have b50 : 0 ≤ N 1 (13 + 50) ∧ N 1 (13 + 50) ≤ 9 := hL 50 (by decide) (by decide)
  have e51 : N 1 (13 + 15) = N 1 (13 + 51) := (hw 1 5 (by decide) (by decide)).1
  have l51 : C (1 + 1) (5 * 10 + 1) = N 1 (13 + 51) := (h.2.2.1.1 (5 * 10 + 1) (by decide) (by decide)).trans rfl
  have b51 : 0 ≤ N 1 (13 + 51) ∧ N 1 (13 + 51) ≤ 9 := hL 51 (by decide) (by decide)
  have e52 : N 1 (13 + 25) = N 1 (13 + 52) := (hw 2 5 (by decide) (by decide)).1
  have l52 : C (1 + 1) (5 * 10 + 2) = N 1 (13 + 52) := (h.2.2.1.1 (5 * 10 + 2) (by decide) (by decide)).trans rfl
  have b52 : 0 ≤ N 1 (13 + 52) ∧ N 1 (13 + 52) ≤ 9 := hL 52 (by decide) (by decide)
  have e53 : N 1 (13 + 35) = N 1 (13 + 53) := (hw 3 5 (by decide) (by decide)).1
  have l53 : C (1 + 1) (5 * 10 + 3) = N 1 (13 + 53) := (h.2.2.1.1 (5 * 10 + 3) (by decide) (by decide)).trans rfl
  have b53 : 0 ≤ N 1 (13 + 53) ∧ N 1 (13 + 53) ≤ 9 := hL 53 (by decide) (by decide)
  have e54 : N 1 (13 + 45) = N 1 (13 + 54) := (hw 4 5 (by decide) (by decide)).1
  have l54 : C (1 + 1) (5 * 10 + 4) = N 1 (13 + 54) := (h.2.2.1.1 (5 * 10 + 4) (by decide) (by decide)).trans rfl
  have b54 : 0 ≤ N 1 (13 + 54) ∧ N 1 (13 + 54) ≤ 9 := hL 54 (by decide) (by decide)
  have d5 : N 1 (13 + 55) = 0 := (hw 5 5 (by decide) (by decide)).2 rfl
  have e60 : N 1 (13 + 6) = N 1 (13 + 60) := (hw 0 6 (by decide) (by decide)).1
  have l60 : C (1 + 1) (6 * 10 + 0) = N 1 (13 + 60) := (h.2.2.1.1 (6 * 10 + 0) (by decide) (by decide)).trans rfl
  have b60 : 0 ≤ N 1 (13 + 60) ∧ N 1 (13 + 60) ≤ 9 := hL 60 (by decide) (by decide)
  have e61 : N 1 (13 + 16) = N 1 (13 + 61) := (hw 1 6 (by decide) (by decide)).1
  have l61 : C (1 + 1) (6 * 10 + 1) = N 1 (13 + 61) := (h.2.2.1.1 (6 * 10 + 1) (by decide) (by decide)).trans rfl
  have b61 : 0 ≤ N 1 (13 + 61) ∧ N 1 (13 + 61) ≤ 9 := hL 61 (by decide) (by decide)
  have e62 : N 1 (13 + 26) = N 1 (13 + 62) := (hw 2 6 (by decide) (by decide)).1
  have l62 : C (1 + 1) (6 * 10 + 2) = N 1 (13 + 62) := (h.2.2.1.1 (6 * 10 + 2) (by decide) (by decide)).trans rfl
  have b62 : 0 ≤ N 1 (13 + 62) ∧ N 1 (13 + 62) ≤ 9 := hL 62 (by decide) (by decide)
  have e63 : N 1 (13 + 36) = N 1 (13 + 63) := (hw 3 6 (by decide) (by decide)).1
  have l63 : C (1 + 1) (6 * 10 + 3) = N 1 (13 + 63) := (h.2.2.1.1 (6 * 10 + 3) (by decide) (by decide)).trans rfl
  have b63 : 0 ≤ N 1 (13 + 63) ∧ N 1 (13 + 63) ≤ 9 := hL 63 (by decide) (by decide)
  have e64 : N 1 (13 + 46) = N 1 (13 + 64) := (hw 4 6 (by decide) (by decide)).1
  have l64 : C (1 + 1) (6 * 10 + 4) = N 1 (13 + 64) := (h.2.2.1.1 (6 * 10 + 4) (by decide) (by decide)).trans rfl
  have b64 : 0 ≤ N 1 (13 + 64) ∧ N 1 (13 + 64) ≤ 9 := hL 64 (by decide) (by decide)
  have e65 : N 1 (13 + 56) = N 1 (13 + 65) := (hw 5 6 (by decide) (by decide)).1
  have l65 : C (1 + 1) (6 * 10 + 5) = N 1 (13 + 65) := (h.2.2.1.1 (6 * 10 + 5) (by decide) (by decide)).trans rfl
  have b65 : 0 ≤ N 1 (13 + 65) ∧ N 1 (13 + 65) ≤ 9 := hL 65 (by decide) (by decide)
  have d6 : N 1 (13 + 66) = 0 := (hw 6 6 (by decide) (by decide)).2 rfl
  have e70 : N 1 (13 + 7) = N 1 (13 + 70) := (hw 0 7 (by decide) (by decide)).1
  have l70 : C (1 + 1) (7 * 10 + 0) = N 1 (13 + 70) := (h.2.2.1.1 (7 * 10 + 0) (by decide) (by decide)).trans rfl
  have b70 : 0 ≤ N 1 (13 + 70) ∧ N 1 (13 + 70) ≤ 9 := hL 70 (by decide) (by decide)
  have e71 : N 1 (13 + 17) = N 1 (13 + 71) := (hw 1 7 (by decide) (by decide)).1
  have l71 : C (1 + 1) (7 * 10 + 1) = N 1 (13 + 71) := (h.2.2.1.1 (7 * 10 + 1) (by decide) (by decide)).trans rfl
  have b71 : 0 ≤ N 1 (13 + 71) ∧ N 1 (13 + 71) ≤ 9 := hL 71 (by decide) (by decide)
  have e72 : N 1 (13 + 27) = N 1 (13 + 72) := (hw 2 7 (by decide) (by decide)).1
  have l72 : C (1 + 1) (7 * 10 + 2) = N 1 (13 + 72) := (h.2.2.1.1 (7 * 10 + 2) (by decide) (by decide)).trans rfl
  have b72 : 0 ≤ N 1 (13 + 72) ∧ N 1 (13 + 72) ≤ 9 := hL 72 (by decide) (by decide)
  have e73 : N 1 (13 + 37) = N 1 (13 + 73) := (hw 3 7 (by decide) (by decide)).1
  have l73 : C (1 + 1) (7 * 10 + 3) = N 1 (13 + 73) := (h.2.2.1.1 (7 * 10 + 3) (by decide) (by decide)).trans rfl
  have b73 : 0 ≤ N 1 (13 + 73) ∧ N 1 (13 + 73) ≤ 9 := hL 73 (by decide) (by decide)
  have e74 : N 1 (13 + 47) = N 1 (13 + 74) := (hw 4 7 (by decide) (by decide)).1
  have l74 : C (1 + 1) (7 * 10 + 4) = N 1 (13 + 74) := (h.2.2.1.1 (7 * 10 + 4) (by decide) (by decide)).trans rfl
  have b74 : 0 ≤ N 1 (13 + 74) ∧ N 1 (13 + 74) ≤ 9 := hL 74 (by decide) (by decide)
  have e75 : N 1 (13 + 57) = N 1 (13 + 75) := (hw 5 7 (by decide) (by decide)).1
  have l75 : C (1 + 1) (7 * 10 + 5) = N 1 (13 + 75) := (h.2.2.1.1 (7 * 10 + 5) (by decide) (by decide)).trans rfl
  have b75 : 0 ≤ N 1 (13 + 75) ∧ N 1 (13 + 75) ≤ 9 := hL 75 (by decide) (by decide)
  have e76 : N 1 (13 + 67) = N 1 (13 + 76) := (hw 6 7 (by decide) (by decide)).1
  have l76 : C (1 + 1) (7 * 10 + 6) = N 1 (13 + 76) := (h.2.2.1.1 (7 * 10 + 6) (by decide) (by decide)).trans rfl
  have b76 : 0 ≤ N 1 (13 + 76) ∧ N 1 (13 + 76) ≤ 9 := hL 76 (by decide) (by decide)
  have d7 : N 1 (13 + 77) = 0 := (hw 7 7 (by decide) (by decide)).2 rfl
  have e80 : N 1 (13 + 8) = N 1 (13 + 80) := (hw 0 8 (by decide) (by decide)).1
  have l80 : C (1 + 1) (8 * 10 + 0) = N 1 (13 + 80) := (h.2.2.1.1 (8 * 10 + 0) (by decide) (by decide)).trans rfl
  have b80 : 0 ≤ N 1 (13 + 80) ∧ N 1 (13 + 80) ≤ 9 := hL 80 (by decide) (by decide)
  have e81 : N 1 (13 + 18) = N 1 (13 + 81) := (hw 1 8 (by decide) (by decide)).1
  have l81 : C (1 + 1) (8 * 10 + 1) = N 1 (13 + 81) := (h.2.2.1.1 (8 * 10 + 1) (by decide) (by decide)).trans rfl
  have b81 : 0 ≤ N 1 (13 + 81) ∧ N 1 (13 + 81) ≤ 9 := hL 81 (by decide) (by decide)
  have e82 : N 1 (13 + 28) = N 1 (13 + 82) := (hw 2 8 (by decide) (by decide)).1
  have l82 : C (1 + 1) (8 * 10 + 2) = N 1 (13 + 82) := (h.2.2.1.1 (8 * 10 + 2) (by decide) (by decide)).trans rfl
  have b82 : 0 ≤ N 1 (13 + 82) ∧ N 1 (13 + 82) ≤ 9 := hL 82 (by decide) (by decide)
  have e83 : N 1 (13 + 38) = N 1 (13 + 83) := (hw 3 8 (by decide) (by decide)).1
  have l83 : C (1 + 1) (8 * 10 + 3) = N 1 (13 + 83) := (h.2.2.1.1 (8 * 10 + 3) (by decide) (by decide)).trans rfl
  have b83 : 0 ≤ N 1 (13 + 83) ∧ N 1 (13 + 83) ≤ 9 := hL 83 (by decide) (by decide)
  have e84 : N 1 (13 + 48) = N 1 (13 + 84) := (hw 4 8 (by decide) (by decide)).1
  have l84 : C (1 + 1) (8 * 10 + 4) = N 1 (13 + 84) := (h.2.2.1.1 (8 * 10 + 4) (by decide) (by decide)).trans rfl
  have b84 : 0 ≤ N 1 (13 + 84) ∧ N 1 (13 + 84) ≤ 9 := hL 84 (by decide) (by decide)
  have e85 : N 1 (13 + 58) = N 1 (13 + 85) := (hw 5 8 (by decide) (by decide)).1
  have l85 : C (1 + 1) (8 * 10 + 5) = N 1 (13 + 85) := (h.2.2.1.1 (8 * 10 + 5) (by decide) (by decide)).trans rfl
  have b85 : 0 ≤ N 1 (13 + 85) ∧ N 1 (13 + 85) ≤ 9 := hL 85 (by decide) (by decide)
  have e86 : N 1 (13 + 68) = N 1 (13 + 86) := (hw 6 8 (by decide) (by decide)).1
  have l86 : C (1 + 1) (8 * 10 + 6) = N 1 (13 + 86) := (h.2.2.1.1 (8 * 10 + 6) (by decide) (by decide)).trans rfl
  have b86 : 0 ≤ N 1 (13 + 86) ∧ N 1 (13 + 86) ≤ 9 := hL 86 (by decide) (by decide)
  have e87 : N 1 (13 + 78) = N 1 (13 + 87) := (hw 7 8 (by decide) (by decide)).1
  have l87 : C (1 + 1) (8 * 10 + 7) = N 1 (13 + 87) := (h.2.2.1.1 (8 * 10 + 7) (by decide) (by decide)).trans rfl
  have b87 : 0 ≤ N 1 (13 + 87) ∧ N 1 (13 + 87) ≤ 9 := hL 87 (by decide) (by decide)
  have d8 : N 1 (13 + 88) = 0 := (hw 8 8 (by decide) (by decide)).2 rfl
  have e90 : N 1 (13 + 9) = N 1 (13 + 90) := (hw 0 9 (by decide) (by decide)).1
  have l90 : C (1 + 1) (9 * 10 + 0) = N 1 (13 + 90) := (h.2.2.1.1 (9 * 10 + 0) (by decide) (by decide)).trans rfl
  have b90 : 0 ≤ N 1 (13 + 90) ∧ N 1 (13 + 90) ≤ 9 := hL 90 (by decide) (by decide)
  have e91 : N 1 (13 + 19) = N 1 (13 + 91) := (hw 1 9 (by decide) (by decide)).1
  have l91 : C (1 + 1) (9 * 10 + 1) = N 1 (13 + 91) := (h.2.2.1.1 (9 * 10 + 1) (by decide) (by decide)).trans rfl
  have b91 : 0 ≤ N 1 (13 + 91) ∧ N 1 (13 + 91) ≤ 9 := hL 91 (by decide) (by decide)
  have e92 : N 1 (13 + 29) = N 1 (13 + 92) := (hw 2 9 (by decide) (by decide)).1
  have l92 : C (1 + 1) (9 * 10 + 2) = N 1 (13 + 92) := (h.2.2.1.1 (9 * 10 + 2) (by decide) (by decide)).trans rfl
  have b92 : 0 ≤ N 1 (13 + 92) ∧ N 1 (13 + 92) ≤ 9 := hL 92 (by decide) (by decide)
  have e93 : N 1 (13 + 39) = N 1 (13 + 93) := (hw 3 9 (by decide) (by decide)).1
  have l93 : C (1 + 1) (9 * 10 + 3) = N 1 (13 + 93) := (h.2.2.1.1 (9 * 10 + 3) (by decide) (by decide)).trans rfl
  have b93 : 0 ≤ N 1 (13 + 93) ∧ N 1 (13 + 93) ≤ 9 := hL 93 (by decide) (by decide)
  have e94 : N 1 (13 + 49) = N 1 (13 + 94) := (hw 4 9 (by decide) (by decide)).1
  have l94 : C (1 + 1) (9 * 10 + 4) = N 1 (13 + 94) := (h.2.2.1.1 (9 * 10 + 4) (by decide) (by decide)).trans rfl
  have b94 : 0 ≤ N 1 (13 + 94) ∧ N 1 (13 + 94) ≤ 9 := hL 94 (by decide) (by decide)
  have e95 : N 1 (13 + 59) = N 1 (13 + 95) := (hw 5 9 (by decide) (by decide)).1
  have l95 : C (1 + 1) (9 * 10 + 5) = N 1 (13 + 95) := (h.2.2.1.1 (9 * 10 + 5) (by decide) (by decide)).trans rfl
  have b95 : 0 ≤ N 1 (13 + 95) ∧ N 1 (13 + 95) ≤ 9 := hL 95 (by decide) (by decide)
  have e96 : N 1 (13 + 69) = N 1 (13 + 96) := (hw 6 9 (by decide) (by decide)).1
  have l96 : C (1 + 1) (9 * 10 + 6) = N 1 (13 + 96) := (h.2.2.1.1 (9 * 10 + 6) (by decide) (by decide)).trans rfl
  have b96 : 0 ≤ N 1 (13 + 96) ∧ N 1 (13 + 96) ≤ 9 := hL 96 (by decide) (by decide)
  have e97 : N 1 (13 + 79) = N 1 (13 + 97) := (hw 7 9 (by decide) (by decide)).1
  have l97 : C (1 + 1) (9 * 10 + 7) = N 1 (13 + 97) := (h.2.2.1.1 (9 * 10 + 7) (by decide) (by decide)).trans rfl
  have b97 : 0 ≤ N 1 (13 + 97) ∧ N 1 (13 + 97) ≤ 9 := hL 97 (by decide) (by decide)
  have e98 : N 1 (13 + 89) = N 1 (13 + 98) := (hw 8 9 (by decide) (by decide)).1
  have l98 : C (1 + 1) (9 * 10 + 8) = N 1 (13 + 98) := (h.2.2.1.1 (9 * 10 + 8) (by decide) (by decide)).trans rfl
  have b98 : 0 ≤ N 1 (13 + 98) ∧ N 1 (13 + 98) ≤ 9 := hL 98 (by decide) (by decide)
  have d9 : N 1 (13 + 99) = 0 := (hw 9 9 (by decide) (by decide)).2 rfl
  rw [la_10, ct_100]
  rw [l10, l20, l21, l30, l31, l32, l40, l41, l42, l43, l50, l51, l52, l53, l54, l60, l61, l62, l63, l64, l65, l70, l71, l72, l73, l74, l75, l76, l80, l81, l82, l83, l84, l85, l86, l87, l90, l91, l92, l93, l94, l95, l96, l97, l98]
  rw [e10, e20, e21, e30, e31, e32, e40, e41, e42, e43, e50, e51, e52, e53, e54, e60, e61, e62, e63, e64, e65, e70, e71, e72, e73, e74, e75, e76, e80, e81, e82, e83, e84, e85, e86, e87, e90, e91, e92, e93, e94, e95, e96, e97, e98, d0, d1, d2, d3, d4, d5, d6, d7, d8, d9]
  clear e10 l10 e20 l20 e21 l21 e30 l30 e31 l31 e32 l32 e40 l40 e41 l41 e42 l42 e43 l43 e50 l50 e51 l51 e52 l52 e53 l53 e54 l54 e60 l60 e61 l61 e62 l62 e63 l63 e64 l64 e65 l65 e70 l70 e71 l71 e72 l72 e73 l73 e74 l74 e75 l75 e76 l76 e80 l80 e81 l81 e82 l82 e83 l83 e84 l84 e85 l85 e86 l86 e87 l87 e90 l90 e91 l91 e92 l92 e93 l93 e94 l94 e95 l95 e96 l96 e97 l97 e98 l98 d0 d1 d2 d3 d4 d5 d6 d7 d8 d9
  generalize N 1 (13 + 10) = x10 at b10 ⊢
  generalize N 1 (13 + 20) = x20 at b20 ⊢
  generalize N 1 (13 + 21) = x21 at b21 ⊢
  generalize N 1 (13 + 30) = x30 at b30 ⊢
  generalize N 1 (13 + 31) = x31 at b31 ⊢
  generalize N 1 (13 + 32) = x32 at b32 ⊢
  generalize N 1 (13 + 40) = x40 at b40 ⊢
  generalize N 1 (13 + 41) = x41 at b41 ⊢
  generalize N 1 (13 + 42) = x42 at b42 ⊢
  generalize N 1 (13 + 43) = x43 at b43 ⊢
  generalize N 1 (13 + 50) = x50 at b50 ⊢
  generalize N 1 (13 + 51) = x51 at b51 ⊢
  generalize N 1 (13 + 52) = x52 at b52 ⊢
  generalize N 1 (13 + 53) = x53 at b53 ⊢
  generalize N 1 (13 + 54) = x54 at b54 ⊢
  generalize N 1 (13 + 60) = x60 at b60 ⊢
  generalize N 1 (13 + 61) = x61 at b61 ⊢
  generalize N 1 (13 + 62) = x62 at b62 ⊢
  generalize N 1 (13 + 63) = x63 at b63 ⊢
  generalize N 1 (13 + 64) = x64 at b64 ⊢
  generalize N 1 (13 + 65) = x65 at b65 ⊢
  generalize N 1 (13 + 70) = x70 at b70 ⊢
  generalize N 1 (13 + 71) = x71 at b71 ⊢
  generalize N 1 (13 + 72) = x72 at b72 ⊢
  generalize N 1 (13 + 73) = x73 at b73 ⊢
  generalize N 1 (13 + 74) = x74 at b74 ⊢
  generalize N 1 (13 + 75) = x75 at b75 ⊢
  generalize N 1 (13 + 76) = x76 at b76 ⊢
  generalize N 1 (13 + 80) = x80 at b80 ⊢
  generalize N 1 (13 + 81) = x81 at b81 ⊢
  generalize N 1 (13 + 82) = x82 at b82 ⊢
  generalize N 1 (13 + 83) = x83 at b83 ⊢
  generalize N 1 (13 + 84) = x84 at b84 ⊢
  generalize N 1 (13 + 85) = x85 at b85 ⊢
  generalize N 1 (13 + 86) = x86 at b86 ⊢
  generalize N 1 (13 + 87) = x87 at b87 ⊢
  generalize N 1 (13 + 90) = x90 at b90 ⊢
  generalize N 1 (13 + 91) = x91 at b91 ⊢
  generalize N 1 (13 + 92) = x92 at b92 ⊢
  generalize N 1 (13 + 93) = x93 at b93 ⊢
  generalize N 1 (13 + 94) = x94 at b94 ⊢
  generalize N 1 (13 + 95) = x95 at b95 ⊢
  generalize N 1 (13 + 96) = x96 at b96 ⊢
  generalize N 1 (13 + 97) = x97 at b97 ⊢
  generalize N 1 (13 + 98) = x98 at b98 ⊢
  rw [bdiv_p (by omega) (by decide)]
  omega
theorem w_count {v : Int} (h : Wo K C N) (hk : kI K) : Sa K (countR C v) (nctR N v) (countM C v) (nctM N v) := by
  unfold countR nctR countM nctM
  have e2 := h.1.2.1.lm h.1.1.1
  have e4 := h.1.2.1.ro h.1.1.1
  have e7 := h.1.2.2.2.2.2.2.1.ct
  rw [h.1.2.1.2.1, e2, e4, e7, h.1.la, h.1.n1, h.2.2.2.2.1.1, h.1.2.2.2.2.2.2.2]
  refine ⟨rfl, ?_⟩
  by_cases q : 0 ≤ v ∧ v ≤ 7
  · rw [if_pos q, if_pos q]; exact h.le (by omega)
  · rw [if_neg q, if_neg q]; exact h.fnd hk (by omega) rfl
/-- the tape, the sheets: rows from 47 on, and nothing else -/
theorem Wo.hi {C' N' : xMem} (h : Wo K C N) (hk : 0 ≤ K) (eC : ∀ k, k < 47 → C' k = C k) (eN : N' 1 = N 1 ∧ N' 2 = N 2 ∧ N' 0 3 = N 0 3) (hT : TaR C' N') (hS : ShR C' N') (hF : C' 55 = C 55 ∧ N' 4 = N 4) : Wo (K + 100) C' N' := by
  obtain ⟨h1, h2, h3, h4, h5, h6, h7⟩ := h.le (show K ≤ K + 100 by omega)
  refine ⟨?_, by rw [eC 0 (by decide)]; exact h2, by rw [eC 0 (by decide), eN.2.2]; exact h3, ?_, hT, hS, h7.e (Int.le_refl _) hF.1 hF.2⟩
  · rw [eN.1]
    exact h1.c (fun k a b => eC k (by omega)) (by rw [eC 11 (by decide)]) (by rw [eC 11 (by decide)]) (fun k a b => eC k (by omega)) (eC 41 (by decide)) (by rw [eC 0 (by decide)])
  · intro z
    rw [eC 0 (by decide)] at z
    rw [eN.2.1]
    exact (h4 z).c (fun k a b => eC k (by omega)) (by rw [eC 21 (by decide)]) (by rw [eC 21 (by decide)]) (fun k a b => eC k (by omega)) (eC 42 (by decide)) (by rw [eC 0 (by decide)])
theorem fdS {x n : Int} (h : TaR C N) : ∀ k : Nat, C 47 1 + k ≤ 120 → TaR (apC x n C k) (fdC x n N k) ∧ apC x n C k 47 1 = C 47 1 + k ∧ (∀ i, i ≠ 47 → i ≠ 48 → apC x n C k i = C i) ∧ (∀ i, i ≠ 0 → i ≠ 9 → fdC x n N k i = N i) ∧ (∀ j, j ≠ 16 → fdC x n N k 0 j = N 0 j) := by
  intro k
  induction k with
  | zero => intro _; exact ⟨h, by show C 47 1 = C 47 1 + ((0 : Nat) : Int); omega, fun _ _ _ => rfl, fun _ _ _ => rfl, fun _ _ => rfl⟩
  | succ k ih =>
    intro hk
    obtain ⟨a1, a2, a3, a4, a5⟩ := ih (by omega)
    have e1 : apC x n C (k + 1) = apG x n (k : Int) (apC x n C k) := rfl
    have hB := bytF_B x (n - 1 - (k : Int))
    have h0 := h.2.1
    rw [e1, fdC_s]
    generalize apC x n C k = C1 at a1 a2 a3 ⊢
    generalize fdC x n N k = N1 at a1 a4 a5 ⊢
    unfold apG fdG
    refine ⟨⟨?_, ?_, fun i i0 i1 => ?_⟩, ?_, fun i g1 g2 => ?_, fun i g1 g2 => ?_, fun j g => ?_⟩
    · rw [up_ss, up_ss, a1.1]
    · rw [up_ss, a2]; omega
    · rw [up_ss] at i1
      rw [up_n (show 9 ≠ 0 by decide), up_s, up_n (show 48 ≠ 47 by decide), up_s, a1.1]
      by_cases q : i = C1 47 1
      · subst q; rw [ur_s, ur_s]; exact ⟨rfl, hB⟩
      · rw [ur_n q, ur_n q]; exact a1.2.2 i i0 (by omega)
    · rw [up_ss, a2]; omega
    · rw [up_n g1, up_n g2]; exact a3 i g1 g2
    · rw [up_n g1, up_n g2]; exact a4 i g1 g2
    · rw [up_nn (by omega), up_n (by decide)]; exact a5 j g
theorem w_feed {x n : Int} (h : Wo K C N) (hk : kI K) : Sa K (feedR C x n) (nfdR N n) (feedM C x n) (nfdM N x n) := by
  unfold feedR nfdR feedM nfdM
  have t := h.2.2.2.2.1
  by_cases q : 1 ≤ n ∧ n ≤ 4
  · rw [if_pos q, if_pos q, if_pos q, if_pos q, t.1]
    by_cases g : C 47 1 + n ≤ 120
    · have g' : ¬ 120 < C 47 1 + n := by omega
      rw [if_pos g, if_pos g, if_neg g', if_neg g']
      obtain ⟨a1, a2, a3, a4, a5⟩ := fdS (x := x) (n := n) t n.toNat (by omega)
      refine ⟨by rw [a2]; omega, h.hi hk.1 (fun k z => a3 k (by omega) (by omega)) ⟨a4 1 (by decide) (by decide), a4 2 (by decide) (by decide), a5 3 (by decide)⟩ a1 (h.2.2.2.2.2.1.e (a3 52 (by decide) (by decide)) (a3 53 (by decide) (by decide)) (a3 54 (by decide) (by decide)) (a4 12 (by decide) (by decide)) (a4 13 (by decide) (by decide)) (a4 14 (by decide) (by decide))) ⟨a3 55 (by decide) (by decide), a4 4 (by decide) (by decide)⟩⟩
    · have g' : 120 < C 47 1 + n := by omega
      rw [if_neg g, if_neg g, if_pos g', if_pos g']
      exact ⟨rfl, h.fnd hk (by omega) rfl⟩
  · rw [if_neg q, if_neg q, if_neg q, if_neg q]
    exact ⟨rfl, h.fnd hk (by omega) rfl⟩
theorem w_sheet {s b n : Int} (h : Wo K C N) (hk : kI K) : Sa K (sheetR C s b n) (nshR s b n) (sheetM C s b n) (nshM N s b n) := by
  unfold sheetR nshR sheetM nshM
  by_cases q : shI s ∧ (b = 0 ∨ b = 8 ∨ b = 16 ∨ b = 32)
  · have q' : shGd s b := ⟨by omega, q.2⟩
    rw [if_pos q, if_pos q, if_pos q', if_pos q']
    by_cases g : n < 0
    · rw [if_pos g, if_pos g, if_pos g, if_pos g]
      exact ⟨rfl, h.fnd hk (by omega) rfl⟩
    rw [if_neg g, if_neg g, if_neg g, if_neg g]
    by_cases m : n ≤ 40
    · have m' : ¬ 40 < n := by omega
      rw [if_pos m, if_pos m, if_neg m', if_neg m']
      have c52 : slC C s b n 52 = ur (C 52) s b := by unfold slC slH; rw [upr_n (by decide), up_n (by decide), up_s]
      have c53 : slC C s b n 53 = ur (C 53) s (if b = 0 then 0 else n) := by unfold slC slH; rw [upr_n (by decide), up_s, up_n (by decide)]
      have c54 : slC C s b n 54 = zrC (s * 40) n (C 54) := by unfold slC; rw [upr_s]
      have cn : ∀ k, k ≠ 52 → k ≠ 53 → k ≠ 54 → slC C s b n k = C k := fun k a1 a2 a3 => by unfold slC slH; rw [upr_n a3, up_n a2, up_n a1]
      have n12 : shM N s b n 12 = ur (N 12) s b := by unfold shM shH; rw [upr_n (by decide), up_n (by decide), up_s]
      have n13 : shM N s b n 13 = ur (N 13) s (if b = 0 then 0 else n) := by unfold shM shH; rw [upr_n (by decide), up_s, up_n (by decide)]
      have n14 : shM N s b n 14 = zrC (40 * s) 40 (N 14) := by unfold shM; rw [upr_s]
      have nn : ∀ k, k ≠ 12 → k ≠ 13 → k ≠ 14 → shM N s b n k = N k := fun k a1 a2 a3 => by unfold shM shH; rw [upr_n a3, up_n a2, up_n a1]
      refine ⟨by rw [c53, ur_s], h.hi hk.1 (fun k z => cn k (by omega) (by omega) (by omega)) ⟨nn 1 (by decide) (by decide) (by decide), nn 2 (by decide) (by decide) (by decide), by rw [nn 0 (by decide) (by decide) (by decide)]⟩ (h.2.2.2.2.1.e (by rw [cn 47 (by decide) (by decide) (by decide)]) (cn 48 (by decide) (by decide) (by decide)) (by rw [nn 0 (by decide) (by decide) (by decide)]) (nn 9 (by decide) (by decide) (by decide))) ?_ ⟨cn 55 (by decide) (by decide) (by decide), nn 4 (by decide) (by decide) (by decide)⟩⟩
      intro t t0 t1
      obtain ⟨z1, z2, z3, z4, z5⟩ := h.2.2.2.2.2.1 t t0 t1
      rw [c52, c53, c54, n12, n13, n14]
      by_cases e : t = s
      · subst e
        rw [ur_s, ur_s, ur_s, ur_s]
        have sz : 0 ≤ (if b = 0 then 0 else n) ∧ (if b = 0 then 0 else n) ≤ n := by split <;> omega
        refine ⟨rfl, rfl, by omega, by omega, fun i i0 i1 => ?_⟩
        unfold zrC
        rw [if_pos (by omega), if_pos (by omega)]
      · rw [ur_n e, ur_n e, ur_n e, ur_n e]
        refine ⟨z1, z2, z3, z4, fun i i0 i1 => ?_⟩
        unfold zrC
        rw [if_neg (by omega), if_neg (by omega)]
        exact z5 i i0 i1
    · have m' : 40 < n := by omega
      rw [if_neg m, if_neg m, if_pos m', if_pos m']
      exact ⟨rfl, h.fnd hk (by omega) rfl⟩
  · have q' : ¬ shGd s b := fun z => q ⟨by omega, z.2⟩
    rw [if_neg q, if_neg q, if_neg q', if_neg q']
    exact ⟨rfl, h.fnd hk (by omega) rfl⟩
theorem w_write {s i v : Int} (h : Wo K C N) (hk : kI K) : Sa K (writeR C s i v) (nwrR N s i) (writeM C s i v) (nwrM N s i v) := by
  unfold writeR nwrR writeM nwrM
  by_cases q : shI s
  · have q' : 0 ≤ s ∧ s ≤ 3 := by omega
    obtain ⟨y1, y2, y3, y4, y5⟩ := h.2.2.2.2.2.1 s q.1 q.2
    rw [if_pos q, if_pos q, if_pos q', if_pos q', y1, y2]
    by_cases g : C 52 s = 0
    · rw [if_pos g, if_pos g, if_pos g, if_pos g]
      exact ⟨rfl, h.fnd hk (by omega) rfl⟩
    rw [if_neg g, if_neg g, if_neg g, if_neg g]
    by_cases m : 0 ≤ i ∧ i < C 53 s
    · have m' : 0 ≤ i ∧ i ≤ C 53 s - 1 := by omega
      rw [if_pos m, if_pos m, if_pos m', if_pos m']
      refine ⟨rfl, h.hi hk.1 (fun k z => up_n (by omega)) ⟨rfl, rfl, rfl⟩ (h.2.2.2.2.1.e rfl rfl rfl rfl) ?_ ⟨rfl, rfl⟩⟩
      intro t t0 t1
      obtain ⟨z1, z2, z3, z4, z5⟩ := h.2.2.2.2.2.1 t t0 t1
      refine ⟨z1, z2, z3, z4, fun j j0 j1 => ?_⟩
      rw [up_s, up_s]
      replace j1 : j < C 53 t := j1
      by_cases e : t = s ∧ j = i
      · obtain ⟨rfl, rfl⟩ := e
        rw [ur_s, ur_s]
      · rw [ur_n (by omega), ur_n (by omega)]
        exact z5 j j0 j1
    · have m' : ¬ (0 ≤ i ∧ i ≤ C 53 s - 1) := by omega
      rw [if_neg m, if_neg m, if_neg m', if_neg m']
      exact ⟨rfl, h.fnd hk (by omega) rfl⟩
  · have q' : ¬ (0 ≤ s ∧ s ≤ 3) := by omega
    rw [if_neg q, if_neg q, if_neg q', if_neg q']
    exact ⟨rfl, h.fnd hk (by omega) rfl⟩
theorem w_copy {s f t u n : Int} (h : Wo K C N) (hk : kI K) : Sa K (copyR C s f t u n) (ncpR N s f t u n) (copyM C s f t u n) (ncpM N s f t u n) := by
  unfold copyR ncpR copyM ncpM
  by_cases q : shI s ∧ shI t
  · have q' : shs s ∧ shs t := by omega
    obtain ⟨y1, y2, y3, y4, y5⟩ := h.2.2.2.2.2.1 s q.1.1 q.1.2
    obtain ⟨x1, x2, x3, x4, x5⟩ := h.2.2.2.2.2.1 t q.2.1 q.2.2
    rw [if_pos q, if_pos q, if_pos q', if_pos q', y1, x1]
    by_cases g : C 52 s = 0 ∨ C 52 t = 0
    · rw [if_pos g, if_pos g, if_pos g, if_pos g]
      exact ⟨rfl, h.fnd hk (by omega) rfl⟩
    rw [if_neg g, if_neg g, if_neg g, if_neg g]
    by_cases w : C 52 s = C 52 t
    · rw [if_pos w, if_pos w, if_pos w, if_pos w]
      by_cases m : hrC C s f n ∧ hrC C t u n
      · have m' : ncpGd N s f t u n := by unfold ncpGd; rw [y2, x2]; omega
        rw [if_pos m, if_pos m, tI_p m', tI_p m']
        have nn : ∀ k, k ≠ 14 → k ≠ 15 → mwM N (40 * s + f) (40 * t + u) n n k = N k := fun k a1 a2 => by unfold mwM mvM; rw [upr_n a1, upr_n a2]
        refine ⟨rfl, h.hi hk.1 (fun k z => upr_n (by omega)) ⟨nn 1 (by decide) (by decide), nn 2 (by decide) (by decide), by rw [nn 0 (by decide) (by decide)]⟩ (h.2.2.2.2.1.e rfl rfl (by rw [nn 0 (by decide) (by decide)]) (nn 9 (by decide) (by decide))) ?_ ⟨rfl, nn 4 (by decide) (by decide)⟩⟩
        intro r r0 r1
        obtain ⟨z1, z2, z3, z4, z5⟩ := h.2.2.2.2.2.1 r r0 r1
        rw [nn 12 (by decide) (by decide), nn 13 (by decide) (by decide)]
        refine ⟨z1, z2, z3, z4, fun j j0 j1 => ?_⟩
        replace j1 : j < C 53 r := j1
        unfold mwM
        rw [upr_s, upr_s]
        unfold rcp
        by_cases e : t * 40 + u ≤ r * 40 + j ∧ r * 40 + j < t * 40 + u + n
        · have er : r = t := by omega
          subst er
          rw [if_pos (show 40 * r + u ≤ 40 * r + j ∧ 40 * r + j < 40 * r + u + n by omega), if_pos e]
          have k := y5 (f + (j - u)) (by omega) (by omega)
          rw [show 40 * s + f + (40 * r + j - (40 * r + u)) = 40 * s + (f + (j - u)) by omega, k, show s * 40 + (f + (j - u)) = s * 40 + f + (r * 40 + j - (r * 40 + u)) by omega]
        · rw [if_neg (show ¬ (40 * t + u ≤ 40 * r + j ∧ 40 * r + j < 40 * t + u + n) by omega), if_neg e]
          exact z5 j j0 j1
      · have m' : ¬ ncpGd N s f t u n := by unfold ncpGd; rw [y2, x2]; omega
        rw [if_neg m, if_neg m, tI_n m', tI_n m']
        exact ⟨rfl, h.fnd hk (by omega) rfl⟩
    · rw [if_neg w, if_neg w, if_neg w, if_neg w]
      exact ⟨rfl, h.fnd hk (by omega) rfl⟩
  · have q' : ¬ (shs s ∧ shs t) := by omega
    rw [if_neg q, if_neg q, if_neg q', if_neg q']
    exact ⟨rfl, h.fnd hk (by omega) rfl⟩
theorem w_knots {n v : Int} (h : Wo K C N) (hk : kI K) : Wo (K + 100) (knotsM C n v) (nknM N n v) := by
  unfold knotsM nknM
  by_cases q : knGd n v
  · rw [tI_p q, tI_p q]; exact h.le (by omega)
  · rw [tI_n q, tI_n q]; exact h.fnd hk (by omega) rfl
end CALLS
