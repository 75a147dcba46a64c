/-! the class: the country that is tried on; bits -/
noncomputable abbrev trC (M : xMem) : xMem := bcC M 31 11
theorem rcp_in {f g : Int → Int} {n j : Int} (h : 0 ≤ j ∧ j < n) : rcp f g 0 0 n j = f j := by
  unfold rcp
  rw [if_pos (by omega), show (0 : Int) + (j - 0) = j by omega]
theorem trC_n {M : xMem} {k : Nat} (h : k < 31 ∨ 39 < k) : trC M k = M k := by
  unfold trC bcC cpC
  simp (disch := omega) only [upr_n, up_n]
theorem trC_1 {M : xMem} : trC M 31 1 = M 11 1 := by
  unfold trC bcC cpC
  simp (disch := omega) only [upr_n, up_n, up_nn, up_ss]
theorem trC_2 {M : xMem} : trC M 31 2 = M 11 2 := by
  unfold trC bcC cpC
  simp (disch := omega) only [upr_n, up_n, up_nn, up_ss]
theorem trC_j {M : xMem} {p : Int} (hp : 0 ≤ p ∧ p < 8) : trC M (31 + 1) p = M (11 + 1) p ∧ trC M (31 + 2) p = M (11 + 2) p ∧ trC M (31 + 3) p = M (11 + 3) p ∧ trC M (31 + 4) p = M (11 + 4) p ∧ trC M (31 + 5) p = M (11 + 5) p ∧ trC M (31 + 6) p = M (11 + 6) p ∧ trC M (31 + 7) p = M (11 + 7) p ∧ trC M (31 + 8) p = M (11 + 8) p := by
  unfold trC bcC cpC
  refine ⟨?_, ?_, ?_, ?_, ?_, ?_, ?_, ?_⟩ <;> simp (disch := omega) only [upr_n, up_n, up_nn, up_ss, upr_s, rcp_in]
theorem trC_has {M : xMem} {p : Int} : clHas (trC M) 31 p = clHas M 11 p := by unfold clHas; rw [trC_1]
theorem trC_in {M : xMem} (hR : xR M) (hI : PeInv M 11) (hD : RdInv M 1) : PIn (trC M) 31 1 := by
  refine ⟨bcC_R hR, ⟨by rw [trC_1]; exact hI.1, by rw [trC_2]; exact hI.2.1, fun p h1 h2 => ?_⟩, RdInv_of hD (fun k h1 h2 => trC_n (by omega))⟩
  rw [trC_1] at h2
  have hn := hI.1
  obtain ⟨e1, e2, e3, e4, e5, e6, e7, e8⟩ := trC_j (M := M) (p := p) ⟨h1, by omega⟩
  rw [e1, e2, e3, e4, e5, e6, e7, e8, trC_1]
  exact hI.2.2 p h1 h2
/-- nothing but what is tried on has changed -/
def TrE (M M' : xMem) : Prop := ∀ k, k < 31 ∨ 40 < k → M' k = M k
theorem TrE.rf {M : xMem} : TrE M M := fun _ _ => rfl
theorem TrE.tr {M M1 M2 : xMem} (h1 : TrE M M1) (h2 : TrE M1 M2) : TrE M M2 := fun k h => (h2 k h).trans (h1 k h)
theorem trC_e {M : xMem} : TrE M (trC M) := fun k h => trC_n (by omega)
theorem TrE.of_f {M M' : xMem} (h : StF 31 M M') : TrE M M' := fun k hk => h.1 k (by omega) (by omega) (by omega) (by omega) (by omega)
theorem TrE.up {M M' : xMem} {k : Nat} {j z : Int} (h : TrE M M') (hk : 31 ≤ k ∧ k ≤ 40) : TrE M (up M' k j z) := fun i hi => by rw [up_n (by omega)]; exact h i hi
theorem TrE.prt {M M' : xMem} {p : Int} (h : TrE M M') : TrE M (prtC M' 31 p) := fun i hi => by rw [prtC_n (by omega)]; exact h i hi
theorem TrE.joi {M M' : xMem} {p s n : Int} (h : TrE M M') : TrE M (joiC M' 31 p s n) := by
  unfold joiC
  exact ((((h.prt.prt.up (by omega)).up (by omega)).up (by omega)).up (by omega))
theorem CInv.e {M M' : xMem} (h : CInv M) (e : TrE M M') : CInv M' := by
  obtain ⟨h1, h2, h3, h4, h5⟩ := h
  refine ⟨?_, RdInv_of h2 (fun k a b => e k (by omega)), by rw [e (1 + 1) (by omega)]; exact h3, by rw [e 47 (by omega)]; exact h4, by rw [e 53 (by omega)]; exact h5⟩
  unfold PeInv
  rw [e 11 (by omega), e (11 + 1) (by omega), e (11 + 2) (by omega), e (11 + 3) (by omega), e (11 + 4) (by omega), e (11 + 5) (by omega), e (11 + 6) (by omega), e (11 + 7) (by omega), e (11 + 8) (by omega)]
  exact h1
/-- PeInv when only some rows changed, in range -/
theorem PeInv_up {M : xMem} {b f : Nat} {j v : Int} (h : PeInv M b) (hf : (f = 1 ∧ 0 ≤ v ∧ v ≤ 6) ∨ (f = 2 ∧ 0 ≤ v ∧ v < 10) ∨ (f = 3 ∧ 0 ≤ v ∧ v < 10) ∨ (f = 4 ∧ -1 ≤ v ∧ v < M b 1) ∨ (f = 5 ∧ 0 ≤ v ∧ v ≤ 9) ∨ (f = 6 ∧ 0 ≤ v ∧ v ≤ 999)) : PeInv (up M (b + f) j v) b := by
  have e0 : up M (b + f) j v b = M b := up_n (by omega)
  refine ⟨by rw [e0]; exact h.1, by rw [e0]; exact h.2.1, fun p h1 h2 => ?_⟩
  rw [e0] at h2 ⊢
  have i := h.2.2 p h1 h2
  have key : ∀ g : Nat, up M (b + f) j v (b + g) p = if g = f ∧ p = j then v else M (b + g) p := by
    intro g
    by_cases hg : g = f
    · subst hg
      rw [up_s]
      unfold ur
      by_cases hp : p = j
      · rw [if_pos hp, if_pos ⟨rfl, hp⟩]
      · rw [if_neg hp, if_neg (fun z => hp z.2)]
    · rw [up_n (by omega), if_neg (fun z => hg z.1)]
  rw [key 1, key 2, key 3, key 4, key 5, key 6, key 7, key 8]
  rcases hf with ⟨rfl, g⟩ | ⟨rfl, g⟩ | ⟨rfl, g⟩ | ⟨rfl, g⟩ | ⟨rfl, g⟩ | ⟨rfl, g⟩ <;> by_cases hp : p = j <;> simp [hp] <;> (try subst hp) <;> omega
theorem PeInv_prt {M : xMem} {b : Nat} {p : Int} (h : PeInv M b) : PeInv (prtC M b p) b := by
  have hn := h.1
  unfold prtC
  split
  · refine PeInv_up (PeInv_up h (by omega)) (Or.inr (Or.inr (Or.inr (Or.inl ⟨rfl, by omega, ?_⟩))))
    rw [up_n (by omega)]
    omega
  · exact h
theorem PeInv_joi {M : xMem} {b : Nat} {x y n : Int} (h : PeInv M b) (hx : clHas M b x) (hy : clHas M b y) (hn : 0 ≤ n ∧ n ≤ 999) : PeInv (joiC M b x y n) b := by
  have h2 : PeInv (prtC (prtC M b x) b y) b := PeInv_prt (PeInv_prt h)
  have e : prtC (prtC M b x) b y b 1 = M b 1 := by rw [prtC_n (by omega), prtC_n (by omega)]
  unfold joiC
  refine PeInv_up (PeInv_up (PeInv_up (PeInv_up h2 (by omega)) (Or.inr (Or.inr (Or.inr (Or.inl ⟨rfl, by omega, ?_⟩))))) (by omega)) (by omega)
  rw [up_n (by omega)]
  omega
theorem PIn_of {M M' : xMem} {b r : Nat} (hR : xR M') (hI : PeInv M' b) (h : PIn M b r) (e : ∀ k, r + 1 ≤ k → k ≤ r + 4 → M' k = M k) : PIn M' b r := ⟨hR, hI, RdInv_of h.2.2 e⟩
/-! bits -/
theorem band_nat (a c : Nat) (ha : a < 2147483648) (hc : c < 2147483648) : band (a : Int) (c : Int) = ((a &&& c : Nat) : Int) := by
  have hlt : a &&& c < 2147483648 := Nat.lt_of_le_of_lt Nat.and_le_left ha
  have e : nI a &&& nI c = nI (a &&& c) := by
    apply Int32.toBitVec_inj.mp
    apply BitVec.eq_of_toNat_eq
    rw [Int32.toBitVec_and, BitVec.toNat_and, pk_tn (by omega), pk_tn (by omega), pk_tn (by omega)]
  unfold band
  rw [iI_nI, iI_nI, e, nI_toInt hlt]
theorem bor_nat (a c : Nat) (ha : a < 1073741824) (hc : c < 1073741824) : bor (a : Int) (c : Int) = ((a ||| c : Nat) : Int) := by
  have hlt : a ||| c < 2 ^ 30 := Nat.or_lt_two_pow (by omega) (by omega)
  have e : nI a ||| nI c = nI (a ||| c) := by
    apply Int32.toBitVec_inj.mp
    apply BitVec.eq_of_toNat_eq
    rw [Int32.toBitVec_or, BitVec.toNat_or, pk_tn (by omega), pk_tn (by omega), pk_tn (by omega)]
  unfold bor
  rw [iI_nI, iI_nI, e, nI_toInt (by omega)]
theorem bshl_n : ∀ p, p < 16 → bshl 1 ((p : Nat) : Int) = ((2 ^ p : Nat) : Int) := by
  have : (List.range 16).all (fun p => decide (bshl 1 ((p : Nat) : Int) = ((2 ^ p : Nat) : Int))) = true := by decide +kernel
  intro p hp
  exact of_decide_eq_true (List.all_eq_true.mp this p (List.mem_range.mpr hp))
theorem bshr_n {a : Nat} (ha : a < 2147483648) {p : Nat} (hp : p < 31) : bshr (a : Int) (p : Int) = ((a / 2 ^ p : Nat) : Int) := by
  have key : ∀ p, p < 31 → (((iI ((p : Nat) : Int)) &&& 31).toBitVec.smod 32).toNat = p := by
    have : (List.range 31).all (fun p => decide ((((iI ((p : Nat) : Int)) &&& 31).toBitVec.smod 32).toNat = p)) = true := by decide +kernel
    intro p hp
    exact of_decide_eq_true (List.all_eq_true.mp this p (List.mem_range.mpr hp))
  have hle : a / 2 ^ p ≤ a := Nat.div_le_self _ _
  unfold bshr
  rw [iI_nI, pk_shrN (by omega) _ p (key p hp), nI_toInt (by omega)]
theorem inS_nat {a p : Nat} (ha : a < 2147483648) (hp : p < 31) : inS (p : Int) (a : Int) ↔ a.testBit p = true := by
  unfold inS
  rw [bshr_n ha hp]
  have hle : a / 2 ^ p ≤ a := Nat.div_le_self _ _
  rw [show (1 : Int) = ((1 : Nat) : Int) from rfl, band_nat _ 1 (by omega) (by omega), Nat.and_one_is_mod]
  rw [Nat.testBit_eq_decide_div_mod_eq]
  have : a / 2 ^ p % 2 < 2 := Nat.mod_lt _ (by omega)
  constructor
  · intro h
    have : a / 2 ^ p % 2 ≠ 0 := fun z => h (by rw [z]; rfl)
    simp; omega
  · intro h
    simp at h
    omega
theorem inS_band {a c p : Int} (ha : 0 ≤ a ∧ a < 256) (hc : 0 ≤ c ∧ c < 256) (hp : 0 ≤ p ∧ p < 8) : inS p (band a c) ↔ inS p a ∧ inS p c := by
  obtain ⟨x, rfl⟩ : ∃ n : Nat, a = (n : Int) := ⟨a.toNat, by omega⟩
  obtain ⟨y, rfl⟩ : ∃ n : Nat, c = (n : Int) := ⟨c.toNat, by omega⟩
  obtain ⟨q, rfl⟩ : ∃ n : Nat, p = (n : Int) := ⟨p.toNat, by omega⟩
  have hlt : x &&& y ≤ x := Nat.and_le_left
  rw [band_nat x y (by omega) (by omega), inS_nat (by omega) (by omega), inS_nat (by omega) (by omega), inS_nat (by omega) (by omega), Nat.testBit_and, Bool.and_eq_true]
theorem bor_bit {a p : Int} (ha : 0 ≤ a ∧ a < 256) (hp : 0 ≤ p ∧ p < 8) : (0 ≤ bor a (bshl 1 p) ∧ bor a (bshl 1 p) < 256) ∧ ∀ q, 0 ≤ q ∧ q < 8 → (inS q (bor a (bshl 1 p)) ↔ inS q a ∨ q = p) := by
  obtain ⟨x, rfl⟩ : ∃ n : Nat, a = (n : Int) := ⟨a.toNat, by omega⟩
  obtain ⟨y, rfl⟩ : ∃ n : Nat, p = (n : Int) := ⟨p.toNat, by omega⟩
  have h2 : 2 ^ y ≤ 2 ^ 7 := Nat.pow_le_pow_right (by omega) (by omega)
  have hlt : x ||| 2 ^ y < 2 ^ 8 := Nat.or_lt_two_pow (by omega) (by omega)
  rw [bshl_n y (by omega), bor_nat x (2 ^ y) (by omega) (by omega)]
  refine ⟨by omega, fun q hq => ?_⟩
  obtain ⟨z, rfl⟩ : ∃ n : Nat, q = (n : Int) := ⟨q.toNat, by omega⟩
  rw [inS_nat (by omega) (by omega), inS_nat (by omega) (by omega), Nat.testBit_or, Bool.or_eq_true, Nat.testBit_two_pow]
  simp
  constructor
  · rintro (h | h)
    · exact Or.inl h
    · exact Or.inr (by omega)
  · rintro (h | h)
    · exact Or.inl h
    · exact Or.inr (by omega)
theorem inS_0 {q : Int} (hq : 0 ≤ q ∧ q < 8) : ¬ inS q 0 := by
  obtain ⟨z, rfl⟩ : ∃ n : Nat, q = (n : Int) := ⟨q.toNat, by omega⟩
  rw [show (0 : Int) = ((0 : Nat) : Int) from rfl, inS_nat (by omega) (by omega)]
  simp
/-- a set gathered one by one -/
theorem set_fold {P : Int → Prop} (hP : ∀ p, Decidable (P p)) {n : Nat} (hn : n ≤ 8) : (0 ≤ xfo (fun (p acc : Int) => @ite Int (P p) (hP p) (bor acc (bshl 1 p)) acc) 0 n ∧ xfo (fun (p acc : Int) => @ite Int (P p) (hP p) (bor acc (bshl 1 p)) acc) 0 n < 256) ∧ ∀ q : Int, 0 ≤ q ∧ q < 8 → (inS q (xfo (fun (p acc : Int) => @ite Int (P p) (hP p) (bor acc (bshl 1 p)) acc) 0 n) ↔ q < (n : Int) ∧ P q) := by
  induction n with
  | zero => exact ⟨⟨by show (0 : Int) ≤ 0; decide, by show (0 : Int) < 256; decide⟩, fun q hq => ⟨fun h => absurd h (inS_0 hq), fun h => by omega⟩⟩
  | succ n ih =>
    obtain ⟨h1, h2⟩ := ih (by omega)
    rw [xfo_s (fun (p acc : Int) => @ite Int (P p) (hP p) (bor acc (bshl 1 p)) acc) 0 n]
    generalize xfo (fun (p acc : Int) => @ite Int (P p) (hP p) (bor acc (bshl 1 p)) acc) 0 n = A at h1 h2 ⊢
    by_cases hq : P (n : Int)
    · simp only [if_pos hq]
      obtain ⟨g1, g2⟩ := bor_bit h1 (p := (n : Int)) (by omega)
      refine ⟨g1, fun q hq2 => ?_⟩
      rw [g2 q hq2, h2 q hq2]
      constructor
      · rintro (⟨a1, a2⟩ | rfl)
        · exact ⟨by omega, a2⟩
        · exact ⟨by omega, hq⟩
      · rintro ⟨a1, a2⟩
        by_cases e : q = (n : Int)
        · exact Or.inr e
        · exact Or.inl ⟨by omega, a2⟩
    · simp only [if_neg hq]
      refine ⟨h1, fun q hq2 => ?_⟩
      rw [h2 q hq2]
      constructor
      · rintro ⟨a1, a2⟩
        exact ⟨by omega, a2⟩
      · rintro ⟨a1, a2⟩
        refine ⟨?_, a2⟩
        by_cases e : q = (n : Int)
        · rw [e] at a2; exact absurd a2 hq
        · omega
theorem thS_R {M : xMem} {b : Nat} (hn : 0 ≤ M b 1 ∧ M b 1 ≤ 8) : 0 ≤ thS M b ∧ thS M b < 256 := (set_fold (P := fun p => M (b + 2) p = M (b + 3) p) (fun _ => inferInstance) (n := (M b 1).toNat) (by omega)).1
theorem lmS_R {M : xMem} {b : Nat} (hn : 0 ≤ M b 1 ∧ M b 1 ≤ 8) : (0 ≤ lmS M b ∧ lmS M b < 256) ∧ ∀ q : Int, 0 ≤ q ∧ q < 8 → (inS q (lmS M b) ↔ q < M b 1 ∧ q < M (b + 4) q) := by
  obtain ⟨h1, h2⟩ := set_fold (P := fun p => p < M (b + 4) p) (fun _ => inferInstance) (n := (M b 1).toNat) (by omega)
  refine ⟨h1, fun q hq => ?_⟩
  have := h2 q hq
  rw [show (((M b 1).toNat : Nat) : Int) = M b 1 by omega] at this
  exact this
