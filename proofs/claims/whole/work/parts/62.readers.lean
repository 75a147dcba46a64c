/-! both readers: an ITEM read by the one is read by the other -/
theorem wd_d : ∀ i, i < 9 → ∀ j, j < 9 → i ≠ j → stQ i ≠ stQ j ∨ ∃ k, k < stQ i ∧ stB i k ≠ stB j k := by
  have : (List.range 9).all (fun i => (List.range 9).all (fun j => (i == j) || !(stQ i == stQ j) || (List.range 20).any (fun k => decide (k < stQ i) && !(decide (stB i k = stB j k))))) = true := by decide +kernel
  intro i hi j hj hij
  have h := List.all_eq_true.mp (List.all_eq_true.mp this i (List.mem_range.mpr hi)) j (List.mem_range.mpr hj)
  rw [Bool.or_eq_true, Bool.or_eq_true] at h
  rcases h with (h | h) | h
  · exact absurd (by simpa using h) hij
  · exact Or.inl (by simpa using h)
  · obtain ⟨k, hk, h2⟩ := List.any_eq_true.mp h
    rw [Bool.and_eq_true] at h2
    exact Or.inr ⟨k, of_decide_eq_true h2.1, by simpa using h2.2⟩
theorem wd_ne {b : Int → Int} {q : Int} {i j : Nat} (hi : i < 9) (hj : j < 9) (hij : i ≠ j) (h1 : wdP b q i) : ¬ wdP b q j := by
  intro h2
  rcases wd_d i hi j hj hij with h | ⟨k, hk, h⟩
  · have e1 := h1.2.1
    have e2 := h2.2.1
    omega
  · have e1 := h1.2.1
    have e2 := h2.2.1
    exact h ((h1.2.2 k hk).symm.trans (h2.2.2 k (by omega)))
theorem wd_m {b : Int → Int} {q : Int} {i j : Nat} (hQ : stQ i = stQ j) (hB : ∀ k, stB i k = stB j k) : wdP b q i ↔ wdP b q j := by
  have e : wdP b q i = (tkS b q = 1 ∧ tkE b q - tkB b q = (stQ j : Int) ∧ ∀ k : Nat, k < stQ j → b (tkB b q + k) = stB j k) := by
    unfold wdP
    rw [hQ]
    simp only [hB]
  rw [e]
  exact Iff.rfl
theorem wd_12 (b : Int → Int) (q : Int) : wdP b q 12 ↔ wdP b q 0 := wd_m rfl (fun _ => rfl)
theorem wd_13 (b : Int → Int) (q : Int) : wdP b q 13 ↔ wdP b q 1 := wd_m rfl (fun _ => rfl)
theorem wd_14 (b : Int → Int) (q : Int) : wdP b q 14 ↔ wdP b q 2 := wd_m rfl (fun _ => rfl)
theorem wd_15 (b : Int → Int) (q : Int) : wdP b q 15 ↔ wdP b q 4 := wd_m rfl (fun _ => rfl)
theorem wd_16 (b : Int → Int) (q : Int) : wdP b q 16 ↔ wdP b q 5 := wd_m rfl (fun _ => rfl)
theorem wd_17 (b : Int → Int) (q : Int) : wdP b q 17 ↔ wdP b q 3 := wd_m rfl (fun _ => rfl)
theorem wd_18 (b : Int → Int) (q : Int) : wdP b q 18 ↔ wdP b q 6 := wd_m rfl (fun _ => rfl)
theorem wd_19 (b : Int → Int) (q : Int) : wdP b q 19 ↔ wdP b q 9 := wd_m rfl (fun _ => rfl)
theorem wd_20 (b : Int → Int) (q : Int) : wdP b q 20 ↔ wdP b q 10 := wd_m rfl (fun _ => rfl)
theorem wd_21 (b : Int → Int) (q : Int) : wdP b q 21 ↔ wdP b q 11 := wd_m rfl (fun _ => rfl)
theorem wd_22 (b : Int → Int) (q : Int) : wdP b q 22 ↔ wdP b q 7 := wd_m rfl (fun _ => rfl)
theorem wd_23 (b : Int → Int) (q : Int) : wdP b q 23 ↔ wdP b q 8 := wd_m rfl (fun _ => rfl)
theorem kt7 (b : Int → Int) (q : Int) : ktF b q 7 = tI (wdP b q 18) 6 (tI (wdP b q 17) 5 (tI (wdP b q 16) 4 (tI (wdP b q 15) 3 (tI (wdP b q 14) 2 (tI (wdP b q 13) 1 (tI (wdP b q 12) 0 (-1))))))) := by
  rw [ktF_s, ktF_s, ktF_s, ktF_s, ktF_s, ktF_s, ktF_s]
  rfl
theorem kt_he (b : Int → Int) (q : Int) : (knd (heF b q) → ktF b q 7 = heF b q) ∧ (¬ knd (heF b q) → ktF b q 7 = -1) ∧ (wdP b q 22 ↔ heF b q = 7) ∧ (wdP b q 23 ↔ heF b q = 8) := by
  rw [wd_22, wd_23]
  by_cases p0 : wdP b q 0
  · have n1 : ¬ wdP b q 1 := wd_ne (by decide) (by decide) (by decide) p0
    have n2 : ¬ wdP b q 2 := wd_ne (by decide) (by decide) (by decide) p0
    have n3 : ¬ wdP b q 3 := wd_ne (by decide) (by decide) (by decide) p0
    have n4 : ¬ wdP b q 4 := wd_ne (by decide) (by decide) (by decide) p0
    have n5 : ¬ wdP b q 5 := wd_ne (by decide) (by decide) (by decide) p0
    have n6 : ¬ wdP b q 6 := wd_ne (by decide) (by decide) (by decide) p0
    have n7 : ¬ wdP b q 7 := wd_ne (by decide) (by decide) (by decide) p0
    have n8 : ¬ wdP b q 8 := wd_ne (by decide) (by decide) (by decide) p0
    have eH : heF b q = 0 := by unfold heF; rw [tI_p p0]
    have eK : ktF b q 7 = 0 := by rw [kt7, tI_n (fun y => n6 ((wd_18 b q).mp y)), tI_n (fun y => n3 ((wd_17 b q).mp y)), tI_n (fun y => n5 ((wd_16 b q).mp y)), tI_n (fun y => n4 ((wd_15 b q).mp y)), tI_n (fun y => n2 ((wd_14 b q).mp y)), tI_n (fun y => n1 ((wd_13 b q).mp y)), tI_p ((wd_12 b q).mpr p0)]
    rw [eH, eK]
    exact ⟨fun _ => rfl, fun y => absurd (by unfold knd; decide) y, ⟨fun y => absurd y n7, fun y => absurd y (by decide)⟩, ⟨fun y => absurd y n8, fun y => absurd y (by decide)⟩⟩
  have n0 : ¬ wdP b q 0 := p0
  by_cases p1 : wdP b q 1
  · have n0 : ¬ wdP b q 0 := wd_ne (by decide) (by decide) (by decide) p1
    have n2 : ¬ wdP b q 2 := wd_ne (by decide) (by decide) (by decide) p1
    have n3 : ¬ wdP b q 3 := wd_ne (by decide) (by decide) (by decide) p1
    have n4 : ¬ wdP b q 4 := wd_ne (by decide) (by decide) (by decide) p1
    have n5 : ¬ wdP b q 5 := wd_ne (by decide) (by decide) (by decide) p1
    have n6 : ¬ wdP b q 6 := wd_ne (by decide) (by decide) (by decide) p1
    have n7 : ¬ wdP b q 7 := wd_ne (by decide) (by decide) (by decide) p1
    have n8 : ¬ wdP b q 8 := wd_ne (by decide) (by decide) (by decide) p1
    have eH : heF b q = 1 := by unfold heF; rw [tI_n n0, tI_p p1]
    have eK : ktF b q 7 = 1 := by rw [kt7, tI_n (fun y => n6 ((wd_18 b q).mp y)), tI_n (fun y => n3 ((wd_17 b q).mp y)), tI_n (fun y => n5 ((wd_16 b q).mp y)), tI_n (fun y => n4 ((wd_15 b q).mp y)), tI_n (fun y => n2 ((wd_14 b q).mp y)), tI_p ((wd_13 b q).mpr p1)]
    rw [eH, eK]
    exact ⟨fun _ => rfl, fun y => absurd (by unfold knd; decide) y, ⟨fun y => absurd y n7, fun y => absurd y (by decide)⟩, ⟨fun y => absurd y n8, fun y => absurd y (by decide)⟩⟩
  have n1 : ¬ wdP b q 1 := p1
  by_cases p2 : wdP b q 2
  · have n0 : ¬ wdP b q 0 := wd_ne (by decide) (by decide) (by decide) p2
    have n1 : ¬ wdP b q 1 := wd_ne (by decide) (by decide) (by decide) p2
    have n3 : ¬ wdP b q 3 := wd_ne (by decide) (by decide) (by decide) p2
    have n4 : ¬ wdP b q 4 := wd_ne (by decide) (by decide) (by decide) p2
    have n5 : ¬ wdP b q 5 := wd_ne (by decide) (by decide) (by decide) p2
    have n6 : ¬ wdP b q 6 := wd_ne (by decide) (by decide) (by decide) p2
    have n7 : ¬ wdP b q 7 := wd_ne (by decide) (by decide) (by decide) p2
    have n8 : ¬ wdP b q 8 := wd_ne (by decide) (by decide) (by decide) p2
    have eH : heF b q = 2 := by unfold heF; rw [tI_n n0, tI_n n1, tI_p p2]
    have eK : ktF b q 7 = 2 := by rw [kt7, tI_n (fun y => n6 ((wd_18 b q).mp y)), tI_n (fun y => n3 ((wd_17 b q).mp y)), tI_n (fun y => n5 ((wd_16 b q).mp y)), tI_n (fun y => n4 ((wd_15 b q).mp y)), tI_p ((wd_14 b q).mpr p2)]
    rw [eH, eK]
    exact ⟨fun _ => rfl, fun y => absurd (by unfold knd; decide) y, ⟨fun y => absurd y n7, fun y => absurd y (by decide)⟩, ⟨fun y => absurd y n8, fun y => absurd y (by decide)⟩⟩
  have n2 : ¬ wdP b q 2 := p2
  by_cases p3 : wdP b q 3
  · have n0 : ¬ wdP b q 0 := wd_ne (by decide) (by decide) (by decide) p3
    have n1 : ¬ wdP b q 1 := wd_ne (by decide) (by decide) (by decide) p3
    have n2 : ¬ wdP b q 2 := wd_ne (by decide) (by decide) (by decide) p3
    have n4 : ¬ wdP b q 4 := wd_ne (by decide) (by decide) (by decide) p3
    have n5 : ¬ wdP b q 5 := wd_ne (by decide) (by decide) (by decide) p3
    have n6 : ¬ wdP b q 6 := wd_ne (by decide) (by decide) (by decide) p3
    have n7 : ¬ wdP b q 7 := wd_ne (by decide) (by decide) (by decide) p3
    have n8 : ¬ wdP b q 8 := wd_ne (by decide) (by decide) (by decide) p3
    have eH : heF b q = 5 := by unfold heF; rw [tI_n n0, tI_n n1, tI_n n2, tI_p p3]
    have eK : ktF b q 7 = 5 := by rw [kt7, tI_n (fun y => n6 ((wd_18 b q).mp y)), tI_p ((wd_17 b q).mpr p3)]
    rw [eH, eK]
    exact ⟨fun _ => rfl, fun y => absurd (by unfold knd; decide) y, ⟨fun y => absurd y n7, fun y => absurd y (by decide)⟩, ⟨fun y => absurd y n8, fun y => absurd y (by decide)⟩⟩
  have n3 : ¬ wdP b q 3 := p3
  by_cases p4 : wdP b q 4
  · have n0 : ¬ wdP b q 0 := wd_ne (by decide) (by decide) (by decide) p4
    have n1 : ¬ wdP b q 1 := wd_ne (by decide) (by decide) (by decide) p4
    have n2 : ¬ wdP b q 2 := wd_ne (by decide) (by decide) (by decide) p4
    have n3 : ¬ wdP b q 3 := wd_ne (by decide) (by decide) (by decide) p4
    have n5 : ¬ wdP b q 5 := wd_ne (by decide) (by decide) (by decide) p4
    have n6 : ¬ wdP b q 6 := wd_ne (by decide) (by decide) (by decide) p4
    have n7 : ¬ wdP b q 7 := wd_ne (by decide) (by decide) (by decide) p4
    have n8 : ¬ wdP b q 8 := wd_ne (by decide) (by decide) (by decide) p4
    have eH : heF b q = 3 := by unfold heF; rw [tI_n n0, tI_n n1, tI_n n2, tI_n n3, tI_p p4]
    have eK : ktF b q 7 = 3 := by rw [kt7, tI_n (fun y => n6 ((wd_18 b q).mp y)), tI_n (fun y => n3 ((wd_17 b q).mp y)), tI_n (fun y => n5 ((wd_16 b q).mp y)), tI_p ((wd_15 b q).mpr p4)]
    rw [eH, eK]
    exact ⟨fun _ => rfl, fun y => absurd (by unfold knd; decide) y, ⟨fun y => absurd y n7, fun y => absurd y (by decide)⟩, ⟨fun y => absurd y n8, fun y => absurd y (by decide)⟩⟩
  have n4 : ¬ wdP b q 4 := p4
  by_cases p5 : wdP b q 5
  · have n0 : ¬ wdP b q 0 := wd_ne (by decide) (by decide) (by decide) p5
    have n1 : ¬ wdP b q 1 := wd_ne (by decide) (by decide) (by decide) p5
    have n2 : ¬ wdP b q 2 := wd_ne (by decide) (by decide) (by decide) p5
    have n3 : ¬ wdP b q 3 := wd_ne (by decide) (by decide) (by decide) p5
    have n4 : ¬ wdP b q 4 := wd_ne (by decide) (by decide) (by decide) p5
    have n6 : ¬ wdP b q 6 := wd_ne (by decide) (by decide) (by decide) p5
    have n7 : ¬ wdP b q 7 := wd_ne (by decide) (by decide) (by decide) p5
    have n8 : ¬ wdP b q 8 := wd_ne (by decide) (by decide) (by decide) p5
    have eH : heF b q = 4 := by unfold heF; rw [tI_n n0, tI_n n1, tI_n n2, tI_n n3, tI_n n4, tI_p p5]
    have eK : ktF b q 7 = 4 := by rw [kt7, tI_n (fun y => n6 ((wd_18 b q).mp y)), tI_n (fun y => n3 ((wd_17 b q).mp y)), tI_p ((wd_16 b q).mpr p5)]
    rw [eH, eK]
    exact ⟨fun _ => rfl, fun y => absurd (by unfold knd; decide) y, ⟨fun y => absurd y n7, fun y => absurd y (by decide)⟩, ⟨fun y => absurd y n8, fun y => absurd y (by decide)⟩⟩
  have n5 : ¬ wdP b q 5 := p5
  by_cases p6 : wdP b q 6
  · have n0 : ¬ wdP b q 0 := wd_ne (by decide) (by decide) (by decide) p6
    have n1 : ¬ wdP b q 1 := wd_ne (by decide) (by decide) (by decide) p6
    have n2 : ¬ wdP b q 2 := wd_ne (by decide) (by decide) (by decide) p6
    have n3 : ¬ wdP b q 3 := wd_ne (by decide) (by decide) (by decide) p6
    have n4 : ¬ wdP b q 4 := wd_ne (by decide) (by decide) (by decide) p6
    have n5 : ¬ wdP b q 5 := wd_ne (by decide) (by decide) (by decide) p6
    have n7 : ¬ wdP b q 7 := wd_ne (by decide) (by decide) (by decide) p6
    have n8 : ¬ wdP b q 8 := wd_ne (by decide) (by decide) (by decide) p6
    have eH : heF b q = 6 := by unfold heF; rw [tI_n n0, tI_n n1, tI_n n2, tI_n n3, tI_n n4, tI_n n5, tI_p p6]
    have eK : ktF b q 7 = 6 := by rw [kt7, tI_p ((wd_18 b q).mpr p6)]
    rw [eH, eK]
    exact ⟨fun _ => rfl, fun y => absurd (by unfold knd; decide) y, ⟨fun y => absurd y n7, fun y => absurd y (by decide)⟩, ⟨fun y => absurd y n8, fun y => absurd y (by decide)⟩⟩
  have n6 : ¬ wdP b q 6 := p6
  by_cases p7 : wdP b q 7
  · have n0 : ¬ wdP b q 0 := wd_ne (by decide) (by decide) (by decide) p7
    have n1 : ¬ wdP b q 1 := wd_ne (by decide) (by decide) (by decide) p7
    have n2 : ¬ wdP b q 2 := wd_ne (by decide) (by decide) (by decide) p7
    have n3 : ¬ wdP b q 3 := wd_ne (by decide) (by decide) (by decide) p7
    have n4 : ¬ wdP b q 4 := wd_ne (by decide) (by decide) (by decide) p7
    have n5 : ¬ wdP b q 5 := wd_ne (by decide) (by decide) (by decide) p7
    have n6 : ¬ wdP b q 6 := wd_ne (by decide) (by decide) (by decide) p7
    have n8 : ¬ wdP b q 8 := wd_ne (by decide) (by decide) (by decide) p7
    have eH : heF b q = 7 := by unfold heF; rw [tI_n n0, tI_n n1, tI_n n2, tI_n n3, tI_n n4, tI_n n5, tI_n n6, tI_p p7]
    have eK : ktF b q 7 = -1 := by rw [kt7, tI_n (fun y => n6 ((wd_18 b q).mp y)), tI_n (fun y => n3 ((wd_17 b q).mp y)), tI_n (fun y => n5 ((wd_16 b q).mp y)), tI_n (fun y => n4 ((wd_15 b q).mp y)), tI_n (fun y => n2 ((wd_14 b q).mp y)), tI_n (fun y => n1 ((wd_13 b q).mp y)), tI_n (fun y => n0 ((wd_12 b q).mp y))]
    rw [eH, eK]
    exact ⟨fun y => absurd y (by unfold knd; decide), fun _ => rfl, ⟨fun _ => rfl, fun _ => p7⟩, ⟨fun y => absurd y n8, fun y => absurd y (by decide)⟩⟩
  have n7 : ¬ wdP b q 7 := p7
  by_cases p8 : wdP b q 8
  · have n0 : ¬ wdP b q 0 := wd_ne (by decide) (by decide) (by decide) p8
    have n1 : ¬ wdP b q 1 := wd_ne (by decide) (by decide) (by decide) p8
    have n2 : ¬ wdP b q 2 := wd_ne (by decide) (by decide) (by decide) p8
    have n3 : ¬ wdP b q 3 := wd_ne (by decide) (by decide) (by decide) p8
    have n4 : ¬ wdP b q 4 := wd_ne (by decide) (by decide) (by decide) p8
    have n5 : ¬ wdP b q 5 := wd_ne (by decide) (by decide) (by decide) p8
    have n6 : ¬ wdP b q 6 := wd_ne (by decide) (by decide) (by decide) p8
    have n7 : ¬ wdP b q 7 := wd_ne (by decide) (by decide) (by decide) p8
    have eH : heF b q = 8 := by unfold heF; rw [tI_n n0, tI_n n1, tI_n n2, tI_n n3, tI_n n4, tI_n n5, tI_n n6, tI_n n7, tI_p p8]
    have eK : ktF b q 7 = -1 := by rw [kt7, tI_n (fun y => n6 ((wd_18 b q).mp y)), tI_n (fun y => n3 ((wd_17 b q).mp y)), tI_n (fun y => n5 ((wd_16 b q).mp y)), tI_n (fun y => n4 ((wd_15 b q).mp y)), tI_n (fun y => n2 ((wd_14 b q).mp y)), tI_n (fun y => n1 ((wd_13 b q).mp y)), tI_n (fun y => n0 ((wd_12 b q).mp y))]
    rw [eH, eK]
    exact ⟨fun y => absurd y (by unfold knd; decide), fun _ => rfl, ⟨fun y => absurd y n7, fun y => absurd y (by decide)⟩, ⟨fun _ => rfl, fun _ => p8⟩⟩
  have n8 : ¬ wdP b q 8 := p8
  have eH : heF b q = -1 := by unfold heF; rw [tI_n n0, tI_n n1, tI_n n2, tI_n n3, tI_n n4, tI_n n5, tI_n n6, tI_n n7, tI_n n8]
  have eK : ktF b q 7 = -1 := by rw [kt7, tI_n (fun y => n6 ((wd_18 b q).mp y)), tI_n (fun y => n3 ((wd_17 b q).mp y)), tI_n (fun y => n5 ((wd_16 b q).mp y)), tI_n (fun y => n4 ((wd_15 b q).mp y)), tI_n (fun y => n2 ((wd_14 b q).mp y)), tI_n (fun y => n1 ((wd_13 b q).mp y)), tI_n (fun y => n0 ((wd_12 b q).mp y))]
  rw [eH, eK]
  exact ⟨fun y => absurd y (by unfold knd; decide), fun _ => rfl, ⟨fun y => absurd y n7, fun y => absurd y (by decide)⟩, ⟨fun y => absurd y n8, fun y => absurd y (by decide)⟩⟩
noncomputable def zG (b : Int → Int) (q : Int) : ZsT := (q, tkB b q, 0)
noncomputable def zB (b : Int → Int) (q : Int) : ZsT := (q, tkB b q, 1)
def hmF (k : Int) : Int := if k = 7 then 10 else if k = 8 then 11 else k
section ZG
variable {b : Int → Int} {n q : Int}
theorem zMu_b {z : ZsT} (h : z.2.2 = 1) {C : Prop} : zMu b z C = z := by
  unfold zMu
  rw [tI_n (fun y => by have := y.1; omega), ← h]
theorem zNu_b {z : ZsT} (h : z.2.2 = 1) {m : Int} : zNu b z m = z := zMu_b h
theorem zIn_b {z : ZsT} (h : z.2.2 = 1) {i : Nat} : zIn b z i = z := by
  unfold zIn
  rw [tI_n (fun y => by have := y.1; omega)]
theorem zAn_b {z : ZsT} (h : z.2.2 = 1) {m v : Int} : zAn b z m v = z := by
  unfold zAn
  rw [tI_n (fun y => by have := y.1; omega)]
  exact zNu_b h
theorem zOp_b {z : ZsT} (h : z.2.2 = 1) {i : Nat} {m : Int} : zOp b z i m = z := by
  unfold zOp
  rw [tI_n (fun y => by have := y.1; omega)]
  exact zIn_b h
theorem zMu_g {C : Prop} (h : C) : zMu b (zG b q) C = zG b (tkE b q) := by
  unfold zMu
  rw [tI_p (show (zG b q).2.2 = 0 ∧ C from ⟨rfl, h⟩)]
  rfl
theorem zMu_n {C : Prop} (h : ¬ C) : zMu b (zG b q) C = zB b q := by
  unfold zMu
  rw [tI_n (fun y => h y.2)]
  rfl
theorem zNu_g {m : Int} (h : nuP b q m) : zNu b (zG b q) m = zG b (nuQ b q m) := by
  unfold nuQ
  rw [tI_p h]
  exact zMu_g h
theorem zNu_n {m : Int} (h : ¬ nuP b q m) : zNu b (zG b q) m = zB b (nuQ b q m) := by
  unfold nuQ
  rw [tI_n h]
  exact zMu_n h
theorem zIn_g {i : Nat} (h : wdP b q i) : zIn b (zG b q) i = zG b (tkE b q) := by
  unfold zIn
  rw [tI_p (show (zG b q).2.2 = 0 ∧ wdP b (zG b q).1 i from ⟨rfl, h⟩)]
  rfl
theorem zIn_n {i : Nat} (h : ¬ wdP b q i) : zIn b (zG b q) i = zG b q := by
  unfold zIn
  rw [tI_n (fun y => h y.2)]
theorem zOp_g {i j : Nat} {m it ii wo : Int} {pa : Int → Int} (e : wdP b q i ↔ wdP b q j) (h : opP b q j m) : zOp b (zG b q) i m = zG b (opQ b q j m) ∧ zOv b (zG b q) i wo = opA b it ii m wo q j pa (it * 4 + ii) := by
  unfold zOp zOv opQ opA
  by_cases g : wdP b q j
  · have hn : nuP b (tkE b q) m := h.elim (fun z => absurd g z) id
    have gi : (zG b q).2.2 = 0 ∧ wdP b (zG b q).1 i := ⟨rfl, e.mpr g⟩
    rw [tI_p gi, tI_p gi, tI_p g, tI_p g, zIn_g (e.mpr g)]
    refine ⟨zNu_g hn, ?_⟩
    unfold nuA
    rw [tI_p hn, ur_s]
    rfl
  · have gi : ¬ ((zG b q).2.2 = 0 ∧ wdP b (zG b q).1 i) := fun y => g (e.mp y.2)
    rw [tI_n gi, tI_n gi, tI_n g, tI_n g, zIn_n (fun y => g (e.mp y)), ur_s]
    exact ⟨rfl, rfl⟩
theorem zOp_n {i j : Nat} {m : Int} (e : wdP b q i ↔ wdP b q j) (h : ¬ opP b q j m) : zOp b (zG b q) i m = zB b (opQ b q j m) := by
  have g : wdP b q j := Classical.byContradiction fun y => h (Or.inl y)
  have hn : ¬ nuP b (tkE b q) m := fun y => h (Or.inr y)
  have gi : (zG b q).2.2 = 0 ∧ wdP b (zG b q).1 i := ⟨rfl, e.mpr g⟩
  unfold zOp opQ
  rw [tI_p gi, tI_p g, zIn_g (e.mpr g)]
  exact zNu_n hn
theorem itF_0 {pa : Int → Int} {it h a c d : Int} : itF pa it h a c d (4 * it + 0) = h := by unfold itF; rw [ur_n (by omega), ur_n (by omega), ur_n (by omega), Int.add_zero, ur_s]
theorem itF_1 {pa : Int → Int} {it h a c d : Int} : itF pa it h a c d (4 * it + 1) = a := by unfold itF; rw [ur_n (by omega), ur_n (by omega), ur_s]
theorem itF_2 {pa : Int → Int} {it h a c d : Int} : itF pa it h a c d (4 * it + 2) = c := by unfold itF; rw [ur_n (by omega), ur_s]
theorem itF_3 {pa : Int → Int} {it h a c d : Int} : itF pa it h a c d (4 * it + 3) = d := by unfold itF; rw [ur_s]
theorem itF_o {pa : Int → Int} {it h a c d k : Int} (hk : k < 4 * it) : itF pa it h a c d k = pa k := by unfold itF; rw [ur_n (by omega), ur_n (by omega), ur_n (by omega), ur_n (by omega)]
/-- a PERSON -/
theorem zk_rel {pe it : Int} {pa : Int → Int} (hp : pe < 8) : (tpP b (tkE b q) → zk4 b (zG b q) pe = zG b (tpQ b (tkE b q)) ∧ vk1 b (zG b q) pe = ta1 b it (tkE b q) pa (it * 4 + 1) ∧ vk2 b (zG b q) pe = ta2 b it (tkE b q) pa (it * 4 + 2) ∧ vk3 b (zG b q) pe = ta3 b it (tkE b q) pa (it * 4 + 3)) ∧ (¬ tpP b (tkE b q) → zk4 b (zG b q) pe = zB b (tpQ b (tkE b q))) := by
  have e1 : zk1 b (zG b q) pe = zG b (tkE b q) := zMu_g hp
  generalize hq0 : tkE b q = q0 at e1
  by_cases o1 : opP b q0 9 9
  · have g1 := zOp_g (it := it) (ii := 1) (wo := 0) (pa := pa) (wd_19 b q0) o1
    have e2 : zk2 b (zG b q) pe = zG b (tp1 b q0) := by unfold zk2; rw [e1]; exact g1.1
    have v1 : vk1 b (zG b q) pe = ta1 b it q0 pa (it * 4 + 1) := by unfold vk1; rw [e1]; exact g1.2
    by_cases o2 : opP b (tp1 b q0) 10 9
    · have g2 := zOp_g (it := it) (ii := 2) (wo := vk1 b (zG b q) pe) (pa := ta1 b it q0 pa) (wd_20 b (tp1 b q0)) o2
      have e3 : zk3 b (zG b q) pe = zG b (tp2 b q0) := by unfold zk3; rw [e2]; exact g2.1
      have v2 : vk2 b (zG b q) pe = ta2 b it q0 pa (it * 4 + 2) := by unfold vk2; rw [e2]; rw [g2.2, v1]; rfl
      by_cases o3 : opP b (tp2 b q0) 11 9
      · have g3 := zOp_g (it := it) (ii := 3) (wo := 3) (pa := ta2 b it q0 pa) (wd_21 b (tp2 b q0)) o3
        have e4 : zk4 b (zG b q) pe = zG b (tp3 b q0) := by unfold zk4; rw [e3]; exact g3.1
        have v3 : vk3 b (zG b q) pe = ta3 b it q0 pa (it * 4 + 3) := by unfold vk3; rw [e3]; exact g3.2
        refine ⟨fun _ => ⟨?_, v1, v2, v3⟩, fun y => absurd ⟨o1, o2, o3⟩ y⟩
        unfold tpQ
        rw [tI_p o1, tI_p o2, e4]
      · refine ⟨fun y => absurd y.2.2 o3, fun _ => ?_⟩
        unfold tpQ zk4
        rw [tI_p o1, tI_p o2, e3]
        exact zOp_n (wd_21 b (tp2 b q0)) o3
    · refine ⟨fun y => absurd y.2.1 o2, fun _ => ?_⟩
      have e3 : zk3 b (zG b q) pe = zB b (tp2 b q0) := by unfold zk3; rw [e2]; exact zOp_n (wd_20 b (tp1 b q0)) o2
      unfold tpQ zk4
      rw [tI_p o1, tI_n o2, e3]
      exact zOp_b rfl
  · refine ⟨fun y => absurd y.1 o1, fun _ => ?_⟩
    have e2 : zk2 b (zG b q) pe = zB b (tp1 b q0) := by unfold zk2; rw [e1]; exact zOp_n (wd_19 b q0) o1
    have e3 : zk3 b (zG b q) pe = zB b (tp1 b q0) := by unfold zk3; rw [e2]; exact zOp_b rfl
    unfold tpQ zk4
    rw [tI_n o1, e3]
    exact zOp_b rfl
/-- three NUMBERS -/
theorem zt_rel {m m3 it : Int} {pa : Int → Int} (hb : BtO b n) (hq : 0 ≤ q ∧ q ≤ n) : (ttP b it q m m3 pa → zt4 b (zG b q) m m3 = zG b (ttQ b it q m m3 pa) ∧ tkV b q = tb1 b it q m pa (it * 4 + 1) ∧ tkV b (zt2 b (zG b q) m).1 = tb2 b it q m pa (it * 4 + 2) ∧ tkV b (zt3 b (zG b q) m).1 = tb3 b it q m m3 pa (it * 4 + 3)) ∧ (¬ ttP b it q m m3 pa → (zt4 b (zG b q) m m3).2.2 = 1 ∧ (zt4 b (zG b q) m m3).2.1 = tkB b (ttQ b it q m m3 pa)) := by
  by_cases n1 : nuP b q m
  · have e2 : zt2 b (zG b q) m = zG b (th1 b q m) := zNu_g n1
    have v1 : tb1 b it q m pa (it * 4 + 1) = tkV b q := (nuA_v hb hq n1).1
    by_cases hE : ttE b it q m pa
    · have hv : tkV b (th1 b q m) = tkV b q := by have := hE.2; rw [v1] at this; exact this
      have n2 : nuP b (th1 b q m) m := ⟨hE.1, by rw [hv]; exact n1.2⟩
      have e3 : zt3 b (zG b q) m = (tkE b (th1 b q m), tkB b (th1 b q m), 1) := by
        unfold zt3 zAn
        rw [e2, tI_p (show (zG b (th1 b q m)).2.2 = 0 ∧ nuP b (zG b (th1 b q m)).1 m ∧ tkV b (zG b (th1 b q m)).1 = tkV b (zG b q).1 from ⟨rfl, n2, hv⟩)]
        rfl
      refine ⟨fun y => absurd hE y.2.1, fun _ => ?_⟩
      have e4 : zt4 b (zG b q) m m3 = (tkE b (th1 b q m), tkB b (th1 b q m), 1) := by unfold zt4; rw [e3]; exact zNu_b rfl
      unfold ttQ
      rw [e4, tI_n (fun y => y.2 hE)]
      exact ⟨rfl, rfl⟩
    · have hc : nuP b q m ∧ ¬ ttE b it q m pa := ⟨n1, hE⟩
      by_cases n2 : nuP b (th1 b q m) m
      · have hv : tkV b (th1 b q m) ≠ tkV b q := fun y => hE ⟨n2.1, by rw [v1]; exact y⟩
        have e3 : zt3 b (zG b q) m = zG b (th2 b q m) := by
          unfold zt3 zAn
          rw [e2, tI_n (fun y => hv y.2.2)]
          exact zNu_g n2
        have v2 : tb2 b it q m pa (it * 4 + 2) = tkV b (th1 b q m) := (nuA_v hb (nuQ_R hb hq) n2).1
        by_cases n3 : nuP b (th2 b q m) m3
        · have e4 : zt4 b (zG b q) m m3 = zG b (th3 b q m m3) := by unfold zt4; rw [e3]; exact zNu_g n3
          have v3 : tb3 b it q m m3 pa (it * 4 + 3) = tkV b (th2 b q m) := (nuA_v hb (nuQ_R hb (nuQ_R hb hq)) n3).1
          refine ⟨fun _ => ⟨?_, v1.symm, ?_, ?_⟩, fun y => absurd ⟨n1, hE, n2, n3⟩ y⟩
          · unfold ttQ; rw [tI_p hc, tI_p n2, e4]
          · rw [e2, v2]; rfl
          · rw [e3, v3]; rfl
        · refine ⟨fun y => absurd y.2.2.2 n3, fun _ => ?_⟩
          have e4 : zt4 b (zG b q) m m3 = zB b (th3 b q m m3) := by unfold zt4; rw [e3]; exact zNu_n n3
          unfold ttQ
          rw [e4, tI_p hc, tI_p n2]
          exact ⟨rfl, rfl⟩
      · refine ⟨fun y => absurd y.2.2.1 n2, fun _ => ?_⟩
        have e3 : zt3 b (zG b q) m = zB b (th2 b q m) := by
          unfold zt3 zAn
          rw [e2, tI_n (fun y => n2 y.2.1)]
          exact zNu_n n2
        have e4 : zt4 b (zG b q) m m3 = zB b (th2 b q m) := by unfold zt4; rw [e3]; exact zNu_b rfl
        unfold ttQ
        rw [e4, tI_p hc, tI_n n2]
        exact ⟨rfl, rfl⟩
  · refine ⟨fun y => absurd y.1 n1, fun _ => ?_⟩
    have e2 : zt2 b (zG b q) m = zB b (th1 b q m) := zNu_n n1
    have e3 : zt3 b (zG b q) m = zB b (th1 b q m) := by unfold zt3; rw [e2]; exact zAn_b rfl
    have e4 : zt4 b (zG b q) m m3 = zB b (th1 b q m) := by unfold zt4; rw [e3]; exact zNu_b rfl
    unfold ttQ
    rw [e4, tI_n (fun y => n1 y.1)]
    exact ⟨rfl, rfl⟩
/-- of two rows of parts: those of the ITEM it stand alike -/
def itE (A C : Int → Int) (it : Int) : Prop := A (4 * it + 0) = hmF (C (it * 4 + 0)) ∧ A (4 * it + 1) = C (it * 4 + 1) ∧ A (4 * it + 2) = C (it * 4 + 2) ∧ A (4 * it + 3) = C (it * 4 + 3)
theorem ri_rel {r : RdS} {pa : Int → Int} (hb : BtO b n) (hr : RdR n r) : (tiP b r → riZ b (zG b r.1) r.2.2.1 = zG b (tjN b r).1 ∧ riE b (zG b r.1) r.2.2.1 = (tjN b r).2.2.1 ∧ itE (riA b (zG b r.1) r.2.1 r.2.2.1 pa) (tjN b r).2.2.2 r.2.1) ∧ (∀ k, k < 4 * r.2.1 → riA b (zG b r.1) r.2.1 r.2.2.1 pa k = pa k) ∧ (¬ tiP b r → (riZ b (zG b r.1) r.2.2.1).2.2 = 1 ∧ (riZ b (zG b r.1) r.2.2.1).2.1 = tkB b (tjN b r).1) := by
  obtain ⟨k1, k2, k3, k4⟩ := kt_he b r.1
  have hh := heF_R b r.1
  have hE := tkE_R hb hr.1
  refine ⟨fun hP => ?_, fun k hk => ?_, fun hP => ?_⟩
  · by_cases hk : knd (heF b r.1)
    · obtain ⟨e1, e2⟩ := tjN_k hP.1 hk
      have g := e2.mp hP
      have h8 : r.2.2.1 < 8 := by
        by_cases y : r.2.2.1 < 8
        · exact y
        · exact absurd (Or.inr ⟨hk, by omega⟩) hP.1
      have ek : kdF b (zG b r.1) = heF b r.1 := k1 hk
      have hk0 : 0 ≤ kdF b (zG b r.1) := by rw [ek]; exact hk.1
      obtain ⟨w1, w2, w3, w4⟩ := (zk_rel (q := r.1) (it := r.2.1) (pa := ti0 b r) h8).1 g
      obtain ⟨p1, p2, p3, p4, p5⟩ := tp_w (it := r.2.1) (pa := ti0 b r) hb hE g
      have o1 : ∀ k, k ≠ r.2.1 * 4 + 2 → ta2 b r.2.1 (tkE b r.1) (ti0 b r) k = ta1 b r.2.1 (tkE b r.1) (ti0 b r) k := fun k hk => opA_o hk
      have o2 : ∀ k, k ≠ r.2.1 * 4 + 3 → ta3 b r.2.1 (tkE b r.1) (ti0 b r) k = ta2 b r.2.1 (tkE b r.1) (ti0 b r) k := fun k hk => opA_o hk
      unfold riZ riE riA itE
      rw [if_pos hk0, if_pos hk0, if_pos hk0, e1, tI_p g, tI_p g, itF_0, itF_1, itF_2, itF_3]
      dsimp only
      rw [p1]
      refine ⟨w1, rfl, ?_, ?_, ?_, w4⟩
      · rw [p2 _ (by omega), show ti0 b r (r.2.1 * 4 + 0) = heF b r.1 from ur_s _ _ _, ek]
        unfold hmF
        unfold knd at hk
        rw [if_neg (by omega), if_neg (by omega)]
      · rw [w2, o2 _ (by omega), o1 _ (by omega)]
      · rw [w3, o2 _ (by omega)]
    · obtain ⟨e1, e2⟩ := tjN_t hP.1 hk
      have g := e2.mp hP
      have ek : kdF b (zG b r.1) = -1 := k2 hk
      have hk0 : ¬ 0 ≤ kdF b (zG b r.1) := by rw [ek]; decide
      obtain ⟨p1, p2, p3, p4, p5, p6⟩ := tt_w (it := r.2.1) (pa := ti0 b r) hb hE g
      have hh7 : heF b r.1 = 7 ∨ heF b r.1 = 8 := by
        have h1 : heF b r.1 ≠ -1 := fun z => hP.1 (Or.inl z)
        unfold knd at hk
        omega
      have o1 : ∀ k, k ≠ r.2.1 * 4 + 2 → tb2 b r.2.1 (tkE b r.1) (m2F (heF b r.1) r.2.2.1) (ti0 b r) k = tb1 b r.2.1 (tkE b r.1) (m2F (heF b r.1) r.2.2.1) (ti0 b r) k := fun k hk => nuA_o hk
      have o2 : ∀ k, k ≠ r.2.1 * 4 + 3 → tb3 b r.2.1 (tkE b r.1) (m2F (heF b r.1) r.2.2.1) (m3F (heF b r.1)) (ti0 b r) k = tb2 b r.2.1 (tkE b r.1) (m2F (heF b r.1) r.2.2.1) (ti0 b r) k := fun k hk => nuA_o hk
      obtain ⟨w1, w2, w3, w4⟩ := (zt_rel hb hE).1 g
      have hhead : ti0 b r (r.2.1 * 4 + 0) = heF b r.1 := ur_s _ _ _
      unfold riZ riE riA itE itT
      rw [if_neg hk0, if_neg hk0, if_neg hk0, e1, tI_p g]
      dsimp only
      rw [p1, p2 _ (by omega), hhead, o2 _ (by omega), o1 _ (by omega), ← w2, o2 _ (by omega), ← w3, ← w4]
      rcases hh7 with h7 | h7
      · have hw : wdP b r.1 22 := k3.mpr h7
        have hw' : wdP b (zG b r.1).1 22 := hw
        have ez : zw1 b (zG b r.1) = zG b (tkE b r.1) := zIn_g hw
        rw [tI_p hw', tI_p hw', ez, itF_0, itF_1, itF_2, itF_3]
        rw [show m2F (heF b r.1) r.2.2.1 = 9 by unfold m2F; rw [if_pos h7], show m3F (heF b r.1) = 9 by unfold m3F; rw [if_pos h7]] at w1 ⊢
        exact ⟨w1, rfl, by rw [h7]; rfl, rfl, rfl, rfl⟩
      · have hw : ¬ wdP b (zG b r.1).1 22 := fun y => by have := k3.mp y; omega
        have ez : zu1 b (zG b r.1) = zG b (tkE b r.1) := zMu_g (k4.mpr h7)
        rw [tI_n hw, tI_n hw, ez, itF_0, itF_1, itF_2, itF_3]
        rw [show m2F (heF b r.1) r.2.2.1 = r.2.2.1 - 1 by unfold m2F; rw [if_neg (by omega)], show m3F (heF b r.1) = 999 by unfold m3F; rw [if_neg (by omega)]] at w1 ⊢
        exact ⟨w1, rfl, by rw [h7]; rfl, rfl, rfl, rfl⟩
  · unfold riA itT tI
    split
    · exact itF_o hk
    · split
      · exact itF_o hk
      · exact itF_o hk
  · by_cases hB : tiB b r
    · rw [tjN_b hB]
      unfold riZ
      rcases hB with h1 | ⟨h1, h2⟩
      · have hk : ¬ knd (heF b r.1) := by rw [h1]; unfold knd; decide
        have ek : kdF b (zG b r.1) = -1 := k2 hk
        have hw : ¬ wdP b (zG b r.1).1 22 := fun y => by have := k3.mp y; omega
        have ez : zu1 b (zG b r.1) = zB b r.1 := zMu_n (fun y => by have := k4.mp y; omega)
        have e2 : zt2 b (zB b r.1) (r.2.2.1 - 1) = zB b r.1 := zNu_b rfl
        have e3 : zt3 b (zB b r.1) (r.2.2.1 - 1) = zB b r.1 := by unfold zt3; rw [e2]; exact zAn_b rfl
        have e4 : zt4 b (zB b r.1) (r.2.2.1 - 1) 999 = zB b r.1 := by unfold zt4; rw [e3]; exact zNu_b rfl
        rw [if_neg (by rw [ek]; decide), tI_n hw, ez, e4]
        exact ⟨rfl, rfl⟩
      · have ek : kdF b (zG b r.1) = heF b r.1 := k1 h1
        have e1 : zk1 b (zG b r.1) r.2.2.1 = zB b r.1 := zMu_n (by omega)
        have e2 : zk2 b (zG b r.1) r.2.2.1 = zB b r.1 := by unfold zk2; rw [e1]; exact zOp_b rfl
        have e3 : zk3 b (zG b r.1) r.2.2.1 = zB b r.1 := by unfold zk3; rw [e2]; exact zOp_b rfl
        have e4 : zk4 b (zG b r.1) r.2.2.1 = zB b r.1 := by unfold zk4; rw [e3]; exact zOp_b rfl
        rw [if_pos (by rw [ek]; exact h1.1), e4]
        exact ⟨rfl, rfl⟩
    · by_cases hk : knd (heF b r.1)
      · obtain ⟨e1, e2⟩ := tjN_k hB hk
        have g : ¬ tpP b (tkE b r.1) := fun y => hP (e2.mpr y)
        have h8 : r.2.2.1 < 8 := by
          by_cases y : r.2.2.1 < 8
          · exact y
          · exact absurd (Or.inr ⟨hk, by omega⟩) hB
        have ek : kdF b (zG b r.1) = heF b r.1 := k1 hk
        have w := (zk_rel (q := r.1) (it := r.2.1) (pa := ti0 b r) h8).2 g
        unfold riZ
        rw [if_pos (by rw [ek]; exact hk.1), w, e1]
        exact ⟨rfl, rfl⟩
      · obtain ⟨e1, e2⟩ := tjN_t hB hk
        have g := fun y => hP (e2.mpr y)
        have ek : kdF b (zG b r.1) = -1 := k2 hk
        have hh7 : heF b r.1 = 7 ∨ heF b r.1 = 8 := by
          have h1 : heF b r.1 ≠ -1 := fun z => hB (Or.inl z)
          unfold knd at hk
          omega
        have w := (zt_rel hb hE).2 g
        unfold riZ
        rw [if_neg (by rw [ek]; decide), e1]
        rcases hh7 with h7 | h7
        · have hw : wdP b r.1 22 := k3.mpr h7
          have hw' : wdP b (zG b r.1).1 22 := hw
          have ez : zw1 b (zG b r.1) = zG b (tkE b r.1) := zIn_g hw
          rw [tI_p hw', ez]
          rw [show m2F (heF b r.1) r.2.2.1 = 9 by unfold m2F; rw [if_pos h7], show m3F (heF b r.1) = 9 by unfold m3F; rw [if_pos h7]] at w ⊢
          exact w
        · have hw : ¬ wdP b (zG b r.1).1 22 := fun y => by have := k3.mp y; omega
          have ez : zu1 b (zG b r.1) = zG b (tkE b r.1) := zMu_g (k4.mpr h7)
          rw [tI_n hw, ez]
          rw [show m2F (heF b r.1) r.2.2.1 = r.2.2.1 - 1 by unfold m2F; rw [if_neg (by omega)], show m3F (heF b r.1) = 999 by unfold m3F; rw [if_neg (by omega)]] at w ⊢
          exact w
end ZG
