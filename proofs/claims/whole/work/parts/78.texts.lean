/-! both worlds: texts -/
theorem coM_ur {X : xMem} {k a e s : Int} (hn : 0 ≤ X 1 1) : coM X k a e s 1 = ur (ur (coM X k a a 3 1) (113 + 8 * X 1 1 + 2) e) (113 + 8 * X 1 1 + 4) s := by
  obtain ⟨f0, f1, f2, f3, f4, f5, f6, f7⟩ := coM_f (M := X) (k := k) (a := a) (e := e) (s := s) hn
  obtain ⟨g0, g1, g2, g3, g4, g5, g6, g7⟩ := coM_f (M := X) (k := k) (a := a) (e := a) (s := 3) hn
  funext j
  by_cases c4 : j = 113 + 8 * X 1 1 + 4
  · subst c4; rw [ur_s, f4]
  rw [ur_n c4]
  by_cases c2 : j = 113 + 8 * X 1 1 + 2
  · subst c2; rw [ur_s, f2]
  rw [ur_n c2]
  by_cases c1 : j = 1
  · subst c1; rw [coM_1, coM_1]
  by_cases c : j < 113 + 8 * X 1 1 ∨ 113 + 8 * X 1 1 + 8 ≤ j
  · rw [coM_o hn c1 c, coM_o hn c1 c]
  rcases (show j = 113 + 8 * X 1 1 + 0 ∨ j = 113 + 8 * X 1 1 + 1 ∨ j = 113 + 8 * X 1 1 + 3 ∨ j = 113 + 8 * X 1 1 + 5 ∨ j = 113 + 8 * X 1 1 + 6 ∨ j = 113 + 8 * X 1 1 + 7 by omega) with e | e | e | e | e | e <;> subst e
  · rw [f0, g0]
  · rw [f1, g1]
  · rw [f3, g3]
  · rw [f5, g5]
  · rw [f6, g6]
  · rw [f7, g7]
theorem coS {K p0 : Int} {D X : xMem} {i : Nat} (h : CoR K D 11 1 41 3 (X 1)) (hI : itO (D 50) p0 i) (hp : D 11 1 = peA (D 50) p0 i) (hE : itE (X 11) (D 50) (i : Int)) : CoR K (coC D (i : Int)) 11 1 41 3 (isoM X (i : Int) 1) := by
  obtain ⟨e0, e1, e2, e3⟩ := hE
  have hn := h.cn
  have hX : MInv X := h.1.2
  unfold coC isoM
  rw [e0, e1, e2, e3]
  unfold itO at hI
  rcases hI with ⟨g, g2⟩ | ⟨g, g2⟩ | ⟨g, g2⟩
  · rw [g, if_pos rfl, show hmF 7 = 10 from rfl, if_pos rfl]
    have e : lyM X (D 50 ((i : Int) * 4 + 1)) (D 50 ((i : Int) * 4 + 2)) (D 50 ((i : Int) * 4 + 3)) 1 = ur (ur (X 1) (13 + 10 * D 50 ((i : Int) * 4 + 1) + D 50 ((i : Int) * 4 + 2)) (D 50 ((i : Int) * 4 + 3))) (13 + 10 * D 50 ((i : Int) * 4 + 2) + D 50 ((i : Int) * 4 + 1)) (D 50 ((i : Int) * 4 + 3)) := by unfold lyM; rw [up_s, up_s, up_n (by decide)]
    rw [e]
    exact h.lay g2.1 g2.2.1 g2.2.2.1 g2.2.2.2
  · rw [← hp] at g2
    rw [g, if_neg (by decide), if_pos rfl, show hmF 8 = 11 from rfl, if_neg (by decide), if_pos rfl]
    generalize D 50 ((i : Int) * 4 + 1) = x at g2 ⊢
    generalize D 50 ((i : Int) * 4 + 2) = y at g2 ⊢
    generalize D 50 ((i : Int) * 4 + 3) = l at g2 ⊢
    obtain ⟨gx, gy, gxy, gl⟩ := g2
    have I := teN_I hX (a := x) (c := y) (n := l) (by rw [h.n1]; exact gx) (by rw [h.n1]; exact gy) gl
    exact h.ti (fun k k1 k2 => joiC_b k1 k2) I.2 (PeInv_joi h.1.1 ⟨gx.1, gx.2, by omega⟩ ⟨gy.1, gy.2, by omega⟩ gl) I.1 (h.2.1.joi h.1.1 gx gy gxy) (h.2.2.2.1.joi h.1.1 gx gy gxy)
  · rw [← hp] at g2
    have gk : 0 ≤ D 50 ((i : Int) * 4 + 0) ∧ D 50 ((i : Int) * 4 + 0) < 7 := g
    have eh : hmF (D 50 ((i : Int) * 4 + 0)) = D 50 ((i : Int) * 4 + 0) := by unfold hmF; rw [if_neg (by omega), if_neg (by omega)]
    rw [eh, if_neg (by omega), if_neg (by omega), if_neg (by omega), if_neg (by omega)]
    generalize D 50 ((i : Int) * 4 + 0) = k at gk ⊢
    generalize D 50 ((i : Int) * 4 + 1) = a at g2 ⊢
    generalize D 50 ((i : Int) * 4 + 2) = e at g2 ⊢
    generalize D 50 ((i : Int) * 4 + 3) = s at g2 ⊢
    obtain ⟨gn, ga, ge, gs⟩ := g2
    rw [coM_ur (by rw [h.n1]; omega), h.n1]
    have A := h.add gn (k := k) (a := a) (by omega) ga
    have c1 : addC D 11 k a 11 1 = D 11 1 + 1 := by rw [addC_1, ur_s]
    have A2 := A.upf (p := D 11 1) (v := e) (by rw [c1]; omega) 2 (by omega) _ rfl (11 + 3) rfl
    have c2 : up (addC D 11 k a) (11 + 3) (D 11 1) e 11 1 = D 11 1 + 1 := by rw [up_n (by decide)]; exact c1
    exact A2.upf (p := D 11 1) (v := s) (by rw [c2]; omega) 4 (by omega) _ rfl (11 + 5) rfl
section CALLS
variable {K : Int} {C N : xMem}
theorem Wo.bt (h : Wo K C N) : btN N = btC C := by
  have t := h.2.2.2.2.1
  funext i
  unfold btN btC
  rw [t.1]
  by_cases g : 0 ≤ i ∧ i < C 47 1 ∧ i < 120
  · rw [if_pos g, if_pos g, (t.2.2 i g.1 g.2.1).1]
  · rw [if_neg g, if_neg g]
theorem Wo.bo (h : Wo K C N) : BtO (btC C) (C 47 1) := BtO_C h.inv.1 (fun i i0 i1 => (h.2.2.2.2.1.2.2 i i0 i1).2)
theorem tx0_n {k : Nat} (h47 : k ≠ 47) (h49 : k ≠ 49) (h50 : k ≠ 50) : tx0 C k = C k := by
  unfold tx0 rtM rsM rrM
  rw [up_n h47, upr_n h50, upr_n h49]
/-- what a text leaves besides the country -/
theorem Wo.tx {C' N' : xMem} (h : Wo K C N) (hk : 0 ≤ K) (hn : CoR K C' 11 1 41 3 (N' 1)) (eC : ∀ k, (k = 0 ∨ (5 < k ∧ k < 11) ∨ 19 < k) → k ≠ 47 → k ≠ 49 → k ≠ 50 → C' k = C k) (e47 : C' 47 1 = 0) (eN : ∀ k, k ≠ 0 → k ≠ 1 → k ≠ 5 → k ≠ 11 → N' k = N k) (eN0 : N' 0 3 = N 0 3 ∧ N' 0 16 = 0) : Wo (K + 100) C' N' := by
  obtain ⟨h1, h2, h3, h4, h5, h6, h7⟩ := h.le (show K ≤ K + 100 by omega)
  have c0 : C' 0 = C 0 := eC 0 (by decide) (by decide) (by decide) (by decide)
  refine ⟨hn.le (by omega), by rw [c0]; exact h2, by rw [c0, eN0.1]; exact h3, fun z => ?_, ⟨by rw [eN0.2, e47], by rw [e47]; omega, fun i i0 i1 => by rw [e47] at i1; omega⟩, h6.e (eC 52 (by decide) (by decide) (by decide) (by decide)) (eC 53 (by decide) (by decide) (by decide) (by decide)) (eC 54 (by decide) (by decide) (by decide) (by decide)) (eN 12 (by decide) (by decide) (by decide) (by decide)) (eN 13 (by decide) (by decide) (by decide) (by decide)) (eN 14 (by decide) (by decide) (by decide) (by decide)), h7.e (Int.le_refl _) (eC 55 (by decide) (by decide) (by decide) (by decide)) (eN 4 (by decide) (by decide) (by decide) (by decide))⟩
  rw [c0] at z
  rw [eN 2 (by decide) (by decide) (by decide) (by decide)]
  have e21 := eC 21 (by decide) (by decide) (by decide) (by decide)
  exact (h4 z).c (fun k a b => eC k (by omega) (by omega) (by omega) (by omega)) (by rw [e21]) (by rw [e21]) (fun k a b => eC k (by omega) (by omega) (by omega) (by omega)) (eC 42 (by decide) (by decide) (by decide) (by decide)) (by rw [c0])
theorem w_text {N' : xMem} (h : Wo K C N) (hx : xR C) (hk : kI K) (hN : ntxM N (C 50) N') : textR C = ntxR N (C 50) ∧ Wo (K + 100) (textM C) N' := by
  have n1 := h.1.n1
  have hn := h.1.cn
  have eF : tnF N (C 50) = txF C := by unfold tnF txF; rw [h.bt, n1]
  have eS : tnS N (C 50) = txS C := by unfold tnS txS; rw [h.bt, n1]
  obtain ⟨T, t1, t2, t3⟩ := hN
  rw [eF] at t2 t3
  rw [eS] at t3
  unfold textR ntxR textM
  rw [eF, eS]
  refine ⟨rfl, ?_⟩
  have T1 : T 1 = N 1 := t1.1 1 (by decide) (by decide)
  have x47 : tx0 C 47 1 = 0 := by unfold tx0; rw [up_ss]
  have h0 : CoR K (tx0 C) 11 1 41 3 (T 1) := by
    rw [T1]
    exact h.1.c (fun k a b => tx0_n (by omega) (by omega) (by omega)) (by rw [tx0_n (by omega) (by omega) (by omega)]) (by rw [tx0_n (by omega) (by omega) (by omega)]) (fun k a b => tx0_n (by omega) (by omega) (by omega)) (tx0_n (by omega) (by omega) (by omega)) (by rw [tx0_n (by omega) (by omega) (by omega)])
  by_cases g : txF C = -1
  · rw [if_pos g]
    obtain ⟨u1, u2⟩ := t3 g
    have O : RdO (C 47 1) (C 11 1) (txS C) := fuS_O h.bo 120 _ (rd0_O hx h.bo hn) (by show (0 : Int) + ((120 : Nat) : Int) ≤ 120; omega) g
    obtain ⟨o1, m, o2, o3, o4⟩ := O
    have ci := coF_i hx h.bo hn h.1.rd.2 g
    have iI := isoF_i (A := T 11) (C := (txS C).2.2.2) (p0 := C 11 1) (k := m) (T := T) (t1.inv h.inv.2) rfl (by rw [T1, n1]) o4 (fun j hj => u1 j (by omega))
    have key : ∀ i : Nat, i ≤ m → CoR K (coF (tx0 C) i) 11 1 41 3 (isoF T i 1) ∧ ∀ k, (k = 0 ∨ (5 < k ∧ k < 11) ∨ 19 < k) → coF (tx0 C) i k = tx0 C k := by
      intro i
      induction i with
      | zero => intro _; exact ⟨h0, fun _ _ => rfl⟩
      | succ i ih =>
        intro hi
        obtain ⟨a1, a2⟩ := ih (by omega)
        have c := ci i (by omega)
        have n := iI i (by omega)
        rw [coF_s, isoF_s]
        refine ⟨coS (p0 := C 11 1) a1 ?_ ?_ ?_, fun k hk => by rw [coC_n hk]; exact a2 k hk⟩
        · rw [c.2.2.2.1]; exact o4 i (by omega)
        · rw [c.2.2.2.1]; exact c.2.1
        · rw [c.2.2.2.1, n.2.2.2.1 11 (by decide) (by decide)]; exact u1 i (by omega)
    have em : (txS C).2.1.toNat = m := by omega
    rw [em] at u2 ⊢
    obtain ⟨k1, k2⟩ := key m (Nat.le_refl _)
    have nI := iI m (Nat.le_refl _)
    obtain ⟨f, d, rfl, u3⟩ := u2
    refine h.tx hk.1 (by rw [ca_1]; exact k1) (fun k a b c e => by rw [k2 k a]; exact tx0_n b c e) (by rw [k2 47 (by decide)]; exact x47) (fun k a b c e => ?_) ⟨?_, ?_⟩
    · rw [ca_n a c, nI.2.2.2.1 k a b]
      exact t1.1 k a e
    · show ur (isoF T m 0) 6 f 3 = N 0 3
      rw [ur_n (by decide), nI.2.2.2.2.1 3 (by decide)]
      exact t1.2.1 3 (by decide)
    · show ur (isoF T m 0) 6 f 16 = 0
      rw [ur_n (by decide), nI.2.2.2.2.1 16 (by decide)]
      exact t1.2.2
  · rw [if_neg g, t2 g]
    exact h.tx hk.1 h0 (fun k a b c d => tx0_n b c d) x47 (fun k a b c d => t1.1 k a d) ⟨t1.2.1 3 (by decide), t1.2.2⟩
end CALLS
