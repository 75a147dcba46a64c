/-! both worlds: pulls, fits, days, loads, judges -/
section CALLS
variable {K : Int} {C N : xMem}
theorem w_pulls {s : Int} (h : Wo K C N) (hk : kI K) : Sa K (pullsR C s) (npuR N s) (pullsM C s) (npuM N s) := by
  have hn := h.1.cn
  have e1 : ∀ n : Nat, (n : Int) ≤ C 11 1 → psN N s n = psS C s n := by
    intro n hn2
    unfold psN psS
    refine xfo_c _ (fun k hk2 acc => ?_)
    have pl := h.1.2.1.pl (p := (k : Int)) ⟨by omega, by omega⟩
    unfold psG
    by_cases g : inS (k : Int) s
    · rw [tI_p g, if_pos g, pl]
    · rw [tI_n g, if_neg g]
  have e2 : pdN N s (N 1 1).toNat = ptS C s (psS C s (C 11 1).toNat) (C 11 1).toNat := by
    unfold pdN ptS
    rw [h.1.n1, e1 _ (by omega)]
    refine xfo_c _ (fun k hk2 acc => ?_)
    have pl := h.1.2.1.pl (p := (k : Int)) ⟨by omega, by omega⟩
    unfold ptG
    rw [pl]
    by_cases g : ¬ inS (k : Int) s ∧ plC C 11 k < psS C s (C 11 1).toNat
    · rw [tI_p g, if_pos g]
    · rw [tI_n g, if_neg g]
  have e3 : bshl 1 (N 1 1) - 1 = evF (C 11 1) := by rw [h.1.n1]; rfl
  unfold pullsR npuR pullsM npuM
  rw [e3, e2]
  refine ⟨rfl, ?_⟩
  by_cases q : 0 ≤ s ∧ s ≤ evF (C 11 1)
  · rw [if_pos q, if_pos q]; exact h.le (by omega)
  · rw [if_neg q, if_neg q]; exact h.fnd hk (by omega) rfl
theorem itS {L s p : Int} {X : xMem} {m : Int} (hL : L ≤ 90000) (hX : MInv X) (hp : 0 ≤ p ∧ p < 8) (h9 : X 0 9 = p) : ∀ (d i : Nat) (A : xMem), (i : Int) + d ≤ m → m ≤ 100 → TrR (L + i) A (tuI X i) → (∀ j, 0 ≤ j → j < m → A 54 (s * 40 + j) = X 14 (40 * s + j)) → (itN s p d i A ↔ tgF X s d i) := by
  intro d
  induction d with
  | zero => intro i A _ _ _ _; exact Iff.rfl
  | succ d ih =>
    intro i A hi hm h hr
    have hY : TrR (L + i) A (up (tuI X i) 0 10 0) := h
    have n9 : up (tuI X i) 0 10 0 0 9 = p := by
      rw [up_nn (by omega), (tuI_I hX i).2.1.2.1 9 (by decide) (by decide) (by decide)]; exact h9
    obtain ⟨s1, t⟩ := hY.st (h1 := False) (h2 := True) (by omega) (fun z => z.elim) (fun _ => ⟨by rw [n9]; exact hp, by rw [up_ss]⟩)
    have t2 := (t.2.2.2.2 trivial).2
    have s9 : stN (up (tuI X i) 0 10 0) 0 9 = p := by
      rw [(stN_I hY.2.1).2.1.2.1 9 (by decide) (by decide) (by decide)]; exact n9
    rw [s9] at t2
    have e54 : stC 31 1 A 54 = A 54 := (stC_r H31 h.1).1 54 (by decide) (by decide) (by decide) (by decide) (by decide)
    have r := ih (i + 1) (stC 31 1 A) (by omega) hm (by rw [show L + ((i + 1 : Nat) : Int) = L + i + 1 by omega]; exact s1) (by rw [e54]; exact hr)
    unfold itN tgF
    rw [t2, hr i (by omega) (by omega)]
    have e : tuI X (i + 1) = stN (up (tuI X i) 0 10 0) := rfl
    rw [e]
    have ei : ((i : Int) + 1) = ((i + 1 : Nat) : Int) := by omega
    rw [ei, r]
theorem TrR.joi {p o v : Int} (h : Wo K C N) (hx : xR C) (hp : clHas C 11 p) (ho : clHas C 11 o) (hpo : p ≠ o) (hv : 0 ≤ v ∧ v ≤ 999) : TrR K (itC C p o v) (teN N p o v) := by
  have hT := TrR.of h hx
  have q1 := (h.1.has p).2 hp
  have q2 := (h.1.has o).2 ho
  have I := teN_I h.inv.2 q1 q2 hv
  have y : wyr (teN N p o v 1) = wyr (N 1) := by
    funext j
    unfold wyr
    by_cases hj : 0 ≤ j ∧ j < 100
    · rw [if_pos hj, if_pos hj, I.2.2.1 _ (by omega)]
    · rw [if_neg hj, if_neg hj]
  refine ⟨(itC_in hx h.inv.1 hp ho hv).1, I.1, hT.2.2.1.joi hT.1.2.1 (by rw [trC_1]; exact ⟨hp.1, hp.2.1⟩) (by rw [trC_1]; exact ⟨ho.1, ho.2.1⟩) hpo, (hT.2.2.2.1.n y).c (fun k g1 g2 => joiC_b (by omega) (by omega)), ?_⟩
  show joiC (trC C) 31 p o v 31 2 ≤ K
  rw [joiC_b (by omega) (by omega)]
  exact hT.2.2.2.2
theorem ftS {s p v : Int} (hk : kI K) (h : Wo K C N) (hx : xR C) (hp : clHas C 11 p) (hv : 0 ≤ v ∧ v ≤ 99) (hs : shI s) : ∀ n : Nat, (n : Int) ≤ C 11 1 → (ftF s p v C n).1 = wfN N s p v n ∧ Wo K (ftF s p v C n).2 N ∧ xR (ftF s p v C n).2 ∧ TrE C (ftF s p v C n).2 := by
  have hn := h.1.cn
  intro n
  induction n with
  | zero => intro _; exact ⟨rfl, h, hx, TrE.rf⟩
  | succ n ih =>
    intro hn2
    obtain ⟨i1, i2, i3, i4⟩ := ih (by omega)
    rw [ftF_s, wfN_s]
    unfold ftG wfG
    rw [← i1]
    generalize ftF s p v C n = st at i2 i3 i4 ⊢
    by_cases g : (n : Int) = p
    · rw [tI_p g, tI_n (fun z => z.1 g)]
      exact ⟨rfl, i2, i3, i4⟩
    · rw [tI_n g]
      have e11 := i4 11 (by omega)
      have hp2 : clHas st.2 11 p := by unfold clHas; rw [e11]; exact hp
      have hn3 : clHas st.2 11 (n : Int) := by unfold clHas; rw [e11]; omega
      have hT := TrR.joi (v := v) i2 i3 hp2 hn3 (fun z => g z.symm) (by omega)
      have hc := itC_in i3 i2.inv.1 hp2 hn3 (v := v) (by omega)
      have sh := i2.2.2.2.2.2.1 s hs.1 hs.2
      have I := teN_I (a := p) (c := (n : Int)) (n := v) h.inv.2 ((h.1.has p).2 hp) (by rw [h.1.n1]; omega) (by omega)
      have r14 : up (cyM (teN N p n v) 1 3) 0 9 p 14 = N 14 := by rw [up_n (by decide)]; unfold cyM; rw [upr_n (by decide)]; exact I.2.1 14 (by decide)
      have hX : TrR K (itC st.2 p n v) (up (cyM (teN N p n v) 1 3) 0 9 p) := hT
      have key := itS (L := K) (s := s) (p := p) (X := up (cyM (teN N p n v) 1 3) 0 9 p) (m := st.2 53 s) (by omega) hX.2.1 ⟨hp.1, hp.2.2⟩ (up_ss _ _ _ _) (st.2 53 s).toNat 0 (itC st.2 p n v) (by omega) (by omega) (by rw [show K + ((0 : Nat) : Int) = K by omega]; exact hX) (fun j j0 j1 => by rw [hc.2.1 54 (by omega), r14]; exact (sh.2.2.2.2 j j0 j1).symm)
      have e : tgdN (teN N p n v) s p ↔ itN s p (st.2 53 s).toNat 0 (itC st.2 p n v) := by
        unfold tgdN
        rw [I.2.1 13 (by decide), sh.2.1]
        exact key.symm
      have mm := itM_in (s := s) (p := p) (st.2 53 s).toNat 0 (itC st.2 p n v) hc.1
      have he : TrE st.2 (itM s p (st.2 53 s).toNat 0 (itC st.2 p n v)) := hc.2.1.tr (TrE.of_f mm.2)
      refine ⟨?_, i2.trE he, mm.1.1, i4.tr he⟩
      by_cases w : itN s p (st.2 53 s).toNat 0 (itC st.2 p n v)
      · have w2 : (n : Int) ≠ p ∧ tgdN (teN N p n v) s p := ⟨g, e.2 w⟩
        dsimp only
        rw [tI_p w, tI_p w2]
      · have w2 : ¬ ((n : Int) ≠ p ∧ tgdN (teN N p n v) s p) := fun z => w (e.1 z.2)
        dsimp only
        rw [tI_n w, tI_n w2]
theorem w_fit {s p v b : Int} (h : Wo K C N) (hx : xR C) (hk : kI K) : Sa K (if fotF C s p v = -1 then (if b = 0 then pc8 (ftF s p v C (C 11 1).toNat).1 else (ftF s p v C (C 11 1).toNat).1) else -1000001 - fotF C s p v) (nftR N s p v b) (if fotF C s p v = -1 then (ftF s p v C (C 11 1).toNat).2 else fndC C (fotF C s p v)) (nftM N s p v) := by
  have hn := h.1.cn
  unfold fotF nftR nftM
  by_cases q : shI s
  · have q' : 0 ≤ s ∧ s ≤ 3 := by omega
    have sh := h.2.2.2.2.2.1 s q.1 q.2
    rw [if_pos q, if_pos q', if_pos q', sh.1]
    by_cases g : C 52 s = 0
    · rw [if_pos g, if_pos g, if_pos g, if_neg (by decide), if_neg (by decide)]
      exact ⟨rfl, h.fnd hk (by omega) rfl⟩
    · rw [if_neg g, if_neg g, if_neg g]
      by_cases w : clHas C 11 p ∧ 0 ≤ v ∧ v ≤ 99
      · have w' : fiGd N p v := ⟨(h.1.has p).2 w.1, w.2⟩
        obtain ⟨i1, i2, i3, i4⟩ := ftS hk h hx w.1 w.2 q (C 11 1).toNat (by omega)
        rw [if_pos w, if_pos w', if_pos w', if_pos rfl, if_pos rfl, i1, h.1.n1]
        exact ⟨rfl, i2.le (by omega)⟩
      · have w' : ¬ fiGd N p v := fun z => w ⟨(h.1.has p).1 z.1, z.2⟩
        rw [if_neg w, if_neg w', if_neg w', if_neg (by decide), if_neg (by decide)]
        exact ⟨rfl, h.fnd hk (by omega) rfl⟩
  · have q' : ¬ (0 ≤ s ∧ s ≤ 3) := by omega
    rw [if_neg q, if_neg q', if_neg q', if_neg (by decide), if_neg (by decide)]
    exact ⟨rfl, h.fnd hk (by omega) rfl⟩
theorem w_fits {s p v : Int} (h : Wo K C N) (hx : xR C) (hk : kI K) : Sa K (fitsR C s p v) (nftR N s p v 0) (fitsM C s p v) (nftM N s p v) := w_fit (b := 0) h hx hk
theorem w_who {s p v : Int} (h : Wo K C N) (hx : xR C) (hk : kI K) : Sa K (whoR C s p v) (nftR N s p v 1) (whoM C s p v) (nftM N s p v) := w_fit (b := 1) h hx hk
theorem Wo.dd {p : Int} (h : Wo K C N) (hp : 0 ≤ p ∧ p < C 11 1) : Wo K (ddG p C) (ndG p N) := by
  have e2 := h.1.2.2.2.2.2.2.2
  have x1 : ndN N = wr (C 0 3 * 1103515245 + 12345) := by unfold ndN; rw [e2]
  have x2 : neN N = drN C % 10 := by
    have hd := drN_R (M := C)
    unfold neN drN
    rw [x1, brem_p (by unfold drN at hd; omega) (by decide)]
  have hd := drN_R (M := C)
  unfold ddG ndG drM
  rw [x1, x2]
  have e11 : up C 0 3 (wr (C 0 3 * 1103515245 + 12345)) 11 = C 11 := up_n (by decide)
  have a1 : CoR K (up C 0 3 (wr (C 0 3 * 1103515245 + 12345))) 11 1 41 3 (ur (N 1) 2 (wr (C 0 3 * 1103515245 + 12345))) := h.1.lo (by omega) (fun k a b => up_n a) (fun j j0 j1 => by rw [ur_n (by omega), up_n (by omega)]; exact h.1.2.2.2.2.2.2.1 j j0 j1) (by rw [ur_s, up_ss])
  refine h.cu (by omega) ?_ (fun k a b c => by rw [up_n (by omega), up_n (by omega)]) ⟨by rw [up_n (by decide), up_nn (by omega)], by rw [up_n (by decide), up_nn (by omega)]⟩ (fun k _ a _ _ => by rw [up_n a, up_n a]) ⟨rfl, rfl⟩
  rw [up_s, up_s]
  exact a1.upf (by rw [e11]; exact hp) 2 (by omega) _ (by omega) _ rfl
theorem ddS (h : Wo K C N) (hx : xR C) : ∀ n : Nat, (n : Int) ≤ C 11 1 → Wo K (ddF C n) (ndF N n) ∧ ddF C n 11 = C 11 ∧ xR (ddF C n) := by
  intro n
  induction n with
  | zero => intro _; exact ⟨h, rfl, hx⟩
  | succ n ih =>
    intro hn
    obtain ⟨i1, i2, i3⟩ := ih (by omega)
    have o := ddF_o hx h.1.1.1 (n + 1)
    refine ⟨?_, o.2.2 11 (by decide) (by decide), o.1⟩
    rw [ddF_s, ndF_s]
    exact i1.dd (by rw [i2]; omega)
theorem dyS (hk : kI K) (h : Wo K C N) (hx : xR C) : ∀ n : Nat, n ≤ 10 → (dyF C n).1 = ndS N n ∧ Wo (K + 10 * n) (dyF C n).2 (ndI N n) ∧ xR (dyF C n).2 := by
  intro n
  induction n with
  | zero => intro _; exact ⟨rfl, h.le (by omega), hx⟩
  | succ n ih =>
    intro hn
    obtain ⟨i1, i2, i3⟩ := ih (by omega)
    have hn1 := i2.1.cn
    rw [dyF_s]
    unfold dyG
    dsimp only
    have e : ndI N (n + 1) = siN (ndF (ndI N n) (ndI N n 1 1).toNat) 10 := rfl
    have eS : ndS N (n + 1) = ndS N n + pc8 (thN (ndI N (n + 1))) := rfl
    rw [eS, e, i1, i2.1.n1]
    generalize dyF C n = st at i2 i3 hn1 ⊢
    obtain ⟨d1, d2, d3⟩ := ddS i2 i3 (st.2 11 1).toNat (by omega)
    have cl := d1.1.2.2.2.2.2.1
    have w := d1.st d3 10 (by omega)
    refine ⟨?_, w.le (by omega), (tkC_in H11 (d1.1.pin d3) 10).1⟩
    rw [w.1.2.1.th]
theorem w_days {n : Int} (h : Wo K C N) (hx : xR C) (hk : kI K) : Sa K (daysR C n) (ndyR N n) (daysM C n) (ndyM N n) := by
  unfold daysR ndyR daysM ndyM
  by_cases q : 1 ≤ n ∧ n ≤ 10
  · rw [if_pos q, if_pos q, if_pos q, if_pos q, h.1.2.1.2.1]
    by_cases g : C 11 2 + n * 10 ≤ 99999
    · have g' : ¬ 99999 < C 11 2 + 10 * n := by omega
      rw [if_pos g, if_pos g, if_neg g', if_neg g']
      obtain ⟨i1, i2, i3⟩ := dyS hk h hx n.toNat (by omega)
      exact ⟨i1, i2.le (by omega)⟩
    · have g' : 99999 < C 11 2 + 10 * n := by omega
      rw [if_neg g, if_neg g, if_pos g', if_pos g']
      exact ⟨rfl, h.fnd hk (by omega) rfl⟩
  · rw [if_neg q, if_neg q, if_neg q, if_neg q]
    exact ⟨rfl, h.fnd hk (by omega) rfl⟩
theorem ldS2 {s : Int} (hs : shI s) {T : Int} : ∀ (d i k : Nat) (C N : xMem), Wo K C N → T = ldT C s → (i : Int) + d = T → k + i = 8 → ldN s T d i C = ldR s k i N ∧ Wo K (ldM s d i C) (ldX s k i N) := by
  intro d
  induction d with
  | zero =>
    intro i k C N h hT hi hk2
    have sh := h.2.2.2.2.2.1 s hs.1 hs.2
    have hn := h.1.cn
    have z : ¬ ((i : Int) < N 13 s ∧ (i : Int) < N 1 1 ∧ plc (N 14 (40 * s + i))) := by rw [sh.2.1, h.1.n1]; unfold ldT at hT; omega
    cases k with
    | zero => exact ⟨by show T = (i : Int); omega, h⟩
    | succ k =>
      unfold ldN ldR ldM ldX
      rw [if_neg z, if_neg z]
      exact ⟨by omega, h⟩
  | succ d ih =>
    intro i k C N h hT hi hk2
    have sh := h.2.2.2.2.2.1 s hs.1 hs.2
    have hn := h.1.cn
    have l1 : (i : Int) < C 53 s := by unfold ldT at hT; omega
    have l2 : (i : Int) < C 11 1 := by unfold ldT at hT; omega
    cases k with
    | zero => exfalso; omega
    | succ k =>
      unfold ldN ldR ldM ldX
      rw [sh.2.1, h.1.n1, sh.2.2.2.2 i (by omega) l1]
      by_cases g : plc (C 54 (s * 40 + i))
      · have g' : (i : Int) < C 53 s ∧ (i : Int) < C 11 1 ∧ plc (C 54 (s * 40 + i)) := ⟨l1, l2, g⟩
        rw [if_pos g, if_pos g, if_pos g', if_pos g']
        have w : Wo K (up C (11 + 3) i (C 54 (s * 40 + i))) (up N 1 (113 + 8 * (i : Int) + 2) (C 54 (s * 40 + i))) := by
          refine h.cu (by omega) ?_ (fun j a b c => up_n (by omega)) ⟨by rw [up_n (by omega)], by rw [up_n (by omega)]⟩ (fun j _ a _ _ => up_n a) ⟨rfl, rfl⟩
          rw [up_s]
          exact h.1.upf ⟨by omega, l2⟩ 2 (by omega) _ (by omega) _ rfl
        exact ih (i + 1) k _ _ w (by unfold ldT; rw [up_n (by omega), up_n (by omega)]; exact hT) (by omega) (by omega)
      · have g' : ¬ ((i : Int) < C 53 s ∧ (i : Int) < C 11 1 ∧ plc (C 54 (s * 40 + i))) := fun z => g z.2.2
        rw [if_neg g, if_neg g, if_neg g', if_neg g']
        exact ⟨rfl, h⟩
theorem w_load {s : Int} (h : Wo K C N) (hk : kI K) : Sa K (loadR C s) (nloR N s) (loadM C s) (nloM N s) := by
  unfold loadR nloR loadM nloM
  by_cases q : shI s
  · have q' : 0 ≤ s ∧ s ≤ 3 := by omega
    have sh := h.2.2.2.2.2.1 s q.1 q.2
    have hn := h.1.cn
    rw [if_pos q, if_pos q, if_pos q', if_pos q', sh.1]
    by_cases g : C 52 s = 0
    · rw [if_pos g, if_pos g, if_pos g, if_pos g]
      exact ⟨rfl, h.fnd hk (by omega) rfl⟩
    · rw [if_neg g, if_neg g, if_neg g, if_neg g]
      have r := ldS2 (K := K) q (T := ldT C s) (ldT C s).toNat 0 8 C N h rfl (by unfold ldT; omega) rfl
      exact ⟨r.1, r.2.le (by omega)⟩
  · have q' : ¬ (0 ≤ s ∧ s ≤ 3) := by omega
    rw [if_neg q, if_neg q, if_neg q', if_neg q']
    exact ⟨rfl, h.fnd hk (by omega) rfl⟩
theorem juS {L s : Int} {X : xMem} {m : Int} (hL : L ≤ 90000) : ∀ (d i : Nat) (A : xMem), (i : Int) + d ≤ m → m ≤ 100 → TrR (L + i) A (siN X i) → (∀ j, 0 ≤ j → j < m → A 54 (s * 40 + j) = X 14 (40 * s + j)) → X 1 1 = A 31 1 → juN s d i A = jgF X s d i := by
  intro d
  induction d with
  | zero => intro i A _ _ _ _ _; rfl
  | succ d ih =>
    intro i A hi hm h hr h1
    have s1 := (h.st (h1 := False) (h2 := False) (by omega) (fun z => z.elim) (fun z => z.elim)).1
    have hn := h.1.2.1.1
    have e54 : stC 31 1 A 54 = A 54 := (stC_r H31 h.1).1 54 (by decide) (by decide) (by decide) (by decide) (by decide)
    have e31 : stC 31 1 A 31 1 = A 31 1 := (stC_r H31 h.1).2.1 1 (by decide) (by decide) (by decide)
    have r := ih (i + 1) (stC 31 1 A) (by omega) hm (by rw [show L + ((i + 1 : Nat) : Int) = L + i + 1 by omega]; exact s1) (by rw [e54]; exact hr) (by rw [e31]; exact h1)
    unfold juN jgF
    have ei : ((i : Int) + 1) = ((i + 1 : Nat) : Int) := by omega
    rw [ei, r, ← hr i (by omega) (by omega), h1]
    have e : siN X (i + 1) = stN (siN X i) := rfl
    by_cases g : 0 < A 31 1
    · have a := s1.2.2.1.2.2 0 (by omega) (by rw [e31]; exact g)
      have hc : clHas (stC 31 1 A) 31 0 := by unfold clHas; rw [e31]; omega
      rw [e, a.2.1]
      by_cases w : stC 31 1 A (31 + 2) 0 = A 54 (s * 40 + i)
      · rw [tI_p ⟨hc, w⟩, if_pos ⟨g, w.symm⟩]
      · rw [tI_n (fun z => w z.2), if_neg (fun z => w z.2.symm)]
    · have hc : ¬ clHas (stC 31 1 A) 31 0 := by unfold clHas; rw [e31]; omega
      rw [tI_n (fun z => hc z.1), if_neg (fun z => g z.1)]
theorem juM_f {s : Int} : ∀ (d : Nat) (i : Int) (M : xMem), PIn M 31 1 → TrE M (juM s d i M) := by
  intro d
  induction d with
  | zero => intro i M _; exact TrE.rf
  | succ d ih =>
    intro i M h
    have e := TrE.of_f (stC_f H31 h)
    unfold juM tI
    split
    · exact e.tr (ih _ _ (stC_in H31 h))
    · exact e
theorem w_judge {s : Int} (h : Wo K C N) (hx : xR C) (hk : kI K) : Sa K (judgeR C s) (njuR N s) (judgeM C s) (njuM N s) := by
  unfold judgeR njuR judgeM njuM
  by_cases q : shI s
  · have q' : 0 ≤ s ∧ s ≤ 3 := by omega
    have sh := h.2.2.2.2.2.1 s q.1 q.2
    rw [if_pos q, if_pos q, if_pos q', if_pos q', sh.1]
    by_cases g : C 52 s = 0
    · rw [if_pos g, if_pos g, if_pos g, if_pos g]
      exact ⟨rfl, h.fnd hk (by omega) rfl⟩
    · rw [if_neg g, if_neg g, if_neg g, if_neg g]
      have hT := TrR.of h hx
      have hX : TrR K (trC C) (cyM N 1 3) := hT
      refine ⟨?_, (h.trE (trC_e.tr (juM_f _ _ _ hT.1))).le (by omega)⟩
      unfold jgN
      rw [sh.2.1]
      exact juS (L := K) (X := cyM N 1 3) (m := C 53 s) (by omega) (C 53 s).toNat 0 (trC C) (by omega) (by omega) hX.z (fun j j0 j1 => by rw [trC_n (by omega)]; exact (sh.2.2.2.2 j j0 j1).symm) hX.n
  · have q' : ¬ (0 ≤ s ∧ s ≤ 3) := by omega
    rw [if_neg q, if_neg q, if_neg q', if_neg q']
    exact ⟨rfl, h.fnd hk (by omega) rfl⟩
end CALLS
