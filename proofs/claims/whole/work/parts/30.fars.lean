/-! the reference: how far -/
def mwB (y a b : Int) (D : Int → Int) : Int → Int := ur D (10 * a + b) (min (D (10 * a + b)) (D (10 * a + y) + D (10 * y + b)))
def mwA (y a : Int) (D : Int → Int) : Int → Int := xfo (mwB y a) D 10
def mwK (y : Int) (D : Int → Int) : Int → Int := xfo (mwA y) D 10
def mwC (D : Int → Int) (n : Nat) : Int → Int := xfo mwK D n
theorem mwC_s (D : Int → Int) (n : Nat) : mwC D (n + 1) = mwK (n : Int) (mwC D n) := by
  unfold mwC
  rw [xfo_s mwK D n]
/-- the same numbers at the hundred places -/
def E100 (D E : Int → Int) : Prop := ∀ i, 0 ≤ i → i < 100 → D i = E i
theorem E100.up {D E : Int → Int} (h : E100 D E) {i u v : Int} (e : u = v) : E100 (ur D i u) (ur E i v) := by
  intro j h1 h2
  unfold ur
  split
  · exact e
  · exact h j h1 h2
theorem mwA_e {y a : Int} {D E : Int → Int} (hy : 0 ≤ y ∧ y < 10) (ha : 0 ≤ a ∧ a < 10) (hE : DB E) (h : E100 D E) : ∀ n : Nat, n ≤ 10 → E100 (xfo (mwB y a) D n) (xfo (fwB y a (E (a * 10 + y))) E n) ∧ DB (xfo (fwB y a (E (a * 10 + y))) E n) ∧ xfo (fwB y a (E (a * 10 + y))) E n (a * 10 + y) = E (a * 10 + y) := by
  intro n
  induction n with
  | zero => intro _; exact ⟨h, hE, rfl⟩
  | succ n ih =>
    intro hn
    obtain ⟨h1, h2, h3⟩ := ih (by omega)
    have hB := fwA_B hE hy ha (n + 1) hn
    rw [xfo_s (mwB y a) D n, xfo_s (fwB y a (E (a * 10 + y))) E n] at *
    generalize xfo (mwB y a) D n = D1 at h1 ⊢
    generalize xfo (fwB y a (E (a * 10 + y))) E n = E1 at h1 h2 h3 hB ⊢
    have e1 := h1 (10 * a + n) (by omega) (by omega)
    have e2 := h1 (10 * a + y) (by omega) (by omega)
    have e3 := h1 (10 * y + n) (by omega) (by omega)
    rw [show 10 * a + (n : Int) = a * 10 + n by omega] at e1
    rw [show 10 * a + y = a * 10 + y by omega, h3] at e2
    rw [show 10 * y + (n : Int) = y * 10 + n by omega] at e3
    have hyn := h2 (y * 10 + n) (by omega) (by omega)
    have han := h2 (a * 10 + n) (by omega) (by omega)
    refine ⟨?_, hB, ?_⟩
    · unfold mwB fwB
      rw [show 10 * a + (n : Int) = a * 10 + n by omega, show 10 * a + y = a * 10 + y by omega, show 10 * y + (n : Int) = y * 10 + n by omega, e1, e2, e3]
      split
      · exact h1.up (by omega)
      · intro j g1 g2
        unfold ur
        split
        · rename_i hj; rw [hj]; omega
        · exact h1 j g1 g2
    · unfold fwB
      split
      · unfold ur
        split
        · rename_i q1 q2
          have : (n : Int) = y := by omega
          rw [this] at q1 hyn
          omega
        · exact h3
      · exact h3
theorem mwK_e {y : Int} {D E : Int → Int} (hy : 0 ≤ y ∧ y < 10) (hE : DB E) (h : E100 D E) : ∀ n : Nat, n ≤ 10 → E100 (xfo (mwA y) D n) (xfo (fwA y) E n) ∧ DB (xfo (fwA y) E n) := by
  intro n
  induction n with
  | zero => intro _; exact ⟨h, hE⟩
  | succ n ih =>
    intro hn
    obtain ⟨h1, h2⟩ := ih (by omega)
    rw [xfo_s (mwA y) D n, xfo_s (fwA y) E n]
    have := mwA_e hy (a := (n : Int)) ⟨by omega, by omega⟩ h2 h1 10 (by omega)
    unfold mwA fwA
    exact ⟨this.1, this.2.1⟩
theorem mwC_e {D E : Int → Int} (hE : DB E) (h : E100 D E) : ∀ n : Nat, n ≤ 10 → E100 (mwC D n) (fwC E n) ∧ DB (fwC E n) := by
  intro n
  induction n with
  | zero => intro _; exact ⟨h, hE⟩
  | succ n ih =>
    intro hn
    obtain ⟨h1, h2⟩ := ih (by omega)
    rw [mwC_s, fwC_s]
    have := mwK_e (y := (n : Int)) ⟨by omega, by omega⟩ h2 h1 10 (by omega)
    unfold mwK fwK
    exact this
/-- the reference's row of distances: the class's own -/
def wyM (M : xMem) : Int → Int := fun i => if 0 ≤ i ∧ i < 100 then M 1 (13 + i) else 0
theorem wyM_i {M : xMem} {i j : Int} (h : 0 ≤ i ∧ i < 100) (e : j = 13 + i) : M 1 j = wyM M i := by
  unfold wyM
  rw [if_pos h, e]
def dN (M : xMem) : Int → Int := meC (wyM M) (fun _ => 0)
theorem d0_e {L r r' : Int → Int} : E100 (fiC (d0F L) 100 r) (fiC (d0F L) 100 r') := fun i h1 h2 => by unfold fiC; rw [if_pos (by omega), if_pos (by omega)]
def mdC (M : xMem) : Int → Int := mwC (fiC (d0F (wyM M)) 100 (M 5)) 10
theorem mdC_e {M : xMem} (h : LB (wyM M)) : E100 (mdC M) (dN M) := by
  unfold mdC dN meC
  exact (mwC_e (d0F_B h) d0_e 10 (by omega)).1
theorem dN_B {M : xMem} (h : LB (wyM M)) : DB (dN M) := meC_B h
theorem mwC_o {D : Int → Int} {i : Int} (hi : i < 0 ∨ 100 ≤ i) : ∀ n : Nat, n ≤ 10 → mwC D n i = D i := by
  have hA : ∀ (y a : Int) (E : Int → Int), 0 ≤ a ∧ a < 10 → ∀ n : Nat, n ≤ 10 → xfo (mwB y a) E n i = E i := by
    intro y a E ha n
    induction n with
    | zero => intro _; rfl
    | succ n ih => intro hn; rw [xfo_s (mwB y a) E n]; unfold mwB; rw [ur_n (by omega)]; exact ih (by omega)
  have hK : ∀ (y : Int) (E : Int → Int), ∀ n : Nat, n ≤ 10 → xfo (mwA y) E n i = E i := by
    intro y E n
    induction n with
    | zero => intro _; rfl
    | succ n ih => intro hn; rw [xfo_s (mwA y) E n]; unfold mwA; exact (hA y n _ ⟨by omega, by omega⟩ 10 (by omega)).trans (ih (by omega))
  intro n
  induction n with
  | zero => intro _; rfl
  | succ n ih =>
    intro hn
    rw [mwC_s]
    unfold mwK
    exact (hK n _ 10 (by omega)).trans (ih (by omega))
theorem mdC_R {M : xMem} (h : LB (wyM M)) (hR : xR M) (i : Int) : inR (mdC M i) := by
  by_cases hi : 0 ≤ i ∧ i < 100
  · rw [mdC_e h i hi.1 hi.2]
    have := dN_B h i hi.1 hi.2
    omega
  · unfold mdC
    rw [mwC_o (by omega) 10 (by omega)]
    unfold fiC
    rw [if_neg (by omega)]
    exact hR 5 i
def ffM (M : xMem) : xMem := up (upr M 5 (mdC M)) 0 6 1

theorem dX7_findFars_0 : decode cX7_findFars 0 = .ok (.iconst 0, 1) := by decide +kernel
theorem dX7_findFars_1 : decode cX7_findFars 1 = .ok (.istore_n 1, 1) := by decide +kernel
theorem dX7_findFars_2 : decode cX7_findFars 2 = .ok (.iload_n 1, 1) := by decide +kernel
theorem dX7_findFars_3 : decode cX7_findFars 3 = .ok (.bipush 10, 2) := by decide +kernel
theorem dX7_findFars_5 : decode cX7_findFars 5 = .ok (.if_icmp .ge 64, 3) := by decide +kernel
theorem dX7_findFars_8 : decode cX7_findFars 8 = .ok (.iconst 0, 1) := by decide +kernel
theorem dX7_findFars_9 : decode cX7_findFars 9 = .ok (.istore_n 2, 1) := by decide +kernel
theorem dX7_findFars_10 : decode cX7_findFars 10 = .ok (.iload_n 2, 1) := by decide +kernel
theorem dX7_findFars_11 : decode cX7_findFars 11 = .ok (.bipush 10, 2) := by decide +kernel
theorem dX7_findFars_13 : decode cX7_findFars 13 = .ok (.if_icmp .ge 50, 3) := by decide +kernel
theorem dX7_findFars_16 : decode cX7_findFars 16 = .ok (.aload_n 0, 1) := by decide +kernel
theorem dX7_findFars_17 : decode cX7_findFars 17 = .ok (.getfield 22, 3) := by decide +kernel
theorem dX7_findFars_20 : decode cX7_findFars 20 = .ok (.bipush 10, 2) := by decide +kernel
theorem dX7_findFars_22 : decode cX7_findFars 22 = .ok (.iload_n 1, 1) := by decide +kernel
theorem dX7_findFars_23 : decode cX7_findFars 23 = .ok (.imul, 1) := by decide +kernel
theorem dX7_findFars_24 : decode cX7_findFars 24 = .ok (.iload_n 2, 1) := by decide +kernel
theorem dX7_findFars_25 : decode cX7_findFars 25 = .ok (.iadd, 1) := by decide +kernel
theorem dX7_findFars_26 : decode cX7_findFars 26 = .ok (.iload_n 1, 1) := by decide +kernel
theorem dX7_findFars_27 : decode cX7_findFars 27 = .ok (.iload_n 2, 1) := by decide +kernel
theorem dX7_findFars_28 : decode cX7_findFars 28 = .ok (.if_icmp .ne 7, 3) := by decide +kernel
theorem dX7_findFars_31 : decode cX7_findFars 31 = .ok (.iconst 0, 1) := by decide +kernel
theorem dX7_findFars_32 : decode cX7_findFars 32 = .ok (.goto 24, 3) := by decide +kernel
theorem dX7_findFars_35 : decode cX7_findFars 35 = .ok (.aload_n 0, 1) := by decide +kernel
theorem dX7_findFars_36 : decode cX7_findFars 36 = .ok (.iload_n 1, 1) := by decide +kernel
theorem dX7_findFars_37 : decode cX7_findFars 37 = .ok (.iload_n 2, 1) := by decide +kernel
theorem dX7_findFars_38 : decode cX7_findFars 38 = .ok (.invokevirtual 105, 3) := by decide +kernel
theorem dX7_findFars_41 : decode cX7_findFars 41 = .ok (.ifCond .ne 9, 3) := by decide +kernel
theorem dX7_findFars_44 : decode cX7_findFars 44 = .ok (.sipush 999, 3) := by decide +kernel
theorem dX7_findFars_47 : decode cX7_findFars 47 = .ok (.goto 9, 3) := by decide +kernel
theorem dX7_findFars_50 : decode cX7_findFars 50 = .ok (.aload_n 0, 1) := by decide +kernel
theorem dX7_findFars_51 : decode cX7_findFars 51 = .ok (.iload_n 1, 1) := by decide +kernel
theorem dX7_findFars_52 : decode cX7_findFars 52 = .ok (.iload_n 2, 1) := by decide +kernel
theorem dX7_findFars_53 : decode cX7_findFars 53 = .ok (.invokevirtual 105, 3) := by decide +kernel
theorem dX7_findFars_56 : decode cX7_findFars 56 = .ok (.iastore, 1) := by decide +kernel
theorem dX7_findFars_57 : decode cX7_findFars 57 = .ok (.iinc 2 1, 3) := by decide +kernel
theorem dX7_findFars_60 : decode cX7_findFars 60 = .ok (.goto (-50), 3) := by decide +kernel
theorem dX7_findFars_63 : decode cX7_findFars 63 = .ok (.iinc 1 1, 3) := by decide +kernel
theorem dX7_findFars_66 : decode cX7_findFars 66 = .ok (.goto (-64), 3) := by decide +kernel
theorem dX7_findFars_69 : decode cX7_findFars 69 = .ok (.iconst 0, 1) := by decide +kernel
theorem dX7_findFars_70 : decode cX7_findFars 70 = .ok (.istore_n 1, 1) := by decide +kernel
theorem dX7_findFars_71 : decode cX7_findFars 71 = .ok (.iload_n 1, 1) := by decide +kernel
theorem dX7_findFars_72 : decode cX7_findFars 72 = .ok (.bipush 10, 2) := by decide +kernel
theorem dX7_findFars_74 : decode cX7_findFars 74 = .ok (.if_icmp .ge 85, 3) := by decide +kernel
theorem dX7_findFars_77 : decode cX7_findFars 77 = .ok (.iconst 0, 1) := by decide +kernel
theorem dX7_findFars_78 : decode cX7_findFars 78 = .ok (.istore_n 2, 1) := by decide +kernel
theorem dX7_findFars_79 : decode cX7_findFars 79 = .ok (.iload_n 2, 1) := by decide +kernel
theorem dX7_findFars_80 : decode cX7_findFars 80 = .ok (.bipush 10, 2) := by decide +kernel
theorem dX7_findFars_82 : decode cX7_findFars 82 = .ok (.if_icmp .ge 71, 3) := by decide +kernel
theorem dX7_findFars_85 : decode cX7_findFars 85 = .ok (.iconst 0, 1) := by decide +kernel
theorem dX7_findFars_86 : decode cX7_findFars 86 = .ok (.istore_n 3, 1) := by decide +kernel
theorem dX7_findFars_87 : decode cX7_findFars 87 = .ok (.iload_n 3, 1) := by decide +kernel
theorem dX7_findFars_88 : decode cX7_findFars 88 = .ok (.bipush 10, 2) := by decide +kernel
theorem dX7_findFars_90 : decode cX7_findFars 90 = .ok (.if_icmp .ge 57, 3) := by decide +kernel
theorem dX7_findFars_93 : decode cX7_findFars 93 = .ok (.aload_n 0, 1) := by decide +kernel
theorem dX7_findFars_94 : decode cX7_findFars 94 = .ok (.getfield 22, 3) := by decide +kernel
theorem dX7_findFars_97 : decode cX7_findFars 97 = .ok (.bipush 10, 2) := by decide +kernel
theorem dX7_findFars_99 : decode cX7_findFars 99 = .ok (.iload_n 2, 1) := by decide +kernel
theorem dX7_findFars_100 : decode cX7_findFars 100 = .ok (.imul, 1) := by decide +kernel
theorem dX7_findFars_101 : decode cX7_findFars 101 = .ok (.iload_n 3, 1) := by decide +kernel
theorem dX7_findFars_102 : decode cX7_findFars 102 = .ok (.iadd, 1) := by decide +kernel
theorem dX7_findFars_103 : decode cX7_findFars 103 = .ok (.aload_n 0, 1) := by decide +kernel
theorem dX7_findFars_104 : decode cX7_findFars 104 = .ok (.getfield 22, 3) := by decide +kernel
theorem dX7_findFars_107 : decode cX7_findFars 107 = .ok (.bipush 10, 2) := by decide +kernel
theorem dX7_findFars_109 : decode cX7_findFars 109 = .ok (.iload_n 2, 1) := by decide +kernel
theorem dX7_findFars_110 : decode cX7_findFars 110 = .ok (.imul, 1) := by decide +kernel
theorem dX7_findFars_111 : decode cX7_findFars 111 = .ok (.iload_n 3, 1) := by decide +kernel
theorem dX7_findFars_112 : decode cX7_findFars 112 = .ok (.iadd, 1) := by decide +kernel
theorem dX7_findFars_113 : decode cX7_findFars 113 = .ok (.iaload, 1) := by decide +kernel
theorem dX7_findFars_114 : decode cX7_findFars 114 = .ok (.aload_n 0, 1) := by decide +kernel
theorem dX7_findFars_115 : decode cX7_findFars 115 = .ok (.getfield 22, 3) := by decide +kernel
theorem dX7_findFars_118 : decode cX7_findFars 118 = .ok (.bipush 10, 2) := by decide +kernel
theorem dX7_findFars_120 : decode cX7_findFars 120 = .ok (.iload_n 2, 1) := by decide +kernel
theorem dX7_findFars_121 : decode cX7_findFars 121 = .ok (.imul, 1) := by decide +kernel
theorem dX7_findFars_122 : decode cX7_findFars 122 = .ok (.iload_n 1, 1) := by decide +kernel
theorem dX7_findFars_123 : decode cX7_findFars 123 = .ok (.iadd, 1) := by decide +kernel
theorem dX7_findFars_124 : decode cX7_findFars 124 = .ok (.iaload, 1) := by decide +kernel
theorem dX7_findFars_125 : decode cX7_findFars 125 = .ok (.aload_n 0, 1) := by decide +kernel
theorem dX7_findFars_126 : decode cX7_findFars 126 = .ok (.getfield 22, 3) := by decide +kernel
theorem dX7_findFars_129 : decode cX7_findFars 129 = .ok (.bipush 10, 2) := by decide +kernel
theorem dX7_findFars_131 : decode cX7_findFars 131 = .ok (.iload_n 1, 1) := by decide +kernel
theorem dX7_findFars_132 : decode cX7_findFars 132 = .ok (.imul, 1) := by decide +kernel
theorem dX7_findFars_133 : decode cX7_findFars 133 = .ok (.iload_n 3, 1) := by decide +kernel
theorem dX7_findFars_134 : decode cX7_findFars 134 = .ok (.iadd, 1) := by decide +kernel
theorem dX7_findFars_135 : decode cX7_findFars 135 = .ok (.iaload, 1) := by decide +kernel
theorem dX7_findFars_136 : decode cX7_findFars 136 = .ok (.iadd, 1) := by decide +kernel
theorem dX7_findFars_137 : decode cX7_findFars 137 = .ok (.invokestatic 108, 3) := by decide +kernel
theorem dX7_findFars_140 : decode cX7_findFars 140 = .ok (.iastore, 1) := by decide +kernel
theorem dX7_findFars_141 : decode cX7_findFars 141 = .ok (.iinc 3 1, 3) := by decide +kernel
theorem dX7_findFars_144 : decode cX7_findFars 144 = .ok (.goto (-57), 3) := by decide +kernel
theorem dX7_findFars_147 : decode cX7_findFars 147 = .ok (.iinc 2 1, 3) := by decide +kernel
theorem dX7_findFars_150 : decode cX7_findFars 150 = .ok (.goto (-71), 3) := by decide +kernel
theorem dX7_findFars_153 : decode cX7_findFars 153 = .ok (.iinc 1 1, 3) := by decide +kernel
theorem dX7_findFars_156 : decode cX7_findFars 156 = .ok (.goto (-85), 3) := by decide +kernel
theorem dX7_findFars_159 : decode cX7_findFars 159 = .ok (.aload_n 0, 1) := by decide +kernel
theorem dX7_findFars_160 : decode cX7_findFars 160 = .ok (.iconst 1, 1) := by decide +kernel
theorem dX7_findFars_161 : decode cX7_findFars 161 = .ok (.putfield 85, 3) := by decide +kernel
theorem dX7_findFars_164 : decode cX7_findFars 164 = .ok (.return_, 1) := by decide +kernel
set_option maxHeartbeats 800000 in
set_option maxRecDepth 100000 in
theorem c_X7_findFars {l : Launch} {ω : xO} {ks : Nat → Option Nat} (hm : xsh ω = mdS ks)  {M : xMem} (hL : LB (wyM M)) : Ct l ω yX7_findFars ({ frames := 1, cells := 0, slots := 0, locals := 22 } : Room) 4 0 [.ref (xad ω 0)] M none (ffM M) := by
  refine Ct.of (bytes := cX7_findFars) (ret := none) (lv0 := [some (.ref (xad ω 0)), none, none, none]) m_cd_X7_findFars m_in_X7 (by decide +kernel) (by decide +kernel) rfl rfl rfl rfl (fun hR => up_R (upr_R hR (mdC_R hL hR)) (by decide)) ?_
  intro κ h he hR
  refine x_iconst h dX7_findFars_0 ?_
  refine x_istore_n h dX7_findFars_1 rfl rfl ?_
  dsimp only [xset]
  refine x_mem (M' := upr M 5 (fiC (d0F (wyM M)) (10 * ((0 : Nat) : Int) + 0) (M 5))) (by rw [show 10 * ((0 : Nat) : Int) + 0 = 0 from rfl, fiC_0, upr_self]) ?_
  refine loop_up (fun a => X ω κ 2 [some (.ref (xad ω 0)), some (.int (iI (a : Int))), none, none] [] (upr M 5 (fiC (d0F (wyM M)) (10 * (a : Int) + 0) (M 5)))) 10 ?_ ?_
  · show X ω κ 2 [some (.ref (xad ω 0)), some (.int (iI ((10 : Nat) : Int))), none, none] [] (upr M 5 (fiC (d0F (wyM M)) (10 * ((10 : Nat) : Int) + 0) (M 5)))
    refine x_iload_n h dX7_findFars_2 rfl ?_
    refine x_bipush h dX7_findFars_3 (by decide) ?_
    refine x_icmp_ge h dX7_findFars_5 (tgt := 69) (by decide) (by omega) (by omega) (fun q5 => ?_) (fun q5 => ?_)
    · refine x_iconst h dX7_findFars_69 ?_
      refine x_istore_n h dX7_findFars_70 rfl rfl ?_
      dsimp only [xset]
      refine x_mem (M' := upr M 5 (mwC (fiC (d0F (wyM M)) 100 (M 5)) 0)) (by rfl) ?_
      refine loop_up (fun y => X ω κ 71 [some (.ref (xad ω 0)), some (.int (iI (y : Int))), none, none] [] (upr M 5 (mwC (fiC (d0F (wyM M)) 100 (M 5)) y))) 10 ?_ ?_
      · show X ω κ 71 [some (.ref (xad ω 0)), some (.int (iI ((10 : Nat) : Int))), none, none] [] (upr M 5 (mwC (fiC (d0F (wyM M)) 100 (M 5)) 10))
        refine x_iload_n h dX7_findFars_71 rfl ?_
        refine x_bipush h dX7_findFars_72 (by decide) ?_
        refine x_icmp_ge h dX7_findFars_74 (tgt := 159) (by decide) (by omega) (by omega) (fun q74 => ?_) (fun q74 => ?_)
        · refine x_aload_n h dX7_findFars_159 rfl ?_
          refine x_iconst h dX7_findFars_160 ?_
          refine x_puti (j := 6) 6 h dX7_findFars_161 (sM0 hm) rfl in_X7 rfl (by decide) m_fl_X7_85 tyX7_ok nmX7 rfl (tyX7_ok 6 (by decide)) rfl rfl (by omega) rfl ?_
          exact x_vret h he dX7_findFars_164 rfl
        · exfalso; omega
      · intro y hy ihy
        replace ihy : X ω κ 71 [some (.ref (xad ω 0)), some (.int (iI ((y + 1 : Nat) : Int))), none, none] [] (upr M 5 (mwC (fiC (d0F (wyM M)) 100 (M 5)) (y + 1))) := ihy
        show X ω κ 71 [some (.ref (xad ω 0)), some (.int (iI (y : Int))), none, none] [] (upr M 5 (mwC (fiC (d0F (wyM M)) 100 (M 5)) y))
        have hee := mwC_e (d0F_B (r := M 5) hL) (fun i _ _ => rfl) y (by omega) (D := (fiC (d0F (wyM M)) 100 (M 5)))
        revert ihy
        rw [mwC_s (fiC (d0F (wyM M)) 100 (M 5)) y]
        generalize mwC (fiC (d0F (wyM M)) 100 (M 5)) y = D0 at hee ⊢
        generalize fwC (fiC (d0F (wyM M)) 100 (M 5)) y = E0 at hee
        obtain ⟨hDE0, hE0⟩ := hee
        intro ihy
        refine x_iload_n h dX7_findFars_71 rfl ?_
        refine x_bipush h dX7_findFars_72 (by decide) ?_
        refine x_icmp_ge h dX7_findFars_74 (tgt := 159) (by decide) (by omega) (by omega) (fun q74 => ?_) (fun q74 => ?_)
        · exfalso; omega
        · refine x_iconst h dX7_findFars_77 ?_
          refine x_istore_n h dX7_findFars_78 rfl rfl ?_
          dsimp only [xset]
          refine loop_up (fun a => X ω κ 79 [some (.ref (xad ω 0)), some (.int (iI (y : Int))), some (.int (iI (a : Int))), none] [] (upr M 5 (xfo (mwA (y : Int)) D0 a))) 10 ?_ ?_
          · show X ω κ 79 [some (.ref (xad ω 0)), some (.int (iI (y : Int))), some (.int (iI ((10 : Nat) : Int))), none] [] (upr M 5 (xfo (mwA (y : Int)) D0 10))
            refine x_iload_n h dX7_findFars_79 rfl ?_
            refine x_bipush h dX7_findFars_80 (by decide) ?_
            refine x_icmp_ge h dX7_findFars_82 (tgt := 153) (by decide) (by omega) (by omega) (fun q82 => ?_) (fun q82 => ?_)
            · refine x_iinc h dX7_findFars_153 rfl rfl rfl ?_
              dsimp only [xset]
              refine x_goto h dX7_findFars_156 (tgt := 71) (by decide) ?_
              refine x_drop 2 ?_
              dsimp only [xclr]
              exact ihy
            · exfalso; omega
          · intro a ha iha
            replace iha : X ω κ 79 [some (.ref (xad ω 0)), some (.int (iI (y : Int))), some (.int (iI ((a + 1 : Nat) : Int))), none] [] (upr M 5 (xfo (mwA (y : Int)) D0 (a + 1))) := iha
            show X ω κ 79 [some (.ref (xad ω 0)), some (.int (iI (y : Int))), some (.int (iI (a : Int))), none] [] (upr M 5 (xfo (mwA (y : Int)) D0 a))
            have hee := mwK_e (y := (y : Int)) ⟨by omega, by omega⟩ hE0 hDE0 a (by omega)
            revert iha
            rw [xfo_s (mwA (y : Int)) D0 a]
            generalize xfo (mwA (y : Int)) D0 a = D1 at hee ⊢
            generalize xfo (fwA (y : Int)) E0 a = E1 at hee
            obtain ⟨hDE1, hE1⟩ := hee
            intro iha
            refine x_iload_n h dX7_findFars_79 rfl ?_
            refine x_bipush h dX7_findFars_80 (by decide) ?_
            refine x_icmp_ge h dX7_findFars_82 (tgt := 153) (by decide) (by omega) (by omega) (fun q82 => ?_) (fun q82 => ?_)
            · exfalso; omega
            · refine x_iconst h dX7_findFars_85 ?_
              refine x_istore_n h dX7_findFars_86 rfl rfl ?_
              dsimp only [xset]
              refine loop_up (fun j => X ω κ 87 [some (.ref (xad ω 0)), some (.int (iI (y : Int))), some (.int (iI (a : Int))), some (.int (iI (j : Int)))] [] (upr M 5 (xfo (mwB (y : Int) (a : Int)) D1 j))) 10 ?_ ?_
              · show X ω κ 87 [some (.ref (xad ω 0)), some (.int (iI (y : Int))), some (.int (iI (a : Int))), some (.int (iI ((10 : Nat) : Int)))] [] (upr M 5 (xfo (mwB (y : Int) (a : Int)) D1 10))
                refine x_iload_n h dX7_findFars_87 rfl ?_
                refine x_bipush h dX7_findFars_88 (by decide) ?_
                refine x_icmp_ge h dX7_findFars_90 (tgt := 147) (by decide) (by omega) (by omega) (fun q90 => ?_) (fun q90 => ?_)
                · refine x_iinc h dX7_findFars_147 rfl rfl rfl ?_
                  dsimp only [xset]
                  refine x_goto h dX7_findFars_150 (tgt := 79) (by decide) ?_
                  refine x_drop 3 ?_
                  dsimp only [xclr]
                  exact iha
                · exfalso; omega
              · intro j hj ihj
                replace ihj : X ω κ 87 [some (.ref (xad ω 0)), some (.int (iI (y : Int))), some (.int (iI (a : Int))), some (.int (iI ((j + 1 : Nat) : Int)))] [] (upr M 5 (xfo (mwB (y : Int) (a : Int)) D1 (j + 1))) := ihj
                show X ω κ 87 [some (.ref (xad ω 0)), some (.int (iI (y : Int))), some (.int (iI (a : Int))), some (.int (iI (j : Int)))] [] (upr M 5 (xfo (mwB (y : Int) (a : Int)) D1 j))
                have hee := mwA_e (y := (y : Int)) (a := (a : Int)) ⟨by omega, by omega⟩ ⟨by omega, by omega⟩ hE1 hDE1 j (by omega)
                revert ihj
                rw [xfo_s (mwB (y : Int) (a : Int)) D1 j]
                generalize xfo (mwB (y : Int) (a : Int)) D1 j = D2 at hee ⊢
                intro ihj
                obtain ⟨g1, g2, -⟩ := hee
                have f1 := g1 (10 * (a : Int) + (j : Int)) (by omega) (by omega)
                have f2 := g1 (10 * (a : Int) + (y : Int)) (by omega) (by omega)
                have f3 := g1 (10 * (y : Int) + (j : Int)) (by omega) (by omega)
                have b1 := g2 (10 * (a : Int) + (j : Int)) (by omega) (by omega)
                have b2 := g2 (10 * (a : Int) + (y : Int)) (by omega) (by omega)
                have b3 := g2 (10 * (y : Int) + (j : Int)) (by omega) (by omega)
                refine x_iload_n h dX7_findFars_87 rfl ?_
                refine x_bipush h dX7_findFars_88 (by decide) ?_
                refine x_icmp_ge h dX7_findFars_90 (tgt := 147) (by decide) (by omega) (by omega) (fun q90 => ?_) (fun q90 => ?_)
                · exfalso; omega
                · refine x_aload_n h dX7_findFars_93 rfl ?_
                  refine x_getr (j := 5) (q := 5) h dX7_findFars_94 (sM0 hm) rfl in_X7 rfl (by decide) m_fl_X7_22 ?_
                  refine x_bipush h dX7_findFars_97 (by decide) ?_
                  refine x_iload_n h dX7_findFars_99 rfl ?_
                  refine x_imul h dX7_findFars_100 ?_
                  refine x_iload_n h dX7_findFars_101 rfl ?_
                  refine x_iadd h dX7_findFars_102 ?_
                  refine x_aload_n h dX7_findFars_103 rfl ?_
                  refine x_getr (j := 5) (q := 5) h dX7_findFars_104 (sM0 hm) rfl in_X7 rfl (by decide) m_fl_X7_22 ?_
                  refine x_bipush h dX7_findFars_107 (by decide) ?_
                  refine x_iload_n h dX7_findFars_109 rfl ?_
                  refine x_imul h dX7_findFars_110 ?_
                  refine x_iload_n h dX7_findFars_111 rfl ?_
                  refine x_iadd h dX7_findFars_112 ?_
                  refine x_iaload h dX7_findFars_113 (sM5 hm) (by omega) (fun r113 => ?_)
                  refine x_aload_n h dX7_findFars_114 rfl ?_
                  refine x_getr (j := 5) (q := 5) h dX7_findFars_115 (sM0 hm) rfl in_X7 rfl (by decide) m_fl_X7_22 ?_
                  refine x_bipush h dX7_findFars_118 (by decide) ?_
                  refine x_iload_n h dX7_findFars_120 rfl ?_
                  refine x_imul h dX7_findFars_121 ?_
                  refine x_iload_n h dX7_findFars_122 rfl ?_
                  refine x_iadd h dX7_findFars_123 ?_
                  refine x_iaload h dX7_findFars_124 (sM5 hm) (by omega) (fun r124 => ?_)
                  refine x_aload_n h dX7_findFars_125 rfl ?_
                  refine x_getr (j := 5) (q := 5) h dX7_findFars_126 (sM0 hm) rfl in_X7 rfl (by decide) m_fl_X7_22 ?_
                  refine x_bipush h dX7_findFars_129 (by decide) ?_
                  refine x_iload_n h dX7_findFars_131 rfl ?_
                  refine x_imul h dX7_findFars_132 ?_
                  refine x_iload_n h dX7_findFars_133 rfl ?_
                  refine x_iadd h dX7_findFars_134 ?_
                  refine x_iaload h dX7_findFars_135 (sM5 hm) (by omega) (fun r135 => ?_)
                  refine x_iadd h dX7_findFars_136 ?_
                  simp only [upr_s]
                  refine x_min h dX7_findFars_137 m_ml_X7_108 rfl (by decide) (by omega) (by omega) ?_
                  refine x_iastore h dX7_findFars_140 (sM5 hm) (by omega) (by omega) ?_
                  refine x_iinc h dX7_findFars_141 rfl rfl rfl ?_
                  dsimp only [xset]
                  refine x_goto h dX7_findFars_144 (tgt := 87) (by decide) ?_
                  exact x_same ihj rfl rfl (by unfold mwB; rw [up_upr])
    · exfalso; omega
  · intro a ha iha
    replace iha : X ω κ 2 [some (.ref (xad ω 0)), some (.int (iI ((a + 1 : Nat) : Int))), none, none] [] (upr M 5 (fiC (d0F (wyM M)) (10 * ((a + 1 : Nat) : Int) + 0) (M 5))) := iha
    show X ω κ 2 [some (.ref (xad ω 0)), some (.int (iI (a : Int))), none, none] [] (upr M 5 (fiC (d0F (wyM M)) (10 * (a : Int) + 0) (M 5)))
    refine x_iload_n h dX7_findFars_2 rfl ?_
    refine x_bipush h dX7_findFars_3 (by decide) ?_
    refine x_icmp_ge h dX7_findFars_5 (tgt := 69) (by decide) (by omega) (by omega) (fun q5 => ?_) (fun q5 => ?_)
    · exfalso; omega
    · refine x_iconst h dX7_findFars_8 ?_
      refine x_istore_n h dX7_findFars_9 rfl rfl ?_
      dsimp only [xset]
      refine x_mem (M' := upr M 5 (fiC (d0F (wyM M)) (10 * (a : Int) + ((0 : Nat) : Int)) (M 5))) rfl ?_
      refine loop_up (fun j => X ω κ 10 [some (.ref (xad ω 0)), some (.int (iI (a : Int))), some (.int (iI (j : Int))), none] [] (upr M 5 (fiC (d0F (wyM M)) (10 * (a : Int) + (j : Int)) (M 5)))) 10 ?_ ?_
      · show X ω κ 10 [some (.ref (xad ω 0)), some (.int (iI (a : Int))), some (.int (iI ((10 : Nat) : Int))), none] [] (upr M 5 (fiC (d0F (wyM M)) (10 * (a : Int) + ((10 : Nat) : Int)) (M 5)))
        refine x_iload_n h dX7_findFars_10 rfl ?_
        refine x_bipush h dX7_findFars_11 (by decide) ?_
        refine x_icmp_ge h dX7_findFars_13 (tgt := 63) (by decide) (by omega) (by omega) (fun q13 => ?_) (fun q13 => ?_)
        · refine x_iinc h dX7_findFars_63 rfl rfl rfl ?_
          dsimp only [xset]
          refine x_goto h dX7_findFars_66 (tgt := 2) (by decide) ?_
          refine x_drop 2 ?_
          dsimp only [xclr]
          exact x_same iha rfl rfl (by rw [show 10 * ((a + 1 : Nat) : Int) + 0 = 10 * (a : Int) + ((10 : Nat) : Int) by omega])
        · exfalso; omega
      · intro j hj ihj
        replace ihj : X ω κ 10 [some (.ref (xad ω 0)), some (.int (iI (a : Int))), some (.int (iI ((j + 1 : Nat) : Int))), none] [] (upr M 5 (fiC (d0F (wyM M)) (10 * (a : Int) + ((j + 1 : Nat) : Int)) (M 5))) := ihj
        show X ω κ 10 [some (.ref (xad ω 0)), some (.int (iI (a : Int))), some (.int (iI (j : Int))), none] [] (upr M 5 (fiC (d0F (wyM M)) (10 * (a : Int) + (j : Int)) (M 5)))
        have hl := hL (10 * (a : Int) + (j : Int)) (by omega) (by omega)
        have e1 : upr M 5 (fiC (d0F (wyM M)) (10 * (a : Int) + (j : Int)) (M 5)) 1 (13 + 10 * (a : Int) + (j : Int)) = wyM M (10 * (a : Int) + (j : Int)) := by rw [upr_n (by decide)]; exact wyM_i (by omega) (by omega)
        refine x_iload_n h dX7_findFars_10 rfl ?_
        refine x_bipush h dX7_findFars_11 (by decide) ?_
        refine x_icmp_ge h dX7_findFars_13 (tgt := 63) (by decide) (by omega) (by omega) (fun q13 => ?_) (fun q13 => ?_)
        · exfalso; omega
        · refine x_aload_n h dX7_findFars_16 rfl ?_
          refine x_getr (j := 5) (q := 5) h dX7_findFars_17 (sM0 hm) rfl in_X7 rfl (by decide) m_fl_X7_22 ?_
          refine x_bipush h dX7_findFars_20 (by decide) ?_
          refine x_iload_n h dX7_findFars_22 rfl ?_
          refine x_imul h dX7_findFars_23 ?_
          refine x_iload_n h dX7_findFars_24 rfl ?_
          refine x_iadd h dX7_findFars_25 ?_
          refine x_iload_n h dX7_findFars_26 rfl ?_
          refine x_iload_n h dX7_findFars_27 rfl ?_
          refine x_icmp_ne h dX7_findFars_28 (tgt := 35) (by decide) (by omega) (by omega) (fun q28 => ?_) (fun q28 => ?_)
          · refine x_aload_n h dX7_findFars_35 rfl ?_
            refine x_iload_n h dX7_findFars_36 rfl ?_
            refine x_iload_n h dX7_findFars_37 rfl ?_
            refine x_V2i h dX7_findFars_38 m_ml_X7_105 m_im_X7_wayOf m_se_X7_wayOf (sM0 hm) rfl (by decide) rfl (c_X7_wayOf hm (by omega) (by omega)) ?_
            rw [e1]
            refine x_if_ne h dX7_findFars_41 (tgt := 50) (by decide) (by omega) (fun q41 => ?_) (fun q41 => ?_)
            · refine x_aload_n h dX7_findFars_50 rfl ?_
              refine x_iload_n h dX7_findFars_51 rfl ?_
              refine x_iload_n h dX7_findFars_52 rfl ?_
              refine x_V2i h dX7_findFars_53 m_ml_X7_105 m_im_X7_wayOf m_se_X7_wayOf (sM0 hm) rfl (by decide) rfl (c_X7_wayOf hm (by omega) (by omega)) ?_
              try rw [e1]
              refine x_iastore h dX7_findFars_56 (sM5 hm) (by omega) (by omega) ?_
              refine x_mem (M' := upr M 5 (fiC (d0F (wyM M)) (10 * (a : Int) + ((j + 1 : Nat) : Int)) (M 5))) (by rw [up_upr, show (10 * (a : Int) + ((j + 1 : Nat) : Int)) = (10 * (a : Int) + (j : Int)) + 1 by omega, ← fiC_s (by omega)]; congr 2; unfold d0F; rw [show (10 * (a : Int) + (j : Int)) / 10 = (a : Int) by omega, show (10 * (a : Int) + (j : Int)) % 10 = (j : Int) by omega]; first | rw [if_pos (by assumption)] | rw [if_neg (by assumption), if_pos (by assumption)] | rw [if_neg (by assumption), if_neg (by assumption)]) ?_
              refine x_iinc h dX7_findFars_57 rfl rfl rfl ?_
              dsimp only [xset]
              refine x_goto h dX7_findFars_60 (tgt := 10) (by decide) ?_
              exact ihj
            · refine x_sipush h dX7_findFars_44 (by decide) ?_
              refine x_goto h dX7_findFars_47 (tgt := 56) (by decide) ?_
              try rw [e1]
              refine x_iastore h dX7_findFars_56 (sM5 hm) (by omega) (by omega) ?_
              refine x_mem (M' := upr M 5 (fiC (d0F (wyM M)) (10 * (a : Int) + ((j + 1 : Nat) : Int)) (M 5))) (by rw [up_upr, show (10 * (a : Int) + ((j + 1 : Nat) : Int)) = (10 * (a : Int) + (j : Int)) + 1 by omega, ← fiC_s (by omega)]; congr 2; unfold d0F; rw [show (10 * (a : Int) + (j : Int)) / 10 = (a : Int) by omega, show (10 * (a : Int) + (j : Int)) % 10 = (j : Int) by omega]; first | rw [if_pos (by assumption)] | rw [if_neg (by assumption), if_pos (by assumption)] | rw [if_neg (by assumption), if_neg (by assumption)]) ?_
              refine x_iinc h dX7_findFars_57 rfl rfl rfl ?_
              dsimp only [xset]
              refine x_goto h dX7_findFars_60 (tgt := 10) (by decide) ?_
              exact ihj
          · refine x_iconst h dX7_findFars_31 ?_
            refine x_goto h dX7_findFars_32 (tgt := 56) (by decide) ?_
            try rw [e1]
            refine x_iastore h dX7_findFars_56 (sM5 hm) (by omega) (by omega) ?_
            refine x_mem (M' := upr M 5 (fiC (d0F (wyM M)) (10 * (a : Int) + ((j + 1 : Nat) : Int)) (M 5))) (by rw [up_upr, show (10 * (a : Int) + ((j + 1 : Nat) : Int)) = (10 * (a : Int) + (j : Int)) + 1 by omega, ← fiC_s (by omega)]; congr 2; unfold d0F; rw [show (10 * (a : Int) + (j : Int)) / 10 = (a : Int) by omega, show (10 * (a : Int) + (j : Int)) % 10 = (j : Int) by omega]; first | rw [if_pos (by assumption)] | rw [if_neg (by assumption), if_pos (by assumption)] | rw [if_neg (by assumption), if_neg (by assumption)]) ?_
            refine x_iinc h dX7_findFars_57 rfl rfl rfl ?_
            dsimp only [xset]
            refine x_goto h dX7_findFars_60 (tgt := 10) (by decide) ?_
            exact ihj

/-- the memory but for what is found again when a way changed -/
def ca (N : xMem) (f : Int) (d : Int → Int) : xMem := upr (upr N 5 d) 0 (ur (N 0) 6 f)
theorem ca_1 {N : xMem} {f : Int} {d : Int → Int} : ca N f d 1 = N 1 := rfl
theorem ca_5 {N : xMem} {f : Int} {d : Int → Int} : ca N f d 5 = d := rfl
theorem ca_06 {N : xMem} {f : Int} {d : Int → Int} : ca N f d 0 6 = f := rfl
theorem ca_0 {N : xMem} {f j : Int} {d : Int → Int} (h : j ≠ 6) : ca N f d 0 j = N 0 j := by unfold ca; rw [upr_s, ur_n h]
theorem ca_n {N : xMem} {f : Int} {d : Int → Int} {k : Nat} (h0 : k ≠ 0) (h5 : k ≠ 5) : ca N f d k = N k := by unfold ca; rw [upr_n h0, upr_n h5]
theorem ca_ca {N : xMem} {f g : Int} {d e : Int → Int} : ca (ca N f d) g e = ca N g e := by
  funext k
  unfold ca upr
  by_cases h0 : k = 0
  · subst h0
    simp only [if_pos rfl]
    funext j
    unfold ur
    simp
    split <;> rfl
  · rw [if_neg h0, if_neg h0]
    by_cases h5 : k = 5
    · rw [if_pos h5, if_pos h5]
      try rw [if_neg h0]
    · rw [if_neg h5, if_neg h5, if_neg h0, if_neg h5]
theorem ca_self (N : xMem) : ca N (N 0 6) (N 5) = N := by
  funext k
  unfold ca
  by_cases h0 : k = 0
  · subst h0
    rw [upr_s]
    funext j
    unfold ur
    split
    · rename_i h; rw [h]
    · rfl
  · rw [upr_n h0, upr_self]
theorem ffM_ca (N : xMem) : ffM N = ca N 1 (mdC N) := by
  unfold ffM ca
  rw [up, upr_n (by decide)]
def Fc (N : xMem) : Prop := (N 0 6 = 0 ∨ N 0 6 = 1) ∧ (N 0 6 = 1 → E100 (N 5) (dN N))
def CaE (N N' : xMem) : Prop := ∃ (f : Int) (d : Int → Int), N' = ca N f d ∧ Fc N'
theorem CaE.rf {N : xMem} (h : Fc N) : CaE N N := ⟨N 0 6, N 5, (ca_self N).symm, h⟩
theorem CaE.tr {N : xMem} {f : Int} {d : Int → Int} {N' : xMem} (h : CaE (ca N f d) N') : CaE N N' := by
  obtain ⟨g, e, rfl, h2⟩ := h
  exact ⟨g, e, ca_ca, h2⟩
theorem CaE.of {N : xMem} {f : Int} {d : Int → Int} (h : Fc (ca N f d)) : CaE N (ca N f d) := ⟨f, d, rfl, h⟩
theorem dX7_farFrom_0 : decode cX7_farFrom 0 = .ok (.aload_n 0, 1) := by decide +kernel
theorem dX7_farFrom_1 : decode cX7_farFrom 1 = .ok (.getfield 85, 3) := by decide +kernel
theorem dX7_farFrom_4 : decode cX7_farFrom 4 = .ok (.ifCond .ne 7, 3) := by decide +kernel
theorem dX7_farFrom_7 : decode cX7_farFrom 7 = .ok (.aload_n 0, 1) := by decide +kernel
theorem dX7_farFrom_8 : decode cX7_farFrom 8 = .ok (.invokevirtual 113, 3) := by decide +kernel
theorem dX7_farFrom_11 : decode cX7_farFrom 11 = .ok (.aload_n 0, 1) := by decide +kernel
theorem dX7_farFrom_12 : decode cX7_farFrom 12 = .ok (.getfield 22, 3) := by decide +kernel
theorem dX7_farFrom_15 : decode cX7_farFrom 15 = .ok (.bipush 10, 2) := by decide +kernel
theorem dX7_farFrom_17 : decode cX7_farFrom 17 = .ok (.iload_n 1, 1) := by decide +kernel
theorem dX7_farFrom_18 : decode cX7_farFrom 18 = .ok (.imul, 1) := by decide +kernel
theorem dX7_farFrom_19 : decode cX7_farFrom 19 = .ok (.iload_n 2, 1) := by decide +kernel
theorem dX7_farFrom_20 : decode cX7_farFrom 20 = .ok (.iadd, 1) := by decide +kernel
theorem dX7_farFrom_21 : decode cX7_farFrom 21 = .ok (.iaload, 1) := by decide +kernel
theorem dX7_farFrom_22 : decode cX7_farFrom 22 = .ok (.ireturn, 1) := by decide +kernel
set_option maxHeartbeats 800000 in
set_option maxRecDepth 100000 in
theorem c_X7_farFrom {l : Launch} {ω : xO} {ks : Nat → Option Nat} (hm : xsh ω = mdS ks) {a c : Int} {M : xMem} (hL : LB (wyM M)) (hf : Fc M) (ha : plc a) (hc : plc c) : Cq l ω yX7_farFrom ({ frames := 2, cells := 0, slots := 0, locals := 45 } : Room) 3 2 [.ref (xad ω 0), .int (iI a), .int (iI c)] M (pI1 (fun r N' => r = dN M (10 * a + c) ∧ CaE M N')) := by
  refine Cq.of (bytes := cX7_farFrom) (ret := (some .int)) (lv0 := [some (.ref (xad ω 0)), some (.int (iI a)), some (.int (iI c))]) m_cd_X7_farFrom m_in_X7 (by decide +kernel) (by decide +kernel) rfl rfl rfl rfl ?_
  intro κ h he hR
  have hf6 := hf.1
  refine x_aload_n h dX7_farFrom_0 rfl ?_
  refine x_geti (j := 6) 6 h dX7_farFrom_1 (sM0 hm) rfl in_X7 rfl (by decide) m_fl_X7_85 rfl (fun r1 => ?_)
  refine x_if_ne h dX7_farFrom_4 (tgt := 11) (by decide) (by omega) (fun q4 => ?_) (fun q4 => ?_)
  · first
      | (have hd : E100 (M 5) (dN M) := hf.2 (by omega))
      | (have hd : E100 (ffM M 5) (dN M) := by rw [show ffM M 5 = mdC M by unfold ffM; rw [up_n (by decide), upr_s]]; exact mdC_e hL)
    refine x_aload_n h dX7_farFrom_11 rfl ?_
    refine x_getr (j := 5) (q := 5) h dX7_farFrom_12 (sM0 hm) rfl in_X7 rfl (by decide) m_fl_X7_22 ?_
    refine x_bipush h dX7_farFrom_15 (by decide) ?_
    refine x_iload_n h dX7_farFrom_17 rfl ?_
    refine x_imul h dX7_farFrom_18 ?_
    refine x_iload_n h dX7_farFrom_19 rfl ?_
    refine x_iadd h dX7_farFrom_20 ?_
    refine x_iaload h dX7_farFrom_21 (sM5 hm) (by omega) (fun r21 => ?_)
    exact x_iretq h he dX7_farFrom_22 ⟨hd (10 * a + c) (by omega) (by omega), by first | exact CaE.rf hf | exact ⟨1, mdC M, ffM_ca M, Or.inr (by rw [ffM_ca]; rfl), fun _ => hd⟩⟩
  · refine x_aload_n h dX7_farFrom_7 rfl ?_
    refine x_V0v h dX7_farFrom_8 m_ml_X7_113 m_im_X7_findFars m_se_X7_findFars (sM0 hm) rfl (by decide) rfl (c_X7_findFars hm hL) ?_
    first
      | (have hd : E100 (M 5) (dN M) := hf.2 (by omega))
      | (have hd : E100 (ffM M 5) (dN M) := by rw [show ffM M 5 = mdC M by unfold ffM; rw [up_n (by decide), upr_s]]; exact mdC_e hL)
    refine x_aload_n h dX7_farFrom_11 rfl ?_
    refine x_getr (j := 5) (q := 5) h dX7_farFrom_12 (sM0 hm) rfl in_X7 rfl (by decide) m_fl_X7_22 ?_
    refine x_bipush h dX7_farFrom_15 (by decide) ?_
    refine x_iload_n h dX7_farFrom_17 rfl ?_
    refine x_imul h dX7_farFrom_18 ?_
    refine x_iload_n h dX7_farFrom_19 rfl ?_
    refine x_iadd h dX7_farFrom_20 ?_
    refine x_iaload h dX7_farFrom_21 (sM5 hm) (by omega) (fun r21 => ?_)
    exact x_iretq h he dX7_farFrom_22 ⟨hd (10 * a + c) (by omega) (by omega), by first | exact CaE.rf hf | exact ⟨1, mdC M, ffM_ca M, Or.inr (by rw [ffM_ca]; rfl), fun _ => hd⟩⟩
