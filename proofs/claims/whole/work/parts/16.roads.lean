/-! the class: ROADS: how far, by which place -/
def fiC (f : Int → Int) (n : Int) (r : Int → Int) : Int → Int := fun i => if 0 ≤ i ∧ i < n then f i else r i
theorem fiC_s {f : Int → Int} {n : Int} {r : Int → Int} (hn : 0 ≤ n) : ur (fiC f n r) n (f n) = fiC f (n + 1) r := by
  funext i
  unfold ur fiC
  by_cases h : i = n
  · rw [if_pos h, if_pos (by omega), h]
  · rw [if_neg h]
    by_cases g : 0 ≤ i ∧ i < n
    · rw [if_pos g, if_pos (by omega)]
    · rw [if_neg g, if_neg (by omega)]
theorem fiC_0 (f r : Int → Int) : fiC f 0 r = r := by
  funext i
  unfold fiC
  rw [if_neg (by omega)]
theorem xfo_s {σ : Type} (g : Int → σ → σ) (s : σ) (n : Nat) : xfo g s (n + 1) = g (n : Int) (xfo g s n) := rfl
def d0F (L : Int → Int) (i : Int) : Int := if i / 10 = i % 10 then 0 else if L i = 0 then 999 else L i
def fwB (y a t : Int) (b : Int) (D : Int → Int) : Int → Int := if t + D (y * 10 + b) < D (a * 10 + b) then ur D (a * 10 + b) (t + D (y * 10 + b)) else D
def fwA (y : Int) (a : Int) (D : Int → Int) : Int → Int := xfo (fwB y a (D (a * 10 + y))) D 10
def fwK (y : Int) (D : Int → Int) : Int → Int := xfo (fwA y) D 10
def fwC (D : Int → Int) (n : Nat) : Int → Int := xfo fwK D n
theorem fwC_s (D : Int → Int) (n : Nat) : fwC D (n + 1) = fwK (n : Int) (fwC D n) := by
  unfold fwC
  rw [xfo_s fwK D n]
def DB (D : Int → Int) : Prop := ∀ i, 0 ≤ i → i < 100 → 0 ≤ D i ∧ D i ≤ 999
theorem fwB_B {y a t b : Int} {D : Int → Int} (h : DB D) (hy : 0 ≤ y ∧ y < 10) (ha : 0 ≤ a ∧ a < 10) (hb : 0 ≤ b ∧ b < 10) (ht : 0 ≤ t ∧ t ≤ 999) : DB (fwB y a t b D) := by
  intro i h1 h2
  have g1 := h (y * 10 + b) (by omega) (by omega)
  have g2 := h (a * 10 + b) (by omega) (by omega)
  have g3 := h i h1 h2
  unfold fwB
  split
  · unfold ur; split <;> omega
  · exact g3
theorem fwA_B {y a : Int} {D : Int → Int} (h : DB D) (hy : 0 ≤ y ∧ y < 10) (ha : 0 ≤ a ∧ a < 10) : ∀ n : Nat, n ≤ 10 → DB (xfo (fwB y a (D (a * 10 + y))) D n) := by
  intro n
  induction n with
  | zero => intro _; exact h
  | succ n ih => intro hn; exact fwB_B (ih (by omega)) hy ha ⟨by omega, by omega⟩ (h _ (by omega) (by omega))
theorem fwK_B {y : Int} {D : Int → Int} (h : DB D) (hy : 0 ≤ y ∧ y < 10) : ∀ n : Nat, n ≤ 10 → DB (xfo (fwA y) D n) := by
  intro n
  induction n with
  | zero => intro _; exact h
  | succ n ih => intro hn; exact fwA_B (ih (by omega)) hy ⟨by omega, by omega⟩ 10 (by omega)
theorem fwC_B {D : Int → Int} (h : DB D) : ∀ n : Nat, n ≤ 10 → DB (fwC D n) := by
  intro n
  induction n with
  | zero => intro _; exact h
  | succ n ih =>
    intro hn
    rw [fwC_s]
    unfold fwK
    exact fwK_B (ih (by omega)) ⟨by omega, by omega⟩ 10 (by omega)
def LB (L : Int → Int) : Prop := ∀ i, 0 ≤ i → i < 100 → 0 ≤ L i ∧ L i ≤ 9
theorem d0F_B {L r : Int → Int} (h : LB L) : DB (fiC (d0F L) 100 r) := by
  intro i h1 h2
  have := h i h1 h2
  unfold fiC d0F
  rw [if_pos (by omega)]
  (repeat' split) <;> omega
/-- what measure() lays into the row of distances -/
def meC (L r : Int → Int) : Int → Int := fwC (fiC (d0F L) 100 r) 10
theorem meC_B {L r : Int → Int} (h : LB L) : DB (meC L r) := fwC_B (d0F_B h) 10 (by omega)
theorem fiC_R {f r : Int → Int} {n : Int} (hf : ∀ i, 0 ≤ i → i < n → inR (f i)) (hr : ∀ i, inR (r i)) (i : Int) : inR (fiC f n r i) := by
  unfold fiC
  split
  · rename_i h; exact hf i h.1 h.2
  · exact hr i
theorem fwB_o {y a t b : Int} {D : Int → Int} (ha : 0 ≤ a ∧ a < 10) (hb : 0 ≤ b ∧ b < 10) {i : Int} (hi : i < 0 ∨ 100 ≤ i) : fwB y a t b D i = D i := by
  unfold fwB
  split
  · exact ur_n (by omega)
  · rfl
theorem fwC_o {D : Int → Int} {i : Int} (hi : i < 0 ∨ 100 ≤ i) : ∀ n : Nat, n ≤ 10 → fwC D n i = D i := by
  have hA : ∀ (y a t : Int) (E : Int → Int), 0 ≤ a ∧ a < 10 → ∀ n : Nat, n ≤ 10 → xfo (fwB y a t) E n i = E i := by
    intro y a t E ha n
    induction n with
    | zero => intro _; rfl
    | succ n ih => intro hn; exact (fwB_o ha ⟨by omega, by omega⟩ hi).trans (ih (by omega))
  have hK : ∀ (y : Int) (E : Int → Int), ∀ n : Nat, n ≤ 10 → xfo (fwA y) E n i = E i := by
    intro y E n
    induction n with
    | zero => intro _; rfl
    | succ n ih => intro hn; exact (hA y n _ _ ⟨by omega, by omega⟩ 10 (by omega)).trans (ih (by omega))
  intro n
  induction n with
  | zero => intro _; rfl
  | succ n ih =>
    intro hn
    rw [fwC_s]
    unfold fwK
    exact (hK n _ 10 (by omega)).trans (ih (by omega))
theorem meC_R {L r : Int → Int} (h : LB L) (hr : ∀ i, inR (r i)) (i : Int) : inR (meC L r i) := by
  by_cases hi : 0 ≤ i ∧ i < 100
  · have := meC_B (r := r) h i hi.1 hi.2; omega
  · unfold meC
    rw [fwC_o (by omega) 10 (by omega)]
    exact fiC_R (fun j h1 h2 => by have := d0F_B (r := r) h j h1 h2; unfold fiC at this; rw [if_pos ⟨h1, h2⟩] at this; omega) hr i

theorem dX3_measure_0 : decode cX3_measure 0 = .ok (.iconst 0, 1) := by decide +kernel
theorem dX3_measure_1 : decode cX3_measure 1 = .ok (.istore_n 1, 1) := by decide +kernel
theorem dX3_measure_2 : decode cX3_measure 2 = .ok (.iload_n 1, 1) := by decide +kernel
theorem dX3_measure_3 : decode cX3_measure 3 = .ok (.bipush 10, 2) := by decide +kernel
theorem dX3_measure_5 : decode cX3_measure 5 = .ok (.if_icmp .ge 66, 3) := by decide +kernel
theorem dX3_measure_8 : decode cX3_measure 8 = .ok (.iconst 0, 1) := by decide +kernel
theorem dX3_measure_9 : decode cX3_measure 9 = .ok (.istore_n 2, 1) := by decide +kernel
theorem dX3_measure_10 : decode cX3_measure 10 = .ok (.iload_n 2, 1) := by decide +kernel
theorem dX3_measure_11 : decode cX3_measure 11 = .ok (.bipush 10, 2) := by decide +kernel
theorem dX3_measure_13 : decode cX3_measure 13 = .ok (.if_icmp .ge 52, 3) := by decide +kernel
theorem dX3_measure_16 : decode cX3_measure 16 = .ok (.aload_n 0, 1) := by decide +kernel
theorem dX3_measure_17 : decode cX3_measure 17 = .ok (.getfield 9, 3) := by decide +kernel
theorem dX3_measure_20 : decode cX3_measure 20 = .ok (.iload_n 1, 1) := by decide +kernel
theorem dX3_measure_21 : decode cX3_measure 21 = .ok (.bipush 10, 2) := by decide +kernel
theorem dX3_measure_23 : decode cX3_measure 23 = .ok (.imul, 1) := by decide +kernel
theorem dX3_measure_24 : decode cX3_measure 24 = .ok (.iload_n 2, 1) := by decide +kernel
theorem dX3_measure_25 : decode cX3_measure 25 = .ok (.iadd, 1) := by decide +kernel
theorem dX3_measure_26 : decode cX3_measure 26 = .ok (.iaload, 1) := by decide +kernel
theorem dX3_measure_27 : decode cX3_measure 27 = .ok (.istore_n 3, 1) := by decide +kernel
theorem dX3_measure_28 : decode cX3_measure 28 = .ok (.aload_n 0, 1) := by decide +kernel
theorem dX3_measure_29 : decode cX3_measure 29 = .ok (.getfield 15, 3) := by decide +kernel
theorem dX3_measure_32 : decode cX3_measure 32 = .ok (.iload_n 1, 1) := by decide +kernel
theorem dX3_measure_33 : decode cX3_measure 33 = .ok (.bipush 10, 2) := by decide +kernel
theorem dX3_measure_35 : decode cX3_measure 35 = .ok (.imul, 1) := by decide +kernel
theorem dX3_measure_36 : decode cX3_measure 36 = .ok (.iload_n 2, 1) := by decide +kernel
theorem dX3_measure_37 : decode cX3_measure 37 = .ok (.iadd, 1) := by decide +kernel
theorem dX3_measure_38 : decode cX3_measure 38 = .ok (.iload_n 1, 1) := by decide +kernel
theorem dX3_measure_39 : decode cX3_measure 39 = .ok (.iload_n 2, 1) := by decide +kernel
theorem dX3_measure_40 : decode cX3_measure 40 = .ok (.if_icmp .ne 7, 3) := by decide +kernel
theorem dX3_measure_43 : decode cX3_measure 43 = .ok (.iconst 0, 1) := by decide +kernel
theorem dX3_measure_44 : decode cX3_measure 44 = .ok (.goto 14, 3) := by decide +kernel
theorem dX3_measure_47 : decode cX3_measure 47 = .ok (.iload_n 3, 1) := by decide +kernel
theorem dX3_measure_48 : decode cX3_measure 48 = .ok (.ifCond .ne 9, 3) := by decide +kernel
theorem dX3_measure_51 : decode cX3_measure 51 = .ok (.sipush 999, 3) := by decide +kernel
theorem dX3_measure_54 : decode cX3_measure 54 = .ok (.goto 4, 3) := by decide +kernel
theorem dX3_measure_57 : decode cX3_measure 57 = .ok (.iload_n 3, 1) := by decide +kernel
theorem dX3_measure_58 : decode cX3_measure 58 = .ok (.iastore, 1) := by decide +kernel
theorem dX3_measure_59 : decode cX3_measure 59 = .ok (.iinc 2 1, 3) := by decide +kernel
theorem dX3_measure_62 : decode cX3_measure 62 = .ok (.goto (-52), 3) := by decide +kernel
theorem dX3_measure_65 : decode cX3_measure 65 = .ok (.iinc 1 1, 3) := by decide +kernel
theorem dX3_measure_68 : decode cX3_measure 68 = .ok (.goto (-66), 3) := by decide +kernel
theorem dX3_measure_71 : decode cX3_measure 71 = .ok (.iconst 0, 1) := by decide +kernel
theorem dX3_measure_72 : decode cX3_measure 72 = .ok (.istore_n 1, 1) := by decide +kernel
theorem dX3_measure_73 : decode cX3_measure 73 = .ok (.iload_n 1, 1) := by decide +kernel
theorem dX3_measure_74 : decode cX3_measure 74 = .ok (.bipush 10, 2) := by decide +kernel
theorem dX3_measure_76 : decode cX3_measure 76 = .ok (.if_icmp .ge 98, 3) := by decide +kernel
theorem dX3_measure_79 : decode cX3_measure 79 = .ok (.iconst 0, 1) := by decide +kernel
theorem dX3_measure_80 : decode cX3_measure 80 = .ok (.istore_n 2, 1) := by decide +kernel
theorem dX3_measure_81 : decode cX3_measure 81 = .ok (.iload_n 2, 1) := by decide +kernel
theorem dX3_measure_82 : decode cX3_measure 82 = .ok (.bipush 10, 2) := by decide +kernel
theorem dX3_measure_84 : decode cX3_measure 84 = .ok (.if_icmp .ge 84, 3) := by decide +kernel
theorem dX3_measure_87 : decode cX3_measure 87 = .ok (.aload_n 0, 1) := by decide +kernel
theorem dX3_measure_88 : decode cX3_measure 88 = .ok (.getfield 15, 3) := by decide +kernel
theorem dX3_measure_91 : decode cX3_measure 91 = .ok (.iload_n 2, 1) := by decide +kernel
theorem dX3_measure_92 : decode cX3_measure 92 = .ok (.bipush 10, 2) := by decide +kernel
theorem dX3_measure_94 : decode cX3_measure 94 = .ok (.imul, 1) := by decide +kernel
theorem dX3_measure_95 : decode cX3_measure 95 = .ok (.iload_n 1, 1) := by decide +kernel
theorem dX3_measure_96 : decode cX3_measure 96 = .ok (.iadd, 1) := by decide +kernel
theorem dX3_measure_97 : decode cX3_measure 97 = .ok (.iaload, 1) := by decide +kernel
theorem dX3_measure_98 : decode cX3_measure 98 = .ok (.istore_n 3, 1) := by decide +kernel
theorem dX3_measure_99 : decode cX3_measure 99 = .ok (.iconst 0, 1) := by decide +kernel
theorem dX3_measure_100 : decode cX3_measure 100 = .ok (.istore 4, 2) := by decide +kernel
theorem dX3_measure_102 : decode cX3_measure 102 = .ok (.iload 4, 2) := by decide +kernel
theorem dX3_measure_104 : decode cX3_measure 104 = .ok (.bipush 10, 2) := by decide +kernel
theorem dX3_measure_106 : decode cX3_measure 106 = .ok (.if_icmp .ge 56, 3) := by decide +kernel
theorem dX3_measure_109 : decode cX3_measure 109 = .ok (.iload_n 3, 1) := by decide +kernel
theorem dX3_measure_110 : decode cX3_measure 110 = .ok (.aload_n 0, 1) := by decide +kernel
theorem dX3_measure_111 : decode cX3_measure 111 = .ok (.getfield 15, 3) := by decide +kernel
theorem dX3_measure_114 : decode cX3_measure 114 = .ok (.iload_n 1, 1) := by decide +kernel
theorem dX3_measure_115 : decode cX3_measure 115 = .ok (.bipush 10, 2) := by decide +kernel
theorem dX3_measure_117 : decode cX3_measure 117 = .ok (.imul, 1) := by decide +kernel
theorem dX3_measure_118 : decode cX3_measure 118 = .ok (.iload 4, 2) := by decide +kernel
theorem dX3_measure_120 : decode cX3_measure 120 = .ok (.iadd, 1) := by decide +kernel
theorem dX3_measure_121 : decode cX3_measure 121 = .ok (.iaload, 1) := by decide +kernel
theorem dX3_measure_122 : decode cX3_measure 122 = .ok (.iadd, 1) := by decide +kernel
theorem dX3_measure_123 : decode cX3_measure 123 = .ok (.istore 5, 2) := by decide +kernel
theorem dX3_measure_125 : decode cX3_measure 125 = .ok (.iload 5, 2) := by decide +kernel
theorem dX3_measure_127 : decode cX3_measure 127 = .ok (.aload_n 0, 1) := by decide +kernel
theorem dX3_measure_128 : decode cX3_measure 128 = .ok (.getfield 15, 3) := by decide +kernel
theorem dX3_measure_131 : decode cX3_measure 131 = .ok (.iload_n 2, 1) := by decide +kernel
theorem dX3_measure_132 : decode cX3_measure 132 = .ok (.bipush 10, 2) := by decide +kernel
theorem dX3_measure_134 : decode cX3_measure 134 = .ok (.imul, 1) := by decide +kernel
theorem dX3_measure_135 : decode cX3_measure 135 = .ok (.iload 4, 2) := by decide +kernel
theorem dX3_measure_137 : decode cX3_measure 137 = .ok (.iadd, 1) := by decide +kernel
theorem dX3_measure_138 : decode cX3_measure 138 = .ok (.iaload, 1) := by decide +kernel
theorem dX3_measure_139 : decode cX3_measure 139 = .ok (.if_icmp .ge 17, 3) := by decide +kernel
theorem dX3_measure_142 : decode cX3_measure 142 = .ok (.aload_n 0, 1) := by decide +kernel
theorem dX3_measure_143 : decode cX3_measure 143 = .ok (.getfield 15, 3) := by decide +kernel
theorem dX3_measure_146 : decode cX3_measure 146 = .ok (.iload_n 2, 1) := by decide +kernel
theorem dX3_measure_147 : decode cX3_measure 147 = .ok (.bipush 10, 2) := by decide +kernel
theorem dX3_measure_149 : decode cX3_measure 149 = .ok (.imul, 1) := by decide +kernel
theorem dX3_measure_150 : decode cX3_measure 150 = .ok (.iload 4, 2) := by decide +kernel
theorem dX3_measure_152 : decode cX3_measure 152 = .ok (.iadd, 1) := by decide +kernel
theorem dX3_measure_153 : decode cX3_measure 153 = .ok (.iload 5, 2) := by decide +kernel
theorem dX3_measure_155 : decode cX3_measure 155 = .ok (.iastore, 1) := by decide +kernel
theorem dX3_measure_156 : decode cX3_measure 156 = .ok (.iinc 4 1, 3) := by decide +kernel
theorem dX3_measure_159 : decode cX3_measure 159 = .ok (.goto (-57), 3) := by decide +kernel
theorem dX3_measure_162 : decode cX3_measure 162 = .ok (.iinc 2 1, 3) := by decide +kernel
theorem dX3_measure_165 : decode cX3_measure 165 = .ok (.goto (-84), 3) := by decide +kernel
theorem dX3_measure_168 : decode cX3_measure 168 = .ok (.iinc 1 1, 3) := by decide +kernel
theorem dX3_measure_171 : decode cX3_measure 171 = .ok (.goto (-98), 3) := by decide +kernel
theorem dX3_measure_174 : decode cX3_measure 174 = .ok (.return_, 1) := by decide +kernel
set_option maxHeartbeats 4000000 in
set_option maxRecDepth 100000 in
theorem c_X3_measure {l : Launch} {ω : xO} (hc : xsh ω = clS) {r : Nat} {M : xMem} (hb : rI r) (hL : LB (M (r + 1))) : Ct l ω yX3_measure ({ frames := 0, cells := 0, slots := 0, locals := 0 } : Room) 6 0 [.ref (xad ω r)] M none (upr M (r + 2) (meC (M (r + 1)) (M (r + 2)))) := by
  refine Ct.of (bytes := cX3_measure) (ret := none) (lv0 := [some (.ref (xad ω r)), none, none, none, none, none]) m_cd_X3_measure m_in_X3 (by decide +kernel) (by decide +kernel) rfl rfl rfl rfl (fun hR => upr_R hR (meC_R hL (hR (r + 2)))) ?_
  intro κ h he hR
  refine x_iconst h dX3_measure_0 ?_
  refine x_istore_n h dX3_measure_1 rfl rfl ?_
  dsimp only [xset]
  refine x_mem (M' := upr M (r + 2) (fiC (d0F (M (r + 1))) (((0 : Nat) : Int) * 10 + 0) (M (r + 2)))) (by rw [show ((0 : Nat) : Int) * 10 + 0 = 0 from rfl, fiC_0, upr_self]) ?_
  refine loop_up (fun a => X ω κ 2 [some (.ref (xad ω r)), some (.int (iI (a : Int))), none, none, none, none] [] (upr M (r + 2) (fiC (d0F (M (r + 1))) ((a : Int) * 10 + 0) (M (r + 2))))) 10 ?_ ?_
  · show X ω κ 2 [some (.ref (xad ω r)), some (.int (iI ((10 : Nat) : Int))), none, none, none, none] [] (upr M (r + 2) (fiC (d0F (M (r + 1))) (((10 : Nat) : Int) * 10 + 0) (M (r + 2))))
    refine x_iload_n h dX3_measure_2 rfl ?_
    refine x_bipush h dX3_measure_3 (by decide) ?_
    refine x_icmp_ge h dX3_measure_5 (tgt := 71) (by decide) (by omega) (by omega) (fun q5 => ?_) (fun q5 => ?_)
    · refine x_iconst h dX3_measure_71 ?_
      refine x_istore_n h dX3_measure_72 rfl rfl ?_
      dsimp only [xset]
      refine x_mem (M' := upr M (r + 2) (fwC (fiC (d0F (M (r + 1))) 100 (M (r + 2))) 0)) (by rfl) ?_
      refine loop_up (fun y => X ω κ 73 [some (.ref (xad ω r)), some (.int (iI (y : Int))), none, none, none, none] [] (upr M (r + 2) (fwC (fiC (d0F (M (r + 1))) 100 (M (r + 2))) y))) 10 ?_ ?_
      · show X ω κ 73 [some (.ref (xad ω r)), some (.int (iI ((10 : Nat) : Int))), none, none, none, none] [] (upr M (r + 2) (fwC (fiC (d0F (M (r + 1))) 100 (M (r + 2))) 10))
        refine x_iload_n h dX3_measure_73 rfl ?_
        refine x_bipush h dX3_measure_74 (by decide) ?_
        refine x_icmp_ge h dX3_measure_76 (tgt := 174) (by decide) (by omega) (by omega) (fun q76 => ?_) (fun q76 => ?_)
        · exact x_vret h he dX3_measure_174 rfl
        · exfalso; omega
      · intro y hy ihy
        replace ihy : X ω κ 73 [some (.ref (xad ω r)), some (.int (iI ((y + 1 : Nat) : Int))), none, none, none, none] [] (upr M (r + 2) (fwC (fiC (d0F (M (r + 1))) 100 (M (r + 2))) (y + 1))) := ihy
        show X ω κ 73 [some (.ref (xad ω r)), some (.int (iI (y : Int))), none, none, none, none] [] (upr M (r + 2) (fwC (fiC (d0F (M (r + 1))) 100 (M (r + 2))) y))
        have hD0 := fwC_B (d0F_B (r := M (r + 2)) hL) y (by omega)
        revert ihy
        rw [fwC_s (fiC (d0F (M (r + 1))) 100 (M (r + 2))) y]
        generalize fwC (fiC (d0F (M (r + 1))) 100 (M (r + 2))) y = D0 at hD0 ⊢
        intro ihy
        refine x_iload_n h dX3_measure_73 rfl ?_
        refine x_bipush h dX3_measure_74 (by decide) ?_
        refine x_icmp_ge h dX3_measure_76 (tgt := 174) (by decide) (by omega) (by omega) (fun q76 => ?_) (fun q76 => ?_)
        · exfalso; omega
        · refine x_iconst h dX3_measure_79 ?_
          refine x_istore_n h dX3_measure_80 rfl rfl ?_
          dsimp only [xset]
          refine loop_up (fun a => X ω κ 81 [some (.ref (xad ω r)), some (.int (iI (y : Int))), some (.int (iI (a : Int))), none, none, none] [] (upr M (r + 2) (xfo (fwA (y : Int)) D0 a))) 10 ?_ ?_
          · show X ω κ 81 [some (.ref (xad ω r)), some (.int (iI (y : Int))), some (.int (iI ((10 : Nat) : Int))), none, none, none] [] (upr M (r + 2) (xfo (fwA (y : Int)) D0 10))
            refine x_iload_n h dX3_measure_81 rfl ?_
            refine x_bipush h dX3_measure_82 (by decide) ?_
            refine x_icmp_ge h dX3_measure_84 (tgt := 168) (by decide) (by omega) (by omega) (fun q84 => ?_) (fun q84 => ?_)
            · refine x_iinc h dX3_measure_168 rfl rfl rfl ?_
              dsimp only [xset]
              refine x_goto h dX3_measure_171 (tgt := 73) (by decide) ?_
              refine x_drop 2 ?_
              dsimp only [xclr]
              exact ihy
            · exfalso; omega
          · intro a ha iha
            replace iha : X ω κ 81 [some (.ref (xad ω r)), some (.int (iI (y : Int))), some (.int (iI ((a + 1 : Nat) : Int))), none, none, none] [] (upr M (r + 2) (xfo (fwA (y : Int)) D0 (a + 1))) := iha
            show X ω κ 81 [some (.ref (xad ω r)), some (.int (iI (y : Int))), some (.int (iI (a : Int))), none, none, none] [] (upr M (r + 2) (xfo (fwA (y : Int)) D0 a))
            have hD1 := fwK_B hD0 (y := (y : Int)) ⟨by omega, by omega⟩ a (by omega)
            revert iha
            rw [xfo_s (fwA (y : Int)) D0 a]
            generalize xfo (fwA (y : Int)) D0 a = D1 at hD1 ⊢
            intro iha
            refine x_iload_n h dX3_measure_81 rfl ?_
            refine x_bipush h dX3_measure_82 (by decide) ?_
            refine x_icmp_ge h dX3_measure_84 (tgt := 168) (by decide) (by omega) (by omega) (fun q84 => ?_) (fun q84 => ?_)
            · exfalso; omega
            · refine x_aload_n h dX3_measure_87 rfl ?_
              refine x_getr (j := 1) (q := r + 2) h dX3_measure_88 (sRd hc hb) rfl in_X3 rfl (by decide) m_fl_X3_15 ?_
              refine x_iload_n h dX3_measure_91 rfl ?_
              refine x_bipush h dX3_measure_92 (by decide) ?_
              refine x_imul h dX3_measure_94 ?_
              refine x_iload_n h dX3_measure_95 rfl ?_
              refine x_iadd h dX3_measure_96 ?_
              refine x_iaload h dX3_measure_97 (sR2 hc hb) (by omega) (fun r97 => ?_)
              rw [upr_s]
              refine x_istore_n h dX3_measure_98 rfl rfl ?_
              dsimp only [xset]
              refine x_iconst h dX3_measure_99 ?_
              refine x_istore h dX3_measure_100 rfl rfl ?_
              dsimp only [xset]
              refine loop_up (fun j => X ω κ 102 [some (.ref (xad ω r)), some (.int (iI (y : Int))), some (.int (iI (a : Int))), some (.int (iI (D1 ((a : Int) * 10 + (y : Int))))), some (.int (iI (j : Int))), none] [] (upr M (r + 2) (xfo (fwB (y : Int) (a : Int) (D1 ((a : Int) * 10 + (y : Int)))) D1 j))) 10 ?_ ?_
              · show X ω κ 102 [some (.ref (xad ω r)), some (.int (iI (y : Int))), some (.int (iI (a : Int))), some (.int (iI (D1 ((a : Int) * 10 + (y : Int))))), some (.int (iI ((10 : Nat) : Int))), none] [] (upr M (r + 2) (xfo (fwB (y : Int) (a : Int) (D1 ((a : Int) * 10 + (y : Int)))) D1 10))
                refine x_iload h dX3_measure_102 rfl ?_
                refine x_bipush h dX3_measure_104 (by decide) ?_
                refine x_icmp_ge h dX3_measure_106 (tgt := 162) (by decide) (by omega) (by omega) (fun q106 => ?_) (fun q106 => ?_)
                · refine x_iinc h dX3_measure_162 rfl rfl rfl ?_
                  dsimp only [xset]
                  refine x_goto h dX3_measure_165 (tgt := 81) (by decide) ?_
                  refine x_drop 3 ?_
                  dsimp only [xclr]
                  refine x_drop 4 ?_
                  dsimp only [xclr]
                  exact iha
                · exfalso; omega
              · intro j hj ihj
                replace ihj : X ω κ 102 [some (.ref (xad ω r)), some (.int (iI (y : Int))), some (.int (iI (a : Int))), some (.int (iI (D1 ((a : Int) * 10 + (y : Int))))), some (.int (iI ((j + 1 : Nat) : Int))), none] [] (upr M (r + 2) (xfo (fwB (y : Int) (a : Int) (D1 ((a : Int) * 10 + (y : Int)))) D1 (j + 1))) := ihj
                show X ω κ 102 [some (.ref (xad ω r)), some (.int (iI (y : Int))), some (.int (iI (a : Int))), some (.int (iI (D1 ((a : Int) * 10 + (y : Int))))), some (.int (iI (j : Int))), none] [] (upr M (r + 2) (xfo (fwB (y : Int) (a : Int) (D1 ((a : Int) * 10 + (y : Int)))) D1 j))
                have hD2 := fwA_B hD1 (y := (y : Int)) (a := (a : Int)) ⟨by omega, by omega⟩ ⟨by omega, by omega⟩ j (by omega)
                have f1 := hD1 ((a : Int) * 10 + (y : Int)) (by omega) (by omega)
                revert ihj
                rw [xfo_s (fwB (y : Int) (a : Int) (D1 ((a : Int) * 10 + (y : Int)))) D1 j]
                generalize xfo (fwB (y : Int) (a : Int) (D1 ((a : Int) * 10 + (y : Int)))) D1 j = D2 at hD2 ⊢
                intro ihj
                have f2 := hD2 ((y : Int) * 10 + (j : Int)) (by omega) (by omega)
                have f3 := hD2 ((a : Int) * 10 + (j : Int)) (by omega) (by omega)
                refine x_iload h dX3_measure_102 rfl ?_
                refine x_bipush h dX3_measure_104 (by decide) ?_
                refine x_icmp_ge h dX3_measure_106 (tgt := 162) (by decide) (by omega) (by omega) (fun q106 => ?_) (fun q106 => ?_)
                · exfalso; omega
                · refine x_iload_n h dX3_measure_109 rfl ?_
                  refine x_aload_n h dX3_measure_110 rfl ?_
                  refine x_getr (j := 1) (q := r + 2) h dX3_measure_111 (sRd hc hb) rfl in_X3 rfl (by decide) m_fl_X3_15 ?_
                  refine x_iload_n h dX3_measure_114 rfl ?_
                  refine x_bipush h dX3_measure_115 (by decide) ?_
                  refine x_imul h dX3_measure_117 ?_
                  refine x_iload h dX3_measure_118 rfl ?_
                  refine x_iadd h dX3_measure_120 ?_
                  refine x_iaload h dX3_measure_121 (sR2 hc hb) (by omega) (fun r121 => ?_)
                  rw [upr_s]
                  refine x_iadd h dX3_measure_122 ?_
                  refine x_istore h dX3_measure_123 rfl rfl ?_
                  dsimp only [xset]
                  refine x_iload h dX3_measure_125 rfl ?_
                  refine x_aload_n h dX3_measure_127 rfl ?_
                  refine x_getr (j := 1) (q := r + 2) h dX3_measure_128 (sRd hc hb) rfl in_X3 rfl (by decide) m_fl_X3_15 ?_
                  refine x_iload_n h dX3_measure_131 rfl ?_
                  refine x_bipush h dX3_measure_132 (by decide) ?_
                  refine x_imul h dX3_measure_134 ?_
                  refine x_iload h dX3_measure_135 rfl ?_
                  refine x_iadd h dX3_measure_137 ?_
                  refine x_iaload h dX3_measure_138 (sR2 hc hb) (by omega) (fun r138 => ?_)
                  rw [upr_s]
                  refine x_icmp_ge h dX3_measure_139 (tgt := 156) (by decide) (by omega) (by omega) (fun q139 => ?_) (fun q139 => ?_)
                  · refine x_iinc h dX3_measure_156 rfl rfl rfl ?_
                    dsimp only [xset]
                    refine x_goto h dX3_measure_159 (tgt := 102) (by decide) ?_
                    refine x_drop 5 ?_
                    dsimp only [xclr]
                    exact x_same ihj rfl rfl (by unfold fwB; first | rw [if_neg (Int.not_lt.mpr q139)] | rw [if_pos (Int.not_le.mp q139), up_upr])
                  · refine x_aload_n h dX3_measure_142 rfl ?_
                    refine x_getr (j := 1) (q := r + 2) h dX3_measure_143 (sRd hc hb) rfl in_X3 rfl (by decide) m_fl_X3_15 ?_
                    refine x_iload_n h dX3_measure_146 rfl ?_
                    refine x_bipush h dX3_measure_147 (by decide) ?_
                    refine x_imul h dX3_measure_149 ?_
                    refine x_iload h dX3_measure_150 rfl ?_
                    refine x_iadd h dX3_measure_152 ?_
                    refine x_iload h dX3_measure_153 rfl ?_
                    refine x_iastore h dX3_measure_155 (sR2 hc hb) (by omega) (by omega) ?_
                    refine x_iinc h dX3_measure_156 rfl rfl rfl ?_
                    dsimp only [xset]
                    refine x_goto h dX3_measure_159 (tgt := 102) (by decide) ?_
                    refine x_drop 5 ?_
                    dsimp only [xclr]
                    exact x_same ihj rfl rfl (by unfold fwB; first | rw [if_neg (Int.not_lt.mpr q139)] | rw [if_pos (Int.not_le.mp q139), up_upr])
    · exfalso; omega
  · intro a ha iha
    replace iha : X ω κ 2 [some (.ref (xad ω r)), some (.int (iI ((a + 1 : Nat) : Int))), none, none, none, none] [] (upr M (r + 2) (fiC (d0F (M (r + 1))) (((a + 1 : Nat) : Int) * 10 + 0) (M (r + 2)))) := iha
    show X ω κ 2 [some (.ref (xad ω r)), some (.int (iI (a : Int))), none, none, none, none] [] (upr M (r + 2) (fiC (d0F (M (r + 1))) ((a : Int) * 10 + 0) (M (r + 2))))
    refine x_iload_n h dX3_measure_2 rfl ?_
    refine x_bipush h dX3_measure_3 (by decide) ?_
    refine x_icmp_ge h dX3_measure_5 (tgt := 71) (by decide) (by omega) (by omega) (fun q5 => ?_) (fun q5 => ?_)
    · exfalso; omega
    · refine x_iconst h dX3_measure_8 ?_
      refine x_istore_n h dX3_measure_9 rfl rfl ?_
      dsimp only [xset]
      refine x_mem (M' := upr M (r + 2) (fiC (d0F (M (r + 1))) ((a : Int) * 10 + ((0 : Nat) : Int)) (M (r + 2)))) rfl ?_
      refine loop_up (fun j => X ω κ 10 [some (.ref (xad ω r)), some (.int (iI (a : Int))), some (.int (iI (j : Int))), none, none, none] [] (upr M (r + 2) (fiC (d0F (M (r + 1))) ((a : Int) * 10 + (j : Int)) (M (r + 2))))) 10 ?_ ?_
      · show X ω κ 10 [some (.ref (xad ω r)), some (.int (iI (a : Int))), some (.int (iI ((10 : Nat) : Int))), none, none, none] [] (upr M (r + 2) (fiC (d0F (M (r + 1))) ((a : Int) * 10 + ((10 : Nat) : Int)) (M (r + 2))))
        refine x_iload_n h dX3_measure_10 rfl ?_
        refine x_bipush h dX3_measure_11 (by decide) ?_
        refine x_icmp_ge h dX3_measure_13 (tgt := 65) (by decide) (by omega) (by omega) (fun q13 => ?_) (fun q13 => ?_)
        · refine x_iinc h dX3_measure_65 rfl rfl rfl ?_
          dsimp only [xset]
          refine x_goto h dX3_measure_68 (tgt := 2) (by decide) ?_
          refine x_drop 2 ?_
          dsimp only [xclr]
          exact x_same iha rfl rfl (by rw [show ((a + 1 : Nat) : Int) * 10 + 0 = (a : Int) * 10 + ((10 : Nat) : Int) by omega])
        · exfalso; omega
      · intro j hj ihj
        replace ihj : X ω κ 10 [some (.ref (xad ω r)), some (.int (iI (a : Int))), some (.int (iI ((j + 1 : Nat) : Int))), none, none, none] [] (upr M (r + 2) (fiC (d0F (M (r + 1))) ((a : Int) * 10 + ((j + 1 : Nat) : Int)) (M (r + 2)))) := ihj
        show X ω κ 10 [some (.ref (xad ω r)), some (.int (iI (a : Int))), some (.int (iI (j : Int))), none, none, none] [] (upr M (r + 2) (fiC (d0F (M (r + 1))) ((a : Int) * 10 + (j : Int)) (M (r + 2))))
        have eL : upr M (r + 2) (fiC (d0F (M (r + 1))) ((a : Int) * 10 + (j : Int)) (M (r + 2))) (r + 1) = M (r + 1) := upr_n (by omega)
        have hl := hL ((a : Int) * 10 + (j : Int)) (by omega) (by omega)
        refine x_iload_n h dX3_measure_10 rfl ?_
        refine x_bipush h dX3_measure_11 (by decide) ?_
        refine x_icmp_ge h dX3_measure_13 (tgt := 65) (by decide) (by omega) (by omega) (fun q13 => ?_) (fun q13 => ?_)
        · exfalso; omega
        · refine x_aload_n h dX3_measure_16 rfl ?_
          refine x_getr (j := 0) (q := r + 1) h dX3_measure_17 (sRd hc hb) rfl in_X3 rfl (by decide) m_fl_X3_9 ?_
          refine x_iload_n h dX3_measure_20 rfl ?_
          refine x_bipush h dX3_measure_21 (by decide) ?_
          refine x_imul h dX3_measure_23 ?_
          refine x_iload_n h dX3_measure_24 rfl ?_
          refine x_iadd h dX3_measure_25 ?_
          refine x_iaload h dX3_measure_26 (sR1 hc hb) (by omega) (fun r26 => ?_)
          rw [eL]
          refine x_istore_n h dX3_measure_27 rfl rfl ?_
          dsimp only [xset]
          refine x_aload_n h dX3_measure_28 rfl ?_
          refine x_getr (j := 1) (q := r + 2) h dX3_measure_29 (sRd hc hb) rfl in_X3 rfl (by decide) m_fl_X3_15 ?_
          refine x_iload_n h dX3_measure_32 rfl ?_
          refine x_bipush h dX3_measure_33 (by decide) ?_
          refine x_imul h dX3_measure_35 ?_
          refine x_iload_n h dX3_measure_36 rfl ?_
          refine x_iadd h dX3_measure_37 ?_
          refine x_iload_n h dX3_measure_38 rfl ?_
          refine x_iload_n h dX3_measure_39 rfl ?_
          refine x_icmp_ne h dX3_measure_40 (tgt := 47) (by decide) (by omega) (by omega) (fun q40 => ?_) (fun q40 => ?_)
          · refine x_iload_n h dX3_measure_47 rfl ?_
            refine x_if_ne h dX3_measure_48 (tgt := 57) (by decide) (by omega) (fun q48 => ?_) (fun q48 => ?_)
            · refine x_iload_n h dX3_measure_57 rfl ?_
              refine x_iastore h dX3_measure_58 (sR2 hc hb) (by omega) (by omega) ?_
              refine x_mem (M' := upr M (r + 2) (fiC (d0F (M (r + 1))) ((a : Int) * 10 + ((j + 1 : Nat) : Int)) (M (r + 2)))) (by rw [up_upr, show ((a : Int) * 10 + ((j + 1 : Nat) : Int)) = ((a : Int) * 10 + (j : Int)) + 1 by omega, ← fiC_s (by omega)]; congr 2; unfold d0F; rw [show ((a : Int) * 10 + (j : Int)) / 10 = (a : Int) by omega, show ((a : Int) * 10 + (j : Int)) % 10 = (j : Int) by omega]; first | rw [if_pos (by assumption)] | rw [if_neg (by assumption), if_pos (by assumption)] | rw [if_neg (by assumption), if_neg (by assumption)]) ?_
              refine x_iinc h dX3_measure_59 rfl rfl rfl ?_
              dsimp only [xset]
              refine x_goto h dX3_measure_62 (tgt := 10) (by decide) ?_
              refine x_drop 3 ?_
              dsimp only [xclr]
              exact ihj
            · refine x_sipush h dX3_measure_51 (by decide) ?_
              refine x_goto h dX3_measure_54 (tgt := 58) (by decide) ?_
              refine x_iastore h dX3_measure_58 (sR2 hc hb) (by omega) (by omega) ?_
              refine x_mem (M' := upr M (r + 2) (fiC (d0F (M (r + 1))) ((a : Int) * 10 + ((j + 1 : Nat) : Int)) (M (r + 2)))) (by rw [up_upr, show ((a : Int) * 10 + ((j + 1 : Nat) : Int)) = ((a : Int) * 10 + (j : Int)) + 1 by omega, ← fiC_s (by omega)]; congr 2; unfold d0F; rw [show ((a : Int) * 10 + (j : Int)) / 10 = (a : Int) by omega, show ((a : Int) * 10 + (j : Int)) % 10 = (j : Int) by omega]; first | rw [if_pos (by assumption)] | rw [if_neg (by assumption), if_pos (by assumption)] | rw [if_neg (by assumption), if_neg (by assumption)]) ?_
              refine x_iinc h dX3_measure_59 rfl rfl rfl ?_
              dsimp only [xset]
              refine x_goto h dX3_measure_62 (tgt := 10) (by decide) ?_
              refine x_drop 3 ?_
              dsimp only [xclr]
              exact ihj
          · refine x_iconst h dX3_measure_43 ?_
            refine x_goto h dX3_measure_44 (tgt := 58) (by decide) ?_
            refine x_iastore h dX3_measure_58 (sR2 hc hb) (by omega) (by omega) ?_
            refine x_mem (M' := upr M (r + 2) (fiC (d0F (M (r + 1))) ((a : Int) * 10 + ((j + 1 : Nat) : Int)) (M (r + 2)))) (by rw [up_upr, show ((a : Int) * 10 + ((j + 1 : Nat) : Int)) = ((a : Int) * 10 + (j : Int)) + 1 by omega, ← fiC_s (by omega)]; congr 2; unfold d0F; rw [show ((a : Int) * 10 + (j : Int)) / 10 = (a : Int) by omega, show ((a : Int) * 10 + (j : Int)) % 10 = (j : Int) by omega]; first | rw [if_pos (by assumption)] | rw [if_neg (by assumption), if_pos (by assumption)] | rw [if_neg (by assumption), if_neg (by assumption)]) ?_
            refine x_iinc h dX3_measure_59 rfl rfl rfl ?_
            dsimp only [xset]
            refine x_goto h dX3_measure_62 (tgt := 10) (by decide) ?_
            refine x_drop 3 ?_
            dsimp only [xclr]
            exact ihj
