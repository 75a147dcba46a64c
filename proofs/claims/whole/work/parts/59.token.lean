/-! the reference: its reader: the TOKEN -/
def btN (N : xMem) (i : Int) : Int := if 0 ≤ i ∧ i < N 0 16 ∧ i < 120 then N 9 i else -1
def nrw (r : Int → Int) (g e s v wr it pe : Int) : Int → Int := fun i => if i = 17 then g else if i = 18 then e else if i = 19 then s else if i = 20 then v else if i = 21 then wr else if i = 24 then it else if i = 25 then pe else r i
def nrM (M : xMem) (g e s v wr it pe : Int) (pa : Int → Int) : xMem := upr (upr M 0 (nrw (M 0) g e s v wr it pe)) 11 pa
section NR
variable {M : xMem} {s g e v wr it pe x : Int} {pa : Int → Int}
theorem nr_u {j : Int} : up (nrM M g e s v wr it pe pa) 0 j x = upr (upr M 0 (ur (nrw (M 0) g e s v wr it pe) j x)) 11 pa := by
  unfold nrM up
  rw [upr_n (by decide), upr_s, upr_c (by decide), upr_upr]
theorem nr_17 : up (nrM M g e s v wr it pe pa) 0 17 x = nrM M x e s v wr it pe pa := by
  rw [nr_u, show ur (nrw (M 0) g e s v wr it pe) 17 x = nrw (M 0) x e s v wr it pe from by funext i; unfold ur nrw; (repeat' split) <;> first | rfl | omega]
  rfl
theorem nr_18 : up (nrM M g e s v wr it pe pa) 0 18 x = nrM M g x s v wr it pe pa := by
  rw [nr_u, show ur (nrw (M 0) g e s v wr it pe) 18 x = nrw (M 0) g x s v wr it pe from by funext i; unfold ur nrw; (repeat' split) <;> first | rfl | omega]
  rfl
theorem nr_19 : up (nrM M g e s v wr it pe pa) 0 19 x = nrM M g e x v wr it pe pa := by
  rw [nr_u, show ur (nrw (M 0) g e s v wr it pe) 19 x = nrw (M 0) g e x v wr it pe from by funext i; unfold ur nrw; (repeat' split) <;> first | rfl | omega]
  rfl
theorem nr_20 : up (nrM M g e s v wr it pe pa) 0 20 x = nrM M g e s x wr it pe pa := by
  rw [nr_u, show ur (nrw (M 0) g e s v wr it pe) 20 x = nrw (M 0) g e s x wr it pe from by funext i; unfold ur nrw; (repeat' split) <;> first | rfl | omega]
  rfl
theorem nr_21 : up (nrM M g e s v wr it pe pa) 0 21 x = nrM M g e s v x it pe pa := by
  rw [nr_u, show ur (nrw (M 0) g e s v wr it pe) 21 x = nrw (M 0) g e s v x it pe from by funext i; unfold ur nrw; (repeat' split) <;> first | rfl | omega]
  rfl
theorem nr_24 : up (nrM M g e s v wr it pe pa) 0 24 x = nrM M g e s v wr x pe pa := by
  rw [nr_u, show ur (nrw (M 0) g e s v wr it pe) 24 x = nrw (M 0) g e s v wr x pe from by funext i; unfold ur nrw; (repeat' split) <;> first | rfl | omega]
  rfl
theorem nr_25 : up (nrM M g e s v wr it pe pa) 0 25 x = nrM M g e s v wr it x pa := by
  rw [nr_u, show ur (nrw (M 0) g e s v wr it pe) 25 x = nrw (M 0) g e s v wr it x from by funext i; unfold ur nrw; (repeat' split) <;> first | rfl | omega]
  rfl
theorem nr_11 {j : Int} : up (nrM M g e s v wr it pe pa) 11 j x = nrM M g e s v wr it pe (ur pa j x) := by
  unfold nrM up
  rw [upr_s, upr_upr]
theorem nr_r17 : nrM M g e s v wr it pe pa 0 17 = g := rfl
theorem nr_r18 : nrM M g e s v wr it pe pa 0 18 = e := rfl
theorem nr_r19 : nrM M g e s v wr it pe pa 0 19 = s := rfl
theorem nr_r20 : nrM M g e s v wr it pe pa 0 20 = v := rfl
theorem nr_r21 : nrM M g e s v wr it pe pa 0 21 = wr := rfl
theorem nr_r24 : nrM M g e s v wr it pe pa 0 24 = it := rfl
theorem nr_r25 : nrM M g e s v wr it pe pa 0 25 = pe := rfl
theorem nr_r16 : nrM M g e s v wr it pe pa 0 16 = M 0 16 := rfl
theorem nr_r9 : nrM M g e s v wr it pe pa 9 = M 9 := rfl
theorem nr_r1 : nrM M g e s v wr it pe pa 1 = M 1 := rfl
theorem nr_r11 : nrM M g e s v wr it pe pa 11 = pa := rfl
theorem nr_b : btN (nrM M g e s v wr it pe pa) = btN M := rfl
theorem nr_R2 {g2 e2 s2 v2 w2 i2 p2 : Int} {pa2 : Int → Int} (h : xR (nrM M g e s v wr it pe pa)) (h1 : inR g2) (h2 : inR e2) (h3 : inR s2) (h4 : inR v2) (h5 : inR w2) (h6 : inR i2) (h7 : inR p2) (h8 : ∀ j, inR (pa2 j)) : xR (nrM M g2 e2 s2 v2 w2 i2 p2 pa2) := by
  have q : nrM M g2 e2 s2 v2 w2 i2 p2 pa2 = upr (up (up (up (up (up (up (up (nrM M g e s v wr it pe pa) 0 17 g2) 0 18 e2) 0 19 s2) 0 20 v2) 0 21 w2) 0 24 i2) 0 25 p2) 11 pa2 := by
    rw [nr_17, nr_18, nr_19, nr_20, nr_21, nr_24, nr_25]
    unfold nrM
    rw [upr_upr]
  rw [q]
  exact upr_R (up_R (up_R (up_R (up_R (up_R (up_R (up_R h h1) h2) h3) h4) h5) h6) h7) h8
end NR
theorem nr_id (M : xMem) : nrM M (M 0 17) (M 0 18) (M 0 19) (M 0 20) (M 0 21) (M 0 24) (M 0 25) (M 11) = M := by
  have e : ∀ r : Int → Int, nrw r (r 17) (r 18) (r 19) (r 20) (r 21) (r 24) (r 25) = r := by
    intro r
    funext i
    unfold nrw
    by_cases h1 : i = 17
    · rw [if_pos h1, h1]
    · rw [if_neg h1]
      by_cases h2 : i = 18
      · rw [if_pos h2, h2]
      · rw [if_neg h2]
        by_cases h3 : i = 19
        · rw [if_pos h3, h3]
        · rw [if_neg h3]
          by_cases h4 : i = 20
          · rw [if_pos h4, h4]
          · rw [if_neg h4]
            by_cases h5 : i = 21
            · rw [if_pos h5, h5]
            · rw [if_neg h5]
              by_cases h6 : i = 24
              · rw [if_pos h6, h6]
              · rw [if_neg h6]
                by_cases h7 : i = 25
                · rw [if_pos h7, h7]
                · rw [if_neg h7]
  unfold nrM
  rw [e, upr_self, upr_self]
section NT
variable {b : Int → Int} {n e : Int}
theorem tkE_0 (hb : BtO b n) (he : 0 ≤ e ∧ e ≤ n) (h : tkS b e = 0) : tkE b e = tkB b e := by
  obtain ⟨h1, h2, h3, -⟩ := tkE_x hb he
  by_cases g : tkB b e < tkE b e
  · exact absurd h (h3 _ (Int.le_refl _) g).1
  · omega
theorem tkE_34 (hb : BtO b n) (he : 0 ≤ e ∧ e ≤ n) (h : tkS b e = 3 ∨ tkS b e = 4) : tkE b e = tkB b e + 1 := by
  obtain ⟨h1, h2, h3, h4⟩ := tkE_x hb he
  have h5 := h4 (by omega)
  by_cases g : tkB b e + 1 < tkE b e
  · have := (h3 (tkB b e + 1) (by omega) g).2.2
    rw [show soF (b (tkB b e)) = tkS b e from rfl] at this
    omega
  · omega
end NT
theorem c_X7_byteAtN {l : Launch} {ω : xO} {ks : Nat → Option Nat} (hm : xsh ω = mdS ks) {M : xMem} {s g e v wr it pe : Int} {pa : Int → Int} (hb : BtO (btN M) (M 0 16)) {k : Int} (hk : 0 ≤ k ∧ k ≤ 1000) : Ct l ω yX7_byteAt ({ frames := 0, cells := 0, slots := 0, locals := 0 } : Room) 2 1 [.ref (xad ω 0), .int (iI k)] (nrM M g e s v wr it pe pa) (some (.int (iI (btN M k)))) (nrM M g e s v wr it pe pa) := by
  have h := c_X7_byteAt (l := l) hm (M := nrM M g e s v wr it pe pa) (k := k) hb.1 hk
  have e : (if k < nrM M g e s v wr it pe pa 0 16 then nrM M g e s v wr it pe pa 9 k else -1) = btN M k := by
    unfold btN
    rw [nr_r16, nr_r9]
    have := hb.1
    by_cases g : k < M 0 16
    · rw [if_pos g, if_pos (by omega)]
    · rw [if_neg g, if_neg (by omega)]
  rw [e] at h
  exact h
theorem dX7_next0_0 : decode cX7_next0 0 = .ok (.aload_n 0, 1) := by decide +kernel
theorem dX7_next0_1 : decode cX7_next0 1 = .ok (.aload_n 0, 1) := by decide +kernel
theorem dX7_next0_2 : decode cX7_next0 2 = .ok (.getfield 298, 3) := by decide +kernel
theorem dX7_next0_5 : decode cX7_next0 5 = .ok (.putfield 301, 3) := by decide +kernel
theorem dX7_next0_8 : decode cX7_next0 8 = .ok (.aload_n 0, 1) := by decide +kernel
theorem dX7_next0_9 : decode cX7_next0 9 = .ok (.aload_n 0, 1) := by decide +kernel
theorem dX7_next0_10 : decode cX7_next0 10 = .ok (.getfield 301, 3) := by decide +kernel
theorem dX7_next0_13 : decode cX7_next0 13 = .ok (.invokevirtual 304, 3) := by decide +kernel
theorem dX7_next0_16 : decode cX7_next0 16 = .ok (.bipush 32, 2) := by decide +kernel
theorem dX7_next0_18 : decode cX7_next0 18 = .ok (.if_icmp .ne 16, 3) := by decide +kernel
theorem dX7_next0_21 : decode cX7_next0 21 = .ok (.aload_n 0, 1) := by decide +kernel
theorem dX7_next0_22 : decode cX7_next0 22 = .ok (.dup, 1) := by decide +kernel
theorem dX7_next0_23 : decode cX7_next0 23 = .ok (.getfield 301, 3) := by decide +kernel
theorem dX7_next0_26 : decode cX7_next0 26 = .ok (.iconst 1, 1) := by decide +kernel
theorem dX7_next0_27 : decode cX7_next0 27 = .ok (.iadd, 1) := by decide +kernel
theorem dX7_next0_28 : decode cX7_next0 28 = .ok (.putfield 301, 3) := by decide +kernel
theorem dX7_next0_31 : decode cX7_next0 31 = .ok (.goto (-23), 3) := by decide +kernel
theorem dX7_next0_34 : decode cX7_next0 34 = .ok (.aload_n 0, 1) := by decide +kernel
theorem dX7_next0_35 : decode cX7_next0 35 = .ok (.aload_n 0, 1) := by decide +kernel
theorem dX7_next0_36 : decode cX7_next0 36 = .ok (.getfield 301, 3) := by decide +kernel
theorem dX7_next0_39 : decode cX7_next0 39 = .ok (.invokevirtual 304, 3) := by decide +kernel
theorem dX7_next0_42 : decode cX7_next0 42 = .ok (.istore_n 1, 1) := by decide +kernel
theorem dX7_next0_43 : decode cX7_next0 43 = .ok (.aload_n 0, 1) := by decide +kernel
theorem dX7_next0_44 : decode cX7_next0 44 = .ok (.aload_n 0, 1) := by decide +kernel
theorem dX7_next0_45 : decode cX7_next0 45 = .ok (.getfield 301, 3) := by decide +kernel
theorem dX7_next0_48 : decode cX7_next0 48 = .ok (.putfield 298, 3) := by decide +kernel
theorem dX7_next0_51 : decode cX7_next0 51 = .ok (.aload_n 0, 1) := by decide +kernel
theorem dX7_next0_52 : decode cX7_next0 52 = .ok (.iconst 0, 1) := by decide +kernel
theorem dX7_next0_53 : decode cX7_next0 53 = .ok (.putfield 307, 3) := by decide +kernel
theorem dX7_next0_56 : decode cX7_next0 56 = .ok (.iload_n 1, 1) := by decide +kernel
theorem dX7_next0_57 : decode cX7_next0 57 = .ok (.ifCond .ge 11, 3) := by decide +kernel
theorem dX7_next0_60 : decode cX7_next0 60 = .ok (.aload_n 0, 1) := by decide +kernel
theorem dX7_next0_61 : decode cX7_next0 61 = .ok (.iconst 0, 1) := by decide +kernel
theorem dX7_next0_62 : decode cX7_next0 62 = .ok (.putfield 310, 3) := by decide +kernel
theorem dX7_next0_65 : decode cX7_next0 65 = .ok (.goto 141, 3) := by decide +kernel
theorem dX7_next0_68 : decode cX7_next0 68 = .ok (.iload_n 1, 1) := by decide +kernel
theorem dX7_next0_69 : decode cX7_next0 69 = .ok (.bipush 97, 2) := by decide +kernel
theorem dX7_next0_71 : decode cX7_next0 71 = .ok (.bipush 122, 2) := by decide +kernel
theorem dX7_next0_73 : decode cX7_next0 73 = .ok (.invokestatic 81, 3) := by decide +kernel
theorem dX7_next0_76 : decode cX7_next0 76 = .ok (.ifCond .eq 39, 3) := by decide +kernel
theorem dX7_next0_79 : decode cX7_next0 79 = .ok (.aload_n 0, 1) := by decide +kernel
theorem dX7_next0_80 : decode cX7_next0 80 = .ok (.iconst 1, 1) := by decide +kernel
theorem dX7_next0_81 : decode cX7_next0 81 = .ok (.putfield 310, 3) := by decide +kernel
theorem dX7_next0_84 : decode cX7_next0 84 = .ok (.aload_n 0, 1) := by decide +kernel
theorem dX7_next0_85 : decode cX7_next0 85 = .ok (.aload_n 0, 1) := by decide +kernel
theorem dX7_next0_86 : decode cX7_next0 86 = .ok (.getfield 298, 3) := by decide +kernel
theorem dX7_next0_89 : decode cX7_next0 89 = .ok (.invokevirtual 304, 3) := by decide +kernel
theorem dX7_next0_92 : decode cX7_next0 92 = .ok (.bipush 97, 2) := by decide +kernel
theorem dX7_next0_94 : decode cX7_next0 94 = .ok (.bipush 122, 2) := by decide +kernel
theorem dX7_next0_96 : decode cX7_next0 96 = .ok (.invokestatic 81, 3) := by decide +kernel
theorem dX7_next0_99 : decode cX7_next0 99 = .ok (.ifCond .eq 107, 3) := by decide +kernel
theorem dX7_next0_102 : decode cX7_next0 102 = .ok (.aload_n 0, 1) := by decide +kernel
theorem dX7_next0_103 : decode cX7_next0 103 = .ok (.dup, 1) := by decide +kernel
theorem dX7_next0_104 : decode cX7_next0 104 = .ok (.getfield 298, 3) := by decide +kernel
theorem dX7_next0_107 : decode cX7_next0 107 = .ok (.iconst 1, 1) := by decide +kernel
theorem dX7_next0_108 : decode cX7_next0 108 = .ok (.iadd, 1) := by decide +kernel
theorem dX7_next0_109 : decode cX7_next0 109 = .ok (.putfield 298, 3) := by decide +kernel
theorem dX7_next0_112 : decode cX7_next0 112 = .ok (.goto (-28), 3) := by decide +kernel
theorem dX7_next0_115 : decode cX7_next0 115 = .ok (.iload_n 1, 1) := by decide +kernel
theorem dX7_next0_116 : decode cX7_next0 116 = .ok (.bipush 48, 2) := by decide +kernel
theorem dX7_next0_118 : decode cX7_next0 118 = .ok (.bipush 57, 2) := by decide +kernel
theorem dX7_next0_120 : decode cX7_next0 120 = .ok (.invokestatic 81, 3) := by decide +kernel
theorem dX7_next0_123 : decode cX7_next0 123 = .ok (.ifCond .eq 68, 3) := by decide +kernel
theorem dX7_next0_126 : decode cX7_next0 126 = .ok (.aload_n 0, 1) := by decide +kernel
theorem dX7_next0_127 : decode cX7_next0 127 = .ok (.iconst 2, 1) := by decide +kernel
theorem dX7_next0_128 : decode cX7_next0 128 = .ok (.putfield 310, 3) := by decide +kernel
theorem dX7_next0_131 : decode cX7_next0 131 = .ok (.aload_n 0, 1) := by decide +kernel
theorem dX7_next0_132 : decode cX7_next0 132 = .ok (.aload_n 0, 1) := by decide +kernel
theorem dX7_next0_133 : decode cX7_next0 133 = .ok (.getfield 298, 3) := by decide +kernel
theorem dX7_next0_136 : decode cX7_next0 136 = .ok (.invokevirtual 304, 3) := by decide +kernel
theorem dX7_next0_139 : decode cX7_next0 139 = .ok (.bipush 48, 2) := by decide +kernel
theorem dX7_next0_141 : decode cX7_next0 141 = .ok (.bipush 57, 2) := by decide +kernel
theorem dX7_next0_143 : decode cX7_next0 143 = .ok (.invokestatic 81, 3) := by decide +kernel
theorem dX7_next0_146 : decode cX7_next0 146 = .ok (.ifCond .eq 60, 3) := by decide +kernel
theorem dX7_next0_149 : decode cX7_next0 149 = .ok (.aload_n 0, 1) := by decide +kernel
theorem dX7_next0_150 : decode cX7_next0 150 = .ok (.sipush 1000, 3) := by decide +kernel
theorem dX7_next0_153 : decode cX7_next0 153 = .ok (.bipush 10, 2) := by decide +kernel
theorem dX7_next0_155 : decode cX7_next0 155 = .ok (.aload_n 0, 1) := by decide +kernel
theorem dX7_next0_156 : decode cX7_next0 156 = .ok (.getfield 307, 3) := by decide +kernel
theorem dX7_next0_159 : decode cX7_next0 159 = .ok (.imul, 1) := by decide +kernel
theorem dX7_next0_160 : decode cX7_next0 160 = .ok (.aload_n 0, 1) := by decide +kernel
theorem dX7_next0_161 : decode cX7_next0 161 = .ok (.aload_n 0, 1) := by decide +kernel
theorem dX7_next0_162 : decode cX7_next0 162 = .ok (.getfield 298, 3) := by decide +kernel
theorem dX7_next0_165 : decode cX7_next0 165 = .ok (.invokevirtual 304, 3) := by decide +kernel
theorem dX7_next0_168 : decode cX7_next0 168 = .ok (.iadd, 1) := by decide +kernel
theorem dX7_next0_169 : decode cX7_next0 169 = .ok (.bipush 48, 2) := by decide +kernel
theorem dX7_next0_171 : decode cX7_next0 171 = .ok (.isub, 1) := by decide +kernel
theorem dX7_next0_172 : decode cX7_next0 172 = .ok (.invokestatic 108, 3) := by decide +kernel
theorem dX7_next0_175 : decode cX7_next0 175 = .ok (.putfield 307, 3) := by decide +kernel
theorem dX7_next0_178 : decode cX7_next0 178 = .ok (.aload_n 0, 1) := by decide +kernel
theorem dX7_next0_179 : decode cX7_next0 179 = .ok (.dup, 1) := by decide +kernel
theorem dX7_next0_180 : decode cX7_next0 180 = .ok (.getfield 298, 3) := by decide +kernel
theorem dX7_next0_183 : decode cX7_next0 183 = .ok (.iconst 1, 1) := by decide +kernel
theorem dX7_next0_184 : decode cX7_next0 184 = .ok (.iadd, 1) := by decide +kernel
theorem dX7_next0_185 : decode cX7_next0 185 = .ok (.putfield 298, 3) := by decide +kernel
theorem dX7_next0_188 : decode cX7_next0 188 = .ok (.goto (-57), 3) := by decide +kernel
theorem dX7_next0_191 : decode cX7_next0 191 = .ok (.aload_n 0, 1) := by decide +kernel
theorem dX7_next0_192 : decode cX7_next0 192 = .ok (.iconst 3, 1) := by decide +kernel
theorem dX7_next0_193 : decode cX7_next0 193 = .ok (.putfield 310, 3) := by decide +kernel
theorem dX7_next0_196 : decode cX7_next0 196 = .ok (.aload_n 0, 1) := by decide +kernel
theorem dX7_next0_197 : decode cX7_next0 197 = .ok (.dup, 1) := by decide +kernel
theorem dX7_next0_198 : decode cX7_next0 198 = .ok (.getfield 298, 3) := by decide +kernel
theorem dX7_next0_201 : decode cX7_next0 201 = .ok (.iconst 1, 1) := by decide +kernel
theorem dX7_next0_202 : decode cX7_next0 202 = .ok (.iadd, 1) := by decide +kernel
theorem dX7_next0_203 : decode cX7_next0 203 = .ok (.putfield 298, 3) := by decide +kernel
theorem dX7_next0_206 : decode cX7_next0 206 = .ok (.return_, 1) := by decide +kernel
set_option maxHeartbeats 800000 in
set_option maxRecDepth 100000 in
theorem c_X7_next0 {l : Launch} {ω : xO} {ks : Nat → Option Nat} (hm : xsh ω = mdS ks) {s g e v wr it pe : Int} {pa : Int → Int} {M : xMem} (hb : BtO (btN M) (M 0 16)) (he9 : 0 ≤ e ∧ e ≤ M 0 16) : Ct l ω yX7_next0 ({ frames := 1, cells := 0, slots := 0, locals := 22 } : Room) 2 0 [.ref (xad ω 0)] (nrM M g e s v wr it pe pa) none (nrM M (tkB (btN M) e) (tkE (btN M) e) (min 3 (tkS (btN M) e)) (tkV (btN M) e) wr it pe pa) := by
  refine Ct.of (bytes := cX7_next0) (ret := none) (lv0 := [some (.ref (xad ω 0)), none]) m_cd_X7_next0 m_in_X7 (by decide +kernel) (by decide +kernel) rfl rfl rfl rfl (fun hR => by have h1 := tkB_x hb he9; have h2 := tkE_x hb he9; have h3 := tkV_R hb he9; have h4 := tkS_R (btN M) e; have h5 := hb.1; exact nr_R2 hR (by omega) (by omega) (by omega) (by omega) (hR 0 21) (hR 0 24) (hR 0 25) (hR 11)) ?_
  intro κ h he hR
  refine x_aload_n h dX7_next0_0 rfl ?_
  refine x_aload_n h dX7_next0_1 rfl ?_
  refine x_geti (j := 18) 18 h dX7_next0_2 (sM0 hm) rfl in_X7 rfl (by decide) m_fl_X7_298 rfl (fun r2 => ?_)
  try simp only [nr_r17, nr_r18, nr_r19, nr_r20, nr_r21, nr_r24, nr_r25, nr_r16, nr_r9, nr_r1, nr_r11, nr_b] at r2 ⊢
  refine x_puti (j := 17) 17 h dX7_next0_5 (sM0 hm) rfl in_X7 rfl (by decide) m_fl_X7_301 tyX7_ok nmX7 rfl (tyX7_ok 17 (by decide)) rfl rfl (by omega) rfl ?_
  have hBx := tkB_x hb he9
  have hEx := tkE_x hb he9
  have hVR := tkV_R hb he9
  have hn := hb.1
  have hbr : ∀ k : Int, 0 ≤ k → -1 ≤ btN M k ∧ btN M k ≤ 255 := by
    intro k hk
    by_cases gk : k < M 0 16
    · have := hb.2.2 k hk gk; omega
    · rw [hb.2.1 k (by omega)]; decide
  have hg := hbr (tkB (btN M) e) (by omega)
  have H84 : tkS (btN M) e = 1 → ∀ (k : Nat) (y : Int), tkB (btN M) e ≤ y → y + k = tkE (btN M) e → X ω κ 84 [some (.ref (xad ω 0)), some (.int (iI (btN M (tkB (btN M) e))))] [] (nrM M (tkB (btN M) e) y 1 0 wr it pe pa) := by
    intro h1 k
    have hS1 : soF (btN M (tkB (btN M) e)) = 1 := h1
    induction k with
    | zero =>
      intro y y1 y2
      have ey : y = tkE (btN M) e := by omega
      have hno := hEx.2.1
      rw [← ey] at hno
      have hby := hbr y (by omega)
      refine x_aload_n h dX7_next0_84 rfl ?_
      refine x_aload_n h dX7_next0_85 rfl ?_
      refine x_geti (j := 18) 18 h dX7_next0_86 (sM0 hm) rfl in_X7 rfl (by decide) m_fl_X7_298 rfl (fun r86 => ?_)
      try simp only [nr_r17, nr_r18, nr_r19, nr_r20, nr_r21, nr_r24, nr_r25, nr_r16, nr_r9, nr_r1, nr_r11, nr_b] at r86 ⊢
      refine x_V1i h dX7_next0_89 m_ml_X7_304 m_im_X7_byteAt m_se_X7_byteAt (sM0 hm) rfl (by decide) rfl (c_X7_byteAtN hm hb (by omega)) ?_
      refine x_bipush h dX7_next0_92 (by decide) ?_
      refine x_bipush h dX7_next0_94 (by decide) ?_
      refine x_S3i h dX7_next0_96 m_ml_X7_81 m_st_X7_within (by decide) rfl (c_X7_within hm (by omega) (by omega) (by omega)) ?_
      refine x_ifeqB h dX7_next0_99 (tgt := 206) (by decide) (fun q99 => ?_) (fun q99 => ?_)
      · exact x_vret h he dX7_next0_206 (by rw [show min 3 (tkS (btN M) e) = 1 by omega, ← ey]; unfold tkV; rw [if_neg (by omega)])
      · exact absurd ⟨by rw [hS1]; decide, by rw [hS1]; exact soF_1.mpr q99, Or.inl hS1⟩ hno
    | succ k ih =>
      intro y y1 y2
      have hyes := (hEx.2.2.1 y y1 (by omega)).2.1
      rw [hS1] at hyes
      have hby := hbr y (by omega)
      refine x_aload_n h dX7_next0_84 rfl ?_
      refine x_aload_n h dX7_next0_85 rfl ?_
      refine x_geti (j := 18) 18 h dX7_next0_86 (sM0 hm) rfl in_X7 rfl (by decide) m_fl_X7_298 rfl (fun r86 => ?_)
      try simp only [nr_r17, nr_r18, nr_r19, nr_r20, nr_r21, nr_r24, nr_r25, nr_r16, nr_r9, nr_r1, nr_r11, nr_b] at r86 ⊢
      refine x_V1i h dX7_next0_89 m_ml_X7_304 m_im_X7_byteAt m_se_X7_byteAt (sM0 hm) rfl (by decide) rfl (c_X7_byteAtN hm hb (by omega)) ?_
      refine x_bipush h dX7_next0_92 (by decide) ?_
      refine x_bipush h dX7_next0_94 (by decide) ?_
      refine x_S3i h dX7_next0_96 m_ml_X7_81 m_st_X7_within (by decide) rfl (c_X7_within hm (by omega) (by omega) (by omega)) ?_
      refine x_ifeqB h dX7_next0_99 (tgt := 206) (by decide) (fun q99 => ?_) (fun q99 => ?_)
      · exact absurd (soF_1.mp hyes) q99
      · refine x_aload_n h dX7_next0_102 rfl ?_
        refine x_dup h dX7_next0_103 rfl ?_
        refine x_geti (j := 18) 18 h dX7_next0_104 (sM0 hm) rfl in_X7 rfl (by decide) m_fl_X7_298 rfl (fun r104 => ?_)
        try simp only [nr_r17, nr_r18, nr_r19, nr_r20, nr_r21, nr_r24, nr_r25, nr_r16, nr_r9, nr_r1, nr_r11, nr_b] at r104 ⊢
        refine x_iconst h dX7_next0_107 ?_
        refine x_iadd h dX7_next0_108 ?_
        refine x_puti (j := 18) 18 h dX7_next0_109 (sM0 hm) rfl in_X7 rfl (by decide) m_fl_X7_298 tyX7_ok nmX7 rfl (tyX7_ok 18 (by decide)) rfl rfl (by omega) rfl ?_
        refine x_goto h dX7_next0_112 (tgt := 84) (by decide) ?_
        rw [nr_18]
        exact ih (y + 1) (by omega) (by omega)
  have H131 : tkS (btN M) e = 2 → ∀ (k : Nat) (y : Int), tkB (btN M) e ≤ y → y + k = tkE (btN M) e → X ω κ 131 [some (.ref (xad ω 0)), some (.int (iI (btN M (tkB (btN M) e))))] [] (nrM M (tkB (btN M) e) y 2 (vaF (btN M) (tkB (btN M) e) (y - tkB (btN M) e).toNat) wr it pe pa) := by
    intro h1 k
    have hS1 : soF (btN M (tkB (btN M) e)) = 2 := h1
    induction k with
    | zero =>
      intro y y1 y2
      have ey : y = tkE (btN M) e := by omega
      have hno := hEx.2.1
      rw [← ey] at hno
      have hby := hbr y (by omega)
      refine x_aload_n h dX7_next0_131 rfl ?_
      refine x_aload_n h dX7_next0_132 rfl ?_
      refine x_geti (j := 18) 18 h dX7_next0_133 (sM0 hm) rfl in_X7 rfl (by decide) m_fl_X7_298 rfl (fun r133 => ?_)
      try simp only [nr_r17, nr_r18, nr_r19, nr_r20, nr_r21, nr_r24, nr_r25, nr_r16, nr_r9, nr_r1, nr_r11, nr_b] at r133 ⊢
      refine x_V1i h dX7_next0_136 m_ml_X7_304 m_im_X7_byteAt m_se_X7_byteAt (sM0 hm) rfl (by decide) rfl (c_X7_byteAtN hm hb (by omega)) ?_
      refine x_bipush h dX7_next0_139 (by decide) ?_
      refine x_bipush h dX7_next0_141 (by decide) ?_
      refine x_S3i h dX7_next0_143 m_ml_X7_81 m_st_X7_within (by decide) rfl (c_X7_within hm (by omega) (by omega) (by omega)) ?_
      refine x_ifeqB h dX7_next0_146 (tgt := 206) (by decide) (fun q146 => ?_) (fun q146 => ?_)
      · exact x_vret h he dX7_next0_206 (by rw [show min 3 (tkS (btN M) e) = 2 by omega]; unfold tkV; rw [if_pos h1, ← ey])
      · exact absurd ⟨by rw [hS1]; decide, by rw [hS1]; exact soF_2.mpr q146, Or.inr (Or.inl hS1)⟩ hno
    | succ k ih =>
      intro y y1 y2
      have hyes := (hEx.2.2.1 y y1 (by omega)).2.1
      rw [hS1] at hyes
      have hby := hbr y (by omega)
      have ihy := ih (y + 1) (by omega) (by omega)
      have hv0 : 0 ≤ vaF (btN M) (tkB (btN M) e) (y - tkB (btN M) e).toNat ∧ vaF (btN M) (tkB (btN M) e) (y - tkB (btN M) e).toNat ≤ 1000 := by
        refine vaF_R _ fun j hj => ?_
        have g := (hEx.2.2.1 (tkB (btN M) e + j) (by omega) (by omega)).2.1
        rw [hS1] at g
        exact soF_2.mp g
      have hv1 : vaF (btN M) (tkB (btN M) e) (y + 1 - tkB (btN M) e).toNat = min 1000 (10 * vaF (btN M) (tkB (btN M) e) (y - tkB (btN M) e).toNat + btN M y - 48) := by
        rw [show (y + 1 - tkB (btN M) e).toNat = (y - tkB (btN M) e).toNat + 1 by omega, vaF, show tkB (btN M) e + (((y - tkB (btN M) e).toNat : Nat) : Int) = y by omega]
      refine x_aload_n h dX7_next0_131 rfl ?_
      refine x_aload_n h dX7_next0_132 rfl ?_
      refine x_geti (j := 18) 18 h dX7_next0_133 (sM0 hm) rfl in_X7 rfl (by decide) m_fl_X7_298 rfl (fun r133 => ?_)
      try simp only [nr_r17, nr_r18, nr_r19, nr_r20, nr_r21, nr_r24, nr_r25, nr_r16, nr_r9, nr_r1, nr_r11, nr_b] at r133 ⊢
      refine x_V1i h dX7_next0_136 m_ml_X7_304 m_im_X7_byteAt m_se_X7_byteAt (sM0 hm) rfl (by decide) rfl (c_X7_byteAtN hm hb (by omega)) ?_
      refine x_bipush h dX7_next0_139 (by decide) ?_
      refine x_bipush h dX7_next0_141 (by decide) ?_
      refine x_S3i h dX7_next0_143 m_ml_X7_81 m_st_X7_within (by decide) rfl (c_X7_within hm (by omega) (by omega) (by omega)) ?_
      refine x_ifeqB h dX7_next0_146 (tgt := 206) (by decide) (fun q146 => ?_) (fun q146 => ?_)
      · exact absurd (soF_2.mp hyes) q146
      · refine x_aload_n h dX7_next0_149 rfl ?_
        refine x_sipush h dX7_next0_150 (by decide) ?_
        refine x_bipush h dX7_next0_153 (by decide) ?_
        refine x_aload_n h dX7_next0_155 rfl ?_
        refine x_geti (j := 20) 20 h dX7_next0_156 (sM0 hm) rfl in_X7 rfl (by decide) m_fl_X7_307 rfl (fun r156 => ?_)
        try simp only [nr_r17, nr_r18, nr_r19, nr_r20, nr_r21, nr_r24, nr_r25, nr_r16, nr_r9, nr_r1, nr_r11, nr_b] at r156 ⊢
        refine x_imul h dX7_next0_159 ?_
        refine x_aload_n h dX7_next0_160 rfl ?_
        refine x_aload_n h dX7_next0_161 rfl ?_
        refine x_geti (j := 18) 18 h dX7_next0_162 (sM0 hm) rfl in_X7 rfl (by decide) m_fl_X7_298 rfl (fun r162 => ?_)
        try simp only [nr_r17, nr_r18, nr_r19, nr_r20, nr_r21, nr_r24, nr_r25, nr_r16, nr_r9, nr_r1, nr_r11, nr_b] at r162 ⊢
        refine x_V1i h dX7_next0_165 m_ml_X7_304 m_im_X7_byteAt m_se_X7_byteAt (sM0 hm) rfl (by decide) rfl (c_X7_byteAtN hm hb (by omega)) ?_
        refine x_iadd h dX7_next0_168 ?_
        refine x_bipush h dX7_next0_169 (by decide) ?_
        refine x_isub h dX7_next0_171 ?_
        refine x_min h dX7_next0_172 m_ml_X7_108 rfl (by decide) (by omega) (by omega) ?_
        refine x_puti (j := 20) 20 h dX7_next0_175 (sM0 hm) rfl in_X7 rfl (by decide) m_fl_X7_307 tyX7_ok nmX7 rfl (tyX7_ok 20 (by decide)) rfl rfl (by omega) rfl ?_
        rw [nr_20]
        refine x_aload_n h dX7_next0_178 rfl ?_
        refine x_dup h dX7_next0_179 rfl ?_
        refine x_geti (j := 18) 18 h dX7_next0_180 (sM0 hm) rfl in_X7 rfl (by decide) m_fl_X7_298 rfl (fun r180 => ?_)
        try simp only [nr_r17, nr_r18, nr_r19, nr_r20, nr_r21, nr_r24, nr_r25, nr_r16, nr_r9, nr_r1, nr_r11, nr_b] at r180 ⊢
        refine x_iconst h dX7_next0_183 ?_
        refine x_iadd h dX7_next0_184 ?_
        refine x_puti (j := 18) 18 h dX7_next0_185 (sM0 hm) rfl in_X7 rfl (by decide) m_fl_X7_298 tyX7_ok nmX7 rfl (tyX7_ok 18 (by decide)) rfl rfl (by omega) rfl ?_
        refine x_goto h dX7_next0_188 (tgt := 131) (by decide) ?_
        rw [nr_18]
        rw [hv1] at ihy
        exact ihy
  have H34 : X ω κ 34 [some (.ref (xad ω 0)), none] [] (nrM M (tkB (btN M) e) e s v wr it pe pa) := by
    have hSv := soF_R (btN M (tkB (btN M) e))
    refine x_aload_n h dX7_next0_34 rfl ?_
    refine x_aload_n h dX7_next0_35 rfl ?_
    refine x_geti (j := 17) 17 h dX7_next0_36 (sM0 hm) rfl in_X7 rfl (by decide) m_fl_X7_301 rfl (fun r36 => ?_)
    try simp only [nr_r17, nr_r18, nr_r19, nr_r20, nr_r21, nr_r24, nr_r25, nr_r16, nr_r9, nr_r1, nr_r11, nr_b] at r36 ⊢
    refine x_V1i h dX7_next0_39 m_ml_X7_304 m_im_X7_byteAt m_se_X7_byteAt (sM0 hm) rfl (by decide) rfl (c_X7_byteAtN hm hb (by omega)) ?_
    refine x_istore_n h dX7_next0_42 rfl rfl ?_
    dsimp only [xset]
    refine x_aload_n h dX7_next0_43 rfl ?_
    refine x_aload_n h dX7_next0_44 rfl ?_
    refine x_geti (j := 17) 17 h dX7_next0_45 (sM0 hm) rfl in_X7 rfl (by decide) m_fl_X7_301 rfl (fun r45 => ?_)
    try simp only [nr_r17, nr_r18, nr_r19, nr_r20, nr_r21, nr_r24, nr_r25, nr_r16, nr_r9, nr_r1, nr_r11, nr_b] at r45 ⊢
    refine x_puti (j := 18) 18 h dX7_next0_48 (sM0 hm) rfl in_X7 rfl (by decide) m_fl_X7_298 tyX7_ok nmX7 rfl (tyX7_ok 18 (by decide)) rfl rfl (by omega) rfl ?_
    rw [nr_18]
    refine x_aload_n h dX7_next0_51 rfl ?_
    refine x_iconst h dX7_next0_52 ?_
    refine x_puti (j := 20) 20 h dX7_next0_53 (sM0 hm) rfl in_X7 rfl (by decide) m_fl_X7_307 tyX7_ok nmX7 rfl (tyX7_ok 20 (by decide)) rfl rfl (by omega) rfl ?_
    rw [nr_20]
    refine x_iload_n h dX7_next0_56 rfl ?_
    refine x_if_ge h dX7_next0_57 (tgt := 68) (by decide) (by omega) (fun q57 => ?_) (fun q57 => ?_)
    · refine x_iload_n h dX7_next0_68 rfl ?_
      refine x_bipush h dX7_next0_69 (by decide) ?_
      refine x_bipush h dX7_next0_71 (by decide) ?_
      refine x_S3i h dX7_next0_73 m_ml_X7_81 m_st_X7_within (by decide) rfl (c_X7_within hm (by omega) (by omega) (by omega)) ?_
      refine x_ifeqB h dX7_next0_76 (tgt := 115) (by decide) (fun q76 => ?_) (fun q76 => ?_)
      · refine x_iload_n h dX7_next0_115 rfl ?_
        refine x_bipush h dX7_next0_116 (by decide) ?_
        refine x_bipush h dX7_next0_118 (by decide) ?_
        refine x_S3i h dX7_next0_120 m_ml_X7_81 m_st_X7_within (by decide) rfl (c_X7_within hm (by omega) (by omega) (by omega)) ?_
        refine x_ifeqB h dX7_next0_123 (tgt := 191) (by decide) (fun q123 => ?_) (fun q123 => ?_)
        · refine x_aload_n h dX7_next0_191 rfl ?_
          refine x_iconst h dX7_next0_192 ?_
          refine x_puti (j := 19) 19 h dX7_next0_193 (sM0 hm) rfl in_X7 rfl (by decide) m_fl_X7_310 tyX7_ok nmX7 rfl (tyX7_ok 19 (by decide)) rfl rfl (by omega) rfl ?_
          rw [nr_19]
          refine x_aload_n h dX7_next0_196 rfl ?_
          refine x_dup h dX7_next0_197 rfl ?_
          refine x_geti (j := 18) 18 h dX7_next0_198 (sM0 hm) rfl in_X7 rfl (by decide) m_fl_X7_298 rfl (fun r198 => ?_)
          try simp only [nr_r17, nr_r18, nr_r19, nr_r20, nr_r21, nr_r24, nr_r25, nr_r16, nr_r9, nr_r1, nr_r11, nr_b] at r198 ⊢
          refine x_iconst h dX7_next0_201 ?_
          refine x_iadd h dX7_next0_202 ?_
          refine x_puti (j := 18) 18 h dX7_next0_203 (sM0 hm) rfl in_X7 rfl (by decide) m_fl_X7_298 tyX7_ok nmX7 rfl (tyX7_ok 18 (by decide)) rfl rfl (by omega) rfl ?_
          exact x_vret h he dX7_next0_206 (by first | (rw [tkE_0 hb he9 hS0, hS0]; unfold tkV; rw [if_neg (by omega)]; rfl) | (rw [nr_18]; have hS1 : tkS (btN M) e = 3 ∨ tkS (btN M) e = 4 := (by unfold tkS soF; rw [if_neg (by omega), if_neg (by omega), if_neg (by omega)]; split <;> omega); rw [tkE_34 hb he9 hS1, show min 3 (tkS (btN M) e) = 3 by omega]; unfold tkV; rw [if_neg (by omega)]))
        · refine x_aload_n h dX7_next0_126 rfl ?_
          refine x_iconst h dX7_next0_127 ?_
          refine x_puti (j := 19) 19 h dX7_next0_128 (sM0 hm) rfl in_X7 rfl (by decide) m_fl_X7_310 tyX7_ok nmX7 rfl (tyX7_ok 19 (by decide)) rfl rfl (by omega) rfl ?_
          rw [nr_19]
          have hS1 : tkS (btN M) e = 2 := soF_2.mpr q123
          have H2 := H131 hS1 (tkE (btN M) e - tkB (btN M) e).toNat (tkB (btN M) e) (Int.le_refl _) (by omega)
          rw [Int.sub_self] at H2
          exact H2
      · refine x_aload_n h dX7_next0_79 rfl ?_
        refine x_iconst h dX7_next0_80 ?_
        refine x_puti (j := 19) 19 h dX7_next0_81 (sM0 hm) rfl in_X7 rfl (by decide) m_fl_X7_310 tyX7_ok nmX7 rfl (tyX7_ok 19 (by decide)) rfl rfl (by omega) rfl ?_
        rw [nr_19]
        have hS1 : tkS (btN M) e = 1 := soF_1.mpr q76
        exact H84 hS1 (tkE (btN M) e - tkB (btN M) e).toNat (tkB (btN M) e) (Int.le_refl _) (by omega)
    · refine x_aload_n h dX7_next0_60 rfl ?_
      refine x_iconst h dX7_next0_61 ?_
      refine x_puti (j := 19) 19 h dX7_next0_62 (sM0 hm) rfl in_X7 rfl (by decide) m_fl_X7_310 tyX7_ok nmX7 rfl (tyX7_ok 19 (by decide)) rfl rfl (by omega) rfl ?_
      rw [nr_19]
      have hS0 : tkS (btN M) e = 0 := by unfold tkS soF; rw [if_pos (by omega)]
      refine x_goto h dX7_next0_65 (tgt := 206) (by decide) ?_
      exact x_vret h he dX7_next0_206 (by first | (rw [tkE_0 hb he9 hS0, hS0]; unfold tkV; rw [if_neg (by omega)]; rfl) | (rw [nr_18]; have hS1 : tkS (btN M) e = 3 ∨ tkS (btN M) e = 4 := (by unfold tkS soF; rw [if_neg (by omega), if_neg (by omega), if_neg (by omega)]; split <;> omega); rw [tkE_34 hb he9 hS1, show min 3 (tkS (btN M) e) = 3 by omega]; unfold tkV; rw [if_neg (by omega)]))
  have H8 : ∀ (k : Nat) (y : Int), e ≤ y → y + k = tkB (btN M) e → X ω κ 8 [some (.ref (xad ω 0)), none] [] (nrM M y e s v wr it pe pa) := by
    intro k
    induction k with
    | zero =>
      intro y y1 y2
      have ey : y = tkB (btN M) e := by omega
      subst ey
      refine x_aload_n h dX7_next0_8 rfl ?_
      refine x_aload_n h dX7_next0_9 rfl ?_
      refine x_geti (j := 17) 17 h dX7_next0_10 (sM0 hm) rfl in_X7 rfl (by decide) m_fl_X7_301 rfl (fun r10 => ?_)
      try simp only [nr_r17, nr_r18, nr_r19, nr_r20, nr_r21, nr_r24, nr_r25, nr_r16, nr_r9, nr_r1, nr_r11, nr_b] at r10 ⊢
      refine x_V1i h dX7_next0_13 m_ml_X7_304 m_im_X7_byteAt m_se_X7_byteAt (sM0 hm) rfl (by decide) rfl (c_X7_byteAtN hm hb (by omega)) ?_
      refine x_bipush h dX7_next0_16 (by decide) ?_
      refine x_icmp_ne h dX7_next0_18 (tgt := 34) (by decide) (by omega) (by omega) (fun q18 => ?_) (fun q18 => ?_)
      · exact H34
      · exact absurd q18 hBx.2.1
    | succ k ih =>
      intro y y1 y2
      have h32 := hBx.2.2 y y1 (by omega)
      have hbg := hbr y (by omega)
      refine x_aload_n h dX7_next0_8 rfl ?_
      refine x_aload_n h dX7_next0_9 rfl ?_
      refine x_geti (j := 17) 17 h dX7_next0_10 (sM0 hm) rfl in_X7 rfl (by decide) m_fl_X7_301 rfl (fun r10 => ?_)
      try simp only [nr_r17, nr_r18, nr_r19, nr_r20, nr_r21, nr_r24, nr_r25, nr_r16, nr_r9, nr_r1, nr_r11, nr_b] at r10 ⊢
      refine x_V1i h dX7_next0_13 m_ml_X7_304 m_im_X7_byteAt m_se_X7_byteAt (sM0 hm) rfl (by decide) rfl (c_X7_byteAtN hm hb (by omega)) ?_
      refine x_bipush h dX7_next0_16 (by decide) ?_
      refine x_icmp_ne h dX7_next0_18 (tgt := 34) (by decide) (by omega) (by omega) (fun q18 => ?_) (fun q18 => ?_)
      · exact absurd h32 q18
      · refine x_aload_n h dX7_next0_21 rfl ?_
        refine x_dup h dX7_next0_22 rfl ?_
        refine x_geti (j := 17) 17 h dX7_next0_23 (sM0 hm) rfl in_X7 rfl (by decide) m_fl_X7_301 rfl (fun r23 => ?_)
        try simp only [nr_r17, nr_r18, nr_r19, nr_r20, nr_r21, nr_r24, nr_r25, nr_r16, nr_r9, nr_r1, nr_r11, nr_b] at r23 ⊢
        refine x_iconst h dX7_next0_26 ?_
        refine x_iadd h dX7_next0_27 ?_
        refine x_puti (j := 17) 17 h dX7_next0_28 (sM0 hm) rfl in_X7 rfl (by decide) m_fl_X7_301 tyX7_ok nmX7 rfl (tyX7_ok 17 (by decide)) rfl rfl (by omega) rfl ?_
        refine x_goto h dX7_next0_31 (tgt := 8) (by decide) ?_
        rw [nr_17]
        exact ih (y + 1) (by omega) (by omega)
  rw [nr_17]
  exact H8 (tkB (btN M) e - e).toNat e (Int.le_refl _) (by omega)

noncomputable def nsM (M : xMem) (q g wr it pe : Int) (pa : Int → Int) : xMem := nrM M g (tkE (btN M) q) (min 3 (tkS (btN M) q)) (tkV (btN M) q) wr it pe pa
section NS
variable {M : xMem} {q g wr it pe x : Int} {pa : Int → Int}
theorem ns_r17 : nsM M q g wr it pe pa 0 17 = g := rfl
theorem ns_r18 : nsM M q g wr it pe pa 0 18 = tkE (btN M) q := rfl
theorem ns_r19 : nsM M q g wr it pe pa 0 19 = min 3 (tkS (btN M) q) := rfl
theorem ns_r20 : nsM M q g wr it pe pa 0 20 = tkV (btN M) q := rfl
theorem ns_r21 : nsM M q g wr it pe pa 0 21 = wr := rfl
theorem ns_r24 : nsM M q g wr it pe pa 0 24 = it := rfl
theorem ns_r25 : nsM M q g wr it pe pa 0 25 = pe := rfl
theorem ns_r16 : nsM M q g wr it pe pa 0 16 = M 0 16 := rfl
theorem ns_r9 : nsM M q g wr it pe pa 9 = M 9 := rfl
theorem ns_r1 : nsM M q g wr it pe pa 1 = M 1 := rfl
theorem ns_r11 : nsM M q g wr it pe pa 11 = pa := rfl
theorem ns_b : btN (nsM M q g wr it pe pa) = btN M := rfl
theorem ns_17 : up (nsM M q g wr it pe pa) 0 17 x = nsM M q x wr it pe pa := nr_17
theorem ns_21 : up (nsM M q g wr it pe pa) 0 21 x = nsM M q g x it pe pa := nr_21
theorem ns_24 : up (nsM M q g wr it pe pa) 0 24 x = nsM M q g wr x pe pa := nr_24
theorem ns_25 : up (nsM M q g wr it pe pa) 0 25 x = nsM M q g wr it x pa := nr_25
theorem ns_11 {j : Int} : up (nsM M q g wr it pe pa) 11 j x = nsM M q g wr it pe (ur pa j x) := nr_11
theorem ns_R {q2 g2 w2 i2 p2 : Int} {pa2 : Int → Int} (h : xR (nsM M q g wr it pe pa)) (hb : BtO (btN M) (M 0 16)) (hq : 0 ≤ q2 ∧ q2 ≤ M 0 16) (h1 : inR g2) (h2 : inR w2) (h3 : inR i2) (h4 : inR p2) (h5 : ∀ j, inR (pa2 j)) : xR (nsM M q2 g2 w2 i2 p2 pa2) := by
  have e1 := tkB_x hb hq
  have e2 := tkE_x hb hq
  have e3 := tkV_R hb hq
  have e4 := tkS_R (btN M) q2
  have e5 := hb.1
  exact nr_R2 h h1 (by omega) (by omega) (by omega) h2 h3 h4 h5
end NS
theorem c_X7_next0S {l : Launch} {ω : xO} {ks : Nat → Option Nat} (hm : xsh ω = mdS ks) {M : xMem} {q g wr it pe : Int} {pa : Int → Int} (hb : BtO (btN M) (M 0 16)) (hq : 0 ≤ q ∧ q ≤ M 0 16) : Ct l ω yX7_next0 ({ frames := 1, cells := 0, slots := 0, locals := 22 } : Room) 2 0 [.ref (xad ω 0)] (nsM M q g wr it pe pa) none (nsM M (tkE (btN M) q) (tkB (btN M) (tkE (btN M) q)) wr it pe pa) :=
  c_X7_next0 hm hb (tkE_R hb hq)
