/-! the reference: a text -/
noncomputable def isoF (M : xMem) (n : Nat) : xMem := xfo (fun j T => isoM T j) M n
theorem isoF_s (M : xMem) (n : Nat) : isoF M (n + 1) = isoM (isoF M n) (n : Int) := by
  unfold isoF
  rw [xfo_s (fun j T => isoM T j) M n]
theorem isoM_ca {M : xMem} {f j : Int} {d : Int → Int} : ∃ f', isoM (ca M f d) j = ca (isoM M j) f' d := by
  have e11 : ca M f d 11 = M 11 := ca_n (by decide) (by decide)
  unfold isoM
  rw [e11]
  split
  · refine ⟨0, ?_⟩
    unfold lyM
    funext k i
    by_cases h1 : k = 1
    · subst h1; rfl
    · rw [up_n h1, up_n h1]
      by_cases h0 : k = 0
      · subst h0
        show up (ca M f d) 0 6 0 0 i = ur (up M 0 6 0 0) 6 0 i
        rw [up_s, up_s]
        show ur (ur (M 0) 6 f) 6 0 i = ur (ur (M 0) 6 0) 6 0 i
        unfold ur
        (repeat' split) <;> first | rfl | omega
      · rw [up_n h0]
        by_cases h5 : k = 5
        · subst h5; rfl
        · rw [ca_n h0 h5, ca_n h0 h5, up_n h1, up_n h1, up_n h0]
  · split
    · exact ⟨f, teN_ca⟩
    · refine ⟨f, ?_⟩
      unfold coM
      simp only [up_ca1]
      rfl
theorem CaE_iso {M N' : xMem} {f j : Int} {d : Int → Int} (h : CaE (isoM (ca M f d) j) N') : CaE (isoM M j) N' := by
  obtain ⟨f', e⟩ := isoM_ca (M := M) (f := f) (j := j) (d := d)
  rw [e] at h
  exact CaE.tr h
theorem iso_g {A C : Int → Int} {p0 : Int} {i : Nat} {T : xMem} (hI : itO C p0 i) (hE : itE A C (i : Int)) (h11 : T 11 = A) (hn : T 1 1 = peA C p0 i) : isoG T (i : Int) ∧ (T 11 (4 * (i : Int) + 0) < 7 ↔ C ((i : Int) * 4 + 0) < 7) := by
  obtain ⟨e0, e1, e2, e3⟩ := hE
  unfold isoG
  rw [h11, e0, e1, e2, e3, hn]
  unfold itO at hI
  rcases hI with ⟨g, g2⟩ | ⟨g, g2⟩ | ⟨g, g2⟩
  · rw [g]
    exact ⟨Or.inl ⟨rfl, g2.1, g2.2.1, g2.2.2.2⟩, by decide⟩
  · rw [g]
    exact ⟨Or.inr (Or.inl ⟨rfl, g2⟩), by decide⟩
  · have e : hmF (C ((i : Int) * 4 + 0)) = C ((i : Int) * 4 + 0) := by unfold knd at g; unfold hmF; rw [if_neg (by omega), if_neg (by omega)]
    rw [e]
    exact ⟨Or.inr (Or.inr ⟨g, g2⟩), Iff.rfl⟩
theorem isoF_i {A C : Int → Int} {p0 : Int} {k : Nat} {T : xMem} (hT : MInv T) (h11 : T 11 = A) (hn : T 1 1 = p0) (hI : ∀ j : Nat, j < k → itO C p0 j) (hE : ∀ j : Nat, j < k → itE A C (j : Int)) : ∀ i : Nat, i ≤ k → MInv (isoF T i) ∧ isoF T i 1 1 = peA C p0 i ∧ isoF T i 1 0 = T 1 0 ∧ (∀ q, q ≠ 0 → q ≠ 1 → isoF T i q = T q) ∧ (∀ j, j ≠ 6 → isoF T i 0 j = T 0 j) ∧ (i < k → isoG (isoF T i) (i : Int)) := by
  intro i
  induction i with
  | zero =>
    intro _
    exact ⟨hT, hn, rfl, fun _ _ _ => rfl, fun _ _ => rfl, fun h => (iso_g (hI 0 h) (hE 0 h) h11 hn).1⟩
  | succ i ih =>
    intro hi
    obtain ⟨a1, a2, a3, a4, a5, a6⟩ := ih (by omega)
    have g := iso_g (T := isoF T i) (hI i (by omega)) (hE i (by omega)) (by rw [a4 11 (by decide) (by decide)]; exact h11) a2
    obtain ⟨b1, b2, b3, b4, b5⟩ := isoM_I a1 g.1
    have n1 : isoF T (i + 1) 1 1 = peA C p0 (i + 1) := by
      rw [isoF_s, b2, a2, peA]
      by_cases y : C ((i : Int) * 4 + 0) < 7
      · rw [if_pos (g.2.mpr y), if_pos y]
      · rw [if_neg (fun z => y (g.2.mp z)), if_neg y]
    have r4 : ∀ q, q ≠ 0 → q ≠ 1 → isoF T (i + 1) q = T q := fun q q0 q1 => by rw [isoF_s, b4 q q0 q1, a4 q q0 q1]
    refine ⟨by rw [isoF_s]; exact b1, n1, by rw [isoF_s, b3, a3], r4, fun j hj => by rw [isoF_s, b5 j hj, a5 j hj], fun h => ?_⟩
    exact (iso_g (hI (i + 1) h) (hE (i + 1) h) (by rw [r4 11 (by decide) (by decide)]; exact h11) n1).1
def TxR (M T : xMem) : Prop := (∀ k, k ≠ 0 → k ≠ 11 → T k = M k) ∧ (∀ j, (j ≠ 16 ∧ j ≠ 17 ∧ j ≠ 18 ∧ j ≠ 19 ∧ j ≠ 20 ∧ j ≠ 21 ∧ j ≠ 24 ∧ j ≠ 25) → T 0 j = M 0 j) ∧ T 0 16 = 0
theorem TxR_nz {M : xMem} {z : ZsT} {it pe : Int} {pa : Int → Int} : TxR M (up (nzM M z it pe pa) 0 16 0) := by
  refine ⟨fun k h0 h11 => ?_, fun j hj => ?_, ?_⟩
  · rw [up_n h0]
    unfold nzM nsM nrM
    rw [upr_n h11, upr_n h0]
  · rw [up_nn (by omega)]
    unfold nzM nsM nrM
    rw [upr_n (by decide), upr_s]
    unfold nrw
    rw [if_neg (by omega), if_neg (by omega), if_neg (by omega), if_neg (by omega), if_neg (by omega), if_neg (by omega), if_neg (by omega)]
  · rw [up_ss]
theorem TxR.inv {M T : xMem} (h : TxR M T) (hI : MInv M) : MInv T := MInv_c (h.1 1 (by decide) (by decide)) hI
theorem TxR.fc {M T : xMem} (h : TxR M T) (hf : Fc M) : Fc T := Fc_e1 (N := M) (by unfold wyM; rw [h.1 1 (by decide) (by decide)]) (h.2.1 6 (by decide)) (h.1 5 (by decide) (by decide)) hf
noncomputable def tnF (M : xMem) (C : Int → Int) : Int := fuR (btN M) 120 (0, 0, M 1 1, C)
noncomputable def tnS (M : xMem) (C : Int → Int) : RdS := fuS (btN M) 120 (0, 0, M 1 1, C)
noncomputable def ntxR (M : xMem) (C : Int → Int) : Int := if tnF M C = -1 then (tnS M C).2.1 else -1 - tnF M C
def ntxM (M : xMem) (C : Int → Int) (N' : xMem) : Prop := ∃ T, TxR M T ∧ (tnF M C ≠ -1 → N' = T) ∧ (tnF M C = -1 → (∀ j : Nat, (j : Int) < (tnS M C).2.1 → itE (T 11) (tnS M C).2.2.2 (j : Int)) ∧ CaE (isoF T (tnS M C).2.1.toNat) N')
theorem tjN_lo {b : Int → Int} {n : Int} {r : RdS} (hb : BtO b n) (hr : RdR n r) (hP : tiP b r) : ∀ k, k < r.2.1 * 4 → (tjN b r).2.2.2 k = r.2.2.2 k := by
  intro k hk
  have hE := tkE_R hb hr.1
  have e0 : ti0 b r k = r.2.2.2 k := by unfold ti0; rw [ur_n (by omega)]
  by_cases hk7 : knd (heF b r.1)
  · obtain ⟨e1, e2⟩ := tjN_k hP.1 hk7
    obtain ⟨w1, w2, -⟩ := tp_w (it := r.2.1) (pa := ti0 b r) hb hE (e2.mp hP)
    rw [e1]
    show tpA b r.2.1 (tkE b r.1) (ti0 b r) k = _
    rw [w1, w2 k (by omega), e0]
  · obtain ⟨e1, e2⟩ := tjN_t hP.1 hk7
    obtain ⟨w1, w2, -⟩ := tt_w (it := r.2.1) (pa := ti0 b r) hb hE (e2.mp hP)
    rw [e1]
    show ttA b r.2.1 (tkE b r.1) (m2F (heF b r.1) r.2.2.1) (m3F (heF b r.1)) (ti0 b r) k = _
    rw [w1, w2 k (by omega), e0]
theorem dX7_text_0 : decode cX7_text 0 = .ok (.aload_n 0, 1) := by decide +kernel
theorem dX7_text_1 : decode cX7_text 1 = .ok (.iconst 0, 1) := by decide +kernel
theorem dX7_text_2 : decode cX7_text 2 = .ok (.putfield 298, 3) := by decide +kernel
theorem dX7_text_5 : decode cX7_text 5 = .ok (.aload_n 0, 1) := by decide +kernel
theorem dX7_text_6 : decode cX7_text 6 = .ok (.iconst 0, 1) := by decide +kernel
theorem dX7_text_7 : decode cX7_text 7 = .ok (.putfield 320, 3) := by decide +kernel
theorem dX7_text_10 : decode cX7_text 10 = .ok (.aload_n 0, 1) := by decide +kernel
theorem dX7_text_11 : decode cX7_text 11 = .ok (.iconst 0, 1) := by decide +kernel
theorem dX7_text_12 : decode cX7_text 12 = .ok (.putfield 330, 3) := by decide +kernel
theorem dX7_text_15 : decode cX7_text 15 = .ok (.aload_n 0, 1) := by decide +kernel
theorem dX7_text_16 : decode cX7_text 16 = .ok (.aload_n 0, 1) := by decide +kernel
theorem dX7_text_17 : decode cX7_text 17 = .ok (.getfield 9, 3) := by decide +kernel
theorem dX7_text_20 : decode cX7_text 20 = .ok (.iconst 1, 1) := by decide +kernel
theorem dX7_text_21 : decode cX7_text 21 = .ok (.iaload, 1) := by decide +kernel
theorem dX7_text_22 : decode cX7_text 22 = .ok (.putfield 343, 3) := by decide +kernel
theorem dX7_text_25 : decode cX7_text 25 = .ok (.aload_n 0, 1) := by decide +kernel
theorem dX7_text_26 : decode cX7_text 26 = .ok (.invokevirtual 323, 3) := by decide +kernel
theorem dX7_text_29 : decode cX7_text 29 = .ok (.aload_n 0, 1) := by decide +kernel
theorem dX7_text_30 : decode cX7_text 30 = .ok (.invokevirtual 365, 3) := by decide +kernel
theorem dX7_text_33 : decode cX7_text 33 = .ok (.aload_n 0, 1) := by decide +kernel
theorem dX7_text_34 : decode cX7_text 34 = .ok (.getfield 320, 3) := by decide +kernel
theorem dX7_text_37 : decode cX7_text 37 = .ok (.ifCond .ne 37, 3) := by decide +kernel
theorem dX7_text_40 : decode cX7_text 40 = .ok (.aload_n 0, 1) := by decide +kernel
theorem dX7_text_41 : decode cX7_text 41 = .ok (.getfield 310, 3) := by decide +kernel
theorem dX7_text_44 : decode cX7_text 44 = .ok (.iconst 3, 1) := by decide +kernel
theorem dX7_text_45 : decode cX7_text 45 = .ok (.if_icmp .ne 29, 3) := by decide +kernel
theorem dX7_text_48 : decode cX7_text 48 = .ok (.aload_n 0, 1) := by decide +kernel
theorem dX7_text_49 : decode cX7_text 49 = .ok (.getfield 34, 3) := by decide +kernel
theorem dX7_text_52 : decode cX7_text 52 = .ok (.aload_n 0, 1) := by decide +kernel
theorem dX7_text_53 : decode cX7_text 53 = .ok (.getfield 301, 3) := by decide +kernel
theorem dX7_text_56 : decode cX7_text 56 = .ok (.iaload, 1) := by decide +kernel
theorem dX7_text_57 : decode cX7_text 57 = .ok (.bipush 59, 2) := by decide +kernel
theorem dX7_text_59 : decode cX7_text 59 = .ok (.if_icmp .ne 15, 3) := by decide +kernel
theorem dX7_text_62 : decode cX7_text 62 = .ok (.aload_n 0, 1) := by decide +kernel
theorem dX7_text_63 : decode cX7_text 63 = .ok (.iconst 1, 1) := by decide +kernel
theorem dX7_text_64 : decode cX7_text 64 = .ok (.invokevirtual 326, 3) := by decide +kernel
theorem dX7_text_67 : decode cX7_text 67 = .ok (.aload_n 0, 1) := by decide +kernel
theorem dX7_text_68 : decode cX7_text 68 = .ok (.invokevirtual 365, 3) := by decide +kernel
theorem dX7_text_71 : decode cX7_text 71 = .ok (.goto (-38), 3) := by decide +kernel
theorem dX7_text_74 : decode cX7_text 74 = .ok (.aload_n 0, 1) := by decide +kernel
theorem dX7_text_75 : decode cX7_text 75 = .ok (.aload_n 0, 1) := by decide +kernel
theorem dX7_text_76 : decode cX7_text 76 = .ok (.getfield 310, 3) := by decide +kernel
theorem dX7_text_79 : decode cX7_text 79 = .ok (.ifCond .ne 7, 3) := by decide +kernel
theorem dX7_text_82 : decode cX7_text 82 = .ok (.iconst 1, 1) := by decide +kernel
theorem dX7_text_83 : decode cX7_text 83 = .ok (.goto 4, 3) := by decide +kernel
theorem dX7_text_86 : decode cX7_text 86 = .ok (.iconst 0, 1) := by decide +kernel
theorem dX7_text_87 : decode cX7_text 87 = .ok (.invokevirtual 326, 3) := by decide +kernel
theorem dX7_text_90 : decode cX7_text 90 = .ok (.aload_n 0, 1) := by decide +kernel
theorem dX7_text_91 : decode cX7_text 91 = .ok (.iconst 0, 1) := by decide +kernel
theorem dX7_text_92 : decode cX7_text 92 = .ok (.putfield 295, 3) := by decide +kernel
theorem dX7_text_95 : decode cX7_text 95 = .ok (.aload_n 0, 1) := by decide +kernel
theorem dX7_text_96 : decode cX7_text 96 = .ok (.getfield 320, 3) := by decide +kernel
theorem dX7_text_99 : decode cX7_text 99 = .ok (.ifCond .eq 10, 3) := by decide +kernel
theorem dX7_text_102 : decode cX7_text 102 = .ok (.iconst (-1), 1) := by decide +kernel
theorem dX7_text_103 : decode cX7_text 103 = .ok (.aload_n 0, 1) := by decide +kernel
theorem dX7_text_104 : decode cX7_text 104 = .ok (.getfield 301, 3) := by decide +kernel
theorem dX7_text_107 : decode cX7_text 107 = .ok (.isub, 1) := by decide +kernel
theorem dX7_text_108 : decode cX7_text 108 = .ok (.ireturn, 1) := by decide +kernel
theorem dX7_text_109 : decode cX7_text 109 = .ok (.iconst 0, 1) := by decide +kernel
theorem dX7_text_110 : decode cX7_text 110 = .ok (.istore_n 1, 1) := by decide +kernel
theorem dX7_text_111 : decode cX7_text 111 = .ok (.iconst 0, 1) := by decide +kernel
theorem dX7_text_112 : decode cX7_text 112 = .ok (.istore_n 2, 1) := by decide +kernel
theorem dX7_text_113 : decode cX7_text 113 = .ok (.iload_n 2, 1) := by decide +kernel
theorem dX7_text_114 : decode cX7_text 114 = .ok (.aload_n 0, 1) := by decide +kernel
theorem dX7_text_115 : decode cX7_text 115 = .ok (.getfield 330, 3) := by decide +kernel
theorem dX7_text_118 : decode cX7_text 118 = .ok (.if_icmp .ge 27, 3) := by decide +kernel
theorem dX7_text_121 : decode cX7_text 121 = .ok (.iload_n 1, 1) := by decide +kernel
theorem dX7_text_122 : decode cX7_text 122 = .ok (.aload_n 0, 1) := by decide +kernel
theorem dX7_text_123 : decode cX7_text 123 = .ok (.iconst 4, 1) := by decide +kernel
theorem dX7_text_124 : decode cX7_text 124 = .ok (.iload_n 2, 1) := by decide +kernel
theorem dX7_text_125 : decode cX7_text 125 = .ok (.imul, 1) := by decide +kernel
theorem dX7_text_126 : decode cX7_text 126 = .ok (.invokevirtual 368, 3) := by decide +kernel
theorem dX7_text_129 : decode cX7_text 129 = .ok (.ifCond .ge 7, 3) := by decide +kernel
theorem dX7_text_132 : decode cX7_text 132 = .ok (.iconst 0, 1) := by decide +kernel
theorem dX7_text_133 : decode cX7_text 133 = .ok (.goto 4, 3) := by decide +kernel
theorem dX7_text_136 : decode cX7_text 136 = .ok (.iconst 1, 1) := by decide +kernel
theorem dX7_text_137 : decode cX7_text 137 = .ok (.iadd, 1) := by decide +kernel
theorem dX7_text_138 : decode cX7_text 138 = .ok (.istore_n 1, 1) := by decide +kernel
theorem dX7_text_139 : decode cX7_text 139 = .ok (.iinc 2 1, 3) := by decide +kernel
theorem dX7_text_142 : decode cX7_text 142 = .ok (.goto (-29), 3) := by decide +kernel
theorem dX7_text_145 : decode cX7_text 145 = .ok (.iload_n 1, 1) := by decide +kernel
theorem dX7_text_146 : decode cX7_text 146 = .ok (.ireturn, 1) := by decide +kernel
set_option maxHeartbeats 800000 in
set_option maxRecDepth 100000 in
theorem c_X7_text {l : Launch} {ω : xO} {ks : Nat → Option Nat} (hm : xsh ω = mdS ks) {ki vi : Nat → Nat} {C : Int → Int} {M : xMem} (hφ : xph ω = xStr ki vi (xA ω)) (hI : MInv M) (hf : Fc M) (hb : BtO (btN M) (M 0 16)) (hks : ∀ k, k < 7 → ks k = some (ki (12 + k))) (hC : ∀ k, inR (C k)) : Cq l ω yX7_text ({ frames := 7, cells := 0, slots := 0, locals := 155 } : Room) 3 0 [.ref (xad ω 0)] M (pI1 (fun r N' => r = ntxR M C ∧ ntxM M C N')) := by
  refine Cq.of (bytes := cX7_text) (ret := (some .int)) (lv0 := [some (.ref (xad ω 0)), none, none]) m_cd_X7_text m_in_X7 (by decide +kernel) (by decide +kernel) rfl rfl rfl rfl ?_
  intro κ h he hR
  have hn := hI.1
  have hn0 := hb.1
  have he9 : ∀ k, 0 ≤ k → k < M 0 16 → M 9 k = btN M k := fun k h1 h2 => by unfold btN; rw [if_pos (by omega)]
  have HF : ∀ (z : ZsT) (it pe : Int) (pa : Int → Int), zO (btN M) (M 0 16) z → z.2.2 = 1 → tnF M C = z.2.1 → X ω κ 74 [some (.ref (xad ω 0)), none, none] [] (nzM M z it pe pa) := by
    intro z it pe pa hz hz1 hF
    have hzr := hz.2.1
    have hSR := tkS_R (btN M) z.1
    have hF1 : tnF M C ≠ -1 := by omega
    have e21 : up (nzM M z it pe pa) 0 16 0 0 21 = z.2.2 := rfl
    have e17 : up (nzM M z it pe pa) 0 16 0 0 17 = z.2.1 := rfl
    refine x_aload_n h dX7_text_74 rfl ?_
    refine x_aload_n h dX7_text_75 rfl ?_
    refine x_geti (j := 19) 19 h dX7_text_76 (sM0 hm) rfl in_X7 rfl (by decide) m_fl_X7_310 rfl (fun r76 => ?_)
    try simp only [nz_r17, nz_r18, nz_r19, nz_r20, nz_r21, nz_r24, nz_r25, nz_r16, nz_r9, nz_r1, nz_r11, nz_b] at r76 ⊢
    refine x_if_ne h dX7_text_79 (tgt := 86) (by decide) (by omega) (fun q79 => ?_) (fun q79 => ?_)
    · refine x_iconst h dX7_text_86 ?_
      refine x_V1v h dX7_text_87 m_ml_X7_326 m_im_X7_must m_se_X7_must (sM0 hm) rfl (by decide) rfl (c_X7_must hm hb hz (by first | exact Or.inl rfl | exact Or.inr rfl)) ?_
      rw [zMu_b hz1]
      refine x_aload_n h dX7_text_90 rfl ?_
      refine x_iconst h dX7_text_91 ?_
      refine x_puti (j := 16) 16 h dX7_text_92 (sM0 hm) rfl in_X7 rfl (by decide) m_fl_X7_295 tyX7_ok nmX7 rfl (tyX7_ok 16 (by decide)) rfl rfl (by omega) rfl ?_
      refine x_aload_n h dX7_text_95 rfl ?_
      refine x_geti (j := 21) 21 h dX7_text_96 (sM0 hm) rfl in_X7 rfl (by decide) m_fl_X7_320 rfl (fun r96 => ?_)
      try simp only [nz_r17, nz_r18, nz_r19, nz_r20, nz_r21, nz_r24, nz_r25, nz_r16, nz_r9, nz_r1, nz_r11, nz_b] at r96 ⊢
      rw [e21]
      refine x_if_eq h dX7_text_99 (tgt := 109) (by decide) (by omega) (fun q99 => ?_) (fun q99 => ?_)
      · exfalso; omega
      · refine x_iconst h dX7_text_102 ?_
        refine x_aload_n h dX7_text_103 rfl ?_
        refine x_geti (j := 17) 17 h dX7_text_104 (sM0 hm) rfl in_X7 rfl (by decide) m_fl_X7_301 rfl (fun r104 => ?_)
        try simp only [nz_r17, nz_r18, nz_r19, nz_r20, nz_r21, nz_r24, nz_r25, nz_r16, nz_r9, nz_r1, nz_r11, nz_b] at r104 ⊢
        rw [e17]
        refine x_isub h dX7_text_107 ?_
        exact x_iretq h he dX7_text_108 ⟨by unfold ntxR; rw [if_neg hF1, hF], _, TxR_nz, fun _ => rfl, fun y => absurd y hF1⟩
    · refine x_iconst h dX7_text_82 ?_
      refine x_goto h dX7_text_83 (tgt := 87) (by decide) ?_
      refine x_V1v h dX7_text_87 m_ml_X7_326 m_im_X7_must m_se_X7_must (sM0 hm) rfl (by decide) rfl (c_X7_must hm hb hz (by first | exact Or.inl rfl | exact Or.inr rfl)) ?_
      rw [zMu_b hz1]
      refine x_aload_n h dX7_text_90 rfl ?_
      refine x_iconst h dX7_text_91 ?_
      refine x_puti (j := 16) 16 h dX7_text_92 (sM0 hm) rfl in_X7 rfl (by decide) m_fl_X7_295 tyX7_ok nmX7 rfl (tyX7_ok 16 (by decide)) rfl rfl (by omega) rfl ?_
      refine x_aload_n h dX7_text_95 rfl ?_
      refine x_geti (j := 21) 21 h dX7_text_96 (sM0 hm) rfl in_X7 rfl (by decide) m_fl_X7_320 rfl (fun r96 => ?_)
      try simp only [nz_r17, nz_r18, nz_r19, nz_r20, nz_r21, nz_r24, nz_r25, nz_r16, nz_r9, nz_r1, nz_r11, nz_b] at r96 ⊢
      rw [e21]
      refine x_if_eq h dX7_text_99 (tgt := 109) (by decide) (by omega) (fun q99 => ?_) (fun q99 => ?_)
      · exfalso; omega
      · refine x_iconst h dX7_text_102 ?_
        refine x_aload_n h dX7_text_103 rfl ?_
        refine x_geti (j := 17) 17 h dX7_text_104 (sM0 hm) rfl in_X7 rfl (by decide) m_fl_X7_301 rfl (fun r104 => ?_)
        try simp only [nz_r17, nz_r18, nz_r19, nz_r20, nz_r21, nz_r24, nz_r25, nz_r16, nz_r9, nz_r1, nz_r11, nz_b] at r104 ⊢
        rw [e17]
        refine x_isub h dX7_text_107 ?_
        exact x_iretq h he dX7_text_108 ⟨by unfold ntxR; rw [if_neg hF1, hF], _, TxR_nz, fun _ => rfl, fun y => absurd y hF1⟩
  have HG : ∀ (q it pe : Int) (pa : Int → Int), (0 ≤ q ∧ q ≤ M 0 16) → tkS (btN M) q ≠ 0 → tnF M C = tkB (btN M) q → X ω κ 74 [some (.ref (xad ω 0)), none, none] [] (nzM M (zG (btN M) q) it pe pa) := by
    intro q it pe pa hq hS0 hF
    have hzr := tkB_x hb hq
    have hSR := tkS_R (btN M) q
    have hzo : zO (btN M) (M 0 16) (zG (btN M) q) := ⟨hq, by show 0 ≤ tkB (btN M) q ∧ tkB (btN M) q ≤ M 0 16; omega, Or.inl rfl, fun _ => rfl⟩
    have hF1 : tnF M C ≠ -1 := by omega
    have e19 : min 3 (tkS (btN M) (zG (btN M) q).1) = min 3 (tkS (btN M) q) := rfl
    have e21 : up (nzM M (zB (btN M) q) it pe pa) 0 16 0 0 21 = 1 := rfl
    have e17 : up (nzM M (zB (btN M) q) it pe pa) 0 16 0 0 17 = tkB (btN M) q := rfl
    refine x_aload_n h dX7_text_74 rfl ?_
    refine x_aload_n h dX7_text_75 rfl ?_
    refine x_geti (j := 19) 19 h dX7_text_76 (sM0 hm) rfl in_X7 rfl (by decide) m_fl_X7_310 rfl (fun r76 => ?_)
    try simp only [nz_r17, nz_r18, nz_r19, nz_r20, nz_r21, nz_r24, nz_r25, nz_r16, nz_r9, nz_r1, nz_r11, nz_b] at r76 ⊢
    rw [e19]
    refine x_if_ne h dX7_text_79 (tgt := 86) (by decide) (by omega) (fun q79 => ?_) (fun q79 => ?_)
    · refine x_iconst h dX7_text_86 ?_
      refine x_V1v h dX7_text_87 m_ml_X7_326 m_im_X7_must m_se_X7_must (sM0 hm) rfl (by decide) rfl (c_X7_must hm hb hzo (Or.inl rfl)) ?_
      rw [zMu_n (by decide)]
      refine x_aload_n h dX7_text_90 rfl ?_
      refine x_iconst h dX7_text_91 ?_
      refine x_puti (j := 16) 16 h dX7_text_92 (sM0 hm) rfl in_X7 rfl (by decide) m_fl_X7_295 tyX7_ok nmX7 rfl (tyX7_ok 16 (by decide)) rfl rfl (by omega) rfl ?_
      refine x_aload_n h dX7_text_95 rfl ?_
      refine x_geti (j := 21) 21 h dX7_text_96 (sM0 hm) rfl in_X7 rfl (by decide) m_fl_X7_320 rfl (fun r96 => ?_)
      try simp only [nz_r17, nz_r18, nz_r19, nz_r20, nz_r21, nz_r24, nz_r25, nz_r16, nz_r9, nz_r1, nz_r11, nz_b] at r96 ⊢
      rw [e21]
      refine x_if_eq h dX7_text_99 (tgt := 109) (by decide) (by omega) (fun q99 => ?_) (fun q99 => ?_)
      · exact absurd q99 (by decide)
      · refine x_iconst h dX7_text_102 ?_
        refine x_aload_n h dX7_text_103 rfl ?_
        refine x_geti (j := 17) 17 h dX7_text_104 (sM0 hm) rfl in_X7 rfl (by decide) m_fl_X7_301 rfl (fun r104 => ?_)
        try simp only [nz_r17, nz_r18, nz_r19, nz_r20, nz_r21, nz_r24, nz_r25, nz_r16, nz_r9, nz_r1, nz_r11, nz_b] at r104 ⊢
        rw [e17]
        refine x_isub h dX7_text_107 ?_
        exact x_iretq h he dX7_text_108 ⟨by unfold ntxR; rw [if_neg hF1, hF], _, TxR_nz, fun _ => rfl, fun y => absurd y hF1⟩
    · exfalso; omega
  have HO : ∀ (q it pe : Int) (pa : Int → Int), (0 ≤ q ∧ q ≤ M 0 16) → tkS (btN M) q = 0 → tnF M C = -1 → it = (tnS M C).2.1 → (∀ j : Nat, (j : Int) < it → itO (tnS M C).2.2.2 (M 1 1) j ∧ itE pa (tnS M C).2.2.2 (j : Int)) → (0 ≤ it ∧ it ≤ 120) → X ω κ 74 [some (.ref (xad ω 0)), none, none] [] (nzM M (zG (btN M) q) it pe pa) := by
    intro q it pe pa hq hS0 hF hit hrow hitr
    have hzr := tkB_x hb hq
    have hEq := tkE_R hb hq
    have hzo : zO (btN M) (M 0 16) (zG (btN M) q) := ⟨hq, by show 0 ≤ tkB (btN M) q ∧ tkB (btN M) q ≤ M 0 16; omega, Or.inl rfl, fun _ => rfl⟩
    have e19 : min 3 (tkS (btN M) (zG (btN M) q).1) = min 3 (tkS (btN M) q) := rfl
    have e21 : up (nzM M (zG (btN M) (tkE (btN M) q)) it pe pa) 0 16 0 0 21 = 0 := rfl
    have hTx : TxR M (up (nzM M (zG (btN M) (tkE (btN M) q)) it pe pa) 0 16 0) := TxR_nz
    have hT11 : up (nzM M (zG (btN M) (tkE (btN M) q)) it pe pa) 0 16 0 11 = pa := rfl
    have hT24 : up (nzM M (zG (btN M) (tkE (btN M) q)) it pe pa) 0 16 0 0 24 = it := rfl
    have hT1 : up (nzM M (zG (btN M) (tkE (btN M) q)) it pe pa) 0 16 0 1 = M 1 := rfl
    refine x_aload_n h dX7_text_74 rfl ?_
    refine x_aload_n h dX7_text_75 rfl ?_
    refine x_geti (j := 19) 19 h dX7_text_76 (sM0 hm) rfl in_X7 rfl (by decide) m_fl_X7_310 rfl (fun r76 => ?_)
    try simp only [nz_r17, nz_r18, nz_r19, nz_r20, nz_r21, nz_r24, nz_r25, nz_r16, nz_r9, nz_r1, nz_r11, nz_b] at r76 ⊢
    rw [e19]
    refine x_if_ne h dX7_text_79 (tgt := 86) (by decide) (by omega) (fun q79 => ?_) (fun q79 => ?_)
    · exfalso; omega
    · refine x_iconst h dX7_text_82 ?_
      refine x_goto h dX7_text_83 (tgt := 87) (by decide) ?_
      refine x_V1v h dX7_text_87 m_ml_X7_326 m_im_X7_must m_se_X7_must (sM0 hm) rfl (by decide) rfl (c_X7_must hm hb hzo (Or.inr rfl)) ?_
      rw [zMu_g (by decide)]
      refine x_aload_n h dX7_text_90 rfl ?_
      refine x_iconst h dX7_text_91 ?_
      refine x_puti (j := 16) 16 h dX7_text_92 (sM0 hm) rfl in_X7 rfl (by decide) m_fl_X7_295 tyX7_ok nmX7 rfl (tyX7_ok 16 (by decide)) rfl rfl (by omega) rfl ?_
      refine x_aload_n h dX7_text_95 rfl ?_
      refine x_geti (j := 21) 21 h dX7_text_96 (sM0 hm) rfl in_X7 rfl (by decide) m_fl_X7_320 rfl (fun r96 => ?_)
      try simp only [nz_r17, nz_r18, nz_r19, nz_r20, nz_r21, nz_r24, nz_r25, nz_r16, nz_r9, nz_r1, nz_r11, nz_b] at r96 ⊢
      rw [e21]
      refine x_if_eq h dX7_text_99 (tgt := 109) (by decide) (by omega) (fun q99 => ?_) (fun q99 => ?_)
      · refine x_iconst h dX7_text_109 ?_
        refine x_istore_n h dX7_text_110 rfl rfl ?_
        dsimp only [xset]
        refine x_iconst h dX7_text_111 ?_
        refine x_istore_n h dX7_text_112 rfl rfl ?_
        dsimp only [xset]
        generalize hTe : up (nzM M (zG (btN M) (tkE (btN M) q)) it pe pa) 0 16 0 = T at hTx hT11 hT24 hT1 ⊢
        have hTI := hTx.inv hI
        have hTF := hTx.fc hf
        have hFi := isoF_i (k := it.toNat) hTI hT11 (by rw [hT1]) (fun j hj => (hrow j (by omega)).1) (fun j hj => (hrow j (by omega)).2)
        have HH : ∀ (k j : Nat) (f : Int) (d : Int → Int), j + k = it.toNat → Fc (ca (isoF T j) f d) → X ω κ 113 [some (.ref (xad ω 0)), some (.int (iI (j : Int))), some (.int (iI (j : Int)))] [] (ca (isoF T j) f d) := by
          intro k
          induction k with
          | zero =>
            intro j f d e hc
            have ej : j = it.toNat := by omega
            subst ej
            have h24 : ca (isoF T it.toNat) f d 0 24 = it := by rw [ca_0 (by decide), (hFi _ (Nat.le_refl _)).2.2.2.2.1 24 (by decide)]; exact hT24
            refine x_iload_n h dX7_text_113 rfl ?_
            refine x_aload_n h dX7_text_114 rfl ?_
            refine x_geti (j := 24) 24 h dX7_text_115 (sM0 hm) rfl in_X7 rfl (by decide) m_fl_X7_330 rfl (fun r115 => ?_)
            rw [h24]
            refine x_icmp_ge h dX7_text_118 (tgt := 145) (by decide) (by omega) (by omega) (fun q118 => ?_) (fun q118 => ?_)
            · refine x_iload_n h dX7_text_145 rfl ?_
              exact x_iretq h he dX7_text_146 ⟨by unfold ntxR; rw [if_pos hF]; omega, T, hTx, fun y => absurd hF y, fun _ => ⟨fun j hj => by rw [hT11]; exact (hrow j (by omega)).2, by rw [← hit]; exact CaE.of hc⟩⟩
            · exfalso; omega
          | succ k ih =>
            intro j f d e hc
            have hj := hFi j (by omega)
            have h24 : ca (isoF T j) f d 0 24 = it := by rw [ca_0 (by decide), hj.2.2.2.2.1 24 (by decide)]; exact hT24
            have ihj := ih (j + 1)
            rw [isoF_s] at ihj
            refine x_iload_n h dX7_text_113 rfl ?_
            refine x_aload_n h dX7_text_114 rfl ?_
            refine x_geti (j := 24) 24 h dX7_text_115 (sM0 hm) rfl in_X7 rfl (by decide) m_fl_X7_330 rfl (fun r115 => ?_)
            rw [h24]
            refine x_icmp_ge h dX7_text_118 (tgt := 145) (by decide) (by omega) (by omega) (fun q118 => ?_) (fun q118 => ?_)
            · exfalso; omega
            · refine x_iload_n h dX7_text_121 rfl ?_
              refine x_aload_n h dX7_text_122 rfl ?_
              refine x_iconst h dX7_text_123 ?_
              refine x_iload_n h dX7_text_124 rfl ?_
              refine x_imul h dX7_text_125 ?_
              refine x_Q1i h dX7_text_126 m_ml_X7_368 m_im_X7_isSo m_se_X7_isSo (sM0 hm) rfl (by decide) rfl (c_X7_isSo hm hj.1.ca hc (by omega) (hj.2.2.2.2.2 (by omega))) (fun r126 N126 h126 => ?_)
              obtain ⟨e126, h126b⟩ := h126
              obtain ⟨f126, d126, rfl, c126⟩ := CaE_iso h126b
              try simp only [ca_ca] at c126 ⊢
              refine x_if_ge h dX7_text_129 (tgt := 136) (by decide) (by omega) (fun q129 => ?_) (fun q129 => ?_)
              · refine x_iconst h dX7_text_136 ?_
                refine x_iadd h dX7_text_137 ?_
                refine x_istore_n h dX7_text_138 rfl rfl ?_
                dsimp only [xset]
                refine x_iinc h dX7_text_139 rfl rfl rfl ?_
                dsimp only [xset]
                refine x_goto h dX7_text_142 (tgt := 113) (by decide) ?_
                exact ihj _ _ (by omega) (by assumption)
              · exfalso; omega
        refine x_mem (M' := ca (isoF T 0) (T 0 6) (T 5)) (ca_self T).symm ?_
        exact HH it.toNat 0 _ _ (by omega) (by rw [show isoF T 0 = T from rfl, ca_self]; exact hTF)
      · exact absurd rfl q99
  have HH : ∀ (d i : Nat) (r : RdS) (pa : Int → Int), i + (d + 1) = 120 → r.2.1 = (i : Int) → 2 * (i : Int) ≤ r.1 → RdO (M 0 16) (M 1 1) r → (∀ k, inR (pa k)) → (∀ j : Nat, j < i → itE pa r.2.2.2 (j : Int)) → fuR (btN M) (d + 1) r = tnF M C → fuS (btN M) (d + 1) r = tnS M C → X ω κ 33 [some (.ref (xad ω 0)), none, none] [] (nzM M (riZ (btN M) (zG (btN M) r.1) r.2.2.1) (r.2.1 + 1) (riE (btN M) (zG (btN M) r.1) r.2.2.1) (riA (btN M) (zG (btN M) r.1) r.2.1 r.2.2.1 pa)) := by
    intro d
    induction d with
    | zero => intro i r pa e1 e2 e3 hO; have := hO.1.1; omega
    | succ d ih =>
      intro i r pa e1 e2 e3 hO hpa hrows h1 h2
      have hzg : zO (btN M) (M 0 16) (zG (btN M) r.1) := by
        have := tkB_x hb hO.1.1
        have h11 := hO.1.1
        exact ⟨hO.1.1, by show 0 ≤ tkB (btN M) r.1 ∧ tkB (btN M) r.1 ≤ M 0 16; omega, Or.inl rfl, fun _ => rfl⟩
      have hzO := riZ_O hb hzg (pe := r.2.2.1)
      obtain ⟨w1, w2, w3⟩ := ri_rel (pa := pa) hb hO.1
      have hA : ∀ k, inR (riA (btN M) (zG (btN M) r.1) r.2.1 r.2.2.1 pa k) := riA_R hb hzg hpa
      rw [fuR] at h1
      rw [fuS] at h2
      by_cases hP : tiP (btN M) r
      · obtain ⟨v1, v2, v3⟩ := w1 hP
        have hO2 := RdO_s hb hO (by omega) hP
        have hm2 := tjN_m hb hO.1 hP
        have hq2 := hO2.1.1
        have hit2 : (tjN (btN M) r).2.1 = r.2.1 + 1 := (tjN_R hb hO.1 (by omega)).2 hP
        have hpe2 := hO2.1.2.2.1
        have hSR := tkS_R (btN M) (tjN (btN M) r).1
        have hBx := tkB_x hb hq2
        have hEm := tkE_m hb hq2
        rw [tI_p hP] at h1
        have hrow2 : ∀ j : Nat, j < i + 1 → itE (riA (btN M) (zG (btN M) r.1) r.2.1 r.2.2.1 pa) (tjN (btN M) r).2.2.2 (j : Int) := by
          intro j hj
          by_cases ej : j = i
          · subst ej; rw [← e2]; exact v3
          · have g := hrows j (by omega)
            have ea := tjN_lo hb hO.1 hP
            unfold itE at g ⊢
            rw [w2 _ (by omega), w2 _ (by omega), w2 _ (by omega), w2 _ (by omega), ea _ (by omega), ea _ (by omega), ea _ (by omega), ea _ (by omega)]
            exact g
        generalize riA (btN M) (zG (btN M) r.1) r.2.1 r.2.2.1 pa = pb at hrow2 hA ⊢
        rw [v1, v2, ← hit2]
        have hg59 : tkS (btN M) (tjN (btN M) r).1 = 3 ↔ btN M (tkB (btN M) (tjN (btN M) r).1) = 59 := soF_3
        have e19 : min 3 (tkS (btN M) (zG (btN M) (tjN (btN M) r).1).1) = min 3 (tkS (btN M) (tjN (btN M) r).1) := rfl
        have e17 : (zG (btN M) (tjN (btN M) r).1).2.1 = tkB (btN M) (tjN (btN M) r).1 := rfl
        have e22 : (zG (btN M) (tjN (btN M) r).1).2.2 = 0 := rfl
        have hlt : tkS (btN M) (tjN (btN M) r).1 ≠ 0 → tkB (btN M) (tjN (btN M) r).1 < M 0 16 := fun y => by have := (tkE_x hb hq2).2.2.2 y; have := (tkE_x hb hq2).1; omega
        have hv9 : tkS (btN M) (tjN (btN M) r).1 ≠ 0 → M 9 (tkB (btN M) (tjN (btN M) r).1) = btN M (tkB (btN M) (tjN (btN M) r).1) := fun y => he9 _ (by omega) (hlt y)
        have hzo2 : zO (btN M) (M 0 16) (zG (btN M) (tjN (btN M) r).1) := ⟨hq2, by show 0 ≤ tkB (btN M) (tjN (btN M) r).1 ∧ tkB (btN M) (tjN (btN M) r).1 ≤ M 0 16; omega, Or.inl rfl, fun _ => rfl⟩
        have H74 : tkS (btN M) (tjN (btN M) r).1 ≠ 3 → X ω κ 74 [some (.ref (xad ω 0)), none, none] [] (nzM M (zG (btN M) (tjN (btN M) r).1) (tjN (btN M) r).2.1 (tjN (btN M) r).2.2.1 pb) := by
          intro hs3
          by_cases hs0 : tkS (btN M) (tjN (btN M) r).1 = 0
          · rw [if_pos hs0] at h1
            rw [tI_n (fun y => hs3 y.2)] at h2
            refine HO _ _ _ _ hq2 hs0 h1.symm (by rw [← h2]) (fun j hj => ?_) (by have := hO2.1.2.1; omega)
            rw [← h2]
            obtain ⟨hR2, i2, hi2, hpa2, hit3⟩ := hO2
            exact ⟨hit3 j (by omega), hrow2 j (by omega)⟩
          · rw [if_neg hs0, if_neg hs3] at h1
            exact HG _ _ _ _ hq2 hs0 h1.symm
        refine x_aload_n h dX7_text_33 rfl ?_
        refine x_geti (j := 21) 21 h dX7_text_34 (sM0 hm) rfl in_X7 rfl (by decide) m_fl_X7_320 rfl (fun r34 => ?_)
        try simp only [nz_r17, nz_r18, nz_r19, nz_r20, nz_r21, nz_r24, nz_r25, nz_r16, nz_r9, nz_r1, nz_r11, nz_b] at r34 ⊢
        rw [e22]
        refine x_if_ne h dX7_text_37 (tgt := 74) (by decide) (by omega) (fun q37 => ?_) (fun q37 => ?_)
        · exact absurd rfl q37
        · refine x_aload_n h dX7_text_40 rfl ?_
          refine x_geti (j := 19) 19 h dX7_text_41 (sM0 hm) rfl in_X7 rfl (by decide) m_fl_X7_310 rfl (fun r41 => ?_)
          try simp only [nz_r17, nz_r18, nz_r19, nz_r20, nz_r21, nz_r24, nz_r25, nz_r16, nz_r9, nz_r1, nz_r11, nz_b] at r41 ⊢
          refine x_iconst h dX7_text_44 ?_
          rw [e19]
          refine x_icmp_ne h dX7_text_45 (tgt := 74) (by decide) (by omega) (by omega) (fun q45 => ?_) (fun q45 => ?_)
          · first
              | exact H74 (by omega)
              | exact H74 (fun y => q59 (hg59.mp y))
          · refine x_aload_n h dX7_text_48 rfl ?_
            refine x_getr (j := 15) (q := 9) h dX7_text_49 (sM0 hm) rfl in_X7 rfl (by decide) m_fl_X7_34 ?_
            refine x_aload_n h dX7_text_52 rfl ?_
            refine x_geti (j := 17) 17 h dX7_text_53 (sM0 hm) rfl in_X7 rfl (by decide) m_fl_X7_301 rfl (fun r53 => ?_)
            try simp only [nz_r17, nz_r18, nz_r19, nz_r20, nz_r21, nz_r24, nz_r25, nz_r16, nz_r9, nz_r1, nz_r11, nz_b] at r53 ⊢
            rw [e17]
            have hs3 : tkS (btN M) (tjN (btN M) r).1 ≠ 0 := by omega
            have hlt3 := hlt hs3
            refine x_iaload h dX7_text_56 (sM9 hm) (by omega) (fun r56 => ?_)
            try simp only [nz_r17, nz_r18, nz_r19, nz_r20, nz_r21, nz_r24, nz_r25, nz_r16, nz_r9, nz_r1, nz_r11, nz_b] at r56 ⊢
            rw [hv9 hs3]
            have hb9 := hb.2.2 _ (by omega) hlt3
            refine x_bipush h dX7_text_57 (by decide) ?_
            refine x_icmp_ne h dX7_text_59 (tgt := 74) (by decide) (by omega) (by omega) (fun q59 => ?_) (fun q59 => ?_)
            · first
                | exact H74 (by omega)
                | exact H74 (fun y => q59 (hg59.mp y))
            · refine x_aload_n h dX7_text_62 rfl ?_
              refine x_iconst h dX7_text_63 ?_
              refine x_V1v h dX7_text_64 m_ml_X7_326 m_im_X7_must m_se_X7_must (sM0 hm) rfl (by decide) rfl (c_X7_must hm hb hzo2 (Or.inr rfl)) ?_
              rw [zMu_g (by decide)]
              have hs33 : tkS (btN M) (tjN (btN M) r).1 = 3 := hg59.mpr q59
              rw [if_neg hs3, if_pos hs33] at h1
              rw [tI_p ⟨hP, hs33⟩] at h2
              refine x_aload_n h dX7_text_67 rfl ?_
              refine x_V0v h dX7_text_68 m_ml_X7_365 m_im_X7_readItem m_se_X7_readItem (sM0 hm) rfl (by decide) rfl (c_X7_readItem hm hφ hb (z := zG (btN M) (tkE (btN M) (tjN (btN M) r).1)) ⟨tkE_R hb hq2, by have h1 := tkB_x hb (tkE_R hb hq2); have h2 := tkE_R hb hq2; show 0 ≤ tkB (btN M) (tkE (btN M) (tjN (btN M) r).1) ∧ tkB (btN M) (tkE (btN M) (tjN (btN M) r).1) ≤ M 0 16; omega, Or.inl rfl, fun _ => rfl⟩ rfl hks (by omega) hpe2) ?_
              refine x_goto h dX7_text_71 (tgt := 33) (by decide) ?_
              refine ih (i + 1) (tkE (btN M) (tjN (btN M) r).1, (tjN (btN M) r).2) pb (by omega) (by show (tjN (btN M) r).2.1 = _; omega) ?_ ⟨⟨tkE_R hb hq2, hO2.1.2⟩, hO2.2⟩ hA hrow2 h1 h2
              show 2 * (((i + 1 : Nat)) : Int) ≤ tkE (btN M) (tjN (btN M) r).1
              have := hEm.2 hs3
              omega
      · obtain ⟨v1, v2⟩ := w3 hP
        rw [tI_n hP] at h1
        generalize riZ (btN M) (zG (btN M) r.1) r.2.2.1 = z at hzO v1 v2 ⊢
        refine x_aload_n h dX7_text_33 rfl ?_
        refine x_geti (j := 21) 21 h dX7_text_34 (sM0 hm) rfl in_X7 rfl (by decide) m_fl_X7_320 rfl (fun r34 => ?_)
        try simp only [nz_r17, nz_r18, nz_r19, nz_r20, nz_r21, nz_r24, nz_r25, nz_r16, nz_r9, nz_r1, nz_r11, nz_b] at r34 ⊢
        refine x_if_ne h dX7_text_37 (tgt := 74) (by decide) (by omega) (fun q37 => ?_) (fun q37 => ?_)
        · exact HF z _ _ _ hzO v1 (by rw [v2]; exact h1.symm)
        · exfalso; omega
  refine x_aload_n h dX7_text_0 rfl ?_
  refine x_iconst h dX7_text_1 ?_
  refine x_puti (j := 18) 18 h dX7_text_2 (sM0 hm) rfl in_X7 rfl (by decide) m_fl_X7_298 tyX7_ok nmX7 rfl (tyX7_ok 18 (by decide)) rfl rfl (by omega) rfl ?_
  rw [show up M 0 18 0 = nrM M (M 0 17) 0 (M 0 19) (M 0 20) (M 0 21) (M 0 24) (M 0 25) (M 11) from by conv => { lhs; rw [← nr_id M] }; exact nr_18]
  refine x_aload_n h dX7_text_5 rfl ?_
  refine x_iconst h dX7_text_6 ?_
  refine x_puti (j := 21) 21 h dX7_text_7 (sM0 hm) rfl in_X7 rfl (by decide) m_fl_X7_320 tyX7_ok nmX7 rfl (tyX7_ok 21 (by decide)) rfl rfl (by omega) rfl ?_
  rw [nr_21]
  refine x_aload_n h dX7_text_10 rfl ?_
  refine x_iconst h dX7_text_11 ?_
  refine x_puti (j := 24) 24 h dX7_text_12 (sM0 hm) rfl in_X7 rfl (by decide) m_fl_X7_330 tyX7_ok nmX7 rfl (tyX7_ok 24 (by decide)) rfl rfl (by omega) rfl ?_
  rw [nr_24]
  refine x_aload_n h dX7_text_15 rfl ?_
  refine x_aload_n h dX7_text_16 rfl ?_
  refine x_getr (j := 0) (q := 1) h dX7_text_17 (sM0 hm) rfl in_X7 rfl (by decide) m_fl_X7_9 ?_
  refine x_iconst h dX7_text_20 ?_
  refine x_iaload h dX7_text_21 (sM1 hm) (by omega) (fun r21 => ?_)
  rw [nr_r1]
  refine x_puti (j := 25) 25 h dX7_text_22 (sM0 hm) rfl in_X7 rfl (by decide) m_fl_X7_343 tyX7_ok nmX7 rfl (tyX7_ok 25 (by decide)) rfl rfl (by omega) rfl ?_
  rw [nr_25]
  refine x_aload_n h dX7_text_25 rfl ?_
  refine x_V0v h dX7_text_26 m_ml_X7_323 m_im_X7_next0 m_se_X7_next0 (sM0 hm) rfl (by decide) rfl (c_X7_next0 hm hb ⟨Int.le_refl 0, hb.1.1⟩) ?_
  refine x_mem (M' := nzM M (zG (btN M) 0) 0 (M 1 1) (M 11)) rfl ?_
  refine x_aload_n h dX7_text_29 rfl ?_
  refine x_V0v h dX7_text_30 m_ml_X7_365 m_im_X7_readItem m_se_X7_readItem (sM0 hm) rfl (by decide) rfl (c_X7_readItem hm hφ hb (z := zG (btN M) 0) ⟨⟨Int.le_refl 0, hb.1.1⟩, by have h1 := tkB_x hb ⟨Int.le_refl 0, hb.1.1⟩; show 0 ≤ tkB (btN M) 0 ∧ tkB (btN M) 0 ≤ M 0 16; omega, Or.inl rfl, fun _ => rfl⟩ rfl hks (by decide) hn) ?_
  exact HH 119 0 (0, 0, M 1 1, C) (M 11) (by omega) rfl (by show 2 * ((0 : Nat) : Int) ≤ 0; decide) ⟨⟨⟨Int.le_refl 0, hb.1.1⟩, ⟨by show (0 : Int) ≤ 0; omega, by show (0 : Int) ≤ 120; omega⟩, hn, hC⟩, 0, rfl, rfl, fun j hj => absurd hj (Nat.not_lt_zero j)⟩ (hR 11) (fun j hj => absurd hj (Nat.not_lt_zero j)) rfl rfl

