/-! the reference: its reader: words, numbers -/
abbrev ZsT : Type := Int × Int × Int
noncomputable def nzM (M : xMem) (z : ZsT) (it pe : Int) (pa : Int → Int) : xMem := nsM M z.1 z.2.1 z.2.2 it pe pa
noncomputable def zAd (b : Int → Int) (q : Int) : ZsT := (tkE b q, tkB b (tkE b q), 0)
noncomputable def zMu (b : Int → Int) (z : ZsT) (C : Prop) : ZsT := tI (z.2.2 = 0 ∧ C) (zAd b z.1) (z.1, z.2.1, 1)
noncomputable def zNu (b : Int → Int) (z : ZsT) (m : Int) : ZsT := zMu b z (nuP b z.1 m)
noncomputable def zIn (b : Int → Int) (z : ZsT) (i : Nat) : ZsT := tI (z.2.2 = 0 ∧ wdP b z.1 i) (zAd b z.1) z
noncomputable def zAn (b : Int → Int) (z : ZsT) (m v : Int) : ZsT := tI (z.2.2 = 0 ∧ nuP b z.1 m ∧ tkV b z.1 = v) (tkE b z.1, z.2.1, 1) (zNu b z m)
noncomputable def zOp (b : Int → Int) (z : ZsT) (i : Nat) (m : Int) : ZsT := tI (z.2.2 = 0 ∧ wdP b z.1 i) (zNu b (zIn b z i) m) (zIn b z i)
noncomputable def zOv (b : Int → Int) (z : ZsT) (i : Nat) (wo : Int) : Int := tI (z.2.2 = 0 ∧ wdP b z.1 i) (tkV b (zIn b z i).1) wo
def zO (b : Int → Int) (n : Int) (z : ZsT) : Prop := (0 ≤ z.1 ∧ z.1 ≤ n) ∧ (0 ≤ z.2.1 ∧ z.2.1 ≤ n) ∧ (z.2.2 = 0 ∨ z.2.2 = 1) ∧ (z.2.2 = 0 → z.2.1 = tkB b z.1)
def itF (pa : Int → Int) (it h a c d : Int) : Int → Int := ur (ur (ur (ur pa (4 * it) h) (4 * it + 1) a) (4 * it + 2) c) (4 * it + 3) d
section ZO
variable {b : Int → Int} {n : Int} {z : ZsT}
theorem zAd_O (hb : BtO b n) {q : Int} (hq : 0 ≤ q ∧ q ≤ n) : zO b n (zAd b q) := by
  have h1 := tkE_R hb hq
  have h2 := tkB_x hb h1
  exact ⟨h1, by show 0 ≤ tkB b (tkE b q) ∧ tkB b (tkE b q) ≤ n; omega, Or.inl rfl, fun _ => rfl⟩
theorem zMu_O (hb : BtO b n) (h : zO b n z) {C : Prop} : zO b n (zMu b z C) := by
  unfold zMu tI
  split
  · exact zAd_O hb h.1
  · exact ⟨h.1, h.2.1, Or.inr rfl, fun y => absurd (show (1 : Int) = 0 from y) (by decide)⟩
theorem zNu_O (hb : BtO b n) (h : zO b n z) {m : Int} : zO b n (zNu b z m) := zMu_O hb h
theorem zIn_O (hb : BtO b n) (h : zO b n z) {i : Nat} : zO b n (zIn b z i) := by
  unfold zIn tI
  split
  · exact zAd_O hb h.1
  · exact h
theorem zAn_O (hb : BtO b n) (h : zO b n z) {m v : Int} : zO b n (zAn b z m v) := by
  unfold zAn tI
  split
  · exact ⟨tkE_R hb h.1, h.2.1, Or.inr rfl, fun y => absurd y (by show ¬ (1 : Int) = 0; decide)⟩
  · exact zNu_O hb h
theorem zOp_O (hb : BtO b n) (h : zO b n z) {i : Nat} {m : Int} : zO b n (zOp b z i m) := by
  unfold zOp tI
  split
  · exact zNu_O hb (zIn_O hb h)
  · exact zIn_O hb h
theorem zOv_R (hb : BtO b n) (h : zO b n z) {i : Nat} {wo : Int} (hw : inR wo) : inR (zOv b z i wo) := by
  have := tkV_R hb (zIn_O hb h (i := i)).1
  unfold zOv tI
  split
  · omega
  · exact hw
theorem nz_R {M : xMem} {z z2 : ZsT} {it pe i2 p2 : Int} {pa pa2 : Int → Int} (hR : xR (nzM M z it pe pa)) (hb : BtO (btN M) (M 0 16)) (h : zO (btN M) (M 0 16) z2) (h3 : inR i2) (h4 : inR p2) (h5 : ∀ j, inR (pa2 j)) : xR (nzM M z2 i2 p2 pa2) := by
  have h1 := h.2.1
  have h2 := h.2.2.1
  have hn := hb.1
  exact ns_R hR hb h.1 (by omega) (by omega) h3 h4 h5
theorem itF_R {pa : Int → Int} {it h a c d : Int} (hp : ∀ k, inR (pa k)) (h1 : inR h) (h2 : inR a) (h3 : inR c) (h4 : inR d) : ∀ k, inR (itF pa it h a c d k) := ur_R (ur_R (ur_R (ur_R hp h1) h2) h3) h4
end ZO
section NZ
variable {M : xMem} {z : ZsT} {it pe x : Int} {pa : Int → Int}
theorem nz_r17 : nzM M z it pe pa 0 17 = z.2.1 := rfl
theorem nz_r18 : nzM M z it pe pa 0 18 = tkE (btN M) z.1 := rfl
theorem nz_r19 : nzM M z it pe pa 0 19 = min 3 (tkS (btN M) z.1) := rfl
theorem nz_r20 : nzM M z it pe pa 0 20 = tkV (btN M) z.1 := rfl
theorem nz_r21 : nzM M z it pe pa 0 21 = z.2.2 := rfl
theorem nz_r24 : nzM M z it pe pa 0 24 = it := rfl
theorem nz_r25 : nzM M z it pe pa 0 25 = pe := rfl
theorem nz_r16 : nzM M z it pe pa 0 16 = M 0 16 := rfl
theorem nz_r9 : nzM M z it pe pa 9 = M 9 := rfl
theorem nz_r1 : nzM M z it pe pa 1 = M 1 := rfl
theorem nz_r11 : nzM M z it pe pa 11 = pa := rfl
theorem nz_b : btN (nzM M z it pe pa) = btN M := rfl
theorem nz_17 : up (nzM M z it pe pa) 0 17 x = nzM M (z.1, x, z.2.2) it pe pa := nr_17
theorem nz_21 : up (nzM M z it pe pa) 0 21 x = nzM M (z.1, z.2.1, x) it pe pa := nr_21
theorem nz_24 : up (nzM M z it pe pa) 0 24 x = nzM M z x pe pa := nr_24
theorem nz_25 : up (nzM M z it pe pa) 0 25 x = nzM M z it x pa := nr_25
theorem nz_11 {j : Int} : up (nzM M z it pe pa) 11 j x = nzM M z it pe (ur pa j x) := nr_11
end NZ
theorem c_X7_next0Z {l : Launch} {ω : xO} {ks : Nat → Option Nat} (hm : xsh ω = mdS ks) {M : xMem} {z : ZsT} {it pe : Int} {pa : Int → Int} (hb : BtO (btN M) (M 0 16)) (hq : 0 ≤ z.1 ∧ z.1 ≤ M 0 16) : Ct l ω yX7_next0 ({ frames := 1, cells := 0, slots := 0, locals := 22 } : Room) 2 0 [.ref (xad ω 0)] (nzM M z it pe pa) none (nzM M (tkE (btN M) z.1, tkB (btN M) (tkE (btN M) z.1), z.2.2) it pe pa) :=
  c_X7_next0S hm hb hq
theorem dX7_must_0 : decode cX7_must 0 = .ok (.aload_n 0, 1) := by decide +kernel
theorem dX7_must_1 : decode cX7_must 1 = .ok (.aload_n 0, 1) := by decide +kernel
theorem dX7_must_2 : decode cX7_must 2 = .ok (.getfield 320, 3) := by decide +kernel
theorem dX7_must_5 : decode cX7_must 5 = .ok (.ifCond .ne 7, 3) := by decide +kernel
theorem dX7_must_8 : decode cX7_must 8 = .ok (.iload_n 1, 1) := by decide +kernel
theorem dX7_must_9 : decode cX7_must 9 = .ok (.ifCond .ne 7, 3) := by decide +kernel
theorem dX7_must_12 : decode cX7_must 12 = .ok (.iconst 1, 1) := by decide +kernel
theorem dX7_must_13 : decode cX7_must 13 = .ok (.goto 4, 3) := by decide +kernel
theorem dX7_must_16 : decode cX7_must 16 = .ok (.iconst 0, 1) := by decide +kernel
theorem dX7_must_17 : decode cX7_must 17 = .ok (.putfield 320, 3) := by decide +kernel
theorem dX7_must_20 : decode cX7_must 20 = .ok (.aload_n 0, 1) := by decide +kernel
theorem dX7_must_21 : decode cX7_must 21 = .ok (.getfield 320, 3) := by decide +kernel
theorem dX7_must_24 : decode cX7_must 24 = .ok (.ifCond .ne 7, 3) := by decide +kernel
theorem dX7_must_27 : decode cX7_must 27 = .ok (.aload_n 0, 1) := by decide +kernel
theorem dX7_must_28 : decode cX7_must 28 = .ok (.invokevirtual 323, 3) := by decide +kernel
theorem dX7_must_31 : decode cX7_must 31 = .ok (.return_, 1) := by decide +kernel
set_option maxHeartbeats 800000 in
set_option maxRecDepth 100000 in
theorem c_X7_must {l : Launch} {ω : xO} {ks : Nat → Option Nat} (hm : xsh ω = mdS ks) {z : ZsT} {it pe : Int} {pa : Int → Int} {c : Int} {M : xMem} (hb : BtO (btN M) (M 0 16)) (hz : zO (btN M) (M 0 16) z) (hcc : c = 0 ∨ c = 1) : Ct l ω yX7_must ({ frames := 2, cells := 0, slots := 0, locals := 43 } : Room) 2 1 [.ref (xad ω 0), .int (iI c)] (nzM M z it pe pa) none (nzM M (zMu (btN M) z (c = 1)) it pe pa) := by
  refine Ct.of (bytes := cX7_must) (ret := none) (lv0 := [some (.ref (xad ω 0)), some (.int (iI c))]) m_cd_X7_must m_in_X7 (by decide +kernel) (by decide +kernel) rfl rfl rfl rfl (fun hR => nz_R hR hb (zMu_O hb hz) (hR 0 24) (hR 0 25) (hR 11)) ?_
  intro κ h he hR
  have hn := hb.1
  have hz1 := hz.1
  have hz2 := hz.2.1
  have hz3 := hz.2.2.1
  have hSR := tkS_R (btN M) z.1
  have hVR := tkV_R hb hz.1
  have hBx := tkB_x hb hz.1
  have hEx := tkE_x hb hz.1
  refine x_aload_n h dX7_must_0 rfl ?_
  refine x_aload_n h dX7_must_1 rfl ?_
  refine x_geti (j := 21) 21 h dX7_must_2 (sM0 hm) rfl in_X7 rfl (by decide) m_fl_X7_320 rfl (fun r2 => ?_)
  try simp only [nz_r17, nz_r18, nz_r19, nz_r20, nz_r21, nz_r24, nz_r25, nz_r16, nz_r9, nz_r1, nz_r11, nz_b] at r2 ⊢
  refine x_if_ne h dX7_must_5 (tgt := 12) (by decide) (by omega) (fun q5 => ?_) (fun q5 => ?_)
  · refine x_iconst h dX7_must_12 ?_
    refine x_goto h dX7_must_13 (tgt := 17) (by decide) ?_
    refine x_puti (j := 21) 21 h dX7_must_17 (sM0 hm) rfl in_X7 rfl (by decide) m_fl_X7_320 tyX7_ok nmX7 rfl (tyX7_ok 21 (by decide)) rfl rfl (by omega) rfl ?_
    rw [nz_21]
    refine x_aload_n h dX7_must_20 rfl ?_
    refine x_geti (j := 21) 21 h dX7_must_21 (sM0 hm) rfl in_X7 rfl (by decide) m_fl_X7_320 rfl (fun r21 => ?_)
    try simp only [nz_r17, nz_r18, nz_r19, nz_r20, nz_r21, nz_r24, nz_r25, nz_r16, nz_r9, nz_r1, nz_r11, nz_b] at r21 ⊢
    refine x_if_ne h dX7_must_24 (tgt := 31) (by decide) (by omega) (fun q24 => ?_) (fun q24 => ?_)
    · exact x_vret h he dX7_must_31 (by unfold zMu; first | (exfalso; omega) | rw [tI_n (fun y => by have := y.1; have := y.2; omega)] | (rw [tI_p ⟨by omega, by omega⟩]; rfl))
    · refine x_aload_n h dX7_must_27 rfl ?_
      refine x_V0v h dX7_must_28 m_ml_X7_323 m_im_X7_next0 m_se_X7_next0 (sM0 hm) rfl (by decide) rfl (c_X7_next0Z hm hb hz1) ?_
      exact x_vret h he dX7_must_31 (by unfold zMu; first | (exfalso; omega) | rw [tI_n (fun y => by have := y.1; have := y.2; omega)] | (rw [tI_p ⟨by omega, by omega⟩]; rfl))
  · refine x_iload_n h dX7_must_8 rfl ?_
    refine x_if_ne h dX7_must_9 (tgt := 16) (by decide) (by omega) (fun q9 => ?_) (fun q9 => ?_)
    · refine x_iconst h dX7_must_16 ?_
      refine x_puti (j := 21) 21 h dX7_must_17 (sM0 hm) rfl in_X7 rfl (by decide) m_fl_X7_320 tyX7_ok nmX7 rfl (tyX7_ok 21 (by decide)) rfl rfl (by omega) rfl ?_
      rw [nz_21]
      refine x_aload_n h dX7_must_20 rfl ?_
      refine x_geti (j := 21) 21 h dX7_must_21 (sM0 hm) rfl in_X7 rfl (by decide) m_fl_X7_320 rfl (fun r21 => ?_)
      try simp only [nz_r17, nz_r18, nz_r19, nz_r20, nz_r21, nz_r24, nz_r25, nz_r16, nz_r9, nz_r1, nz_r11, nz_b] at r21 ⊢
      refine x_if_ne h dX7_must_24 (tgt := 31) (by decide) (by omega) (fun q24 => ?_) (fun q24 => ?_)
      · exact x_vret h he dX7_must_31 (by unfold zMu; first | (exfalso; omega) | rw [tI_n (fun y => by have := y.1; have := y.2; omega)] | (rw [tI_p ⟨by omega, by omega⟩]; rfl))
      · refine x_aload_n h dX7_must_27 rfl ?_
        refine x_V0v h dX7_must_28 m_ml_X7_323 m_im_X7_next0 m_se_X7_next0 (sM0 hm) rfl (by decide) rfl (c_X7_next0Z hm hb hz1) ?_
        exact x_vret h he dX7_must_31 (by unfold zMu; first | (exfalso; omega) | rw [tI_n (fun y => by have := y.1; have := y.2; omega)] | (rw [tI_p ⟨by omega, by omega⟩]; rfl))
    · refine x_iconst h dX7_must_12 ?_
      refine x_goto h dX7_must_13 (tgt := 17) (by decide) ?_
      refine x_puti (j := 21) 21 h dX7_must_17 (sM0 hm) rfl in_X7 rfl (by decide) m_fl_X7_320 tyX7_ok nmX7 rfl (tyX7_ok 21 (by decide)) rfl rfl (by omega) rfl ?_
      rw [nz_21]
      refine x_aload_n h dX7_must_20 rfl ?_
      refine x_geti (j := 21) 21 h dX7_must_21 (sM0 hm) rfl in_X7 rfl (by decide) m_fl_X7_320 rfl (fun r21 => ?_)
      try simp only [nz_r17, nz_r18, nz_r19, nz_r20, nz_r21, nz_r24, nz_r25, nz_r16, nz_r9, nz_r1, nz_r11, nz_b] at r21 ⊢
      refine x_if_ne h dX7_must_24 (tgt := 31) (by decide) (by omega) (fun q24 => ?_) (fun q24 => ?_)
      · exact x_vret h he dX7_must_31 (by unfold zMu; first | (exfalso; omega) | rw [tI_n (fun y => by have := y.1; have := y.2; omega)] | (rw [tI_p ⟨by omega, by omega⟩]; rfl))
      · refine x_aload_n h dX7_must_27 rfl ?_
        refine x_V0v h dX7_must_28 m_ml_X7_323 m_im_X7_next0 m_se_X7_next0 (sM0 hm) rfl (by decide) rfl (c_X7_next0Z hm hb hz1) ?_
        exact x_vret h he dX7_must_31 (by unfold zMu; first | (exfalso; omega) | rw [tI_n (fun y => by have := y.1; have := y.2; omega)] | (rw [tI_p ⟨by omega, by omega⟩]; rfl))

theorem c_X7_mustB {l : Launch} {ω : xO} {ks : Nat → Option Nat} (hm : xsh ω = mdS ks) {z : ZsT} {it pe : Int} {pa : Int → Int} {C : Prop} {M : xMem} (hb : BtO (btN M) (M 0 16)) (hz : zO (btN M) (M 0 16) z) : Ct l ω yX7_must ({ frames := 2, cells := 0, slots := 0, locals := 43 } : Room) 2 1 [.ref (xad ω 0), .int (iI (bI C))] (nzM M z it pe pa) none (nzM M (zMu (btN M) z C) it pe pa) := by
  have h := c_X7_must (l := l) hm (it := it) (pe := pe) (pa := pa) (c := bI C) hb hz (bI_01 C)
  have e : (bI C = 1) = C := propext ⟨fun y => Classical.byContradiction fun g => by rw [bI_f g] at y; exact absurd y (by decide), bI_t⟩
  rw [e] at h
  exact h
theorem bI_1 {C : Prop} (h : C) : (1 : Int) = bI C := (bI_t h).symm
theorem bI_00 {C : Prop} (h : ¬ C) : (0 : Int) = bI C := (bI_f h).symm
theorem dX7_isWord_0 : decode cX7_isWord 0 = .ok (.aload_n 0, 1) := by decide +kernel
theorem dX7_isWord_1 : decode cX7_isWord 1 = .ok (.getfield 310, 3) := by decide +kernel
theorem dX7_isWord_4 : decode cX7_isWord 4 = .ok (.iconst 1, 1) := by decide +kernel
theorem dX7_isWord_5 : decode cX7_isWord 5 = .ok (.if_icmp .ne 23, 3) := by decide +kernel
theorem dX7_isWord_8 : decode cX7_isWord 8 = .ok (.aload_n 0, 1) := by decide +kernel
theorem dX7_isWord_9 : decode cX7_isWord 9 = .ok (.getfield 298, 3) := by decide +kernel
theorem dX7_isWord_12 : decode cX7_isWord 12 = .ok (.aload_n 0, 1) := by decide +kernel
theorem dX7_isWord_13 : decode cX7_isWord 13 = .ok (.getfield 301, 3) := by decide +kernel
theorem dX7_isWord_16 : decode cX7_isWord 16 = .ok (.isub, 1) := by decide +kernel
theorem dX7_isWord_17 : decode cX7_isWord 17 = .ok (.aload_n 1, 1) := by decide +kernel
theorem dX7_isWord_18 : decode cX7_isWord 18 = .ok (.invokevirtual 313, 3) := by decide +kernel
theorem dX7_isWord_21 : decode cX7_isWord 21 = .ok (.if_icmp .ne 7, 3) := by decide +kernel
theorem dX7_isWord_24 : decode cX7_isWord 24 = .ok (.iconst 1, 1) := by decide +kernel
theorem dX7_isWord_25 : decode cX7_isWord 25 = .ok (.goto 4, 3) := by decide +kernel
theorem dX7_isWord_28 : decode cX7_isWord 28 = .ok (.iconst 0, 1) := by decide +kernel
theorem dX7_isWord_29 : decode cX7_isWord 29 = .ok (.istore_n 2, 1) := by decide +kernel
theorem dX7_isWord_30 : decode cX7_isWord 30 = .ok (.iconst 0, 1) := by decide +kernel
theorem dX7_isWord_31 : decode cX7_isWord 31 = .ok (.istore_n 3, 1) := by decide +kernel
theorem dX7_isWord_32 : decode cX7_isWord 32 = .ok (.iload_n 3, 1) := by decide +kernel
theorem dX7_isWord_33 : decode cX7_isWord 33 = .ok (.aload_n 1, 1) := by decide +kernel
theorem dX7_isWord_34 : decode cX7_isWord 34 = .ok (.invokevirtual 313, 3) := by decide +kernel
theorem dX7_isWord_37 : decode cX7_isWord 37 = .ok (.if_icmp .ge 38, 3) := by decide +kernel
theorem dX7_isWord_40 : decode cX7_isWord 40 = .ok (.iload_n 2, 1) := by decide +kernel
theorem dX7_isWord_41 : decode cX7_isWord 41 = .ok (.ifCond .eq 34, 3) := by decide +kernel
theorem dX7_isWord_44 : decode cX7_isWord 44 = .ok (.aload_n 0, 1) := by decide +kernel
theorem dX7_isWord_45 : decode cX7_isWord 45 = .ok (.getfield 34, 3) := by decide +kernel
theorem dX7_isWord_48 : decode cX7_isWord 48 = .ok (.aload_n 0, 1) := by decide +kernel
theorem dX7_isWord_49 : decode cX7_isWord 49 = .ok (.getfield 301, 3) := by decide +kernel
theorem dX7_isWord_52 : decode cX7_isWord 52 = .ok (.iload_n 3, 1) := by decide +kernel
theorem dX7_isWord_53 : decode cX7_isWord 53 = .ok (.iadd, 1) := by decide +kernel
theorem dX7_isWord_54 : decode cX7_isWord 54 = .ok (.iaload, 1) := by decide +kernel
theorem dX7_isWord_55 : decode cX7_isWord 55 = .ok (.aload_n 1, 1) := by decide +kernel
theorem dX7_isWord_56 : decode cX7_isWord 56 = .ok (.iload_n 3, 1) := by decide +kernel
theorem dX7_isWord_57 : decode cX7_isWord 57 = .ok (.invokevirtual 316, 3) := by decide +kernel
theorem dX7_isWord_60 : decode cX7_isWord 60 = .ok (.if_icmp .ne 7, 3) := by decide +kernel
theorem dX7_isWord_63 : decode cX7_isWord 63 = .ok (.iconst 1, 1) := by decide +kernel
theorem dX7_isWord_64 : decode cX7_isWord 64 = .ok (.goto 4, 3) := by decide +kernel
theorem dX7_isWord_67 : decode cX7_isWord 67 = .ok (.iconst 0, 1) := by decide +kernel
theorem dX7_isWord_68 : decode cX7_isWord 68 = .ok (.istore_n 2, 1) := by decide +kernel
theorem dX7_isWord_69 : decode cX7_isWord 69 = .ok (.iinc 3 1, 3) := by decide +kernel
theorem dX7_isWord_72 : decode cX7_isWord 72 = .ok (.goto (-40), 3) := by decide +kernel
theorem dX7_isWord_75 : decode cX7_isWord 75 = .ok (.iload_n 2, 1) := by decide +kernel
theorem dX7_isWord_76 : decode cX7_isWord 76 = .ok (.ireturn, 1) := by decide +kernel
set_option maxHeartbeats 800000 in
set_option maxRecDepth 100000 in
theorem c_X7_isWord {l : Launch} {ω : xO} {ks : Nat → Option Nat} (hm : xsh ω = mdS ks) {ki vi : Nat → Nat} {z : ZsT} {it pe : Int} {pa : Int → Int} {i : Nat} {M : xMem} (hφ : xph ω = xStr ki vi (xA ω)) (hb : BtO (btN M) (M 0 16)) (hz : zO (btN M) (M 0 16) z) (hg : z.2.1 = tkB (btN M) z.1) (hi : i < 24) : Ct l ω yX7_isWord ({ frames := 4, cells := 0, slots := 0, locals := 85 } : Room) 4 1 [.ref (xad ω 0), .ref (ki i)] (nzM M z it pe pa) (some (.int (iI (bI (wdP (btN M) z.1 i))))) (nzM M z it pe pa) := by
  refine Ct.of (bytes := cX7_isWord) (ret := (some .boolean)) (lv0 := [some (.ref (xad ω 0)), some (.ref (ki i)), none, none]) m_cd_X7_isWord m_in_X7 (by decide +kernel) (by decide +kernel) rfl rfl rfl rfl (fun hR => hR) ?_
  intro κ h he hR
  have hn := hb.1
  have hz1 := hz.1
  have hz2 := hz.2.1
  have hz3 := hz.2.2.1
  have hSR := tkS_R (btN M) z.1
  have hVR := tkV_R hb hz.1
  have hBx := tkB_x hb hz.1
  have hEx := tkE_x hb hz.1
  have h20 := (stQ_i i hi).2
  have h20 := (stQ_i i hi).2
  have hbr : ∀ k : Int, 0 ≤ k → -1 ≤ btN M k ∧ btN M k ≤ 255 := by
    intro k hk
    by_cases gk : k < M 0 16
    · have := hb.2.2 k hk gk; omega
    · rw [hb.2.1 k (by omega)]; decide
  have H0 : ¬ wdP (btN M) z.1 i → ∀ k : Nat, (k : Int) ≤ stQ i → X ω κ 32 [some (.ref (xad ω 0)), some (.ref (ki i)), some (.int (iI 0)), some (.int (iI (k : Int)))] [] (nzM M z it pe pa) := by
    intro hno k hk
    refine x_iload_n h dX7_isWord_32 rfl ?_
    refine x_aload_n h dX7_isWord_33 rfl ?_
    refine x_VSlen (i := i) h hφ hi dX7_isWord_34 m_ml_X7_313 (by decide) rfl ?_
    refine x_icmp_ge h dX7_isWord_37 (tgt := 75) (by decide) (by omega) (by omega) (fun q37 => ?_) (fun q37 => ?_)
    · refine x_iload_n h dX7_isWord_75 rfl ?_
      exact x_zret h he dX7_isWord_76 (by first | exact Or.inl rfl | exact Or.inr rfl | exact bI_01 _ | omega) rfl (bI_f hno).symm rfl
    · refine x_iload_n h dX7_isWord_40 rfl ?_
      refine x_if_eq h dX7_isWord_41 (tgt := 75) (by decide) (by omega) (fun q41 => ?_) (fun q41 => ?_)
      · refine x_iload_n h dX7_isWord_75 rfl ?_
        exact x_zret h he dX7_isWord_76 (by first | exact Or.inl rfl | exact Or.inr rfl | exact bI_01 _ | omega) rfl (bI_f hno).symm rfl
      · exact absurd rfl q41
  have HH : tkS (btN M) z.1 = 1 → tkE (btN M) z.1 - z.2.1 = (stQ i : Int) → ∀ (d k : Nat), k + d = stQ i → (∀ j : Nat, j < k → btN M (z.2.1 + j) = stB i j) → X ω κ 32 [some (.ref (xad ω 0)), some (.ref (ki i)), some (.int (iI 1)), some (.int (iI (k : Int)))] [] (nzM M z it pe pa) := by
    intro g1 g2 d
    induction d with
    | zero =>
      intro k e hk
      have ek : k = stQ i := by omega
      subst ek
      refine x_iload_n h dX7_isWord_32 rfl ?_
      refine x_aload_n h dX7_isWord_33 rfl ?_
      refine x_VSlen (i := i) h hφ hi dX7_isWord_34 m_ml_X7_313 (by decide) rfl ?_
      refine x_icmp_ge h dX7_isWord_37 (tgt := 75) (by decide) (by omega) (by omega) (fun q37 => ?_) (fun q37 => ?_)
      · refine x_iload_n h dX7_isWord_75 rfl ?_
        exact x_zret h he dX7_isWord_76 (by first | exact Or.inl rfl | exact Or.inr rfl | exact bI_01 _ | omega) rfl (bI_t ⟨g1, by rw [← hg]; exact g2, fun j hj => by rw [← hg]; exact hk j hj⟩).symm rfl
      · exfalso; omega
    | succ d ih =>
      intro k e hk
      have hlt : z.2.1 + (k : Int) < M 0 16 := by omega
      have hbk := hbr (z.2.1 + k) (by omega)
      have hsb := stB_i i hi k (by omega)
      have e9 : M 9 (z.2.1 + (k : Int)) = btN M (z.2.1 + k) := by unfold btN; rw [if_pos (by omega)]
      refine x_iload_n h dX7_isWord_32 rfl ?_
      refine x_aload_n h dX7_isWord_33 rfl ?_
      refine x_VSlen (i := i) h hφ hi dX7_isWord_34 m_ml_X7_313 (by decide) rfl ?_
      refine x_icmp_ge h dX7_isWord_37 (tgt := 75) (by decide) (by omega) (by omega) (fun q37 => ?_) (fun q37 => ?_)
      · exfalso; omega
      · refine x_iload_n h dX7_isWord_40 rfl ?_
        refine x_if_eq h dX7_isWord_41 (tgt := 75) (by decide) (by omega) (fun q41 => ?_) (fun q41 => ?_)
        · exact absurd q41 (by decide)
        · refine x_aload_n h dX7_isWord_44 rfl ?_
          refine x_getr (j := 15) (q := 9) h dX7_isWord_45 (sM0 hm) rfl in_X7 rfl (by decide) m_fl_X7_34 ?_
          refine x_aload_n h dX7_isWord_48 rfl ?_
          refine x_geti (j := 17) 17 h dX7_isWord_49 (sM0 hm) rfl in_X7 rfl (by decide) m_fl_X7_301 rfl (fun r49 => ?_)
          try simp only [nz_r17, nz_r18, nz_r19, nz_r20, nz_r21, nz_r24, nz_r25, nz_r16, nz_r9, nz_r1, nz_r11, nz_b] at r49 ⊢
          refine x_iload_n h dX7_isWord_52 rfl ?_
          refine x_iadd h dX7_isWord_53 ?_
          refine x_iaload h dX7_isWord_54 (sM9 hm) (by omega) (fun r54 => ?_)
          try simp only [nz_r17, nz_r18, nz_r19, nz_r20, nz_r21, nz_r24, nz_r25, nz_r16, nz_r9, nz_r1, nz_r11, nz_b] at r54 ⊢
          rw [e9]
          refine x_aload_n h dX7_isWord_55 rfl ?_
          refine x_iload_n h dX7_isWord_56 rfl ?_
          refine x_VSchr (i := i) h hφ hi (by omega) dX7_isWord_57 m_ml_X7_316 (by decide) rfl ?_
          refine x_icmp_ne h dX7_isWord_60 (tgt := 67) (by decide) (by omega) (by omega) (fun q60 => ?_) (fun q60 => ?_)
          · refine x_iconst h dX7_isWord_67 ?_
            refine x_istore_n h dX7_isWord_68 rfl rfl ?_
            dsimp only [xset]
            refine x_iinc h dX7_isWord_69 rfl rfl rfl ?_
            dsimp only [xset]
            refine x_goto h dX7_isWord_72 (tgt := 32) (by decide) ?_
            first
              | exact ih (k + 1) (by omega) (fun j hj => (Nat.lt_or_ge j k).elim (fun g => hk j g) (fun g => by obtain rfl : j = k := (by omega); exact q60))
              | exact H0 (fun y => q60 (by rw [hg]; exact y.2.2 k (by omega))) (k + 1) (by omega)
          · refine x_iconst h dX7_isWord_63 ?_
            refine x_goto h dX7_isWord_64 (tgt := 68) (by decide) ?_
            refine x_istore_n h dX7_isWord_68 rfl rfl ?_
            dsimp only [xset]
            refine x_iinc h dX7_isWord_69 rfl rfl rfl ?_
            dsimp only [xset]
            refine x_goto h dX7_isWord_72 (tgt := 32) (by decide) ?_
            first
              | exact ih (k + 1) (by omega) (fun j hj => (Nat.lt_or_ge j k).elim (fun g => hk j g) (fun g => by obtain rfl : j = k := (by omega); exact q60))
              | exact H0 (fun y => q60 (by rw [hg]; exact y.2.2 k (by omega))) (k + 1) (by omega)
  refine x_aload_n h dX7_isWord_0 rfl ?_
  refine x_geti (j := 19) 19 h dX7_isWord_1 (sM0 hm) rfl in_X7 rfl (by decide) m_fl_X7_310 rfl (fun r1 => ?_)
  try simp only [nz_r17, nz_r18, nz_r19, nz_r20, nz_r21, nz_r24, nz_r25, nz_r16, nz_r9, nz_r1, nz_r11, nz_b] at r1 ⊢
  refine x_iconst h dX7_isWord_4 ?_
  refine x_icmp_ne h dX7_isWord_5 (tgt := 28) (by decide) (by omega) (by omega) (fun q5 => ?_) (fun q5 => ?_)
  · refine x_iconst h dX7_isWord_28 ?_
    refine x_istore_n h dX7_isWord_29 rfl rfl ?_
    dsimp only [xset]
    refine x_iconst h dX7_isWord_30 ?_
    refine x_istore_n h dX7_isWord_31 rfl rfl ?_
    dsimp only [xset]
    first | exact HH (by omega) (by omega) (stQ i) 0 (by omega) (fun j hj => absurd hj (Nat.not_lt_zero j)) | exact H0 (fun y => by have := y.1; have := y.2.1; omega) 0 (by omega)
  · refine x_aload_n h dX7_isWord_8 rfl ?_
    refine x_geti (j := 18) 18 h dX7_isWord_9 (sM0 hm) rfl in_X7 rfl (by decide) m_fl_X7_298 rfl (fun r9 => ?_)
    try simp only [nz_r17, nz_r18, nz_r19, nz_r20, nz_r21, nz_r24, nz_r25, nz_r16, nz_r9, nz_r1, nz_r11, nz_b] at r9 ⊢
    refine x_aload_n h dX7_isWord_12 rfl ?_
    refine x_geti (j := 17) 17 h dX7_isWord_13 (sM0 hm) rfl in_X7 rfl (by decide) m_fl_X7_301 rfl (fun r13 => ?_)
    try simp only [nz_r17, nz_r18, nz_r19, nz_r20, nz_r21, nz_r24, nz_r25, nz_r16, nz_r9, nz_r1, nz_r11, nz_b] at r13 ⊢
    refine x_isub h dX7_isWord_16 ?_
    refine x_aload_n h dX7_isWord_17 rfl ?_
    refine x_VSlen (i := i) h hφ hi dX7_isWord_18 m_ml_X7_313 (by decide) rfl ?_
    refine x_icmp_ne h dX7_isWord_21 (tgt := 28) (by decide) (by omega) (by omega) (fun q21 => ?_) (fun q21 => ?_)
    · refine x_iconst h dX7_isWord_28 ?_
      refine x_istore_n h dX7_isWord_29 rfl rfl ?_
      dsimp only [xset]
      refine x_iconst h dX7_isWord_30 ?_
      refine x_istore_n h dX7_isWord_31 rfl rfl ?_
      dsimp only [xset]
      first | exact HH (by omega) (by omega) (stQ i) 0 (by omega) (fun j hj => absurd hj (Nat.not_lt_zero j)) | exact H0 (fun y => by have := y.1; have := y.2.1; omega) 0 (by omega)
    · refine x_iconst h dX7_isWord_24 ?_
      refine x_goto h dX7_isWord_25 (tgt := 29) (by decide) ?_
      refine x_istore_n h dX7_isWord_29 rfl rfl ?_
      dsimp only [xset]
      refine x_iconst h dX7_isWord_30 ?_
      refine x_istore_n h dX7_isWord_31 rfl rfl ?_
      dsimp only [xset]
      first | exact HH (by omega) (by omega) (stQ i) 0 (by omega) (fun j hj => absurd hj (Nat.not_lt_zero j)) | exact H0 (fun y => by have := y.1; have := y.2.1; omega) 0 (by omega)

theorem dX7_number_0 : decode cX7_number 0 = .ok (.aload_n 0, 1) := by decide +kernel
theorem dX7_number_1 : decode cX7_number 1 = .ok (.getfield 307, 3) := by decide +kernel
theorem dX7_number_4 : decode cX7_number 4 = .ok (.istore_n 3, 1) := by decide +kernel
theorem dX7_number_5 : decode cX7_number 5 = .ok (.aload_n 0, 1) := by decide +kernel
theorem dX7_number_6 : decode cX7_number 6 = .ok (.aload_n 0, 1) := by decide +kernel
theorem dX7_number_7 : decode cX7_number 7 = .ok (.getfield 310, 3) := by decide +kernel
theorem dX7_number_10 : decode cX7_number 10 = .ok (.iconst 2, 1) := by decide +kernel
theorem dX7_number_11 : decode cX7_number 11 = .ok (.if_icmp .ne 16, 3) := by decide +kernel
theorem dX7_number_14 : decode cX7_number 14 = .ok (.iload_n 3, 1) := by decide +kernel
theorem dX7_number_15 : decode cX7_number 15 = .ok (.iload_n 1, 1) := by decide +kernel
theorem dX7_number_16 : decode cX7_number 16 = .ok (.iload_n 2, 1) := by decide +kernel
theorem dX7_number_17 : decode cX7_number 17 = .ok (.invokestatic 81, 3) := by decide +kernel
theorem dX7_number_20 : decode cX7_number 20 = .ok (.ifCond .eq 7, 3) := by decide +kernel
theorem dX7_number_23 : decode cX7_number 23 = .ok (.iconst 1, 1) := by decide +kernel
theorem dX7_number_24 : decode cX7_number 24 = .ok (.goto 4, 3) := by decide +kernel
theorem dX7_number_27 : decode cX7_number 27 = .ok (.iconst 0, 1) := by decide +kernel
theorem dX7_number_28 : decode cX7_number 28 = .ok (.invokevirtual 326, 3) := by decide +kernel
theorem dX7_number_31 : decode cX7_number 31 = .ok (.iload_n 3, 1) := by decide +kernel
theorem dX7_number_32 : decode cX7_number 32 = .ok (.ireturn, 1) := by decide +kernel
set_option maxHeartbeats 800000 in
set_option maxRecDepth 100000 in
theorem c_X7_number {l : Launch} {ω : xO} {ks : Nat → Option Nat} (hm : xsh ω = mdS ks) {z : ZsT} {it pe : Int} {pa : Int → Int} {m : Int} {M : xMem} (hb : BtO (btN M) (M 0 16)) (hz : zO (btN M) (M 0 16) z) (hmm : inR m) : Ct l ω yX7_number ({ frames := 3, cells := 0, slots := 0, locals := 64 } : Room) 4 2 [.ref (xad ω 0), .int (iI 0), .int (iI m)] (nzM M z it pe pa) (some (.int (iI (tkV (btN M) z.1)))) (nzM M (zNu (btN M) z m) it pe pa) := by
  refine Ct.of (bytes := cX7_number) (ret := (some .int)) (lv0 := [some (.ref (xad ω 0)), some (.int (iI 0)), some (.int (iI m)), none]) m_cd_X7_number m_in_X7 (by decide +kernel) (by decide +kernel) rfl rfl rfl rfl (fun hR => nz_R hR hb (zNu_O hb hz) (hR 0 24) (hR 0 25) (hR 11)) ?_
  intro κ h he hR
  have hn := hb.1
  have hz1 := hz.1
  have hz2 := hz.2.1
  have hz3 := hz.2.2.1
  have hSR := tkS_R (btN M) z.1
  have hVR := tkV_R hb hz.1
  have hBx := tkB_x hb hz.1
  have hEx := tkE_x hb hz.1
  refine x_aload_n h dX7_number_0 rfl ?_
  refine x_geti (j := 20) 20 h dX7_number_1 (sM0 hm) rfl in_X7 rfl (by decide) m_fl_X7_307 rfl (fun r1 => ?_)
  try simp only [nz_r17, nz_r18, nz_r19, nz_r20, nz_r21, nz_r24, nz_r25, nz_r16, nz_r9, nz_r1, nz_r11, nz_b] at r1 ⊢
  refine x_istore_n h dX7_number_4 rfl rfl ?_
  dsimp only [xset]
  refine x_aload_n h dX7_number_5 rfl ?_
  refine x_aload_n h dX7_number_6 rfl ?_
  refine x_geti (j := 19) 19 h dX7_number_7 (sM0 hm) rfl in_X7 rfl (by decide) m_fl_X7_310 rfl (fun r7 => ?_)
  try simp only [nz_r17, nz_r18, nz_r19, nz_r20, nz_r21, nz_r24, nz_r25, nz_r16, nz_r9, nz_r1, nz_r11, nz_b] at r7 ⊢
  refine x_iconst h dX7_number_10 ?_
  refine x_icmp_ne h dX7_number_11 (tgt := 27) (by decide) (by omega) (by omega) (fun q11 => ?_) (fun q11 => ?_)
  · refine x_iconst h dX7_number_27 ?_
    first | (have y20 : ¬ (0 ≤ tkV (btN M) z.1 ∧ tkV (btN M) z.1 ≤ m) := q20; rw [bI_00 (show ¬ nuP (btN M) z.1 m from fun y => y20 ⟨hVR.1, y.2⟩)]) | (have y20 : 0 ≤ tkV (btN M) z.1 ∧ tkV (btN M) z.1 ≤ m := q20; rw [bI_1 (show nuP (btN M) z.1 m from ⟨by omega, y20.2⟩)]) | rw [bI_00 (show ¬ nuP (btN M) z.1 m from fun y => by have := y.1; omega)]
    refine x_V1v h dX7_number_28 m_ml_X7_326 m_im_X7_must m_se_X7_must (sM0 hm) rfl (by decide) rfl (c_X7_mustB hm hb hz) ?_
    refine x_iload_n h dX7_number_31 rfl ?_
    exact x_iret (ret := none) h he dX7_number_32 rfl rfl rfl
  · refine x_iload_n h dX7_number_14 rfl ?_
    refine x_iload_n h dX7_number_15 rfl ?_
    refine x_iload_n h dX7_number_16 rfl ?_
    refine x_S3i h dX7_number_17 m_ml_X7_81 m_st_X7_within (by decide) rfl (c_X7_within hm (by omega) (by omega) (by omega)) ?_
    refine x_ifeqB h dX7_number_20 (tgt := 27) (by decide) (fun q20 => ?_) (fun q20 => ?_)
    · refine x_iconst h dX7_number_27 ?_
      first | (have y20 : ¬ (0 ≤ tkV (btN M) z.1 ∧ tkV (btN M) z.1 ≤ m) := q20; rw [bI_00 (show ¬ nuP (btN M) z.1 m from fun y => y20 ⟨hVR.1, y.2⟩)]) | (have y20 : 0 ≤ tkV (btN M) z.1 ∧ tkV (btN M) z.1 ≤ m := q20; rw [bI_1 (show nuP (btN M) z.1 m from ⟨by omega, y20.2⟩)]) | rw [bI_00 (show ¬ nuP (btN M) z.1 m from fun y => by have := y.1; omega)]
      refine x_V1v h dX7_number_28 m_ml_X7_326 m_im_X7_must m_se_X7_must (sM0 hm) rfl (by decide) rfl (c_X7_mustB hm hb hz) ?_
      refine x_iload_n h dX7_number_31 rfl ?_
      exact x_iret (ret := none) h he dX7_number_32 rfl rfl rfl
    · refine x_iconst h dX7_number_23 ?_
      refine x_goto h dX7_number_24 (tgt := 28) (by decide) ?_
      first | (have y20 : ¬ (0 ≤ tkV (btN M) z.1 ∧ tkV (btN M) z.1 ≤ m) := q20; rw [bI_00 (show ¬ nuP (btN M) z.1 m from fun y => y20 ⟨hVR.1, y.2⟩)]) | (have y20 : 0 ≤ tkV (btN M) z.1 ∧ tkV (btN M) z.1 ≤ m := q20; rw [bI_1 (show nuP (btN M) z.1 m from ⟨by omega, y20.2⟩)]) | rw [bI_00 (show ¬ nuP (btN M) z.1 m from fun y => by have := y.1; omega)]
      refine x_V1v h dX7_number_28 m_ml_X7_326 m_im_X7_must m_se_X7_must (sM0 hm) rfl (by decide) rfl (c_X7_mustB hm hb hz) ?_
      refine x_iload_n h dX7_number_31 rfl ?_
      exact x_iret (ret := none) h he dX7_number_32 rfl rfl rfl

theorem dX7_item_0 : decode cX7_item 0 = .ok (.iconst 4, 1) := by decide +kernel
theorem dX7_item_1 : decode cX7_item 1 = .ok (.aload_n 0, 1) := by decide +kernel
theorem dX7_item_2 : decode cX7_item 2 = .ok (.getfield 330, 3) := by decide +kernel
theorem dX7_item_5 : decode cX7_item 5 = .ok (.imul, 1) := by decide +kernel
theorem dX7_item_6 : decode cX7_item 6 = .ok (.istore 5, 2) := by decide +kernel
theorem dX7_item_8 : decode cX7_item 8 = .ok (.aload_n 0, 1) := by decide +kernel
theorem dX7_item_9 : decode cX7_item 9 = .ok (.getfield 57, 3) := by decide +kernel
theorem dX7_item_12 : decode cX7_item 12 = .ok (.iload 5, 2) := by decide +kernel
theorem dX7_item_14 : decode cX7_item 14 = .ok (.iload_n 1, 1) := by decide +kernel
theorem dX7_item_15 : decode cX7_item 15 = .ok (.iastore, 1) := by decide +kernel
theorem dX7_item_16 : decode cX7_item 16 = .ok (.aload_n 0, 1) := by decide +kernel
theorem dX7_item_17 : decode cX7_item 17 = .ok (.getfield 57, 3) := by decide +kernel
theorem dX7_item_20 : decode cX7_item 20 = .ok (.iload 5, 2) := by decide +kernel
theorem dX7_item_22 : decode cX7_item 22 = .ok (.iconst 1, 1) := by decide +kernel
theorem dX7_item_23 : decode cX7_item 23 = .ok (.iadd, 1) := by decide +kernel
theorem dX7_item_24 : decode cX7_item 24 = .ok (.iload_n 2, 1) := by decide +kernel
theorem dX7_item_25 : decode cX7_item 25 = .ok (.iastore, 1) := by decide +kernel
theorem dX7_item_26 : decode cX7_item 26 = .ok (.aload_n 0, 1) := by decide +kernel
theorem dX7_item_27 : decode cX7_item 27 = .ok (.getfield 57, 3) := by decide +kernel
theorem dX7_item_30 : decode cX7_item 30 = .ok (.iload 5, 2) := by decide +kernel
theorem dX7_item_32 : decode cX7_item 32 = .ok (.iconst 2, 1) := by decide +kernel
theorem dX7_item_33 : decode cX7_item 33 = .ok (.iadd, 1) := by decide +kernel
theorem dX7_item_34 : decode cX7_item 34 = .ok (.iload_n 3, 1) := by decide +kernel
theorem dX7_item_35 : decode cX7_item 35 = .ok (.iastore, 1) := by decide +kernel
theorem dX7_item_36 : decode cX7_item 36 = .ok (.aload_n 0, 1) := by decide +kernel
theorem dX7_item_37 : decode cX7_item 37 = .ok (.getfield 57, 3) := by decide +kernel
theorem dX7_item_40 : decode cX7_item 40 = .ok (.iload 5, 2) := by decide +kernel
theorem dX7_item_42 : decode cX7_item 42 = .ok (.iconst 3, 1) := by decide +kernel
theorem dX7_item_43 : decode cX7_item 43 = .ok (.iadd, 1) := by decide +kernel
theorem dX7_item_44 : decode cX7_item 44 = .ok (.iload 4, 2) := by decide +kernel
theorem dX7_item_46 : decode cX7_item 46 = .ok (.iastore, 1) := by decide +kernel
theorem dX7_item_47 : decode cX7_item 47 = .ok (.aload_n 0, 1) := by decide +kernel
theorem dX7_item_48 : decode cX7_item 48 = .ok (.dup, 1) := by decide +kernel
theorem dX7_item_49 : decode cX7_item 49 = .ok (.getfield 330, 3) := by decide +kernel
theorem dX7_item_52 : decode cX7_item 52 = .ok (.iconst 1, 1) := by decide +kernel
theorem dX7_item_53 : decode cX7_item 53 = .ok (.iadd, 1) := by decide +kernel
theorem dX7_item_54 : decode cX7_item 54 = .ok (.putfield 330, 3) := by decide +kernel
theorem dX7_item_57 : decode cX7_item 57 = .ok (.return_, 1) := by decide +kernel
set_option maxHeartbeats 800000 in
set_option maxRecDepth 100000 in
theorem c_X7_item {l : Launch} {ω : xO} {ks : Nat → Option Nat} (hm : xsh ω = mdS ks) {z : ZsT} {it pe : Int} {pa : Int → Int} {h1 a c d : Int} {M : xMem} (hb : BtO (btN M) (M 0 16)) (hz : zO (btN M) (M 0 16) z) (hit : 0 ≤ it ∧ it < 120) (hh1 : inR h1) (ha : inR a) (hc : inR c) (hd : inR d) : Ct l ω yX7_item ({ frames := 0, cells := 0, slots := 0, locals := 0 } : Room) 6 4 [.ref (xad ω 0), .int (iI h1), .int (iI a), .int (iI c), .int (iI d)] (nzM M z it pe pa) none (nzM M z (it + 1) pe (itF pa it h1 a c d)) := by
  refine Ct.of (bytes := cX7_item) (ret := none) (lv0 := [some (.ref (xad ω 0)), some (.int (iI h1)), some (.int (iI a)), some (.int (iI c)), some (.int (iI d)), none]) m_cd_X7_item m_in_X7 (by decide +kernel) (by decide +kernel) rfl rfl rfl rfl (fun hR => nz_R hR hb hz (by omega) (hR 0 25) (itF_R (hR 11) hh1 ha hc hd)) ?_
  intro κ h he hR
  refine x_iconst h dX7_item_0 ?_
  refine x_aload_n h dX7_item_1 rfl ?_
  refine x_geti (j := 24) 24 h dX7_item_2 (sM0 hm) rfl in_X7 rfl (by decide) m_fl_X7_330 rfl (fun r2 => ?_)
  try simp only [nz_r17, nz_r18, nz_r19, nz_r20, nz_r21, nz_r24, nz_r25, nz_r16, nz_r9, nz_r1, nz_r11, nz_b] at r2 ⊢
  refine x_imul h dX7_item_5 ?_
  refine x_istore h dX7_item_6 rfl rfl ?_
  dsimp only [xset]
  refine x_aload_n h dX7_item_8 rfl ?_
  refine x_getr (j := 23) (q := 11) h dX7_item_9 (sM0 hm) rfl in_X7 rfl (by decide) m_fl_X7_57 ?_
  refine x_iload h dX7_item_12 rfl ?_
  refine x_iload_n h dX7_item_14 rfl ?_
  refine x_iastore h dX7_item_15 (sM11 hm) (by omega) (by omega) ?_
  rw [nz_11]
  refine x_aload_n h dX7_item_16 rfl ?_
  refine x_getr (j := 23) (q := 11) h dX7_item_17 (sM0 hm) rfl in_X7 rfl (by decide) m_fl_X7_57 ?_
  refine x_iload h dX7_item_20 rfl ?_
  refine x_iconst h dX7_item_22 ?_
  refine x_iadd h dX7_item_23 ?_
  refine x_iload_n h dX7_item_24 rfl ?_
  refine x_iastore h dX7_item_25 (sM11 hm) (by omega) (by omega) ?_
  rw [nz_11]
  refine x_aload_n h dX7_item_26 rfl ?_
  refine x_getr (j := 23) (q := 11) h dX7_item_27 (sM0 hm) rfl in_X7 rfl (by decide) m_fl_X7_57 ?_
  refine x_iload h dX7_item_30 rfl ?_
  refine x_iconst h dX7_item_32 ?_
  refine x_iadd h dX7_item_33 ?_
  refine x_iload_n h dX7_item_34 rfl ?_
  refine x_iastore h dX7_item_35 (sM11 hm) (by omega) (by omega) ?_
  rw [nz_11]
  refine x_aload_n h dX7_item_36 rfl ?_
  refine x_getr (j := 23) (q := 11) h dX7_item_37 (sM0 hm) rfl in_X7 rfl (by decide) m_fl_X7_57 ?_
  refine x_iload h dX7_item_40 rfl ?_
  refine x_iconst h dX7_item_42 ?_
  refine x_iadd h dX7_item_43 ?_
  refine x_iload h dX7_item_44 rfl ?_
  refine x_iastore h dX7_item_46 (sM11 hm) (by omega) (by omega) ?_
  rw [nz_11]
  refine x_aload_n h dX7_item_47 rfl ?_
  refine x_dup h dX7_item_48 rfl ?_
  refine x_geti (j := 24) 24 h dX7_item_49 (sM0 hm) rfl in_X7 rfl (by decide) m_fl_X7_330 rfl (fun r49 => ?_)
  try simp only [nz_r17, nz_r18, nz_r19, nz_r20, nz_r21, nz_r24, nz_r25, nz_r16, nz_r9, nz_r1, nz_r11, nz_b] at r49 ⊢
  refine x_iconst h dX7_item_52 ?_
  refine x_iadd h dX7_item_53 ?_
  refine x_puti (j := 24) 24 h dX7_item_54 (sM0 hm) rfl in_X7 rfl (by decide) m_fl_X7_330 tyX7_ok nmX7 rfl (tyX7_ok 24 (by decide)) rfl rfl (by omega) rfl ?_
  rw [nz_24]
  exact x_vret h he dX7_item_57 rfl

theorem dX7_isNext_0 : decode cX7_isNext 0 = .ok (.aload_n 0, 1) := by decide +kernel
theorem dX7_isNext_1 : decode cX7_isNext 1 = .ok (.getfield 320, 3) := by decide +kernel
theorem dX7_isNext_4 : decode cX7_isNext 4 = .ok (.ifCond .ne 15, 3) := by decide +kernel
theorem dX7_isNext_7 : decode cX7_isNext 7 = .ok (.aload_n 0, 1) := by decide +kernel
theorem dX7_isNext_8 : decode cX7_isNext 8 = .ok (.aload_n 1, 1) := by decide +kernel
theorem dX7_isNext_9 : decode cX7_isNext 9 = .ok (.invokevirtual 333, 3) := by decide +kernel
theorem dX7_isNext_12 : decode cX7_isNext 12 = .ok (.ifCond .eq 7, 3) := by decide +kernel
theorem dX7_isNext_15 : decode cX7_isNext 15 = .ok (.iconst 1, 1) := by decide +kernel
theorem dX7_isNext_16 : decode cX7_isNext 16 = .ok (.goto 4, 3) := by decide +kernel
theorem dX7_isNext_19 : decode cX7_isNext 19 = .ok (.iconst 0, 1) := by decide +kernel
theorem dX7_isNext_20 : decode cX7_isNext 20 = .ok (.istore_n 2, 1) := by decide +kernel
theorem dX7_isNext_21 : decode cX7_isNext 21 = .ok (.iload_n 2, 1) := by decide +kernel
theorem dX7_isNext_22 : decode cX7_isNext 22 = .ok (.ifCond .eq 8, 3) := by decide +kernel
theorem dX7_isNext_25 : decode cX7_isNext 25 = .ok (.aload_n 0, 1) := by decide +kernel
theorem dX7_isNext_26 : decode cX7_isNext 26 = .ok (.iconst 1, 1) := by decide +kernel
theorem dX7_isNext_27 : decode cX7_isNext 27 = .ok (.invokevirtual 326, 3) := by decide +kernel
theorem dX7_isNext_30 : decode cX7_isNext 30 = .ok (.iload_n 2, 1) := by decide +kernel
theorem dX7_isNext_31 : decode cX7_isNext 31 = .ok (.ireturn, 1) := by decide +kernel
set_option maxHeartbeats 800000 in
set_option maxRecDepth 100000 in
theorem c_X7_isNext {l : Launch} {ω : xO} {ks : Nat → Option Nat} (hm : xsh ω = mdS ks) {ki vi : Nat → Nat} {z : ZsT} {it pe : Int} {pa : Int → Int} {i : Nat} {M : xMem} (hφ : xph ω = xStr ki vi (xA ω)) (hb : BtO (btN M) (M 0 16)) (hz : zO (btN M) (M 0 16) z) (hi : i < 24) : Ct l ω yX7_isNext ({ frames := 5, cells := 0, slots := 0, locals := 108 } : Room) 3 1 [.ref (xad ω 0), .ref (ki i)] (nzM M z it pe pa) (some (.int (iI (bI (z.2.2 = 0 ∧ wdP (btN M) z.1 i))))) (nzM M (zIn (btN M) z i) it pe pa) := by
  refine Ct.of (bytes := cX7_isNext) (ret := (some .boolean)) (lv0 := [some (.ref (xad ω 0)), some (.ref (ki i)), none]) m_cd_X7_isNext m_in_X7 (by decide +kernel) (by decide +kernel) rfl rfl rfl rfl (fun hR => nz_R hR hb (zIn_O hb hz) (hR 0 24) (hR 0 25) (hR 11)) ?_
  intro κ h he hR
  have hn := hb.1
  have hz1 := hz.1
  have hz2 := hz.2.1
  have hz3 := hz.2.2.1
  have hSR := tkS_R (btN M) z.1
  have hVR := tkV_R hb hz.1
  have hBx := tkB_x hb hz.1
  have hEx := tkE_x hb hz.1
  refine x_aload_n h dX7_isNext_0 rfl ?_
  refine x_geti (j := 21) 21 h dX7_isNext_1 (sM0 hm) rfl in_X7 rfl (by decide) m_fl_X7_320 rfl (fun r1 => ?_)
  try simp only [nz_r17, nz_r18, nz_r19, nz_r20, nz_r21, nz_r24, nz_r25, nz_r16, nz_r9, nz_r1, nz_r11, nz_b] at r1 ⊢
  refine x_if_ne h dX7_isNext_4 (tgt := 19) (by decide) (by omega) (fun q4 => ?_) (fun q4 => ?_)
  · refine x_iconst h dX7_isNext_19 ?_
    refine x_istore_n h dX7_isNext_20 rfl rfl ?_
    dsimp only [xset]
    refine x_iload_n h dX7_isNext_21 rfl ?_
    refine x_if_eq h dX7_isNext_22 (tgt := 30) (by decide) (by omega) (fun q22 => ?_) (fun q22 => ?_)
    · refine x_iload_n h dX7_isNext_30 rfl ?_
      exact x_zret h he dX7_isNext_31 (by first | exact Or.inl rfl | exact Or.inr rfl | exact bI_01 _ | omega) rfl (by first | (have y12 : ¬ wdP (btN M) z.1 i := q12; exact bI_00 (fun y => y12 y.2)) | (have y12 : wdP (btN M) z.1 i := q12; exact bI_1 ⟨q4, y12⟩) | (have y4 : ¬ z.2.2 = 0 := q4; exact bI_00 (fun y => y4 y.1))) (by unfold zIn; first | exact absurd rfl q22 | exact absurd q22 (by decide) | (have y12 : ¬ wdP (btN M) z.1 i := q12; rw [tI_n (fun y => y12 y.2)]) | (have y12 : wdP (btN M) z.1 i := q12; rw [tI_p ⟨q4, y12⟩]; unfold zMu; rw [tI_p ⟨q4, rfl⟩]) | (have y4 : ¬ z.2.2 = 0 := q4; rw [tI_n (fun y => y4 y.1)]))
    · refine x_aload_n h dX7_isNext_25 rfl ?_
      refine x_iconst h dX7_isNext_26 ?_
      refine x_V1v h dX7_isNext_27 m_ml_X7_326 m_im_X7_must m_se_X7_must (sM0 hm) rfl (by decide) rfl (c_X7_must hm hb hz (Or.inr rfl)) ?_
      refine x_iload_n h dX7_isNext_30 rfl ?_
      exact x_zret h he dX7_isNext_31 (by first | exact Or.inl rfl | exact Or.inr rfl | exact bI_01 _ | omega) rfl (by first | (have y12 : ¬ wdP (btN M) z.1 i := q12; exact bI_00 (fun y => y12 y.2)) | (have y12 : wdP (btN M) z.1 i := q12; exact bI_1 ⟨q4, y12⟩) | (have y4 : ¬ z.2.2 = 0 := q4; exact bI_00 (fun y => y4 y.1))) (by unfold zIn; first | exact absurd rfl q22 | exact absurd q22 (by decide) | (have y12 : ¬ wdP (btN M) z.1 i := q12; rw [tI_n (fun y => y12 y.2)]) | (have y12 : wdP (btN M) z.1 i := q12; rw [tI_p ⟨q4, y12⟩]; unfold zMu; rw [tI_p ⟨q4, rfl⟩]) | (have y4 : ¬ z.2.2 = 0 := q4; rw [tI_n (fun y => y4 y.1)]))
  · refine x_aload_n h dX7_isNext_7 rfl ?_
    refine x_aload_n h dX7_isNext_8 rfl ?_
    refine x_V1i h dX7_isNext_9 m_ml_X7_333 m_im_X7_isWord m_se_X7_isWord (sM0 hm) rfl (by decide) rfl (c_X7_isWord hm hφ hb hz (hz.2.2.2 q4) hi) ?_
    refine x_ifeqB h dX7_isNext_12 (tgt := 19) (by decide) (fun q12 => ?_) (fun q12 => ?_)
    · refine x_iconst h dX7_isNext_19 ?_
      refine x_istore_n h dX7_isNext_20 rfl rfl ?_
      dsimp only [xset]
      refine x_iload_n h dX7_isNext_21 rfl ?_
      refine x_if_eq h dX7_isNext_22 (tgt := 30) (by decide) (by omega) (fun q22 => ?_) (fun q22 => ?_)
      · refine x_iload_n h dX7_isNext_30 rfl ?_
        exact x_zret h he dX7_isNext_31 (by first | exact Or.inl rfl | exact Or.inr rfl | exact bI_01 _ | omega) rfl (by first | (have y12 : ¬ wdP (btN M) z.1 i := q12; exact bI_00 (fun y => y12 y.2)) | (have y12 : wdP (btN M) z.1 i := q12; exact bI_1 ⟨q4, y12⟩) | (have y4 : ¬ z.2.2 = 0 := q4; exact bI_00 (fun y => y4 y.1))) (by unfold zIn; first | exact absurd rfl q22 | exact absurd q22 (by decide) | (have y12 : ¬ wdP (btN M) z.1 i := q12; rw [tI_n (fun y => y12 y.2)]) | (have y12 : wdP (btN M) z.1 i := q12; rw [tI_p ⟨q4, y12⟩]; unfold zMu; rw [tI_p ⟨q4, rfl⟩]) | (have y4 : ¬ z.2.2 = 0 := q4; rw [tI_n (fun y => y4 y.1)]))
      · refine x_aload_n h dX7_isNext_25 rfl ?_
        refine x_iconst h dX7_isNext_26 ?_
        refine x_V1v h dX7_isNext_27 m_ml_X7_326 m_im_X7_must m_se_X7_must (sM0 hm) rfl (by decide) rfl (c_X7_must hm hb hz (Or.inr rfl)) ?_
        refine x_iload_n h dX7_isNext_30 rfl ?_
        exact x_zret h he dX7_isNext_31 (by first | exact Or.inl rfl | exact Or.inr rfl | exact bI_01 _ | omega) rfl (by first | (have y12 : ¬ wdP (btN M) z.1 i := q12; exact bI_00 (fun y => y12 y.2)) | (have y12 : wdP (btN M) z.1 i := q12; exact bI_1 ⟨q4, y12⟩) | (have y4 : ¬ z.2.2 = 0 := q4; exact bI_00 (fun y => y4 y.1))) (by unfold zIn; first | exact absurd rfl q22 | exact absurd q22 (by decide) | (have y12 : ¬ wdP (btN M) z.1 i := q12; rw [tI_n (fun y => y12 y.2)]) | (have y12 : wdP (btN M) z.1 i := q12; rw [tI_p ⟨q4, y12⟩]; unfold zMu; rw [tI_p ⟨q4, rfl⟩]) | (have y4 : ¬ z.2.2 = 0 := q4; rw [tI_n (fun y => y4 y.1)]))
    · refine x_iconst h dX7_isNext_15 ?_
      refine x_goto h dX7_isNext_16 (tgt := 20) (by decide) ?_
      refine x_istore_n h dX7_isNext_20 rfl rfl ?_
      dsimp only [xset]
      refine x_iload_n h dX7_isNext_21 rfl ?_
      refine x_if_eq h dX7_isNext_22 (tgt := 30) (by decide) (by omega) (fun q22 => ?_) (fun q22 => ?_)
      · refine x_iload_n h dX7_isNext_30 rfl ?_
        exact x_zret h he dX7_isNext_31 (by first | exact Or.inl rfl | exact Or.inr rfl | exact bI_01 _ | omega) rfl (by first | (have y12 : ¬ wdP (btN M) z.1 i := q12; exact bI_00 (fun y => y12 y.2)) | (have y12 : wdP (btN M) z.1 i := q12; exact bI_1 ⟨q4, y12⟩) | (have y4 : ¬ z.2.2 = 0 := q4; exact bI_00 (fun y => y4 y.1))) (by unfold zIn; first | exact absurd rfl q22 | exact absurd q22 (by decide) | (have y12 : ¬ wdP (btN M) z.1 i := q12; rw [tI_n (fun y => y12 y.2)]) | (have y12 : wdP (btN M) z.1 i := q12; rw [tI_p ⟨q4, y12⟩]; unfold zMu; rw [tI_p ⟨q4, rfl⟩]) | (have y4 : ¬ z.2.2 = 0 := q4; rw [tI_n (fun y => y4 y.1)]))
      · refine x_aload_n h dX7_isNext_25 rfl ?_
        refine x_iconst h dX7_isNext_26 ?_
        refine x_V1v h dX7_isNext_27 m_ml_X7_326 m_im_X7_must m_se_X7_must (sM0 hm) rfl (by decide) rfl (c_X7_must hm hb hz (Or.inr rfl)) ?_
        refine x_iload_n h dX7_isNext_30 rfl ?_
        exact x_zret h he dX7_isNext_31 (by first | exact Or.inl rfl | exact Or.inr rfl | exact bI_01 _ | omega) rfl (by first | (have y12 : ¬ wdP (btN M) z.1 i := q12; exact bI_00 (fun y => y12 y.2)) | (have y12 : wdP (btN M) z.1 i := q12; exact bI_1 ⟨q4, y12⟩) | (have y4 : ¬ z.2.2 = 0 := q4; exact bI_00 (fun y => y4 y.1))) (by unfold zIn; first | exact absurd rfl q22 | exact absurd q22 (by decide) | (have y12 : ¬ wdP (btN M) z.1 i := q12; rw [tI_n (fun y => y12 y.2)]) | (have y12 : wdP (btN M) z.1 i := q12; rw [tI_p ⟨q4, y12⟩]; unfold zMu; rw [tI_p ⟨q4, rfl⟩]) | (have y4 : ¬ z.2.2 = 0 := q4; rw [tI_n (fun y => y4 y.1)]))

theorem dX7_another_0 : decode cX7_another 0 = .ok (.aload_n 0, 1) := by decide +kernel
theorem dX7_another_1 : decode cX7_another 1 = .ok (.getfield 301, 3) := by decide +kernel
theorem dX7_another_4 : decode cX7_another 4 = .ok (.istore_n 3, 1) := by decide +kernel
theorem dX7_another_5 : decode cX7_another 5 = .ok (.aload_n 0, 1) := by decide +kernel
theorem dX7_another_6 : decode cX7_another 6 = .ok (.getfield 320, 3) := by decide +kernel
theorem dX7_another_9 : decode cX7_another 9 = .ok (.istore 4, 2) := by decide +kernel
theorem dX7_another_11 : decode cX7_another 11 = .ok (.aload_n 0, 1) := by decide +kernel
theorem dX7_another_12 : decode cX7_another 12 = .ok (.iconst 0, 1) := by decide +kernel
theorem dX7_another_13 : decode cX7_another 13 = .ok (.iload_n 1, 1) := by decide +kernel
theorem dX7_another_14 : decode cX7_another 14 = .ok (.invokevirtual 337, 3) := by decide +kernel
theorem dX7_another_17 : decode cX7_another 17 = .ok (.istore 5, 2) := by decide +kernel
theorem dX7_another_19 : decode cX7_another 19 = .ok (.iload 4, 2) := by decide +kernel
theorem dX7_another_21 : decode cX7_another 21 = .ok (.ifCond .ne 26, 3) := by decide +kernel
theorem dX7_another_24 : decode cX7_another 24 = .ok (.aload_n 0, 1) := by decide +kernel
theorem dX7_another_25 : decode cX7_another 25 = .ok (.getfield 320, 3) := by decide +kernel
theorem dX7_another_28 : decode cX7_another 28 = .ok (.ifCond .ne 19, 3) := by decide +kernel
theorem dX7_another_31 : decode cX7_another 31 = .ok (.iload 5, 2) := by decide +kernel
theorem dX7_another_33 : decode cX7_another 33 = .ok (.iload_n 2, 1) := by decide +kernel
theorem dX7_another_34 : decode cX7_another 34 = .ok (.if_icmp .ne 13, 3) := by decide +kernel
theorem dX7_another_37 : decode cX7_another 37 = .ok (.aload_n 0, 1) := by decide +kernel
theorem dX7_another_38 : decode cX7_another 38 = .ok (.iconst 1, 1) := by decide +kernel
theorem dX7_another_39 : decode cX7_another 39 = .ok (.putfield 320, 3) := by decide +kernel
theorem dX7_another_42 : decode cX7_another 42 = .ok (.aload_n 0, 1) := by decide +kernel
theorem dX7_another_43 : decode cX7_another 43 = .ok (.iload_n 3, 1) := by decide +kernel
theorem dX7_another_44 : decode cX7_another 44 = .ok (.putfield 301, 3) := by decide +kernel
theorem dX7_another_47 : decode cX7_another 47 = .ok (.iload 5, 2) := by decide +kernel
theorem dX7_another_49 : decode cX7_another 49 = .ok (.ireturn, 1) := by decide +kernel
set_option maxHeartbeats 800000 in
set_option maxRecDepth 100000 in
theorem c_X7_another {l : Launch} {ω : xO} {ks : Nat → Option Nat} (hm : xsh ω = mdS ks) {z : ZsT} {it pe : Int} {pa : Int → Int} {m v : Int} {M : xMem} (hb : BtO (btN M) (M 0 16)) (hz : zO (btN M) (M 0 16) z) (hmm : inR m) (hv : inR v) : Ct l ω yX7_another ({ frames := 4, cells := 0, slots := 0, locals := 87 } : Room) 6 2 [.ref (xad ω 0), .int (iI m), .int (iI v)] (nzM M z it pe pa) (some (.int (iI (tkV (btN M) z.1)))) (nzM M (zAn (btN M) z m v) it pe pa) := by
  refine Ct.of (bytes := cX7_another) (ret := (some .int)) (lv0 := [some (.ref (xad ω 0)), some (.int (iI m)), some (.int (iI v)), none, none, none]) m_cd_X7_another m_in_X7 (by decide +kernel) (by decide +kernel) rfl rfl rfl rfl (fun hR => nz_R hR hb (zAn_O hb hz) (hR 0 24) (hR 0 25) (hR 11)) ?_
  intro κ h he hR
  have hn := hb.1
  have hz1 := hz.1
  have hz2 := hz.2.1
  have hz3 := hz.2.2.1
  have hSR := tkS_R (btN M) z.1
  have hVR := tkV_R hb hz.1
  have hBx := tkB_x hb hz.1
  have hEx := tkE_x hb hz.1
  have hz4 := (zNu_O hb hz (m := m)).2.2.1
  refine x_aload_n h dX7_another_0 rfl ?_
  refine x_geti (j := 17) 17 h dX7_another_1 (sM0 hm) rfl in_X7 rfl (by decide) m_fl_X7_301 rfl (fun r1 => ?_)
  try simp only [nz_r17, nz_r18, nz_r19, nz_r20, nz_r21, nz_r24, nz_r25, nz_r16, nz_r9, nz_r1, nz_r11, nz_b] at r1 ⊢
  refine x_istore_n h dX7_another_4 rfl rfl ?_
  dsimp only [xset]
  refine x_aload_n h dX7_another_5 rfl ?_
  refine x_geti (j := 21) 21 h dX7_another_6 (sM0 hm) rfl in_X7 rfl (by decide) m_fl_X7_320 rfl (fun r6 => ?_)
  try simp only [nz_r17, nz_r18, nz_r19, nz_r20, nz_r21, nz_r24, nz_r25, nz_r16, nz_r9, nz_r1, nz_r11, nz_b] at r6 ⊢
  refine x_istore h dX7_another_9 rfl rfl ?_
  dsimp only [xset]
  refine x_aload_n h dX7_another_11 rfl ?_
  refine x_iconst h dX7_another_12 ?_
  refine x_iload_n h dX7_another_13 rfl ?_
  refine x_V2i h dX7_another_14 m_ml_X7_337 m_im_X7_number m_se_X7_number (sM0 hm) rfl (by decide) rfl (c_X7_number hm hb hz hmm) ?_
  refine x_istore h dX7_another_17 rfl rfl ?_
  dsimp only [xset]
  refine x_iload h dX7_another_19 rfl ?_
  refine x_if_ne h dX7_another_21 (tgt := 47) (by decide) (by omega) (fun q21 => ?_) (fun q21 => ?_)
  · try rw [nz_17]
    refine x_iload h dX7_another_47 rfl ?_
    exact x_iret (ret := none) h he dX7_another_49 rfl rfl (by unfold zAn; first | (have y34 : ¬ tkV (btN M) z.1 = v := q34; rw [tI_n (fun y => y34 y.2.2)]) | (have y34 : tkV (btN M) z.1 = v := q34; have hP : nuP (btN M) z.1 m := (Classical.byContradiction fun g => by unfold zNu zMu at q28; rw [tI_n (fun y => g y.2)] at q28; exact absurd (show (1 : Int) = 0 from q28) (by decide)); rw [tI_p ⟨q21, hP, y34⟩]; unfold zNu zMu; rw [tI_p ⟨q21, hP⟩]; rfl) | (have y28 : ¬ (zNu (btN M) z m).2.2 = 0 := q28; rw [tI_n (fun y => y28 (by unfold zNu zMu; rw [tI_p ⟨y.1, y.2.1⟩]; rfl))]) | (have y21 : ¬ z.2.2 = 0 := q21; rw [tI_n (fun y => y21 y.1)]))
  · refine x_aload_n h dX7_another_24 rfl ?_
    refine x_geti (j := 21) 21 h dX7_another_25 (sM0 hm) rfl in_X7 rfl (by decide) m_fl_X7_320 rfl (fun r25 => ?_)
    try simp only [nz_r17, nz_r18, nz_r19, nz_r20, nz_r21, nz_r24, nz_r25, nz_r16, nz_r9, nz_r1, nz_r11, nz_b] at r25 ⊢
    refine x_if_ne h dX7_another_28 (tgt := 47) (by decide) (by omega) (fun q28 => ?_) (fun q28 => ?_)
    · try rw [nz_17]
      refine x_iload h dX7_another_47 rfl ?_
      exact x_iret (ret := none) h he dX7_another_49 rfl rfl (by unfold zAn; first | (have y34 : ¬ tkV (btN M) z.1 = v := q34; rw [tI_n (fun y => y34 y.2.2)]) | (have y34 : tkV (btN M) z.1 = v := q34; have hP : nuP (btN M) z.1 m := (Classical.byContradiction fun g => by unfold zNu zMu at q28; rw [tI_n (fun y => g y.2)] at q28; exact absurd (show (1 : Int) = 0 from q28) (by decide)); rw [tI_p ⟨q21, hP, y34⟩]; unfold zNu zMu; rw [tI_p ⟨q21, hP⟩]; rfl) | (have y28 : ¬ (zNu (btN M) z m).2.2 = 0 := q28; rw [tI_n (fun y => y28 (by unfold zNu zMu; rw [tI_p ⟨y.1, y.2.1⟩]; rfl))]) | (have y21 : ¬ z.2.2 = 0 := q21; rw [tI_n (fun y => y21 y.1)]))
    · refine x_iload h dX7_another_31 rfl ?_
      refine x_iload_n h dX7_another_33 rfl ?_
      refine x_icmp_ne h dX7_another_34 (tgt := 47) (by decide) (by omega) (by omega) (fun q34 => ?_) (fun q34 => ?_)
      · try rw [nz_17]
        refine x_iload h dX7_another_47 rfl ?_
        exact x_iret (ret := none) h he dX7_another_49 rfl rfl (by unfold zAn; first | (have y34 : ¬ tkV (btN M) z.1 = v := q34; rw [tI_n (fun y => y34 y.2.2)]) | (have y34 : tkV (btN M) z.1 = v := q34; have hP : nuP (btN M) z.1 m := (Classical.byContradiction fun g => by unfold zNu zMu at q28; rw [tI_n (fun y => g y.2)] at q28; exact absurd (show (1 : Int) = 0 from q28) (by decide)); rw [tI_p ⟨q21, hP, y34⟩]; unfold zNu zMu; rw [tI_p ⟨q21, hP⟩]; rfl) | (have y28 : ¬ (zNu (btN M) z m).2.2 = 0 := q28; rw [tI_n (fun y => y28 (by unfold zNu zMu; rw [tI_p ⟨y.1, y.2.1⟩]; rfl))]) | (have y21 : ¬ z.2.2 = 0 := q21; rw [tI_n (fun y => y21 y.1)]))
      · refine x_aload_n h dX7_another_37 rfl ?_
        refine x_iconst h dX7_another_38 ?_
        refine x_puti (j := 21) 21 h dX7_another_39 (sM0 hm) rfl in_X7 rfl (by decide) m_fl_X7_320 tyX7_ok nmX7 rfl (tyX7_ok 21 (by decide)) rfl rfl (by omega) rfl ?_
        rw [nz_21]
        refine x_aload_n h dX7_another_42 rfl ?_
        refine x_iload_n h dX7_another_43 rfl ?_
        refine x_puti (j := 17) 17 h dX7_another_44 (sM0 hm) rfl in_X7 rfl (by decide) m_fl_X7_301 tyX7_ok nmX7 rfl (tyX7_ok 17 (by decide)) rfl rfl (by omega) rfl ?_
        try rw [nz_17]
        refine x_iload h dX7_another_47 rfl ?_
        exact x_iret (ret := none) h he dX7_another_49 rfl rfl (by unfold zAn; first | (have y34 : ¬ tkV (btN M) z.1 = v := q34; rw [tI_n (fun y => y34 y.2.2)]) | (have y34 : tkV (btN M) z.1 = v := q34; have hP : nuP (btN M) z.1 m := (Classical.byContradiction fun g => by unfold zNu zMu at q28; rw [tI_n (fun y => g y.2)] at q28; exact absurd (show (1 : Int) = 0 from q28) (by decide)); rw [tI_p ⟨q21, hP, y34⟩]; unfold zNu zMu; rw [tI_p ⟨q21, hP⟩]; rfl) | (have y28 : ¬ (zNu (btN M) z m).2.2 = 0 := q28; rw [tI_n (fun y => y28 (by unfold zNu zMu; rw [tI_p ⟨y.1, y.2.1⟩]; rfl))]) | (have y21 : ¬ z.2.2 = 0 := q21; rw [tI_n (fun y => y21 y.1)]))

theorem x_alenS {ω : xO} {κ : xK} {l : Launch} {cc : ByteArray} {nL : Nat} {own : String} {R : Room} {pc : Nat} {lv : List (Option Value)} {st : List Value} {M : xMem} {k n : Nat} {ks : Nat → Option Nat} (h : xOk ω κ l cc nL own R) (hd : decode cc pc = .ok (.arraylength, 1)) (hs : (xsh ω)[k]? = some (.inr (.inr (n, ks)))) (kk : X ω κ (pc + 1) lv (.int (iI (n : Int)) :: st) M) : X ω κ pc lv (.ref (xad ω k) :: st) M :=
  fun hR H locs ls hP hS hl => va_alen h.1 h.2.1 h.2.2.2.2.2.1 hP k 1 (xw_at hs) rfl (v := iI (n : Int)) rfl hd (kk hR H locs ls hP hS hl)
theorem x_aaload {ω : xO} {κ : xK} {l : Launch} {cc : ByteArray} {nL : Nat} {own : String} {R : Room} {pc : Nat} {lv : List (Option Value)} {st : List Value} {M : xMem} {k n j a : Nat} {ks : Nat → Option Nat} (h : xOk ω κ l cc nL own R) (hd : decode cc pc = .ok (.aaload, 1)) (hs : (xsh ω)[k]? = some (.inr (.inr (n, ks)))) (hj : j < n) (hn : n ≤ 1000) (ha : ks j = some a) (kk : X ω κ (pc + 1) lv (.ref a :: st) M) : X ω κ pc lv (.int (iI (j : Int)) :: .ref (xad ω k) :: st) M := by
  intro hR H locs ls hP hS hl
  refine va_aldq (f := ks) h.1 h.2.1 h.2.2.2.2.2.1 hP k 1 (C := "java/lang/String") (xw_at hs) rfl (iI_in rfl hj (by omega)) hd ?_
  rw [iI_nat (by omega), ha]
  exact kk hR H locs ls hP hS hl
noncomputable def ktG (b : Int → Int) (q : Int) (k acc : Int) : Int := tI (wdP b q (12 + k.toNat)) k acc
noncomputable def ktF (b : Int → Int) (q : Int) (n : Nat) : Int := xfo (ktG b q) (-1) n
theorem ktF_s (b : Int → Int) (q : Int) (n : Nat) : ktF b q (n + 1) = tI (wdP b q (12 + n)) (n : Int) (ktF b q n) := rfl
theorem ktF_R (b : Int → Int) (q : Int) : ∀ n : Nat, n ≤ 7 → -1 ≤ ktF b q n ∧ ktF b q n < 7 := by
  intro n
  induction n with
  | zero => intro _; exact ⟨Int.le_refl _, by show (-1 : Int) < 7; decide⟩
  | succ n ih =>
    intro hn
    have := ih (by omega)
    rw [ktF_s]
    unfold tI
    split <;> omega
theorem dX7_kindTold_0 : decode cX7_kindTold 0 = .ok (.iconst (-1), 1) := by decide +kernel
theorem dX7_kindTold_1 : decode cX7_kindTold 1 = .ok (.istore_n 1, 1) := by decide +kernel
theorem dX7_kindTold_2 : decode cX7_kindTold 2 = .ok (.iconst 0, 1) := by decide +kernel
theorem dX7_kindTold_3 : decode cX7_kindTold 3 = .ok (.istore_n 2, 1) := by decide +kernel
theorem dX7_kindTold_4 : decode cX7_kindTold 4 = .ok (.iload_n 2, 1) := by decide +kernel
theorem dX7_kindTold_5 : decode cX7_kindTold 5 = .ok (.aload_n 0, 1) := by decide +kernel
theorem dX7_kindTold_6 : decode cX7_kindTold 6 = .ok (.getfield 53, 3) := by decide +kernel
theorem dX7_kindTold_9 : decode cX7_kindTold 9 = .ok (.arraylength, 1) := by decide +kernel
theorem dX7_kindTold_10 : decode cX7_kindTold 10 = .ok (.if_icmp .ge 28, 3) := by decide +kernel
theorem dX7_kindTold_13 : decode cX7_kindTold 13 = .ok (.aload_n 0, 1) := by decide +kernel
theorem dX7_kindTold_14 : decode cX7_kindTold 14 = .ok (.aload_n 0, 1) := by decide +kernel
theorem dX7_kindTold_15 : decode cX7_kindTold 15 = .ok (.getfield 53, 3) := by decide +kernel
theorem dX7_kindTold_18 : decode cX7_kindTold 18 = .ok (.iload_n 2, 1) := by decide +kernel
theorem dX7_kindTold_19 : decode cX7_kindTold 19 = .ok (.aaload, 1) := by decide +kernel
theorem dX7_kindTold_20 : decode cX7_kindTold 20 = .ok (.invokevirtual 333, 3) := by decide +kernel
theorem dX7_kindTold_23 : decode cX7_kindTold 23 = .ok (.ifCond .eq 7, 3) := by decide +kernel
theorem dX7_kindTold_26 : decode cX7_kindTold 26 = .ok (.iload_n 2, 1) := by decide +kernel
theorem dX7_kindTold_27 : decode cX7_kindTold 27 = .ok (.goto 4, 3) := by decide +kernel
theorem dX7_kindTold_30 : decode cX7_kindTold 30 = .ok (.iload_n 1, 1) := by decide +kernel
theorem dX7_kindTold_31 : decode cX7_kindTold 31 = .ok (.istore_n 1, 1) := by decide +kernel
theorem dX7_kindTold_32 : decode cX7_kindTold 32 = .ok (.iinc 2 1, 3) := by decide +kernel
theorem dX7_kindTold_35 : decode cX7_kindTold 35 = .ok (.goto (-31), 3) := by decide +kernel
theorem dX7_kindTold_38 : decode cX7_kindTold 38 = .ok (.iload_n 1, 1) := by decide +kernel
theorem dX7_kindTold_39 : decode cX7_kindTold 39 = .ok (.ireturn, 1) := by decide +kernel
set_option maxHeartbeats 800000 in
set_option maxRecDepth 100000 in
theorem c_X7_kindTold {l : Launch} {ω : xO} {ks : Nat → Option Nat} (hm : xsh ω = mdS ks) {ki vi : Nat → Nat} {z : ZsT} {it pe : Int} {pa : Int → Int} {M : xMem} (hφ : xph ω = xStr ki vi (xA ω)) (hb : BtO (btN M) (M 0 16)) (hz : zO (btN M) (M 0 16) z) (hg : z.2.1 = tkB (btN M) z.1) (hks : ∀ k, k < 7 → ks k = some (ki (12 + k))) : Ct l ω yX7_kindTold ({ frames := 5, cells := 0, slots := 0, locals := 108 } : Room) 3 0 [.ref (xad ω 0)] (nzM M z it pe pa) (some (.int (iI (ktF (btN M) z.1 7)))) (nzM M z it pe pa) := by
  refine Ct.of (bytes := cX7_kindTold) (ret := (some .int)) (lv0 := [some (.ref (xad ω 0)), none, none]) m_cd_X7_kindTold m_in_X7 (by decide +kernel) (by decide +kernel) rfl rfl rfl rfl (fun hR => hR) ?_
  intro κ h he hR
  have hn := hb.1
  have hz1 := hz.1
  have hz2 := hz.2.1
  have hz3 := hz.2.2.1
  have hSR := tkS_R (btN M) z.1
  have hVR := tkV_R hb hz.1
  have hBx := tkB_x hb hz.1
  have hEx := tkE_x hb hz.1
  refine x_iconst h dX7_kindTold_0 ?_
  refine x_istore_n h dX7_kindTold_1 rfl rfl ?_
  dsimp only [xset]
  refine x_iconst h dX7_kindTold_2 ?_
  refine x_istore_n h dX7_kindTold_3 rfl rfl ?_
  dsimp only [xset]
  refine loop_up (fun k => X ω κ 4 [some (.ref (xad ω 0)), some (.int (iI (ktF (btN M) z.1 k))), some (.int (iI (k : Int)))] [] (nzM M z it pe pa)) 7 ?_ ?_
  · show X ω κ 4 [some (.ref (xad ω 0)), some (.int (iI (ktF (btN M) z.1 7))), some (.int (iI ((7 : Nat) : Int)))] [] (nzM M z it pe pa)
    refine x_iload_n h dX7_kindTold_4 rfl ?_
    refine x_aload_n h dX7_kindTold_5 rfl ?_
    refine x_getr (j := 22) (q := 10) h dX7_kindTold_6 (sM0 hm) rfl in_X7 rfl (by decide) m_fl_X7_53 ?_
    refine x_alenS h dX7_kindTold_9 (sM10 hm) ?_
    refine x_icmp_ge h dX7_kindTold_10 (tgt := 38) (by decide) (by omega) (by decide) (fun q10 => ?_) (fun q10 => ?_)
    · refine x_iload_n h dX7_kindTold_38 rfl ?_
      exact x_iret (ret := none) h he dX7_kindTold_39 rfl rfl rfl
    · exact absurd (Int.le_refl _) q10
  · intro k hk ihk
    replace ihk : X ω κ 4 [some (.ref (xad ω 0)), some (.int (iI (ktF (btN M) z.1 (k + 1)))), some (.int (iI ((k + 1 : Nat) : Int)))] [] (nzM M z it pe pa) := ihk
    show X ω κ 4 [some (.ref (xad ω 0)), some (.int (iI (ktF (btN M) z.1 k))), some (.int (iI (k : Int)))] [] (nzM M z it pe pa)
    rw [ktF_s] at ihk
    refine x_iload_n h dX7_kindTold_4 rfl ?_
    refine x_aload_n h dX7_kindTold_5 rfl ?_
    refine x_getr (j := 22) (q := 10) h dX7_kindTold_6 (sM0 hm) rfl in_X7 rfl (by decide) m_fl_X7_53 ?_
    refine x_alenS h dX7_kindTold_9 (sM10 hm) ?_
    refine x_icmp_ge h dX7_kindTold_10 (tgt := 38) (by decide) (by omega) (by decide) (fun q10 => ?_) (fun q10 => ?_)
    · exfalso; omega
    · refine x_aload_n h dX7_kindTold_13 rfl ?_
      refine x_aload_n h dX7_kindTold_14 rfl ?_
      refine x_getr (j := 22) (q := 10) h dX7_kindTold_15 (sM0 hm) rfl in_X7 rfl (by decide) m_fl_X7_53 ?_
      refine x_iload_n h dX7_kindTold_18 rfl ?_
      refine x_aaload (j := k) h dX7_kindTold_19 (sM10 hm) (by omega) (by decide) (hks k hk) ?_
      refine x_V1i h dX7_kindTold_20 m_ml_X7_333 m_im_X7_isWord m_se_X7_isWord (sM0 hm) rfl (by decide) rfl (c_X7_isWord hm hφ hb hz hg (i := 12 + k) (by omega)) ?_
      refine x_ifeqB h dX7_kindTold_23 (tgt := 30) (by decide) (fun q23 => ?_) (fun q23 => ?_)
      · refine x_iload_n h dX7_kindTold_30 rfl ?_
        refine x_istore_n h dX7_kindTold_31 rfl rfl ?_
        dsimp only [xset]
        refine x_iinc h dX7_kindTold_32 rfl rfl rfl ?_
        dsimp only [xset]
        refine x_goto h dX7_kindTold_35 (tgt := 4) (by decide) ?_
        rw [tI_n q23] at ihk
        exact ihk
      · refine x_iload_n h dX7_kindTold_26 rfl ?_
        refine x_goto h dX7_kindTold_27 (tgt := 31) (by decide) ?_
        refine x_istore_n h dX7_kindTold_31 rfl rfl ?_
        dsimp only [xset]
        refine x_iinc h dX7_kindTold_32 rfl rfl rfl ?_
        dsimp only [xset]
        refine x_goto h dX7_kindTold_35 (tgt := 4) (by decide) ?_
        rw [tI_p q23] at ihk
        exact ihk

