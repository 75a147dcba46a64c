/-! TOKENS: the next one from a place on; then the class's reader: its row, its token -/
theorem fs_x {P : Int → Prop} : ∀ (d : Nat) (e z x : Int), e ≤ x → x < e + d → P x → (e ≤ fsF P d e z ∧ fsF P d e z ≤ x) ∧ P (fsF P d e z) ∧ ∀ y, e ≤ y → y < fsF P d e z → ¬ P y := by
  intro d
  induction d with
  | zero => intro e z x h1 h2; omega
  | succ d ih =>
    intro e z x h1 h2 hx
    unfold fsF
    by_cases h : P e
    · rw [tI_p h]
      exact ⟨⟨Int.le_refl _, h1⟩, h, fun y g1 g2 => by omega⟩
    · rw [tI_n h]
      have hne : e ≠ x := fun z => h (z ▸ hx)
      obtain ⟨g1, g2, g3⟩ := ih (e + 1) z x (by omega) (by omega) hx
      refine ⟨⟨by omega, g1.2⟩, g2, fun y y1 y2 => ?_⟩
      by_cases e2 : y = e
      · rw [e2]; exact h
      · exact g3 y (by omega) y2
def BtO (b : Int → Int) (n : Int) : Prop := (0 ≤ n ∧ n ≤ 120) ∧ (∀ k, n ≤ k → b k = -1) ∧ ∀ k, 0 ≤ k → k < n → 0 ≤ b k ∧ b k ≤ 255
def soF (c : Int) : Int := if c < 0 then 0 else if 97 ≤ c ∧ c ≤ 122 then 1 else if 48 ≤ c ∧ c ≤ 57 then 2 else if c = 59 then 3 else 4
theorem soF_R (c : Int) : 0 ≤ soF c ∧ soF c ≤ 4 := by unfold soF; (repeat' split) <;> omega
noncomputable def tkB (b : Int → Int) (e : Int) : Int := fsF (fun k => b k ≠ 32) 130 e 0
def tkc (b : Int → Int) (g k : Int) : Prop := soF (b g) ≠ 0 ∧ soF (b k) = soF (b g) ∧ (soF (b g) = 1 ∨ soF (b g) = 2 ∨ k = g)
noncomputable def tkE (b : Int → Int) (e : Int) : Int := fsF (fun k => ¬ tkc b (tkB b e) k) 130 (tkB b e) 0
noncomputable def tkS (b : Int → Int) (e : Int) : Int := soF (b (tkB b e))
def vaF (b : Int → Int) (g : Int) : Nat → Int
  | 0 => 0
  | k + 1 => min 1000 (10 * vaF b g k + b (g + k) - 48)
noncomputable def tkV (b : Int → Int) (e : Int) : Int := if tkS b e = 2 then vaF b (tkB b e) (tkE b e - tkB b e).toNat else 0
theorem tkB_x {b : Int → Int} {n e : Int} (hb : BtO b n) (he : 0 ≤ e ∧ e ≤ n) : (e ≤ tkB b e ∧ tkB b e ≤ n) ∧ b (tkB b e) ≠ 32 ∧ ∀ y, e ≤ y → y < tkB b e → b y = 32 := by
  have hn := hb.1
  obtain ⟨h1, h2, h3⟩ := fs_x (P := fun k => b k ≠ 32) 130 e 0 n he.2 (by omega) (by rw [hb.2.1 n (Int.le_refl _)]; decide)
  exact ⟨h1, h2, fun y y1 y2 => Classical.byContradiction fun z => h3 y y1 y2 z⟩
theorem tkE_x {b : Int → Int} {n e : Int} (hb : BtO b n) (he : 0 ≤ e ∧ e ≤ n) : (tkB b e ≤ tkE b e ∧ tkE b e ≤ n) ∧ ¬ tkc b (tkB b e) (tkE b e) ∧ (∀ y, tkB b e ≤ y → y < tkE b e → tkc b (tkB b e) y) ∧ (tkS b e ≠ 0 → tkB b e < tkE b e) := by
  have hn := hb.1
  have hB := tkB_x hb he
  obtain ⟨h1, h2, h3⟩ := fs_x (P := fun k => ¬ tkc b (tkB b e) k) 130 (tkB b e) 0 n hB.1.2 (by omega) (by rintro ⟨a1, a2, -⟩; rw [hb.2.1 n (Int.le_refl _)] at a2; exact a1 a2.symm)
  refine ⟨h1, h2, fun y y1 y2 => Classical.byContradiction fun z => h3 y y1 y2 z, fun hs => ?_⟩
  by_cases g : tkB b e < tkE b e
  · exact g
  · have e1 : tkE b e = tkB b e := Int.le_antisymm (Int.not_lt.mp g) h1.1
    have h2' : ¬ tkc b (tkB b e) (tkE b e) := h2
    rw [e1] at h2'
    exact absurd ⟨hs, rfl, Or.inr (Or.inr rfl)⟩ h2'
theorem soF_0 {b : Int → Int} {n k : Int} (hb : BtO b n) (hk : 0 ≤ k) : soF (b k) = 0 ↔ n ≤ k := by
  constructor
  · intro h
    by_cases g : n ≤ k
    · exact g
    · have := hb.2.2 k hk (by omega)
      unfold soF at h
      (repeat' split at h) <;> omega
  · intro h
    rw [hb.2.1 k h]
    decide
theorem soF_2 {c : Int} : soF c = 2 ↔ 48 ≤ c ∧ c ≤ 57 := by unfold soF; (repeat' split) <;> omega
theorem soF_1 {c : Int} : soF c = 1 ↔ 97 ≤ c ∧ c ≤ 122 := by unfold soF; (repeat' split) <;> omega
theorem soF_3 {c : Int} : soF c = 3 ↔ c = 59 := by unfold soF; (repeat' split) <;> omega
theorem vaF_R {b : Int → Int} {g : Int} : ∀ k : Nat, (∀ j : Nat, j < k → 48 ≤ b (g + j) ∧ b (g + j) ≤ 57) → 0 ≤ vaF b g k ∧ vaF b g k ≤ 1000 := by
  intro k
  induction k with
  | zero => intro _; exact ⟨by show (0 : Int) ≤ 0; omega, by show (0 : Int) ≤ 1000; omega⟩
  | succ k ih =>
    intro h
    have h1 := ih (fun j hj => h j (by omega))
    have h2 := h k (by omega)
    unfold vaF
    omega
theorem tkV_R {b : Int → Int} {n e : Int} (hb : BtO b n) (he : 0 ≤ e ∧ e ≤ n) : 0 ≤ tkV b e ∧ tkV b e ≤ 1000 := by
  unfold tkV
  split
  · rename_i h
    have hE := tkE_x hb he
    refine vaF_R _ fun j hj => ?_
    have := hE.2.2.1 (tkB b e + j) (by omega) (by omega)
    have h2 := this.2.1
    rw [show soF (b (tkB b e)) = 2 from h] at h2
    exact soF_2.mp h2
  · omega
def rrw (r : Int → Int) (s g e v it pe : Int) : Int → Int := fun i => if i = 1 then s else if i = 2 then g else if i = 3 then e else if i = 4 then v else if i = 6 then it else if i = 7 then pe else r i
def rrM (M : xMem) (s g e v it pe : Int) (pa : Int → Int) : xMem := upr (upr M 49 (rrw (M 49) s g e v it pe)) 50 pa
theorem upr_c {M : xMem} {i k : Nat} {a c : Int → Int} (h : i ≠ k) : upr (upr M i a) k c = upr (upr M k c) i a := by
  funext j
  unfold upr
  by_cases h1 : j = k
  · subst h1
    rw [if_pos rfl, if_neg (fun z => h z.symm), if_pos rfl]
  · rw [if_neg h1, if_neg h1]
section RR
variable {M : xMem} {s g e v it pe x : Int} {pa : Int → Int}
theorem rr_u {j : Int} : up (rrM M s g e v it pe pa) 49 j x = upr (upr M 49 (ur (rrw (M 49) s g e v it pe) j x)) 50 pa := by
  unfold rrM up
  rw [upr_n (by decide), upr_s, upr_c (by decide), upr_upr]
theorem rr_1 : up (rrM M s g e v it pe pa) 49 1 x = rrM M x g e v it pe pa := by
  rw [rr_u, show ur (rrw (M 49) s g e v it pe) 1 x = rrw (M 49) x g e v it pe from by funext i; unfold ur rrw; (repeat' split) <;> first | rfl | omega]
  rfl
theorem rr_2 : up (rrM M s g e v it pe pa) 49 2 x = rrM M s x e v it pe pa := by
  rw [rr_u, show ur (rrw (M 49) s g e v it pe) 2 x = rrw (M 49) s x e v it pe from by funext i; unfold ur rrw; (repeat' split) <;> first | rfl | omega]
  rfl
theorem rr_3 : up (rrM M s g e v it pe pa) 49 3 x = rrM M s g x v it pe pa := by
  rw [rr_u, show ur (rrw (M 49) s g e v it pe) 3 x = rrw (M 49) s g x v it pe from by funext i; unfold ur rrw; (repeat' split) <;> first | rfl | omega]
  rfl
theorem rr_4 : up (rrM M s g e v it pe pa) 49 4 x = rrM M s g e x it pe pa := by
  rw [rr_u, show ur (rrw (M 49) s g e v it pe) 4 x = rrw (M 49) s g e x it pe from by funext i; unfold ur rrw; (repeat' split) <;> first | rfl | omega]
  rfl
theorem rr_6 : up (rrM M s g e v it pe pa) 49 6 x = rrM M s g e v x pe pa := by
  rw [rr_u, show ur (rrw (M 49) s g e v it pe) 6 x = rrw (M 49) s g e v x pe from by funext i; unfold ur rrw; (repeat' split) <;> first | rfl | omega]
  rfl
theorem rr_7 : up (rrM M s g e v it pe pa) 49 7 x = rrM M s g e v it x pa := by
  rw [rr_u, show ur (rrw (M 49) s g e v it pe) 7 x = rrw (M 49) s g e v it x from by funext i; unfold ur rrw; (repeat' split) <;> first | rfl | omega]
  rfl
theorem rr_50 {j : Int} : up (rrM M s g e v it pe pa) 50 j x = rrM M s g e v it pe (ur pa j x) := by
  unfold rrM up
  rw [upr_s, upr_upr]
theorem rr_r1 : rrM M s g e v it pe pa 49 1 = s := rfl
theorem rr_r2 : rrM M s g e v it pe pa 49 2 = g := rfl
theorem rr_r3 : rrM M s g e v it pe pa 49 3 = e := rfl
theorem rr_r4 : rrM M s g e v it pe pa 49 4 = v := rfl
theorem rr_r6 : rrM M s g e v it pe pa 49 6 = it := rfl
theorem rr_r7 : rrM M s g e v it pe pa 49 7 = pe := rfl
theorem rr_r50 : rrM M s g e v it pe pa 50 = pa := rfl
theorem rr_r47 : rrM M s g e v it pe pa 47 = M 47 := rfl
theorem rr_b : btC (rrM M s g e v it pe pa) = btC M := rfl
theorem rr_R (h : xR M) (h1 : inR s) (h2 : inR g) (h3 : inR e) (h4 : inR v) (h6 : inR it) (h7 : inR pe) (hp : ∀ j, inR (pa j)) : xR (rrM M s g e v it pe pa) := by
  refine upr_R (upr_R h fun j => ?_) hp
  unfold rrw
  (repeat' split) <;> first | assumption | exact h 49 _
theorem rr_R2 {s2 g2 e2 v2 : Int} (h : xR (rrM M s g e v it pe pa)) (h1 : inR s2) (h2 : inR g2) (h3 : inR e2) (h4 : inR v2) : xR (rrM M s2 g2 e2 v2 it pe pa) := by
  have q : rrM M s2 g2 e2 v2 it pe pa = up (up (up (up (rrM M s g e v it pe pa) 49 1 s2) 49 2 g2) 49 3 e2) 49 4 v2 := by rw [rr_1, rr_2, rr_3, rr_4]
  rw [q]
  exact up_R (up_R (up_R (up_R h h1) h2) h3) h4
end RR
theorem rr_id (M : xMem) : rrM M (M 49 1) (M 49 2) (M 49 3) (M 49 4) (M 49 6) (M 49 7) (M 50) = M := by
  unfold rrM
  have e : rrw (M 49) (M 49 1) (M 49 2) (M 49 3) (M 49 4) (M 49 6) (M 49 7) = M 49 := by
    funext i
    unfold rrw
    by_cases h1 : i = 1
    · rw [if_pos h1, h1]
    · rw [if_neg h1]
      by_cases h2 : i = 2
      · rw [if_pos h2, h2]
      · rw [if_neg h2]
        by_cases h3 : i = 3
        · rw [if_pos h3, h3]
        · rw [if_neg h3]
          by_cases h4 : i = 4
          · rw [if_pos h4, h4]
          · rw [if_neg h4]
            by_cases h6 : i = 6
            · rw [if_pos h6, h6]
            · rw [if_neg h6]
              by_cases h7 : i = 7
              · rw [if_pos h7, h7]
              · rw [if_neg h7]
  rw [e, upr_self, upr_self]
theorem dX2_sortOf_0 : decode cX2_sortOf 0 = .ok (.iload_n 0, 1) := by decide +kernel
theorem dX2_sortOf_1 : decode cX2_sortOf 1 = .ok (.ifCond .ge 5, 3) := by decide +kernel
theorem dX2_sortOf_4 : decode cX2_sortOf 4 = .ok (.iconst 0, 1) := by decide +kernel
theorem dX2_sortOf_5 : decode cX2_sortOf 5 = .ok (.ireturn, 1) := by decide +kernel
theorem dX2_sortOf_6 : decode cX2_sortOf 6 = .ok (.iload_n 0, 1) := by decide +kernel
theorem dX2_sortOf_7 : decode cX2_sortOf 7 = .ok (.bipush 97, 2) := by decide +kernel
theorem dX2_sortOf_9 : decode cX2_sortOf 9 = .ok (.if_icmp .lt 11, 3) := by decide +kernel
theorem dX2_sortOf_12 : decode cX2_sortOf 12 = .ok (.iload_n 0, 1) := by decide +kernel
theorem dX2_sortOf_13 : decode cX2_sortOf 13 = .ok (.bipush 122, 2) := by decide +kernel
theorem dX2_sortOf_15 : decode cX2_sortOf 15 = .ok (.if_icmp .gt 5, 3) := by decide +kernel
theorem dX2_sortOf_18 : decode cX2_sortOf 18 = .ok (.iconst 1, 1) := by decide +kernel
theorem dX2_sortOf_19 : decode cX2_sortOf 19 = .ok (.ireturn, 1) := by decide +kernel
theorem dX2_sortOf_20 : decode cX2_sortOf 20 = .ok (.iload_n 0, 1) := by decide +kernel
theorem dX2_sortOf_21 : decode cX2_sortOf 21 = .ok (.bipush 48, 2) := by decide +kernel
theorem dX2_sortOf_23 : decode cX2_sortOf 23 = .ok (.if_icmp .lt 11, 3) := by decide +kernel
theorem dX2_sortOf_26 : decode cX2_sortOf 26 = .ok (.iload_n 0, 1) := by decide +kernel
theorem dX2_sortOf_27 : decode cX2_sortOf 27 = .ok (.bipush 57, 2) := by decide +kernel
theorem dX2_sortOf_29 : decode cX2_sortOf 29 = .ok (.if_icmp .gt 5, 3) := by decide +kernel
theorem dX2_sortOf_32 : decode cX2_sortOf 32 = .ok (.iconst 2, 1) := by decide +kernel
theorem dX2_sortOf_33 : decode cX2_sortOf 33 = .ok (.ireturn, 1) := by decide +kernel
theorem dX2_sortOf_34 : decode cX2_sortOf 34 = .ok (.iload_n 0, 1) := by decide +kernel
theorem dX2_sortOf_35 : decode cX2_sortOf 35 = .ok (.bipush 59, 2) := by decide +kernel
theorem dX2_sortOf_37 : decode cX2_sortOf 37 = .ok (.if_icmp .ne 7, 3) := by decide +kernel
theorem dX2_sortOf_40 : decode cX2_sortOf 40 = .ok (.iconst 3, 1) := by decide +kernel
theorem dX2_sortOf_41 : decode cX2_sortOf 41 = .ok (.goto 4, 3) := by decide +kernel
theorem dX2_sortOf_44 : decode cX2_sortOf 44 = .ok (.iconst 4, 1) := by decide +kernel
theorem dX2_sortOf_45 : decode cX2_sortOf 45 = .ok (.ireturn, 1) := by decide +kernel
set_option maxHeartbeats 800000 in
set_option maxRecDepth 100000 in
theorem c_X2_sortOf {l : Launch} {ω : xO} (hc : xsh ω = clS) {c : Int} {M : xMem} (hcr : inR c) : Ct l ω yX2_sortOf ({ frames := 0, cells := 0, slots := 0, locals := 0 } : Room) 1 1 [.int (iI c)] M (some (.int (iI (soF c)))) M := by
  refine Ct.of (bytes := cX2_sortOf) (ret := (some .int)) (lv0 := [some (.int (iI c))]) m_cd_X2_sortOf m_in_X2 (by decide +kernel) (by decide +kernel) rfl rfl rfl rfl (fun hR => hR) ?_
  intro κ h he hR
  refine x_iload_n h dX2_sortOf_0 rfl ?_
  refine x_if_ge h dX2_sortOf_1 (tgt := 6) (by decide) (by omega) (fun q1 => ?_) (fun q1 => ?_)
  · refine x_iload_n h dX2_sortOf_6 rfl ?_
    refine x_bipush h dX2_sortOf_7 (by decide) ?_
    refine x_icmp_lt h dX2_sortOf_9 (tgt := 20) (by decide) (by omega) (by omega) (fun q9 => ?_) (fun q9 => ?_)
    · refine x_iload_n h dX2_sortOf_20 rfl ?_
      refine x_bipush h dX2_sortOf_21 (by decide) ?_
      refine x_icmp_lt h dX2_sortOf_23 (tgt := 34) (by decide) (by omega) (by omega) (fun q23 => ?_) (fun q23 => ?_)
      · refine x_iload_n h dX2_sortOf_34 rfl ?_
        refine x_bipush h dX2_sortOf_35 (by decide) ?_
        refine x_icmp_ne h dX2_sortOf_37 (tgt := 44) (by decide) (by omega) (by omega) (fun q37 => ?_) (fun q37 => ?_)
        · refine x_iconst h dX2_sortOf_44 ?_
          exact x_iret (ret := none) h he dX2_sortOf_45 rfl (by unfold soF; (repeat' split) <;> first | rfl | omega) rfl
        · refine x_iconst h dX2_sortOf_40 ?_
          refine x_goto h dX2_sortOf_41 (tgt := 45) (by decide) ?_
          exact x_iret (ret := none) h he dX2_sortOf_45 rfl (by unfold soF; (repeat' split) <;> first | rfl | omega) rfl
      · refine x_iload_n h dX2_sortOf_26 rfl ?_
        refine x_bipush h dX2_sortOf_27 (by decide) ?_
        refine x_icmp_gt h dX2_sortOf_29 (tgt := 34) (by decide) (by omega) (by omega) (fun q29 => ?_) (fun q29 => ?_)
        · refine x_iload_n h dX2_sortOf_34 rfl ?_
          refine x_bipush h dX2_sortOf_35 (by decide) ?_
          refine x_icmp_ne h dX2_sortOf_37 (tgt := 44) (by decide) (by omega) (by omega) (fun q37 => ?_) (fun q37 => ?_)
          · refine x_iconst h dX2_sortOf_44 ?_
            exact x_iret (ret := none) h he dX2_sortOf_45 rfl (by unfold soF; (repeat' split) <;> first | rfl | omega) rfl
          · refine x_iconst h dX2_sortOf_40 ?_
            refine x_goto h dX2_sortOf_41 (tgt := 45) (by decide) ?_
            exact x_iret (ret := none) h he dX2_sortOf_45 rfl (by unfold soF; (repeat' split) <;> first | rfl | omega) rfl
        · refine x_iconst h dX2_sortOf_32 ?_
          exact x_iret (ret := none) h he dX2_sortOf_33 rfl (by unfold soF; (repeat' split) <;> first | rfl | omega) rfl
    · refine x_iload_n h dX2_sortOf_12 rfl ?_
      refine x_bipush h dX2_sortOf_13 (by decide) ?_
      refine x_icmp_gt h dX2_sortOf_15 (tgt := 20) (by decide) (by omega) (by omega) (fun q15 => ?_) (fun q15 => ?_)
      · refine x_iload_n h dX2_sortOf_20 rfl ?_
        refine x_bipush h dX2_sortOf_21 (by decide) ?_
        refine x_icmp_lt h dX2_sortOf_23 (tgt := 34) (by decide) (by omega) (by omega) (fun q23 => ?_) (fun q23 => ?_)
        · refine x_iload_n h dX2_sortOf_34 rfl ?_
          refine x_bipush h dX2_sortOf_35 (by decide) ?_
          refine x_icmp_ne h dX2_sortOf_37 (tgt := 44) (by decide) (by omega) (by omega) (fun q37 => ?_) (fun q37 => ?_)
          · refine x_iconst h dX2_sortOf_44 ?_
            exact x_iret (ret := none) h he dX2_sortOf_45 rfl (by unfold soF; (repeat' split) <;> first | rfl | omega) rfl
          · refine x_iconst h dX2_sortOf_40 ?_
            refine x_goto h dX2_sortOf_41 (tgt := 45) (by decide) ?_
            exact x_iret (ret := none) h he dX2_sortOf_45 rfl (by unfold soF; (repeat' split) <;> first | rfl | omega) rfl
        · refine x_iload_n h dX2_sortOf_26 rfl ?_
          refine x_bipush h dX2_sortOf_27 (by decide) ?_
          refine x_icmp_gt h dX2_sortOf_29 (tgt := 34) (by decide) (by omega) (by omega) (fun q29 => ?_) (fun q29 => ?_)
          · refine x_iload_n h dX2_sortOf_34 rfl ?_
            refine x_bipush h dX2_sortOf_35 (by decide) ?_
            refine x_icmp_ne h dX2_sortOf_37 (tgt := 44) (by decide) (by omega) (by omega) (fun q37 => ?_) (fun q37 => ?_)
            · refine x_iconst h dX2_sortOf_44 ?_
              exact x_iret (ret := none) h he dX2_sortOf_45 rfl (by unfold soF; (repeat' split) <;> first | rfl | omega) rfl
            · refine x_iconst h dX2_sortOf_40 ?_
              refine x_goto h dX2_sortOf_41 (tgt := 45) (by decide) ?_
              exact x_iret (ret := none) h he dX2_sortOf_45 rfl (by unfold soF; (repeat' split) <;> first | rfl | omega) rfl
          · refine x_iconst h dX2_sortOf_32 ?_
            exact x_iret (ret := none) h he dX2_sortOf_33 rfl (by unfold soF; (repeat' split) <;> first | rfl | omega) rfl
      · refine x_iconst h dX2_sortOf_18 ?_
        exact x_iret (ret := none) h he dX2_sortOf_19 rfl (by unfold soF; (repeat' split) <;> first | rfl | omega) rfl
  · refine x_iconst h dX2_sortOf_4 ?_
    exact x_iret (ret := none) h he dX2_sortOf_5 rfl (by unfold soF; (repeat' split) <;> first | rfl | omega) rfl

theorem dX2_readToken_0 : decode cX2_readToken 0 = .ok (.aload_n 0, 1) := by decide +kernel
theorem dX2_readToken_1 : decode cX2_readToken 1 = .ok (.aload_n 0, 1) := by decide +kernel
theorem dX2_readToken_2 : decode cX2_readToken 2 = .ok (.getfield 18, 3) := by decide +kernel
theorem dX2_readToken_5 : decode cX2_readToken 5 = .ok (.putfield 15, 3) := by decide +kernel
theorem dX2_readToken_8 : decode cX2_readToken 8 = .ok (.aload_n 0, 1) := by decide +kernel
theorem dX2_readToken_9 : decode cX2_readToken 9 = .ok (.getfield 15, 3) := by decide +kernel
theorem dX2_readToken_12 : decode cX2_readToken 12 = .ok (.aload_n 0, 1) := by decide +kernel
theorem dX2_readToken_13 : decode cX2_readToken 13 = .ok (.getfield 34, 3) := by decide +kernel
theorem dX2_readToken_16 : decode cX2_readToken 16 = .ok (.invokevirtual 118, 3) := by decide +kernel
theorem dX2_readToken_19 : decode cX2_readToken 19 = .ok (.if_icmp .ge 32, 3) := by decide +kernel
theorem dX2_readToken_22 : decode cX2_readToken 22 = .ok (.aload_n 0, 1) := by decide +kernel
theorem dX2_readToken_23 : decode cX2_readToken 23 = .ok (.getfield 34, 3) := by decide +kernel
theorem dX2_readToken_26 : decode cX2_readToken 26 = .ok (.aload_n 0, 1) := by decide +kernel
theorem dX2_readToken_27 : decode cX2_readToken 27 = .ok (.getfield 15, 3) := by decide +kernel
theorem dX2_readToken_30 : decode cX2_readToken 30 = .ok (.invokevirtual 108, 3) := by decide +kernel
theorem dX2_readToken_33 : decode cX2_readToken 33 = .ok (.bipush 32, 2) := by decide +kernel
theorem dX2_readToken_35 : decode cX2_readToken 35 = .ok (.if_icmp .ne 16, 3) := by decide +kernel
theorem dX2_readToken_38 : decode cX2_readToken 38 = .ok (.aload_n 0, 1) := by decide +kernel
theorem dX2_readToken_39 : decode cX2_readToken 39 = .ok (.dup, 1) := by decide +kernel
theorem dX2_readToken_40 : decode cX2_readToken 40 = .ok (.getfield 15, 3) := by decide +kernel
theorem dX2_readToken_43 : decode cX2_readToken 43 = .ok (.iconst 1, 1) := by decide +kernel
theorem dX2_readToken_44 : decode cX2_readToken 44 = .ok (.iadd, 1) := by decide +kernel
theorem dX2_readToken_45 : decode cX2_readToken 45 = .ok (.putfield 15, 3) := by decide +kernel
theorem dX2_readToken_48 : decode cX2_readToken 48 = .ok (.goto (-40), 3) := by decide +kernel
theorem dX2_readToken_51 : decode cX2_readToken 51 = .ok (.aload_n 0, 1) := by decide +kernel
theorem dX2_readToken_52 : decode cX2_readToken 52 = .ok (.aload_n 0, 1) := by decide +kernel
theorem dX2_readToken_53 : decode cX2_readToken 53 = .ok (.getfield 34, 3) := by decide +kernel
theorem dX2_readToken_56 : decode cX2_readToken 56 = .ok (.aload_n 0, 1) := by decide +kernel
theorem dX2_readToken_57 : decode cX2_readToken 57 = .ok (.getfield 15, 3) := by decide +kernel
theorem dX2_readToken_60 : decode cX2_readToken 60 = .ok (.invokevirtual 108, 3) := by decide +kernel
theorem dX2_readToken_63 : decode cX2_readToken 63 = .ok (.invokestatic 121, 3) := by decide +kernel
theorem dX2_readToken_66 : decode cX2_readToken 66 = .ok (.putfield 11, 3) := by decide +kernel
theorem dX2_readToken_69 : decode cX2_readToken 69 = .ok (.aload_n 0, 1) := by decide +kernel
theorem dX2_readToken_70 : decode cX2_readToken 70 = .ok (.iconst 0, 1) := by decide +kernel
theorem dX2_readToken_71 : decode cX2_readToken 71 = .ok (.putfield 21, 3) := by decide +kernel
theorem dX2_readToken_74 : decode cX2_readToken 74 = .ok (.aload_n 0, 1) := by decide +kernel
theorem dX2_readToken_75 : decode cX2_readToken 75 = .ok (.aload_n 0, 1) := by decide +kernel
theorem dX2_readToken_76 : decode cX2_readToken 76 = .ok (.getfield 15, 3) := by decide +kernel
theorem dX2_readToken_79 : decode cX2_readToken 79 = .ok (.putfield 18, 3) := by decide +kernel
theorem dX2_readToken_82 : decode cX2_readToken 82 = .ok (.aload_n 0, 1) := by decide +kernel
theorem dX2_readToken_83 : decode cX2_readToken 83 = .ok (.getfield 11, 3) := by decide +kernel
theorem dX2_readToken_86 : decode cX2_readToken 86 = .ok (.iconst 1, 1) := by decide +kernel
theorem dX2_readToken_87 : decode cX2_readToken 87 = .ok (.if_icmp .eq 11, 3) := by decide +kernel
theorem dX2_readToken_90 : decode cX2_readToken 90 = .ok (.aload_n 0, 1) := by decide +kernel
theorem dX2_readToken_91 : decode cX2_readToken 91 = .ok (.getfield 11, 3) := by decide +kernel
theorem dX2_readToken_94 : decode cX2_readToken 94 = .ok (.iconst 2, 1) := by decide +kernel
theorem dX2_readToken_95 : decode cX2_readToken 95 = .ok (.if_icmp .ne 7, 3) := by decide +kernel
theorem dX2_readToken_98 : decode cX2_readToken 98 = .ok (.iconst 1, 1) := by decide +kernel
theorem dX2_readToken_99 : decode cX2_readToken 99 = .ok (.goto 4, 3) := by decide +kernel
theorem dX2_readToken_102 : decode cX2_readToken 102 = .ok (.iconst 0, 1) := by decide +kernel
theorem dX2_readToken_103 : decode cX2_readToken 103 = .ok (.istore_n 1, 1) := by decide +kernel
theorem dX2_readToken_104 : decode cX2_readToken 104 = .ok (.aload_n 0, 1) := by decide +kernel
theorem dX2_readToken_105 : decode cX2_readToken 105 = .ok (.getfield 18, 3) := by decide +kernel
theorem dX2_readToken_108 : decode cX2_readToken 108 = .ok (.aload_n 0, 1) := by decide +kernel
theorem dX2_readToken_109 : decode cX2_readToken 109 = .ok (.getfield 34, 3) := by decide +kernel
theorem dX2_readToken_112 : decode cX2_readToken 112 = .ok (.invokevirtual 118, 3) := by decide +kernel
theorem dX2_readToken_115 : decode cX2_readToken 115 = .ok (.if_icmp .ge 92, 3) := by decide +kernel
theorem dX2_readToken_118 : decode cX2_readToken 118 = .ok (.aload_n 0, 1) := by decide +kernel
theorem dX2_readToken_119 : decode cX2_readToken 119 = .ok (.getfield 34, 3) := by decide +kernel
theorem dX2_readToken_122 : decode cX2_readToken 122 = .ok (.aload_n 0, 1) := by decide +kernel
theorem dX2_readToken_123 : decode cX2_readToken 123 = .ok (.getfield 18, 3) := by decide +kernel
theorem dX2_readToken_126 : decode cX2_readToken 126 = .ok (.invokevirtual 108, 3) := by decide +kernel
theorem dX2_readToken_129 : decode cX2_readToken 129 = .ok (.invokestatic 121, 3) := by decide +kernel
theorem dX2_readToken_132 : decode cX2_readToken 132 = .ok (.aload_n 0, 1) := by decide +kernel
theorem dX2_readToken_133 : decode cX2_readToken 133 = .ok (.getfield 11, 3) := by decide +kernel
theorem dX2_readToken_136 : decode cX2_readToken 136 = .ok (.if_icmp .ne 71, 3) := by decide +kernel
theorem dX2_readToken_139 : decode cX2_readToken 139 = .ok (.iload_n 1, 1) := by decide +kernel
theorem dX2_readToken_140 : decode cX2_readToken 140 = .ok (.ifCond .ne 14, 3) := by decide +kernel
theorem dX2_readToken_143 : decode cX2_readToken 143 = .ok (.aload_n 0, 1) := by decide +kernel
theorem dX2_readToken_144 : decode cX2_readToken 144 = .ok (.getfield 18, 3) := by decide +kernel
theorem dX2_readToken_147 : decode cX2_readToken 147 = .ok (.aload_n 0, 1) := by decide +kernel
theorem dX2_readToken_148 : decode cX2_readToken 148 = .ok (.getfield 15, 3) := by decide +kernel
theorem dX2_readToken_151 : decode cX2_readToken 151 = .ok (.if_icmp .ne 56, 3) := by decide +kernel
theorem dX2_readToken_154 : decode cX2_readToken 154 = .ok (.aload_n 0, 1) := by decide +kernel
theorem dX2_readToken_155 : decode cX2_readToken 155 = .ok (.getfield 11, 3) := by decide +kernel
theorem dX2_readToken_158 : decode cX2_readToken 158 = .ok (.iconst 2, 1) := by decide +kernel
theorem dX2_readToken_159 : decode cX2_readToken 159 = .ok (.if_icmp .ne 35, 3) := by decide +kernel
theorem dX2_readToken_162 : decode cX2_readToken 162 = .ok (.aload_n 0, 1) := by decide +kernel
theorem dX2_readToken_163 : decode cX2_readToken 163 = .ok (.aload_n 0, 1) := by decide +kernel
theorem dX2_readToken_164 : decode cX2_readToken 164 = .ok (.getfield 21, 3) := by decide +kernel
theorem dX2_readToken_167 : decode cX2_readToken 167 = .ok (.bipush 10, 2) := by decide +kernel
theorem dX2_readToken_169 : decode cX2_readToken 169 = .ok (.imul, 1) := by decide +kernel
theorem dX2_readToken_170 : decode cX2_readToken 170 = .ok (.aload_n 0, 1) := by decide +kernel
theorem dX2_readToken_171 : decode cX2_readToken 171 = .ok (.getfield 34, 3) := by decide +kernel
theorem dX2_readToken_174 : decode cX2_readToken 174 = .ok (.aload_n 0, 1) := by decide +kernel
theorem dX2_readToken_175 : decode cX2_readToken 175 = .ok (.getfield 18, 3) := by decide +kernel
theorem dX2_readToken_178 : decode cX2_readToken 178 = .ok (.invokevirtual 108, 3) := by decide +kernel
theorem dX2_readToken_181 : decode cX2_readToken 181 = .ok (.iadd, 1) := by decide +kernel
theorem dX2_readToken_182 : decode cX2_readToken 182 = .ok (.bipush 48, 2) := by decide +kernel
theorem dX2_readToken_184 : decode cX2_readToken 184 = .ok (.isub, 1) := by decide +kernel
theorem dX2_readToken_185 : decode cX2_readToken 185 = .ok (.sipush 1000, 3) := by decide +kernel
theorem dX2_readToken_188 : decode cX2_readToken 188 = .ok (.invokestatic 124, 3) := by decide +kernel
theorem dX2_readToken_191 : decode cX2_readToken 191 = .ok (.putfield 21, 3) := by decide +kernel
theorem dX2_readToken_194 : decode cX2_readToken 194 = .ok (.aload_n 0, 1) := by decide +kernel
theorem dX2_readToken_195 : decode cX2_readToken 195 = .ok (.dup, 1) := by decide +kernel
theorem dX2_readToken_196 : decode cX2_readToken 196 = .ok (.getfield 18, 3) := by decide +kernel
theorem dX2_readToken_199 : decode cX2_readToken 199 = .ok (.iconst 1, 1) := by decide +kernel
theorem dX2_readToken_200 : decode cX2_readToken 200 = .ok (.iadd, 1) := by decide +kernel
theorem dX2_readToken_201 : decode cX2_readToken 201 = .ok (.putfield 18, 3) := by decide +kernel
theorem dX2_readToken_204 : decode cX2_readToken 204 = .ok (.goto (-100), 3) := by decide +kernel
theorem dX2_readToken_207 : decode cX2_readToken 207 = .ok (.return_, 1) := by decide +kernel
set_option maxHeartbeats 800000 in
set_option maxRecDepth 100000 in
theorem c_X2_readToken {l : Launch} {ω : xO} (hc : xsh ω = clS) {s g e v it pe : Int} {pa : Int → Int} {M : xMem} (hb : BtO (btC M) (M 47 1)) (he9 : 0 ≤ e ∧ e ≤ M 47 1) (hs : inR s) (hg : inR g) (hv : inR v) : Ct l ω yX2_readToken ({ frames := 1, cells := 0, slots := 0, locals := 21 } : Room) 2 0 [.ref (xad ω 49)] (rrM M s g e v it pe pa) none (rrM M (tkS (btC M) e) (tkB (btC M) e) (tkE (btC M) e) (tkV (btC M) e) it pe pa) := by
  refine Ct.of (bytes := cX2_readToken) (ret := none) (lv0 := [some (.ref (xad ω 49)), none]) m_cd_X2_readToken m_in_X2 (by decide +kernel) (by decide +kernel) rfl rfl rfl rfl (fun hR => by have h1 := tkB_x hb he9; have h2 := tkE_x hb he9; have h3 := tkV_R hb he9; have h4 := soF_R (btC M (tkB (btC M) e)); have h5 := hb.1; exact rr_R2 hR (by unfold tkS; omega) (by omega) (by omega) (by omega)) ?_
  intro κ h he hR
  refine x_aload_n h dX2_readToken_0 rfl ?_
  refine x_aload_n h dX2_readToken_1 rfl ?_
  refine x_geti (j := 3) 3 h dX2_readToken_2 (sC49 hc) rfl in_X2 rfl (by decide) m_fl_X2_18 rfl (fun r2 => ?_)
  try simp only [rr_r1, rr_r2, rr_r3, rr_r4, rr_r6, rr_r7, rr_r50, rr_r47, rr_b] at r2 ⊢
  refine x_puti (j := 2) 2 h dX2_readToken_5 (sC49 hc) rfl in_X2 rfl (by decide) m_fl_X2_15 tyX2_ok nmX2 rfl (tyX2_ok 2 (by decide)) rfl rfl (by omega) rfl ?_
  have hBx := tkB_x hb he9
  have hEx := tkE_x hb he9
  have hVR := tkV_R hb he9
  have hn := hb.1
  have hso : ∀ k, inR (soF (btC M k)) := fun k => by have := soF_R (btC M k); omega
  have hbr : ∀ k : Int, 0 ≤ k → -1 ≤ btC M k ∧ btC M k ≤ 255 := by
    intro k hk
    by_cases gk : k < M 47 1
    · have := hb.2.2 k hk gk; omega
    · rw [hb.2.1 k (by omega)]; decide
  have hs0 := soF_0 (k := tkB (btC M) e) hb (by omega)
  have H104 : ∀ (fl : Int), ((fl = 1 ∧ (tkS (btC M) e = 1 ∨ tkS (btC M) e = 2)) ∨ (fl = 0 ∧ tkS (btC M) e ≠ 1 ∧ tkS (btC M) e ≠ 2)) → ∀ (k : Nat) (y : Int), tkB (btC M) e ≤ y → y + k = tkE (btC M) e → X ω κ 104 [some (.ref (xad ω 49)), some (.int (iI fl))] [] (rrM M (tkS (btC M) e) (tkB (btC M) e) y (if tkS (btC M) e = 2 then vaF (btC M) (tkB (btC M) e) (y - tkB (btC M) e).toNat else 0) it pe pa) := by
    intro fl hfl k
    induction k with
    | zero =>
      intro y y1 y2
      have ey : y = tkE (btC M) e := by omega
      have hno := hEx.2.1
      rw [← ey] at hno
      have hby := hbr y (by omega)
      have hsR := soF_R (btC M (tkB (btC M) e))
      have hsR2 := soF_R (btC M y)
      have hsy := soF_0 (k := y) hb (by omega)
      unfold tkc at hno
      unfold tkS at hfl hs0 ⊢
      refine x_aload_n h dX2_readToken_104 rfl ?_
      refine x_geti (j := 3) 3 h dX2_readToken_105 (sC49 hc) rfl in_X2 rfl (by decide) m_fl_X2_18 rfl (fun r105 => ?_)
      try simp only [rr_r1, rr_r2, rr_r3, rr_r4, rr_r6, rr_r7, rr_r50, rr_r47, rr_b] at r105 ⊢
      refine x_aload_n h dX2_readToken_108 rfl ?_
      refine x_getr (j := 0) (q := 47) h dX2_readToken_109 (sC49 hc) rfl in_X2 rfl (by decide) m_fl_X2_34 ?_
      refine x_V0i h dX2_readToken_112 m_ml_X2_118 m_im_X5_size m_se_X5_size (sC47 hc) rfl (by decide) rfl (c_X5_size hc) ?_
      simp only [rr_r47]
      refine x_icmp_ge h dX2_readToken_115 (tgt := 207) (by decide) (by first | omega | exact hso _) (by first | omega | exact hso _) (fun q115 => ?_) (fun q115 => ?_)
      · exact x_vret h he dX2_readToken_207 (by unfold tkV tkS; rw [← ey])
      · refine x_aload_n h dX2_readToken_118 rfl ?_
        refine x_getr (j := 0) (q := 47) h dX2_readToken_119 (sC49 hc) rfl in_X2 rfl (by decide) m_fl_X2_34 ?_
        refine x_aload_n h dX2_readToken_122 rfl ?_
        refine x_geti (j := 3) 3 h dX2_readToken_123 (sC49 hc) rfl in_X2 rfl (by decide) m_fl_X2_18 rfl (fun r123 => ?_)
        try simp only [rr_r1, rr_r2, rr_r3, rr_r4, rr_r6, rr_r7, rr_r50, rr_r47, rr_b] at r123 ⊢
        refine x_V1i h dX2_readToken_126 m_ml_X2_108 m_im_X5_byteAt m_se_X5_byteAt (sC47 hc) rfl (by decide) rfl (c_X5_byteAt hc (by omega)) ?_
        simp only [rr_b]
        refine x_S1i h dX2_readToken_129 m_ml_X2_121 m_st_X2_sortOf (by decide) rfl (c_X2_sortOf hc (by omega)) ?_
        refine x_aload_n h dX2_readToken_132 rfl ?_
        refine x_geti (j := 1) 1 h dX2_readToken_133 (sC49 hc) rfl in_X2 rfl (by decide) m_fl_X2_11 rfl (fun r133 => ?_)
        try simp only [rr_r1, rr_r2, rr_r3, rr_r4, rr_r6, rr_r7, rr_r50, rr_r47, rr_b] at r133 ⊢
        refine x_icmp_ne h dX2_readToken_136 (tgt := 207) (by decide) (by first | omega | exact hso _) (by first | omega | exact hso _) (fun q136 => ?_) (fun q136 => ?_)
        · exact x_vret h he dX2_readToken_207 (by unfold tkV tkS; rw [← ey])
        · refine x_iload_n h dX2_readToken_139 rfl ?_
          refine x_if_ne h dX2_readToken_140 (tgt := 154) (by decide) (by first | omega | exact hso _) (fun q140 => ?_) (fun q140 => ?_)
          · exfalso
            first | omega | (apply hno; refine ⟨?_, ?_, ?_⟩ <;> omega)
          · refine x_aload_n h dX2_readToken_143 rfl ?_
            refine x_geti (j := 3) 3 h dX2_readToken_144 (sC49 hc) rfl in_X2 rfl (by decide) m_fl_X2_18 rfl (fun r144 => ?_)
            try simp only [rr_r1, rr_r2, rr_r3, rr_r4, rr_r6, rr_r7, rr_r50, rr_r47, rr_b] at r144 ⊢
            refine x_aload_n h dX2_readToken_147 rfl ?_
            refine x_geti (j := 2) 2 h dX2_readToken_148 (sC49 hc) rfl in_X2 rfl (by decide) m_fl_X2_15 rfl (fun r148 => ?_)
            try simp only [rr_r1, rr_r2, rr_r3, rr_r4, rr_r6, rr_r7, rr_r50, rr_r47, rr_b] at r148 ⊢
            refine x_icmp_ne h dX2_readToken_151 (tgt := 207) (by decide) (by first | omega | exact hso _) (by first | omega | exact hso _) (fun q151 => ?_) (fun q151 => ?_)
            · exact x_vret h he dX2_readToken_207 (by unfold tkV tkS; rw [← ey])
            · exfalso
              first | omega | (apply hno; refine ⟨?_, ?_, ?_⟩ <;> omega)
    | succ k ih =>
      intro y y1 y2
      have hyes := hEx.2.2.1 y y1 (by omega)
      have hby := hbr y (by omega)
      have hsR := soF_R (btC M (tkB (btC M) e))
      have hsy := soF_0 (k := y) hb (by omega)
      have ihy := ih (y + 1) (by omega) (by omega)
      have hv0 : tkS (btC M) e = 2 → 0 ≤ vaF (btC M) (tkB (btC M) e) (y - tkB (btC M) e).toNat ∧ vaF (btC M) (tkB (btC M) e) (y - tkB (btC M) e).toNat ≤ 1000 := by
        intro h2
        refine vaF_R _ fun j hj => ?_
        have g := (hEx.2.2.1 (tkB (btC M) e + j) (by omega) (by omega)).2.1
        rw [show soF (btC M (tkB (btC M) e)) = 2 from h2] at g
        exact soF_2.mp g
      have hv1 : tkS (btC M) e = 2 → vaF (btC M) (tkB (btC M) e) (y + 1 - tkB (btC M) e).toNat = min 1000 (10 * vaF (btC M) (tkB (btC M) e) (y - tkB (btC M) e).toNat + btC M y - 48) := by
        intro h2
        rw [show (y + 1 - tkB (btC M) e).toNat = (y - tkB (btC M) e).toNat + 1 by omega, vaF, show tkB (btC M) e + (((y - tkB (btC M) e).toNat : Nat) : Int) = y by omega]
      have hv2 : inR (if tkS (btC M) e = 2 then vaF (btC M) (tkB (btC M) e) (y - tkB (btC M) e).toNat else 0) := by
        split
        · rename_i h2; have := hv0 h2; omega
        · decide
      unfold tkc at hyes
      unfold tkS at hfl hs0 hv0 hv1 hv2 ihy ⊢
      refine x_aload_n h dX2_readToken_104 rfl ?_
      refine x_geti (j := 3) 3 h dX2_readToken_105 (sC49 hc) rfl in_X2 rfl (by decide) m_fl_X2_18 rfl (fun r105 => ?_)
      try simp only [rr_r1, rr_r2, rr_r3, rr_r4, rr_r6, rr_r7, rr_r50, rr_r47, rr_b] at r105 ⊢
      refine x_aload_n h dX2_readToken_108 rfl ?_
      refine x_getr (j := 0) (q := 47) h dX2_readToken_109 (sC49 hc) rfl in_X2 rfl (by decide) m_fl_X2_34 ?_
      refine x_V0i h dX2_readToken_112 m_ml_X2_118 m_im_X5_size m_se_X5_size (sC47 hc) rfl (by decide) rfl (c_X5_size hc) ?_
      simp only [rr_r47]
      refine x_icmp_ge h dX2_readToken_115 (tgt := 207) (by decide) (by first | omega | exact hso _ | assumption) (by first | omega | exact hso _ | assumption) (fun q115 => ?_) (fun q115 => ?_)
      · exfalso; first | omega | (rcases hyes with ⟨a1, a2, a3⟩; omega)
      · refine x_aload_n h dX2_readToken_118 rfl ?_
        refine x_getr (j := 0) (q := 47) h dX2_readToken_119 (sC49 hc) rfl in_X2 rfl (by decide) m_fl_X2_34 ?_
        refine x_aload_n h dX2_readToken_122 rfl ?_
        refine x_geti (j := 3) 3 h dX2_readToken_123 (sC49 hc) rfl in_X2 rfl (by decide) m_fl_X2_18 rfl (fun r123 => ?_)
        try simp only [rr_r1, rr_r2, rr_r3, rr_r4, rr_r6, rr_r7, rr_r50, rr_r47, rr_b] at r123 ⊢
        refine x_V1i h dX2_readToken_126 m_ml_X2_108 m_im_X5_byteAt m_se_X5_byteAt (sC47 hc) rfl (by decide) rfl (c_X5_byteAt hc (by omega)) ?_
        simp only [rr_b]
        refine x_S1i h dX2_readToken_129 m_ml_X2_121 m_st_X2_sortOf (by decide) rfl (c_X2_sortOf hc (by omega)) ?_
        refine x_aload_n h dX2_readToken_132 rfl ?_
        refine x_geti (j := 1) 1 h dX2_readToken_133 (sC49 hc) rfl in_X2 rfl (by decide) m_fl_X2_11 rfl (fun r133 => ?_)
        try simp only [rr_r1, rr_r2, rr_r3, rr_r4, rr_r6, rr_r7, rr_r50, rr_r47, rr_b] at r133 ⊢
        refine x_icmp_ne h dX2_readToken_136 (tgt := 207) (by decide) (by first | omega | exact hso _ | assumption) (by first | omega | exact hso _ | assumption) (fun q136 => ?_) (fun q136 => ?_)
        · exfalso; first | omega | (rcases hyes with ⟨a1, a2, a3⟩; omega)
        · refine x_iload_n h dX2_readToken_139 rfl ?_
          refine x_if_ne h dX2_readToken_140 (tgt := 154) (by decide) (by first | omega | exact hso _ | assumption) (fun q140 => ?_) (fun q140 => ?_)
          · refine x_aload_n h dX2_readToken_154 rfl ?_
            refine x_geti (j := 1) 1 h dX2_readToken_155 (sC49 hc) rfl in_X2 rfl (by decide) m_fl_X2_11 rfl (fun r155 => ?_)
            try simp only [rr_r1, rr_r2, rr_r3, rr_r4, rr_r6, rr_r7, rr_r50, rr_r47, rr_b] at r155 ⊢
            refine x_iconst h dX2_readToken_158 ?_
            refine x_icmp_ne h dX2_readToken_159 (tgt := 194) (by decide) (by first | omega | exact hso _ | assumption) (by first | omega | exact hso _ | assumption) (fun q159 => ?_) (fun q159 => ?_)
            · refine x_aload_n h dX2_readToken_194 rfl ?_
              try rw [rr_4]
              refine x_dup h dX2_readToken_195 rfl ?_
              refine x_geti (j := 3) 3 h dX2_readToken_196 (sC49 hc) rfl in_X2 rfl (by decide) m_fl_X2_18 rfl (fun r196 => ?_)
              try simp only [rr_r1, rr_r2, rr_r3, rr_r4, rr_r6, rr_r7, rr_r50, rr_r47, rr_b] at r196 ⊢
              refine x_iconst h dX2_readToken_199 ?_
              refine x_iadd h dX2_readToken_200 ?_
              refine x_puti (j := 3) 3 h dX2_readToken_201 (sC49 hc) rfl in_X2 rfl (by decide) m_fl_X2_18 tyX2_ok nmX2 rfl (tyX2_ok 3 (by decide)) rfl rfl (by first | omega | exact hso _ | assumption) rfl ?_
              refine x_goto h dX2_readToken_204 (tgt := 104) (by decide) ?_
              rw [rr_3]
              first
                | (rw [if_pos q159, hv1 q159] at ihy; exact x_same ihy rfl rfl (by congr 1; omega))
                | (rw [if_neg q159] at ihy ⊢; exact ihy)
            · refine x_aload_n h dX2_readToken_162 rfl ?_
              refine x_aload_n h dX2_readToken_163 rfl ?_
              refine x_geti (j := 4) 4 h dX2_readToken_164 (sC49 hc) rfl in_X2 rfl (by decide) m_fl_X2_21 rfl (fun r164 => ?_)
              try simp only [rr_r1, rr_r2, rr_r3, rr_r4, rr_r6, rr_r7, rr_r50, rr_r47, rr_b] at r164 ⊢
              rw [if_pos q159] at r164 ⊢
              have hv3 := hv0 q159
              refine x_bipush h dX2_readToken_167 (by decide) ?_
              refine x_imul h dX2_readToken_169 ?_
              refine x_aload_n h dX2_readToken_170 rfl ?_
              refine x_getr (j := 0) (q := 47) h dX2_readToken_171 (sC49 hc) rfl in_X2 rfl (by decide) m_fl_X2_34 ?_
              refine x_aload_n h dX2_readToken_174 rfl ?_
              refine x_geti (j := 3) 3 h dX2_readToken_175 (sC49 hc) rfl in_X2 rfl (by decide) m_fl_X2_18 rfl (fun r175 => ?_)
              try simp only [rr_r1, rr_r2, rr_r3, rr_r4, rr_r6, rr_r7, rr_r50, rr_r47, rr_b] at r175 ⊢
              refine x_V1i h dX2_readToken_178 m_ml_X2_108 m_im_X5_byteAt m_se_X5_byteAt (sC47 hc) rfl (by decide) rfl (c_X5_byteAt hc (by omega)) ?_
              simp only [rr_b]
              refine x_iadd h dX2_readToken_181 ?_
              refine x_bipush h dX2_readToken_182 (by decide) ?_
              refine x_isub h dX2_readToken_184 ?_
              refine x_sipush h dX2_readToken_185 (by decide) ?_
              refine x_min h dX2_readToken_188 m_ml_X2_124 rfl (by decide) (by first | omega | exact hso _ | assumption) (by first | omega | exact hso _ | assumption) ?_
              refine x_puti (j := 4) 4 h dX2_readToken_191 (sC49 hc) rfl in_X2 rfl (by decide) m_fl_X2_21 tyX2_ok nmX2 rfl (tyX2_ok 4 (by decide)) rfl rfl (by first | omega | exact hso _ | assumption) rfl ?_
              refine x_aload_n h dX2_readToken_194 rfl ?_
              try rw [rr_4]
              refine x_dup h dX2_readToken_195 rfl ?_
              refine x_geti (j := 3) 3 h dX2_readToken_196 (sC49 hc) rfl in_X2 rfl (by decide) m_fl_X2_18 rfl (fun r196 => ?_)
              try simp only [rr_r1, rr_r2, rr_r3, rr_r4, rr_r6, rr_r7, rr_r50, rr_r47, rr_b] at r196 ⊢
              refine x_iconst h dX2_readToken_199 ?_
              refine x_iadd h dX2_readToken_200 ?_
              refine x_puti (j := 3) 3 h dX2_readToken_201 (sC49 hc) rfl in_X2 rfl (by decide) m_fl_X2_18 tyX2_ok nmX2 rfl (tyX2_ok 3 (by decide)) rfl rfl (by first | omega | exact hso _ | assumption) rfl ?_
              refine x_goto h dX2_readToken_204 (tgt := 104) (by decide) ?_
              rw [rr_3]
              first
                | (rw [if_pos q159, hv1 q159] at ihy; exact x_same ihy rfl rfl (by congr 1; omega))
                | (rw [if_neg q159] at ihy ⊢; exact ihy)
          · refine x_aload_n h dX2_readToken_143 rfl ?_
            refine x_geti (j := 3) 3 h dX2_readToken_144 (sC49 hc) rfl in_X2 rfl (by decide) m_fl_X2_18 rfl (fun r144 => ?_)
            try simp only [rr_r1, rr_r2, rr_r3, rr_r4, rr_r6, rr_r7, rr_r50, rr_r47, rr_b] at r144 ⊢
            refine x_aload_n h dX2_readToken_147 rfl ?_
            refine x_geti (j := 2) 2 h dX2_readToken_148 (sC49 hc) rfl in_X2 rfl (by decide) m_fl_X2_15 rfl (fun r148 => ?_)
            try simp only [rr_r1, rr_r2, rr_r3, rr_r4, rr_r6, rr_r7, rr_r50, rr_r47, rr_b] at r148 ⊢
            refine x_icmp_ne h dX2_readToken_151 (tgt := 207) (by decide) (by first | omega | exact hso _ | assumption) (by first | omega | exact hso _ | assumption) (fun q151 => ?_) (fun q151 => ?_)
            · exfalso; first | omega | (rcases hyes with ⟨a1, a2, a3⟩; omega)
            · refine x_aload_n h dX2_readToken_154 rfl ?_
              refine x_geti (j := 1) 1 h dX2_readToken_155 (sC49 hc) rfl in_X2 rfl (by decide) m_fl_X2_11 rfl (fun r155 => ?_)
              try simp only [rr_r1, rr_r2, rr_r3, rr_r4, rr_r6, rr_r7, rr_r50, rr_r47, rr_b] at r155 ⊢
              refine x_iconst h dX2_readToken_158 ?_
              refine x_icmp_ne h dX2_readToken_159 (tgt := 194) (by decide) (by first | omega | exact hso _ | assumption) (by first | omega | exact hso _ | assumption) (fun q159 => ?_) (fun q159 => ?_)
              · refine x_aload_n h dX2_readToken_194 rfl ?_
                try rw [rr_4]
                refine x_dup h dX2_readToken_195 rfl ?_
                refine x_geti (j := 3) 3 h dX2_readToken_196 (sC49 hc) rfl in_X2 rfl (by decide) m_fl_X2_18 rfl (fun r196 => ?_)
                try simp only [rr_r1, rr_r2, rr_r3, rr_r4, rr_r6, rr_r7, rr_r50, rr_r47, rr_b] at r196 ⊢
                refine x_iconst h dX2_readToken_199 ?_
                refine x_iadd h dX2_readToken_200 ?_
                refine x_puti (j := 3) 3 h dX2_readToken_201 (sC49 hc) rfl in_X2 rfl (by decide) m_fl_X2_18 tyX2_ok nmX2 rfl (tyX2_ok 3 (by decide)) rfl rfl (by first | omega | exact hso _ | assumption) rfl ?_
                refine x_goto h dX2_readToken_204 (tgt := 104) (by decide) ?_
                rw [rr_3]
                first
                  | (rw [if_pos q159, hv1 q159] at ihy; exact x_same ihy rfl rfl (by congr 1; omega))
                  | (rw [if_neg q159] at ihy ⊢; exact ihy)
              · refine x_aload_n h dX2_readToken_162 rfl ?_
                refine x_aload_n h dX2_readToken_163 rfl ?_
                refine x_geti (j := 4) 4 h dX2_readToken_164 (sC49 hc) rfl in_X2 rfl (by decide) m_fl_X2_21 rfl (fun r164 => ?_)
                try simp only [rr_r1, rr_r2, rr_r3, rr_r4, rr_r6, rr_r7, rr_r50, rr_r47, rr_b] at r164 ⊢
                rw [if_pos q159] at r164 ⊢
                have hv3 := hv0 q159
                refine x_bipush h dX2_readToken_167 (by decide) ?_
                refine x_imul h dX2_readToken_169 ?_
                refine x_aload_n h dX2_readToken_170 rfl ?_
                refine x_getr (j := 0) (q := 47) h dX2_readToken_171 (sC49 hc) rfl in_X2 rfl (by decide) m_fl_X2_34 ?_
                refine x_aload_n h dX2_readToken_174 rfl ?_
                refine x_geti (j := 3) 3 h dX2_readToken_175 (sC49 hc) rfl in_X2 rfl (by decide) m_fl_X2_18 rfl (fun r175 => ?_)
                try simp only [rr_r1, rr_r2, rr_r3, rr_r4, rr_r6, rr_r7, rr_r50, rr_r47, rr_b] at r175 ⊢
                refine x_V1i h dX2_readToken_178 m_ml_X2_108 m_im_X5_byteAt m_se_X5_byteAt (sC47 hc) rfl (by decide) rfl (c_X5_byteAt hc (by omega)) ?_
                simp only [rr_b]
                refine x_iadd h dX2_readToken_181 ?_
                refine x_bipush h dX2_readToken_182 (by decide) ?_
                refine x_isub h dX2_readToken_184 ?_
                refine x_sipush h dX2_readToken_185 (by decide) ?_
                refine x_min h dX2_readToken_188 m_ml_X2_124 rfl (by decide) (by first | omega | exact hso _ | assumption) (by first | omega | exact hso _ | assumption) ?_
                refine x_puti (j := 4) 4 h dX2_readToken_191 (sC49 hc) rfl in_X2 rfl (by decide) m_fl_X2_21 tyX2_ok nmX2 rfl (tyX2_ok 4 (by decide)) rfl rfl (by first | omega | exact hso _ | assumption) rfl ?_
                refine x_aload_n h dX2_readToken_194 rfl ?_
                try rw [rr_4]
                refine x_dup h dX2_readToken_195 rfl ?_
                refine x_geti (j := 3) 3 h dX2_readToken_196 (sC49 hc) rfl in_X2 rfl (by decide) m_fl_X2_18 rfl (fun r196 => ?_)
                try simp only [rr_r1, rr_r2, rr_r3, rr_r4, rr_r6, rr_r7, rr_r50, rr_r47, rr_b] at r196 ⊢
                refine x_iconst h dX2_readToken_199 ?_
                refine x_iadd h dX2_readToken_200 ?_
                refine x_puti (j := 3) 3 h dX2_readToken_201 (sC49 hc) rfl in_X2 rfl (by decide) m_fl_X2_18 tyX2_ok nmX2 rfl (tyX2_ok 3 (by decide)) rfl rfl (by first | omega | exact hso _ | assumption) rfl ?_
                refine x_goto h dX2_readToken_204 (tgt := 104) (by decide) ?_
                rw [rr_3]
                first
                  | (rw [if_pos q159, hv1 q159] at ihy; exact x_same ihy rfl rfl (by congr 1; omega))
                  | (rw [if_neg q159] at ihy ⊢; exact ihy)
  have hV0 : (if tkS (btC M) e = 2 then vaF (btC M) (tkB (btC M) e) (tkB (btC M) e - tkB (btC M) e).toNat else 0) = 0 := by rw [Int.sub_self]; split <;> rfl
  have H51 : ∀ x1 x2, inR x1 → inR x2 → X ω κ 51 [some (.ref (xad ω 49)), none] [] (rrM M x1 (tkB (btC M) e) e x2 it pe pa) := by
    intro x1 x2 hx1 hx2
    have hbg := hbr (tkB (btC M) e) (by omega)
    have hsR := soF_R (btC M (tkB (btC M) e))
    have H2 := fun fl hfl => H104 fl hfl (tkE (btC M) e - tkB (btC M) e).toNat (tkB (btC M) e) (Int.le_refl _) (by omega)
    rw [hV0] at H2
    unfold tkS at H2
    refine x_aload_n h dX2_readToken_51 rfl ?_
    refine x_aload_n h dX2_readToken_52 rfl ?_
    refine x_getr (j := 0) (q := 47) h dX2_readToken_53 (sC49 hc) rfl in_X2 rfl (by decide) m_fl_X2_34 ?_
    refine x_aload_n h dX2_readToken_56 rfl ?_
    refine x_geti (j := 2) 2 h dX2_readToken_57 (sC49 hc) rfl in_X2 rfl (by decide) m_fl_X2_15 rfl (fun r57 => ?_)
    try simp only [rr_r1, rr_r2, rr_r3, rr_r4, rr_r6, rr_r7, rr_r50, rr_r47, rr_b] at r57 ⊢
    refine x_V1i h dX2_readToken_60 m_ml_X2_108 m_im_X5_byteAt m_se_X5_byteAt (sC47 hc) rfl (by decide) rfl (c_X5_byteAt hc (by omega)) ?_
    simp only [rr_b]
    refine x_S1i h dX2_readToken_63 m_ml_X2_121 m_st_X2_sortOf (by decide) rfl (c_X2_sortOf hc (by omega)) ?_
    refine x_puti (j := 1) 1 h dX2_readToken_66 (sC49 hc) rfl in_X2 rfl (by decide) m_fl_X2_11 tyX2_ok nmX2 rfl (tyX2_ok 1 (by decide)) rfl rfl (by first | omega | exact hso _ | assumption) rfl ?_
    rw [rr_1]
    refine x_aload_n h dX2_readToken_69 rfl ?_
    refine x_iconst h dX2_readToken_70 ?_
    refine x_puti (j := 4) 4 h dX2_readToken_71 (sC49 hc) rfl in_X2 rfl (by decide) m_fl_X2_21 tyX2_ok nmX2 rfl (tyX2_ok 4 (by decide)) rfl rfl (by first | omega | exact hso _ | assumption) rfl ?_
    rw [rr_4]
    refine x_aload_n h dX2_readToken_74 rfl ?_
    refine x_aload_n h dX2_readToken_75 rfl ?_
    refine x_geti (j := 2) 2 h dX2_readToken_76 (sC49 hc) rfl in_X2 rfl (by decide) m_fl_X2_15 rfl (fun r76 => ?_)
    try simp only [rr_r1, rr_r2, rr_r3, rr_r4, rr_r6, rr_r7, rr_r50, rr_r47, rr_b] at r76 ⊢
    refine x_puti (j := 3) 3 h dX2_readToken_79 (sC49 hc) rfl in_X2 rfl (by decide) m_fl_X2_18 tyX2_ok nmX2 rfl (tyX2_ok 3 (by decide)) rfl rfl (by first | omega | exact hso _ | assumption) rfl ?_
    rw [rr_3]
    refine x_aload_n h dX2_readToken_82 rfl ?_
    refine x_geti (j := 1) 1 h dX2_readToken_83 (sC49 hc) rfl in_X2 rfl (by decide) m_fl_X2_11 rfl (fun r83 => ?_)
    try simp only [rr_r1, rr_r2, rr_r3, rr_r4, rr_r6, rr_r7, rr_r50, rr_r47, rr_b] at r83 ⊢
    refine x_iconst h dX2_readToken_86 ?_
    refine x_icmp_eq h dX2_readToken_87 (tgt := 98) (by decide) (by first | omega | exact hso _ | assumption) (by first | omega | exact hso _ | assumption) (fun q87 => ?_) (fun q87 => ?_)
    · refine x_iconst h dX2_readToken_98 ?_
      refine x_goto h dX2_readToken_99 (tgt := 103) (by decide) ?_
      refine x_istore_n h dX2_readToken_103 rfl rfl ?_
      dsimp only [xset]
      exact H2 _ (by omega)
    · refine x_aload_n h dX2_readToken_90 rfl ?_
      refine x_geti (j := 1) 1 h dX2_readToken_91 (sC49 hc) rfl in_X2 rfl (by decide) m_fl_X2_11 rfl (fun r91 => ?_)
      try simp only [rr_r1, rr_r2, rr_r3, rr_r4, rr_r6, rr_r7, rr_r50, rr_r47, rr_b] at r91 ⊢
      refine x_iconst h dX2_readToken_94 ?_
      refine x_icmp_ne h dX2_readToken_95 (tgt := 102) (by decide) (by first | omega | exact hso _ | assumption) (by first | omega | exact hso _ | assumption) (fun q95 => ?_) (fun q95 => ?_)
      · refine x_iconst h dX2_readToken_102 ?_
        refine x_istore_n h dX2_readToken_103 rfl rfl ?_
        dsimp only [xset]
        exact H2 _ (by omega)
      · refine x_iconst h dX2_readToken_98 ?_
        refine x_goto h dX2_readToken_99 (tgt := 103) (by decide) ?_
        refine x_istore_n h dX2_readToken_103 rfl rfl ?_
        dsimp only [xset]
        exact H2 _ (by omega)
  have H8 : ∀ (k : Nat) (y : Int), e ≤ y → y + k = tkB (btC M) e → X ω κ 8 [some (.ref (xad ω 49)), none] [] (rrM M s y e v it pe pa) := by
    intro k
    induction k with
    | zero =>
      intro y y1 y2
      have ey : y = tkB (btC M) e := by omega
      subst ey
      have hbg := hbr (tkB (btC M) e) (by omega)
      refine x_aload_n h dX2_readToken_8 rfl ?_
      refine x_geti (j := 2) 2 h dX2_readToken_9 (sC49 hc) rfl in_X2 rfl (by decide) m_fl_X2_15 rfl (fun r9 => ?_)
      try simp only [rr_r1, rr_r2, rr_r3, rr_r4, rr_r6, rr_r7, rr_r50, rr_r47, rr_b] at r9 ⊢
      refine x_aload_n h dX2_readToken_12 rfl ?_
      refine x_getr (j := 0) (q := 47) h dX2_readToken_13 (sC49 hc) rfl in_X2 rfl (by decide) m_fl_X2_34 ?_
      refine x_V0i h dX2_readToken_16 m_ml_X2_118 m_im_X5_size m_se_X5_size (sC47 hc) rfl (by decide) rfl (c_X5_size hc) ?_
      simp only [rr_r47]
      refine x_icmp_ge h dX2_readToken_19 (tgt := 51) (by decide) (by omega) (by omega) (fun q19 => ?_) (fun q19 => ?_)
      · exact H51 s v hs hv
      · refine x_aload_n h dX2_readToken_22 rfl ?_
        refine x_getr (j := 0) (q := 47) h dX2_readToken_23 (sC49 hc) rfl in_X2 rfl (by decide) m_fl_X2_34 ?_
        refine x_aload_n h dX2_readToken_26 rfl ?_
        refine x_geti (j := 2) 2 h dX2_readToken_27 (sC49 hc) rfl in_X2 rfl (by decide) m_fl_X2_15 rfl (fun r27 => ?_)
        try simp only [rr_r1, rr_r2, rr_r3, rr_r4, rr_r6, rr_r7, rr_r50, rr_r47, rr_b] at r27 ⊢
        refine x_V1i h dX2_readToken_30 m_ml_X2_108 m_im_X5_byteAt m_se_X5_byteAt (sC47 hc) rfl (by decide) rfl (c_X5_byteAt hc (by omega)) ?_
        simp only [rr_b]
        refine x_bipush h dX2_readToken_33 (by decide) ?_
        refine x_icmp_ne h dX2_readToken_35 (tgt := 51) (by decide) (by omega) (by omega) (fun q35 => ?_) (fun q35 => ?_)
        · exact H51 s v hs hv
        · exact absurd q35 hBx.2.1
    | succ k ih =>
      intro y y1 y2
      have h32 := hBx.2.2 y y1 (by omega)
      have hy : y < M 47 1 := by omega
      have hbg := hbr y (by omega)
      refine x_aload_n h dX2_readToken_8 rfl ?_
      refine x_geti (j := 2) 2 h dX2_readToken_9 (sC49 hc) rfl in_X2 rfl (by decide) m_fl_X2_15 rfl (fun r9 => ?_)
      try simp only [rr_r1, rr_r2, rr_r3, rr_r4, rr_r6, rr_r7, rr_r50, rr_r47, rr_b] at r9 ⊢
      refine x_aload_n h dX2_readToken_12 rfl ?_
      refine x_getr (j := 0) (q := 47) h dX2_readToken_13 (sC49 hc) rfl in_X2 rfl (by decide) m_fl_X2_34 ?_
      refine x_V0i h dX2_readToken_16 m_ml_X2_118 m_im_X5_size m_se_X5_size (sC47 hc) rfl (by decide) rfl (c_X5_size hc) ?_
      simp only [rr_r47]
      refine x_icmp_ge h dX2_readToken_19 (tgt := 51) (by decide) (by omega) (by omega) (fun q19 => ?_) (fun q19 => ?_)
      · exfalso; omega
      · refine x_aload_n h dX2_readToken_22 rfl ?_
        refine x_getr (j := 0) (q := 47) h dX2_readToken_23 (sC49 hc) rfl in_X2 rfl (by decide) m_fl_X2_34 ?_
        refine x_aload_n h dX2_readToken_26 rfl ?_
        refine x_geti (j := 2) 2 h dX2_readToken_27 (sC49 hc) rfl in_X2 rfl (by decide) m_fl_X2_15 rfl (fun r27 => ?_)
        try simp only [rr_r1, rr_r2, rr_r3, rr_r4, rr_r6, rr_r7, rr_r50, rr_r47, rr_b] at r27 ⊢
        refine x_V1i h dX2_readToken_30 m_ml_X2_108 m_im_X5_byteAt m_se_X5_byteAt (sC47 hc) rfl (by decide) rfl (c_X5_byteAt hc (by omega)) ?_
        simp only [rr_b]
        refine x_bipush h dX2_readToken_33 (by decide) ?_
        refine x_icmp_ne h dX2_readToken_35 (tgt := 51) (by decide) (by omega) (by omega) (fun q35 => ?_) (fun q35 => ?_)
        · exact absurd h32 q35
        · refine x_aload_n h dX2_readToken_38 rfl ?_
          refine x_dup h dX2_readToken_39 rfl ?_
          refine x_geti (j := 2) 2 h dX2_readToken_40 (sC49 hc) rfl in_X2 rfl (by decide) m_fl_X2_15 rfl (fun r40 => ?_)
          try simp only [rr_r1, rr_r2, rr_r3, rr_r4, rr_r6, rr_r7, rr_r50, rr_r47, rr_b] at r40 ⊢
          refine x_iconst h dX2_readToken_43 ?_
          refine x_iadd h dX2_readToken_44 ?_
          refine x_puti (j := 2) 2 h dX2_readToken_45 (sC49 hc) rfl in_X2 rfl (by decide) m_fl_X2_15 tyX2_ok nmX2 rfl (tyX2_ok 2 (by decide)) rfl rfl (by omega) rfl ?_
          refine x_goto h dX2_readToken_48 (tgt := 8) (by decide) ?_
          rw [rr_2]
          exact ih (y + 1) (by omega) (by omega)
  rw [rr_2]
  exact H8 (tkB (btC M) e - e).toNat e (Int.le_refl _) (by omega)

