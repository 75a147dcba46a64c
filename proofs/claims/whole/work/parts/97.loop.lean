/-! the law: its loop -/
theorem dL_18 : decode code 18 = .ok (.iload_n 3, 1) := by decide +kernel
theorem dL_19 : decode code 19 = .ok (.aload_n 0, 1) := by decide +kernel
theorem dL_20 : decode code 20 = .ok (.arraylength, 1) := by decide +kernel
theorem dL_21 : decode code 21 = .ok (.bipush 6, 2) := by decide +kernel
theorem dL_23 : decode code 23 = .ok (.isub, 1) := by decide +kernel
theorem dL_24 : decode code 24 = .ok (.if_icmp .gt 1433, 3) := by decide +kernel
theorem dL_27 : decode code 27 = .ok (.aload_n 0, 1) := by decide +kernel
theorem dL_28 : decode code 28 = .ok (.iload_n 3, 1) := by decide +kernel
theorem dL_29 : decode code 29 = .ok (.iaload, 1) := by decide +kernel
theorem dL_30 : decode code 30 = .ok (.bipush 63, 2) := by decide +kernel
theorem dL_32 : decode code 32 = .ok (.iand, 1) := by decide +kernel
theorem dL_33 : decode code 33 = .ok (.tableswitch 1418 0 45 #[199, 242, 275, 308, 341, 384, 427, 450, 473, 496, 519, 542, 575, 598, 621, 634, 647, 670, 693, 716, 729, 742, 775, 788, 811, 824, 867, 910, 933, 967, 990, 1013, 1046, 1059, 1072, 1105, 1138, 1181, 1224, 1287, 1310, 1333, 1346, 1359, 1372, 1395], 199) := by decide +kernel
theorem dL_1451 : decode code 1451 = .ok (.iinc 3 6, 3) := by decide +kernel
theorem dL_1454 : decode code 1454 = .ok (.goto (-1436), 3) := by decide +kernel
theorem dL_1457 : decode code 1457 = .ok (.iconst 1, 1) := by decide +kernel
theorem dL_1458 : decode code 1458 = .ok (.ireturn, 1) := by decide +kernel
def stP (n : Nat) : Nat := [232, 275, 308, 341, 374, 417, 460, 483, 506, 529, 552, 575, 608, 631, 654, 667, 680, 703, 726, 749, 762, 775, 808, 821, 844, 857, 900, 943, 966, 1000, 1023, 1046, 1079, 1092, 1105, 1138, 1171, 1214, 1257, 1320, 1343, 1366, 1379, 1392, 1405, 1428].getD n 0
theorem stP_ok : ∀ n, n < 46 → (#[199, 242, 275, 308, 341, 384, 427, 450, 473, 496, 519, 542, 575, 598, 621, 634, 647, 670, 693, 716, 729, 742, 775, 788, 811, 824, 867, 910, 933, 967, 990, 1013, 1046, 1059, 1072, 1105, 1138, 1181, 1224, 1287, 1310, 1333, 1346, 1359, 1372, 1395] : Array Int)[n]? = some ((stP n : Int) - 33) := by decide +kernel
section LO
variable {ω ω' : xO} {κ : xK} {l : Launch} {b L : Nat} {xs : Nat → Int32} {ki vi : Nat → Nat} {kss : Nat → Option Nat}
theorem all_calls {i K : Int} {C N : xMem} (h : LOk ω ω' κ l b L xs ki vi kss) (hi : 0 ≤ i ∧ i + 6 ≤ (L : Int)) (hk : kI K) (hW : Wo K C N) (hF : Fc N) (kk : ∀ C' N', Wo (K + 100) C' N' → Fc N' → LW ω ω' κ b i 1451 [] C' N') (n : Nat) (hn : n < 46) : LW ω ω' κ b i (stP n) [] C N :=
  match n, hn with
  | 0, _ => L_0 h hi hk hW hF kk
  | 1, _ => L_1 h hi hk hW hF kk
  | 2, _ => L_2 h hi hk hW hF kk
  | 3, _ => L_3 h hi hk hW hF kk
  | 4, _ => L_4 h hi hk hW hF kk
  | 5, _ => L_5 h hi hk hW hF kk
  | 6, _ => L_6 h hi hk hW hF kk
  | 7, _ => L_7 h hi hk hW hF kk
  | 8, _ => L_8 h hi hk hW hF kk
  | 9, _ => L_9 h hi hk hW hF kk
  | 10, _ => L_10 h hi hk hW hF kk
  | 11, _ => L_11 h hi hk hW hF kk
  | 12, _ => L_12 h hi hk hW hF kk
  | 13, _ => L_13 h hi hk hW hF kk
  | 14, _ => L_14 h hi hk hW hF kk
  | 15, _ => L_15 h hi hk hW hF kk
  | 16, _ => L_16 h hi hk hW hF kk
  | 17, _ => L_17 h hi hk hW hF kk
  | 18, _ => L_18 h hi hk hW hF kk
  | 19, _ => L_19 h hi hk hW hF kk
  | 20, _ => L_20 h hi hk hW hF kk
  | 21, _ => L_21 h hi hk hW hF kk
  | 22, _ => L_22 h hi hk hW hF kk
  | 23, _ => L_23 h hi hk hW hF kk
  | 24, _ => L_24 h hi hk hW hF kk
  | 25, _ => L_25 h hi hk hW hF kk
  | 26, _ => L_26 h hi hk hW hF kk
  | 27, _ => L_27 h hi hk hW hF kk
  | 28, _ => L_28 h hi hk hW hF kk
  | 29, _ => L_29 h hi hk hW hF kk
  | 30, _ => L_30 h hi hk hW hF kk
  | 31, _ => L_31 h hi hk hW hF kk
  | 32, _ => L_32 h hi hk hW hF kk
  | 33, _ => L_33 h hi hk hW hF kk
  | 34, _ => L_34 h hi hk hW hF kk
  | 35, _ => L_35 h hi hk hW hF kk
  | 36, _ => L_36 h hi hk hW hF kk
  | 37, _ => L_37 h hi hk hW hF kk
  | 38, _ => L_38 h hi hk hW hF kk
  | 39, _ => L_39 h hi hk hW hF kk
  | 40, _ => L_40 h hi hk hW hF kk
  | 41, _ => L_41 h hi hk hW hF kk
  | 42, _ => L_42 h hi hk hW hF kk
  | 43, _ => L_43 h hi hk hW hF kk
  | 44, _ => L_44 h hi hk hW hF kk
  | 45, _ => L_45 h hi hk hW hF kk
  | n + 46, q => absurd q (by omega)
theorem l_back {i : Int} {C N : xMem} (h : LOk ω ω' κ l b L xs ki vi kss) (kk : LW ω ω' κ b (i + 6) 18 [] C N) : LW ω ω' κ b i 1451 [] C N := by
  intro h1 h2 H locs ls hP hP' hS hl
  refine lv_iinc (k := 0) (v := iI (i + 6)) (lv' := [(3, .int (iI (i + 6))), (2, .ref (xad ω' 0)), (1, .ref (xad ω 0)), (0, .ref b)]) h.1.1.1 h.1.1.2.1 dL_1451 hl rfl (by show iI _ + iI 6 = _; rw [iI_add]) (by decide) rfl (fun ls hl => ?_)
  refine lv_goto h.1.1.1 h.1.1.2.1 dL_1454 (tgt := 18) (by decide) ?_
  exact kk h1 h2 H locs ls hP hP' hS hl
theorem law_loop (h : LOk ω ω' κ l b L xs ki vi kss) (hr : (kmeth κ).sig.returnType = ret) (hlk : (kmeth κ).locks = false) (hka : ka κ = #[Value.ref b]) (hQ : kQ κ = lw_Z (kb κ) #[Value.ref b] (ks κ)) :
    ∀ (d k : Nat) (C N : xMem), L < 6 * k + 6 * d → 6 * k ≤ L + 6 → Wo (100 * (k : Int)) C N → Fc N → LW ω ω' κ b ((6 * k : Nat) : Int) 18 [] C N := by
  have hx := h.1.1.1
  have hb := h.1.1.2.1
  have hbl := h.2.2.2.2.2.1
  have hL := h.2.2.2.2.2.2.1
  have done : ∀ (i : Int) (H : Heap) (locs : List Loc) (ls : Array Slot), va_S (fun q : Nat => (ks κ).heap.size ≤ q) (ks κ).heap H locs → W (kp κ) (kl κ) (ke κ) (kR κ) (ks κ) (km κ) (ka κ) (kb κ) (kmeth κ) (kc κ) H locs 72 4642 (kQ κ) (F0 (km κ) 1457 ls []) := by
    intro i H locs ls hS
    refine va_forget (fun q hq => hS.2.2 q hq) ?_
    refine lv_iconst (v := 1) hx hb dL_1457 (by decide) ?_
    rw [h.1.2.1, hka, hQ]
    exact lw_ret hx hb hr hlk dL_1458
  intro d
  induction d with
  | zero =>
    intro k C N hd hd2 hW hF h1 h2 H locs ls hP hP' hS hl
    refine lv_iload_n hx hb dL_18 rfl (lv_at hl 0 rfl) ?_
    refine lv_aload_n hx hb dL_19 rfl (lv_at hl 3 rfl) ?_
    refine va_slen hx hb h.2.2.2.2.1 hbl (by omega) hS dL_20 ?_
    refine lv_bipush (v := iI 6) hx hb dL_21 (by decide) ?_
    refine lv_isub hx hb dL_23 ?_
    rw [show Int32.ofNat L = iI (L : Int) from rfl, iI_sub]
    refine lv_icmp_gt hx hb dL_24 (tgt := 1457) (by decide) (fun _ => done ((6 * k : Nat) : Int) H locs ls hS) (fun q => ?_)
    exact absurd ((iI_lt (a := (L : Int) - 6) (b := ((6 * k : Nat) : Int)) (by omega) (by omega)).2 (by omega)) q
  | succ d ih =>
    intro k C N hd hd2 hW hF h1 h2 H locs ls hP hP' hS hl
    refine lv_iload_n hx hb dL_18 rfl (lv_at hl 0 rfl) ?_
    refine lv_aload_n hx hb dL_19 rfl (lv_at hl 3 rfl) ?_
    refine va_slen hx hb h.2.2.2.2.1 hbl (by omega) hS dL_20 ?_
    refine lv_bipush (v := iI 6) hx hb dL_21 (by decide) ?_
    refine lv_isub hx hb dL_23 ?_
    rw [show Int32.ofNat L = iI (L : Int) from rfl, iI_sub]
    refine lv_icmp_gt hx hb dL_24 (tgt := 1457) (by decide) (fun _ => done ((6 * k : Nat) : Int) H locs ls hS) (fun q => ?_)
    have hi : 0 ≤ ((6 * k : Nat) : Int) ∧ ((6 * k : Nat) : Int) + 6 ≤ (L : Int) := by
      refine ⟨by omega, ?_⟩
      rw [iI_lt (by omega) (by omega)] at q
      omega
    refine lv_aload_n hx hb dL_27 rfl (lv_at hl 3 rfl) ?_
    refine lv_iload_n hx hb dL_28 rfl (lv_at hl 0 rfl) ?_
    have hgo : LW ω ω' κ b ((6 * k : Nat) : Int) 30 [.int (xs (6 * k))] C N := by
      intro h1 h2 H locs ls hP hP' hS hl
      refine lv_bipush (v := 63) hx hb dL_30 (by decide) ?_
      refine lv_iand hx hb dL_32 ?_
      obtain ⟨n, hn, en⟩ := pk_andE (xs (6 * k)) (m := 63) 6 rfl
      rw [en]
      have kk : ∀ C' N', Wo (100 * (k : Int) + 100) C' N' → Fc N' → LW ω ω' κ b ((6 * k : Nat) : Int) 1451 [] C' N' := fun C' N' hW' hF' => l_back h (by
        have e := ih (k + 1) C' N' (by omega) (by omega) (hW'.le (by omega)) hF'
        rw [show ((6 * k : Nat) : Int) + 6 = ((6 * (k + 1) : Nat) : Int) by omega]
        exact e)
      by_cases g : n < 46
      · have ho := stP_ok n g
        refine lv_tableIn (tgt := stP n) hx hb dL_33 ?_ ?_ (off := (stP n : Int) - 33) ?_ (by omega) (all_calls h hi ⟨by omega, by omega⟩ hW hF kk n g h1 h2 H locs ls hP hP' hS hl)
        · rw [nI_toInt (by omega)]; omega
        · rw [nI_toInt (by omega)]; omega
        · rw [nI_toInt (by omega), show ((n : Int) - 0).toNat = n by omega]; exact ho
      · refine lv_tableOut (tgt := 1451) hx hb dL_33 ?_ (by decide) (kk C N (hW.le (by omega)) hF h1 h2 H locs ls hP hP' hS hl)
        rw [nI_toInt (by omega)]
        omega
    exact l_sld h (j := 6 * k) (by omega) dL_29 hgo h1 h2 H locs ls hP hP' hS hl
end LO
