/-! the law, call by call: 8 to 15 -/
section LL
variable {ω ω' : xO} {κ : xK} {l : Launch} {b L : Nat} {xs : Nat → Int32} {ki vi : Nat → Nat} {kss : Nat → Option Nat} {i K : Int} {C N : xMem}
theorem dL_506 : decode code 506 = .ok (.aload_n 1, 1) := by decide +kernel
theorem dL_507 : decode code 507 = .ok (.aload_n 0, 1) := by decide +kernel
theorem dL_508 : decode code 508 = .ok (.iload_n 3, 1) := by decide +kernel
theorem dL_509 : decode code 509 = .ok (.iconst 1, 1) := by decide +kernel
theorem dL_510 : decode code 510 = .ok (.iadd, 1) := by decide +kernel
theorem dL_511 : decode code 511 = .ok (.iaload, 1) := by decide +kernel
theorem dL_512 : decode code 512 = .ok (.invokevirtual 48, 3) := by decide +kernel
theorem dL_515 : decode code 515 = .ok (.aload_n 2, 1) := by decide +kernel
theorem dL_516 : decode code 516 = .ok (.aload_n 0, 1) := by decide +kernel
theorem dL_517 : decode code 517 = .ok (.iload_n 3, 1) := by decide +kernel
theorem dL_518 : decode code 518 = .ok (.iconst 1, 1) := by decide +kernel
theorem dL_519 : decode code 519 = .ok (.iadd, 1) := by decide +kernel
theorem dL_520 : decode code 520 = .ok (.iaload, 1) := by decide +kernel
theorem dL_521 : decode code 521 = .ok (.invokevirtual 51, 3) := by decide +kernel
theorem dL_524 : decode code 524 = .ok (.if_icmp .eq 927, 3) := by decide +kernel
set_option maxHeartbeats 800000 in
set_option maxRecDepth 100000 in
theorem L_8 (h : LOk ω ω' κ l b L xs ki vi kss) (hi : 0 ≤ i ∧ i + 6 ≤ (L : Int)) (hk : kI K) (hW : Wo K C N) (hF : Fc N) (kk : ∀ C' N', Wo (K + 100) C' N' → Fc N' → LW ω ω' κ b i 1451 [] C' N') : LW ω ω' κ b i 506 [] C N := by
  refine l_xr fun hx _ => ?_
  have hI := hW.inv
  have hs := h.2.1.2.2.2.2.1
  have hm := h.2.2.1.2.2.2.2.1
  refine l_a1 h dL_506 ?_
  refine l_arg h hi 1 (by decide) dL_507 dL_508 dL_509 dL_510 dL_511 ?_
  refine l_C (As := [.int (iI (az xs i 1))]) (rest := []) h dL_512 m_ml_L_48 m_im_X6_go m_se_X6_go rfl (by decide) rfl rfl rfl (c_X6_go hs hI.1 (az_R _ _ _)) ?_
  refine l_a2 h dL_515 ?_
  refine l_arg h hi 1 (by decide) dL_516 dL_517 dL_518 dL_519 dL_520 ?_
  refine l_Nq (As := [.int (iI (az xs i 1))]) (rest := [_]) h dL_521 m_ml_L_51 m_im_X7_go m_se_X7_go rfl (by decide) rfl rfl rfl (c_X7_go hm hI.2 hF (az_R _ _ _) hW.cl) (fun ρ N1 hp => ?_)
  obtain ⟨z, rfl, rfl, hq⟩ := hp
  have w := w_go (n := az xs i 1) hW hx hk
  exact l_eq h dL_524 rfl w.1 (kk _ _ (w.2.qe hq.q) hq.q.2)
theorem dL_529 : decode code 529 = .ok (.aload_n 1, 1) := by decide +kernel
theorem dL_530 : decode code 530 = .ok (.aload_n 0, 1) := by decide +kernel
theorem dL_531 : decode code 531 = .ok (.iload_n 3, 1) := by decide +kernel
theorem dL_532 : decode code 532 = .ok (.iconst 1, 1) := by decide +kernel
theorem dL_533 : decode code 533 = .ok (.iadd, 1) := by decide +kernel
theorem dL_534 : decode code 534 = .ok (.iaload, 1) := by decide +kernel
theorem dL_535 : decode code 535 = .ok (.invokevirtual 52, 3) := by decide +kernel
theorem dL_538 : decode code 538 = .ok (.aload_n 2, 1) := by decide +kernel
theorem dL_539 : decode code 539 = .ok (.aload_n 0, 1) := by decide +kernel
theorem dL_540 : decode code 540 = .ok (.iload_n 3, 1) := by decide +kernel
theorem dL_541 : decode code 541 = .ok (.iconst 1, 1) := by decide +kernel
theorem dL_542 : decode code 542 = .ok (.iadd, 1) := by decide +kernel
theorem dL_543 : decode code 543 = .ok (.iaload, 1) := by decide +kernel
theorem dL_544 : decode code 544 = .ok (.invokevirtual 55, 3) := by decide +kernel
theorem dL_547 : decode code 547 = .ok (.if_icmp .eq 904, 3) := by decide +kernel
set_option maxHeartbeats 800000 in
set_option maxRecDepth 100000 in
theorem L_9 (h : LOk ω ω' κ l b L xs ki vi kss) (hi : 0 ≤ i ∧ i + 6 ≤ (L : Int)) (hk : kI K) (hW : Wo K C N) (hF : Fc N) (kk : ∀ C' N', Wo (K + 100) C' N' → Fc N' → LW ω ω' κ b i 1451 [] C' N') : LW ω ω' κ b i 529 [] C N := by
  refine l_xr fun hx _ => ?_
  have hI := hW.inv
  have hs := h.2.1.2.2.2.2.1
  have hm := h.2.2.1.2.2.2.2.1
  refine l_a1 h dL_529 ?_
  refine l_arg h hi 1 (by decide) dL_530 dL_531 dL_532 dL_533 dL_534 ?_
  refine l_C (As := [.int (iI (az xs i 1))]) (rest := []) h dL_535 m_ml_L_52 m_im_X6_now m_se_X6_now rfl (by decide) rfl rfl rfl (c_X6_now hs hI.1 (az_R _ _ _)) ?_
  refine l_a2 h dL_538 ?_
  refine l_arg h hi 1 (by decide) dL_539 dL_540 dL_541 dL_542 dL_543 ?_
  refine l_Nq (As := [.int (iI (az xs i 1))]) (rest := [_]) h dL_544 m_ml_L_55 m_im_X7_now m_se_X7_now rfl (by decide) rfl rfl rfl (c_X7_now hm hI.2 hF (az_R _ _ _)) (fun ρ N1 hp => ?_)
  obtain ⟨z, rfl, rfl, hq⟩ := hp
  have w := w_now (v := az xs i 1) hW hk
  exact l_eq h dL_547 rfl w.1 (kk _ _ (w.2.qe hq.q) hq.q.2)
theorem dL_552 : decode code 552 = .ok (.aload_n 1, 1) := by decide +kernel
theorem dL_553 : decode code 553 = .ok (.aload_n 0, 1) := by decide +kernel
theorem dL_554 : decode code 554 = .ok (.iload_n 3, 1) := by decide +kernel
theorem dL_555 : decode code 555 = .ok (.iconst 1, 1) := by decide +kernel
theorem dL_556 : decode code 556 = .ok (.iadd, 1) := by decide +kernel
theorem dL_557 : decode code 557 = .ok (.iaload, 1) := by decide +kernel
theorem dL_558 : decode code 558 = .ok (.invokevirtual 56, 3) := by decide +kernel
theorem dL_561 : decode code 561 = .ok (.aload_n 2, 1) := by decide +kernel
theorem dL_562 : decode code 562 = .ok (.aload_n 0, 1) := by decide +kernel
theorem dL_563 : decode code 563 = .ok (.iload_n 3, 1) := by decide +kernel
theorem dL_564 : decode code 564 = .ok (.iconst 1, 1) := by decide +kernel
theorem dL_565 : decode code 565 = .ok (.iadd, 1) := by decide +kernel
theorem dL_566 : decode code 566 = .ok (.iaload, 1) := by decide +kernel
theorem dL_567 : decode code 567 = .ok (.invokevirtual 59, 3) := by decide +kernel
theorem dL_570 : decode code 570 = .ok (.if_icmp .eq 881, 3) := by decide +kernel
set_option maxHeartbeats 800000 in
set_option maxRecDepth 100000 in
theorem L_10 (h : LOk ω ω' κ l b L xs ki vi kss) (hi : 0 ≤ i ∧ i + 6 ≤ (L : Int)) (hk : kI K) (hW : Wo K C N) (hF : Fc N) (kk : ∀ C' N', Wo (K + 100) C' N' → Fc N' → LW ω ω' κ b i 1451 [] C' N') : LW ω ω' κ b i 552 [] C N := by
  refine l_xr fun hx _ => ?_
  have hI := hW.inv
  have hs := h.2.1.2.2.2.2.1
  have hm := h.2.2.1.2.2.2.2.1
  refine l_a1 h dL_552 ?_
  refine l_arg h hi 1 (by decide) dL_553 dL_554 dL_555 dL_556 dL_557 ?_
  refine l_C (As := [.int (iI (az xs i 1))]) (rest := []) h dL_558 m_ml_L_56 m_im_X6_next m_se_X6_next rfl (by decide) rfl rfl rfl (c_X6_next hs hI.1 (az_R _ _ _)) ?_
  refine l_a2 h dL_561 ?_
  refine l_arg h hi 1 (by decide) dL_562 dL_563 dL_564 dL_565 dL_566 ?_
  refine l_Nq (As := [.int (iI (az xs i 1))]) (rest := [_]) h dL_567 m_ml_L_59 m_im_X7_next m_se_X7_next rfl (by decide) rfl rfl rfl (c_X7_next hm hI.2 hF (az_R _ _ _)) (fun ρ N1 hp => ?_)
  obtain ⟨z, rfl, rfl, hq⟩ := hp
  have w := w_next (p := az xs i 1) hW hk
  exact l_eq h dL_570 rfl w.1 (kk _ _ (w.2.qe hq.q) hq.q.2)
theorem dL_575 : decode code 575 = .ok (.aload_n 1, 1) := by decide +kernel
theorem dL_576 : decode code 576 = .ok (.aload_n 0, 1) := by decide +kernel
theorem dL_577 : decode code 577 = .ok (.iload_n 3, 1) := by decide +kernel
theorem dL_578 : decode code 578 = .ok (.iconst 1, 1) := by decide +kernel
theorem dL_579 : decode code 579 = .ok (.iadd, 1) := by decide +kernel
theorem dL_580 : decode code 580 = .ok (.iaload, 1) := by decide +kernel
theorem dL_581 : decode code 581 = .ok (.aload_n 0, 1) := by decide +kernel
theorem dL_582 : decode code 582 = .ok (.iload_n 3, 1) := by decide +kernel
theorem dL_583 : decode code 583 = .ok (.iconst 2, 1) := by decide +kernel
theorem dL_584 : decode code 584 = .ok (.iadd, 1) := by decide +kernel
theorem dL_585 : decode code 585 = .ok (.iaload, 1) := by decide +kernel
theorem dL_586 : decode code 586 = .ok (.invokevirtual 60, 3) := by decide +kernel
theorem dL_589 : decode code 589 = .ok (.aload_n 2, 1) := by decide +kernel
theorem dL_590 : decode code 590 = .ok (.aload_n 0, 1) := by decide +kernel
theorem dL_591 : decode code 591 = .ok (.iload_n 3, 1) := by decide +kernel
theorem dL_592 : decode code 592 = .ok (.iconst 1, 1) := by decide +kernel
theorem dL_593 : decode code 593 = .ok (.iadd, 1) := by decide +kernel
theorem dL_594 : decode code 594 = .ok (.iaload, 1) := by decide +kernel
theorem dL_595 : decode code 595 = .ok (.aload_n 0, 1) := by decide +kernel
theorem dL_596 : decode code 596 = .ok (.iload_n 3, 1) := by decide +kernel
theorem dL_597 : decode code 597 = .ok (.iconst 2, 1) := by decide +kernel
theorem dL_598 : decode code 598 = .ok (.iadd, 1) := by decide +kernel
theorem dL_599 : decode code 599 = .ok (.iaload, 1) := by decide +kernel
theorem dL_600 : decode code 600 = .ok (.invokevirtual 63, 3) := by decide +kernel
theorem dL_603 : decode code 603 = .ok (.if_icmp .eq 848, 3) := by decide +kernel
set_option maxHeartbeats 800000 in
set_option maxRecDepth 100000 in
theorem L_11 (h : LOk ω ω' κ l b L xs ki vi kss) (hi : 0 ≤ i ∧ i + 6 ≤ (L : Int)) (hk : kI K) (hW : Wo K C N) (hF : Fc N) (kk : ∀ C' N', Wo (K + 100) C' N' → Fc N' → LW ω ω' κ b i 1451 [] C' N') : LW ω ω' κ b i 575 [] C N := by
  refine l_xr fun hx _ => ?_
  have hI := hW.inv
  have hs := h.2.1.2.2.2.2.1
  have hm := h.2.2.1.2.2.2.2.1
  refine l_a1 h dL_575 ?_
  refine l_arg h hi 1 (by decide) dL_576 dL_577 dL_578 dL_579 dL_580 ?_
  refine l_arg h hi 2 (by decide) dL_581 dL_582 dL_583 dL_584 dL_585 ?_
  refine l_C (As := [.int (iI (az xs i 1)), .int (iI (az xs i 2))]) (rest := []) h dL_586 m_ml_L_60 m_im_X6_may m_se_X6_may rfl (by decide) rfl rfl rfl (c_X6_may hs hI.1 (az_R _ _ _) (az_R _ _ _)) ?_
  refine l_a2 h dL_589 ?_
  refine l_arg h hi 1 (by decide) dL_590 dL_591 dL_592 dL_593 dL_594 ?_
  refine l_arg h hi 2 (by decide) dL_595 dL_596 dL_597 dL_598 dL_599 ?_
  refine l_Nq (As := [.int (iI (az xs i 1)), .int (iI (az xs i 2))]) (rest := [_]) h dL_600 m_ml_L_63 m_im_X7_may m_se_X7_may rfl (by decide) rfl rfl rfl (c_X7_may hm hI.2 hF (az_R _ _ _) (az_R _ _ _)) (fun ρ N1 hp => ?_)
  obtain ⟨z, rfl, rfl, hq⟩ := hp
  have w := w_may (p := az xs i 1) (a := az xs i 2) hW hk
  exact l_eq h dL_603 rfl w.1 (kk _ _ (w.2.qe hq.q) hq.q.2)
theorem dL_608 : decode code 608 = .ok (.aload_n 1, 1) := by decide +kernel
theorem dL_609 : decode code 609 = .ok (.aload_n 0, 1) := by decide +kernel
theorem dL_610 : decode code 610 = .ok (.iload_n 3, 1) := by decide +kernel
theorem dL_611 : decode code 611 = .ok (.iconst 1, 1) := by decide +kernel
theorem dL_612 : decode code 612 = .ok (.iadd, 1) := by decide +kernel
theorem dL_613 : decode code 613 = .ok (.iaload, 1) := by decide +kernel
theorem dL_614 : decode code 614 = .ok (.invokevirtual 64, 3) := by decide +kernel
theorem dL_617 : decode code 617 = .ok (.aload_n 2, 1) := by decide +kernel
theorem dL_618 : decode code 618 = .ok (.aload_n 0, 1) := by decide +kernel
theorem dL_619 : decode code 619 = .ok (.iload_n 3, 1) := by decide +kernel
theorem dL_620 : decode code 620 = .ok (.iconst 1, 1) := by decide +kernel
theorem dL_621 : decode code 621 = .ok (.iadd, 1) := by decide +kernel
theorem dL_622 : decode code 622 = .ok (.iaload, 1) := by decide +kernel
theorem dL_623 : decode code 623 = .ok (.invokevirtual 67, 3) := by decide +kernel
theorem dL_626 : decode code 626 = .ok (.if_icmp .eq 825, 3) := by decide +kernel
set_option maxHeartbeats 800000 in
set_option maxRecDepth 100000 in
theorem L_12 (h : LOk ω ω' κ l b L xs ki vi kss) (hi : 0 ≤ i ∧ i + 6 ≤ (L : Int)) (hk : kI K) (hW : Wo K C N) (hF : Fc N) (kk : ∀ C' N', Wo (K + 100) C' N' → Fc N' → LW ω ω' κ b i 1451 [] C' N') : LW ω ω' κ b i 608 [] C N := by
  refine l_xr fun hx _ => ?_
  have hI := hW.inv
  have hs := h.2.1.2.2.2.2.1
  have hm := h.2.2.1.2.2.2.2.1
  refine l_a1 h dL_608 ?_
  refine l_arg h hi 1 (by decide) dL_609 dL_610 dL_611 dL_612 dL_613 ?_
  refine l_C (As := [.int (iI (az xs i 1))]) (rest := []) h dL_614 m_ml_L_64 m_im_X6_when m_se_X6_when rfl (by decide) rfl rfl rfl (c_X6_when hs hI.1 (az_R _ _ _)) ?_
  refine l_a2 h dL_617 ?_
  refine l_arg h hi 1 (by decide) dL_618 dL_619 dL_620 dL_621 dL_622 ?_
  refine l_Nq (As := [.int (iI (az xs i 1))]) (rest := [_]) h dL_623 m_ml_L_67 m_im_X7_when m_se_X7_when rfl (by decide) rfl rfl rfl (c_X7_when hm hI.2 hF (az_R _ _ _) hW.cl) (fun ρ N1 hp => ?_)
  obtain ⟨z, rfl, rfl, hq⟩ := hp
  have w := w_when (p := az xs i 1) hW hx hk
  exact l_eq h dL_626 rfl w.1 (kk _ _ (w.2.qe hq) hq.2)
theorem dL_631 : decode code 631 = .ok (.aload_n 1, 1) := by decide +kernel
theorem dL_632 : decode code 632 = .ok (.aload_n 0, 1) := by decide +kernel
theorem dL_633 : decode code 633 = .ok (.iload_n 3, 1) := by decide +kernel
theorem dL_634 : decode code 634 = .ok (.iconst 1, 1) := by decide +kernel
theorem dL_635 : decode code 635 = .ok (.iadd, 1) := by decide +kernel
theorem dL_636 : decode code 636 = .ok (.iaload, 1) := by decide +kernel
theorem dL_637 : decode code 637 = .ok (.invokevirtual 68, 3) := by decide +kernel
theorem dL_640 : decode code 640 = .ok (.aload_n 2, 1) := by decide +kernel
theorem dL_641 : decode code 641 = .ok (.aload_n 0, 1) := by decide +kernel
theorem dL_642 : decode code 642 = .ok (.iload_n 3, 1) := by decide +kernel
theorem dL_643 : decode code 643 = .ok (.iconst 1, 1) := by decide +kernel
theorem dL_644 : decode code 644 = .ok (.iadd, 1) := by decide +kernel
theorem dL_645 : decode code 645 = .ok (.iaload, 1) := by decide +kernel
theorem dL_646 : decode code 646 = .ok (.invokevirtual 71, 3) := by decide +kernel
theorem dL_649 : decode code 649 = .ok (.if_icmp .eq 802, 3) := by decide +kernel
set_option maxHeartbeats 800000 in
set_option maxRecDepth 100000 in
theorem L_13 (h : LOk ω ω' κ l b L xs ki vi kss) (hi : 0 ≤ i ∧ i + 6 ≤ (L : Int)) (hk : kI K) (hW : Wo K C N) (hF : Fc N) (kk : ∀ C' N', Wo (K + 100) C' N' → Fc N' → LW ω ω' κ b i 1451 [] C' N') : LW ω ω' κ b i 631 [] C N := by
  refine l_xr fun hx _ => ?_
  have hI := hW.inv
  have hs := h.2.1.2.2.2.2.1
  have hm := h.2.2.1.2.2.2.2.1
  refine l_a1 h dL_631 ?_
  refine l_arg h hi 1 (by decide) dL_632 dL_633 dL_634 dL_635 dL_636 ?_
  refine l_C (As := [.int (iI (az xs i 1))]) (rest := []) h dL_637 m_ml_L_68 m_im_X6_ahead m_se_X6_ahead rfl (by decide) rfl rfl rfl (c_X6_ahead hs hI.1 (az_R _ _ _)) ?_
  refine l_a2 h dL_640 ?_
  refine l_arg h hi 1 (by decide) dL_641 dL_642 dL_643 dL_644 dL_645 ?_
  refine l_Nq (As := [.int (iI (az xs i 1))]) (rest := [_]) h dL_646 m_ml_L_71 m_im_X7_ahead m_se_X7_ahead rfl (by decide) rfl rfl rfl (c_X7_ahead hm hI.2 hF (az_R _ _ _) hW.cl) (fun ρ N1 hp => ?_)
  obtain ⟨z, rfl, rfl, hq⟩ := hp
  have w := w_ahead (n := az xs i 1) hW hx hk
  exact l_eq h dL_649 rfl w.1 (kk _ _ (w.2.qe hq) hq.2)
theorem dL_654 : decode code 654 = .ok (.aload_n 1, 1) := by decide +kernel
theorem dL_655 : decode code 655 = .ok (.invokevirtual 72, 3) := by decide +kernel
theorem dL_658 : decode code 658 = .ok (.aload_n 2, 1) := by decide +kernel
theorem dL_659 : decode code 659 = .ok (.invokevirtual 76, 3) := by decide +kernel
theorem dL_662 : decode code 662 = .ok (.if_icmp .eq 789, 3) := by decide +kernel
set_option maxHeartbeats 800000 in
set_option maxRecDepth 100000 in
theorem L_14 (h : LOk ω ω' κ l b L xs ki vi kss) (hi : 0 ≤ i ∧ i + 6 ≤ (L : Int)) (hk : kI K) (hW : Wo K C N) (hF : Fc N) (kk : ∀ C' N', Wo (K + 100) C' N' → Fc N' → LW ω ω' κ b i 1451 [] C' N') : LW ω ω' κ b i 654 [] C N := by
  refine l_xr fun hx _ => ?_
  have hI := hW.inv
  have hs := h.2.1.2.2.2.2.1
  have hm := h.2.2.1.2.2.2.2.1
  refine l_a1 h dL_654 ?_
  refine l_C (As := []) (rest := []) h dL_655 m_ml_L_72 m_im_X6_held m_se_X6_held rfl (by decide) rfl rfl rfl (c_X6_held hs hI.1) ?_
  refine l_a2 h dL_658 ?_
  refine l_Nq (As := []) (rest := [_]) h dL_659 m_ml_L_76 m_im_X7_held m_se_X7_held rfl (by decide) rfl rfl rfl (c_X7_held hm hI.2 hF hW.cl) (fun ρ N1 hp => ?_)
  obtain ⟨z, rfl, rfl, hq⟩ := hp
  have w := w_held  hW hx hk
  exact l_eq h dL_662 rfl w.1 (kk _ _ (w.2.qe hq) hq.2)
theorem dL_667 : decode code 667 = .ok (.aload_n 1, 1) := by decide +kernel
theorem dL_668 : decode code 668 = .ok (.invokevirtual 77, 3) := by decide +kernel
theorem dL_671 : decode code 671 = .ok (.aload_n 2, 1) := by decide +kernel
theorem dL_672 : decode code 672 = .ok (.invokevirtual 80, 3) := by decide +kernel
theorem dL_675 : decode code 675 = .ok (.if_icmp .eq 776, 3) := by decide +kernel
set_option maxHeartbeats 800000 in
set_option maxRecDepth 100000 in
theorem L_15 (h : LOk ω ω' κ l b L xs ki vi kss) (hi : 0 ≤ i ∧ i + 6 ≤ (L : Int)) (hk : kI K) (hW : Wo K C N) (hF : Fc N) (kk : ∀ C' N', Wo (K + 100) C' N' → Fc N' → LW ω ω' κ b i 1451 [] C' N') : LW ω ω' κ b i 667 [] C N := by
  refine l_xr fun hx _ => ?_
  have hI := hW.inv
  have hs := h.2.1.2.2.2.2.1
  have hm := h.2.2.1.2.2.2.2.1
  refine l_a1 h dL_667 ?_
  refine l_C (As := []) (rest := []) h dL_668 m_ml_L_77 m_im_X6_still m_se_X6_still rfl (by decide) rfl rfl rfl (c_X6_still hs hI.1) ?_
  refine l_a2 h dL_671 ?_
  refine l_Nq (As := []) (rest := [_]) h dL_672 m_ml_L_80 m_im_X7_still m_se_X7_still rfl (by decide) rfl rfl rfl (c_X7_still hm hI.2 hF hW.cl) (fun ρ N1 hp => ?_)
  obtain ⟨z, rfl, rfl, hq⟩ := hp
  have w := w_still  hW hx hk
  exact l_eq h dL_675 rfl w.1 (kk _ _ (w.2.qe hq) hq.2)
end LL
