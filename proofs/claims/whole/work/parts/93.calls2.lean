/-! the law, call by call: 16 to 23 -/
section LL
variable {ω ω' : xO} {κ : xK} {l : Launch} {b L : Nat} {xs : Nat → Int32} {ki vi : Nat → Nat} {kss : Nat → Option Nat} {i K : Int} {C N : xMem}
theorem dL_680 : decode code 680 = .ok (.aload_n 1, 1) := by decide +kernel
theorem dL_681 : decode code 681 = .ok (.aload_n 0, 1) := by decide +kernel
theorem dL_682 : decode code 682 = .ok (.iload_n 3, 1) := by decide +kernel
theorem dL_683 : decode code 683 = .ok (.iconst 1, 1) := by decide +kernel
theorem dL_684 : decode code 684 = .ok (.iadd, 1) := by decide +kernel
theorem dL_685 : decode code 685 = .ok (.iaload, 1) := by decide +kernel
theorem dL_686 : decode code 686 = .ok (.invokevirtual 81, 3) := by decide +kernel
theorem dL_689 : decode code 689 = .ok (.aload_n 2, 1) := by decide +kernel
theorem dL_690 : decode code 690 = .ok (.aload_n 0, 1) := by decide +kernel
theorem dL_691 : decode code 691 = .ok (.iload_n 3, 1) := by decide +kernel
theorem dL_692 : decode code 692 = .ok (.iconst 1, 1) := by decide +kernel
theorem dL_693 : decode code 693 = .ok (.iadd, 1) := by decide +kernel
theorem dL_694 : decode code 694 = .ok (.iaload, 1) := by decide +kernel
theorem dL_695 : decode code 695 = .ok (.invokevirtual 84, 3) := by decide +kernel
theorem dL_698 : decode code 698 = .ok (.if_icmp .eq 753, 3) := by decide +kernel
set_option maxHeartbeats 800000 in
set_option maxRecDepth 100000 in
theorem L_16 (h : LOk ω ω' κ l b L xs ki vi kss) (hi : 0 ≤ i ∧ i + 6 ≤ (L : Int)) (hk : kI K) (hW : Wo K C N) (hF : Fc N) (kk : ∀ C' N', Wo (K + 100) C' N' → Fc N' → LW ω ω' κ b i 1451 [] C' N') : LW ω ω' κ b i 680 [] C N := by
  refine l_xr fun hx _ => ?_
  have hI := hW.inv
  have hs := h.2.1.2.2.2.2.1
  have hm := h.2.2.1.2.2.2.2.1
  refine l_a1 h dL_680 ?_
  refine l_arg h hi 1 (by decide) dL_681 dL_682 dL_683 dL_684 dL_685 ?_
  refine l_C (As := [.int (iI (az xs i 1))]) (rest := []) h dL_686 m_ml_L_81 m_im_X6_length m_se_X6_length rfl (by decide) rfl rfl rfl (c_X6_length hs hI.1 (az_R _ _ _) hW.sy) ?_
  refine l_a2 h dL_689 ?_
  refine l_arg h hi 1 (by decide) dL_690 dL_691 dL_692 dL_693 dL_694 ?_
  refine l_Nq (As := [.int (iI (az xs i 1))]) (rest := [_]) h dL_695 m_ml_L_84 m_im_X7_length m_se_X7_length rfl (by decide) rfl rfl rfl (c_X7_length hm hI.2 hF (az_R _ _ _) hW.cl hW.s5) (fun ρ N1 hp => ?_)
  obtain ⟨z, rfl, rfl, hq⟩ := hp
  have w := w_length (p := az xs i 1) hW hx hk
  exact l_eq h dL_698 rfl w.1 (kk _ _ (w.2.qe hq) hq.2)
theorem dL_703 : decode code 703 = .ok (.aload_n 1, 1) := by decide +kernel
theorem dL_704 : decode code 704 = .ok (.aload_n 0, 1) := by decide +kernel
theorem dL_705 : decode code 705 = .ok (.iload_n 3, 1) := by decide +kernel
theorem dL_706 : decode code 706 = .ok (.iconst 1, 1) := by decide +kernel
theorem dL_707 : decode code 707 = .ok (.iadd, 1) := by decide +kernel
theorem dL_708 : decode code 708 = .ok (.iaload, 1) := by decide +kernel
theorem dL_709 : decode code 709 = .ok (.invokevirtual 85, 3) := by decide +kernel
theorem dL_712 : decode code 712 = .ok (.aload_n 2, 1) := by decide +kernel
theorem dL_713 : decode code 713 = .ok (.aload_n 0, 1) := by decide +kernel
theorem dL_714 : decode code 714 = .ok (.iload_n 3, 1) := by decide +kernel
theorem dL_715 : decode code 715 = .ok (.iconst 1, 1) := by decide +kernel
theorem dL_716 : decode code 716 = .ok (.iadd, 1) := by decide +kernel
theorem dL_717 : decode code 717 = .ok (.iaload, 1) := by decide +kernel
theorem dL_718 : decode code 718 = .ok (.invokevirtual 88, 3) := by decide +kernel
theorem dL_721 : decode code 721 = .ok (.if_icmp .eq 730, 3) := by decide +kernel
set_option maxHeartbeats 800000 in
set_option maxRecDepth 100000 in
theorem L_17 (h : LOk ω ω' κ l b L xs ki vi kss) (hi : 0 ≤ i ∧ i + 6 ≤ (L : Int)) (hk : kI K) (hW : Wo K C N) (hF : Fc N) (kk : ∀ C' N', Wo (K + 100) C' N' → Fc N' → LW ω ω' κ b i 1451 [] C' N') : LW ω ω' κ b i 703 [] C N := by
  refine l_xr fun hx _ => ?_
  have hI := hW.inv
  have hs := h.2.1.2.2.2.2.1
  have hm := h.2.2.1.2.2.2.2.1
  refine l_a1 h dL_703 ?_
  refine l_arg h hi 1 (by decide) dL_704 dL_705 dL_706 dL_707 dL_708 ?_
  refine l_C (As := [.int (iI (az xs i 1))]) (rest := []) h dL_709 m_ml_L_85 m_im_X6_kindFor m_se_X6_kindFor rfl (by decide) rfl rfl rfl (c_X6_kindFor hs hI.1 (az_R _ _ _)) ?_
  refine l_a2 h dL_712 ?_
  refine l_arg h hi 1 (by decide) dL_713 dL_714 dL_715 dL_716 dL_717 ?_
  refine l_Nq (As := [.int (iI (az xs i 1))]) (rest := [_]) h dL_718 m_ml_L_88 m_im_X7_kindFor m_se_X7_kindFor rfl (by decide) rfl rfl rfl (c_X7_kindFor hm hI.2 hF (az_R _ _ _) hW.cl) (fun ρ N1 hp => ?_)
  obtain ⟨z, rfl, rfl, hq⟩ := hp
  have w := w_kindFor (p := az xs i 1) hW hx hk
  exact l_eq h dL_721 rfl w.1 (kk _ _ (w.2.qe hq) hq.2)
theorem dL_726 : decode code 726 = .ok (.aload_n 1, 1) := by decide +kernel
theorem dL_727 : decode code 727 = .ok (.aload_n 0, 1) := by decide +kernel
theorem dL_728 : decode code 728 = .ok (.iload_n 3, 1) := by decide +kernel
theorem dL_729 : decode code 729 = .ok (.iconst 1, 1) := by decide +kernel
theorem dL_730 : decode code 730 = .ok (.iadd, 1) := by decide +kernel
theorem dL_731 : decode code 731 = .ok (.iaload, 1) := by decide +kernel
theorem dL_732 : decode code 732 = .ok (.invokevirtual 89, 3) := by decide +kernel
theorem dL_735 : decode code 735 = .ok (.aload_n 2, 1) := by decide +kernel
theorem dL_736 : decode code 736 = .ok (.aload_n 0, 1) := by decide +kernel
theorem dL_737 : decode code 737 = .ok (.iload_n 3, 1) := by decide +kernel
theorem dL_738 : decode code 738 = .ok (.iconst 1, 1) := by decide +kernel
theorem dL_739 : decode code 739 = .ok (.iadd, 1) := by decide +kernel
theorem dL_740 : decode code 740 = .ok (.iaload, 1) := by decide +kernel
theorem dL_741 : decode code 741 = .ok (.invokevirtual 92, 3) := by decide +kernel
theorem dL_744 : decode code 744 = .ok (.if_icmp .eq 707, 3) := by decide +kernel
set_option maxHeartbeats 800000 in
set_option maxRecDepth 100000 in
theorem L_18 (h : LOk ω ω' κ l b L xs ki vi kss) (hi : 0 ≤ i ∧ i + 6 ≤ (L : Int)) (hk : kI K) (hW : Wo K C N) (hF : Fc N) (kk : ∀ C' N', Wo (K + 100) C' N' → Fc N' → LW ω ω' κ b i 1451 [] C' N') : LW ω ω' κ b i 726 [] C N := by
  refine l_xr fun hx _ => ?_
  have hI := hW.inv
  have hs := h.2.1.2.2.2.2.1
  have hm := h.2.2.1.2.2.2.2.1
  refine l_a1 h dL_726 ?_
  refine l_arg h hi 1 (by decide) dL_727 dL_728 dL_729 dL_730 dL_731 ?_
  refine l_C (As := [.int (iI (az xs i 1))]) (rest := []) h dL_732 m_ml_L_89 m_im_X6_lead m_se_X6_lead rfl (by decide) rfl rfl rfl (c_X6_lead hs hI.1 (az_R _ _ _)) ?_
  refine l_a2 h dL_735 ?_
  refine l_arg h hi 1 (by decide) dL_736 dL_737 dL_738 dL_739 dL_740 ?_
  refine l_Nq (As := [.int (iI (az xs i 1))]) (rest := [_]) h dL_741 m_ml_L_92 m_im_X7_lead m_se_X7_lead rfl (by decide) rfl rfl rfl (c_X7_lead hm hI.2 hF (az_R _ _ _) hW.cl) (fun ρ N1 hp => ?_)
  obtain ⟨z, rfl, rfl, hq⟩ := hp
  have w := w_lead (p := az xs i 1) hW hx hk
  exact l_eq h dL_744 rfl w.1 (kk _ _ (w.2.qe hq) hq.2)
theorem dL_749 : decode code 749 = .ok (.aload_n 1, 1) := by decide +kernel
theorem dL_750 : decode code 750 = .ok (.invokevirtual 93, 3) := by decide +kernel
theorem dL_753 : decode code 753 = .ok (.aload_n 2, 1) := by decide +kernel
theorem dL_754 : decode code 754 = .ok (.invokevirtual 96, 3) := by decide +kernel
theorem dL_757 : decode code 757 = .ok (.if_icmp .eq 694, 3) := by decide +kernel
set_option maxHeartbeats 800000 in
set_option maxRecDepth 100000 in
theorem L_19 (h : LOk ω ω' κ l b L xs ki vi kss) (hi : 0 ≤ i ∧ i + 6 ≤ (L : Int)) (hk : kI K) (hW : Wo K C N) (hF : Fc N) (kk : ∀ C' N', Wo (K + 100) C' N' → Fc N' → LW ω ω' κ b i 1451 [] C' N') : LW ω ω' κ b i 749 [] C N := by
  refine l_xr fun hx _ => ?_
  have hI := hW.inv
  have hs := h.2.1.2.2.2.2.1
  have hm := h.2.2.1.2.2.2.2.1
  refine l_a1 h dL_749 ?_
  refine l_C (As := []) (rest := []) h dL_750 m_ml_L_93 m_im_X6_cuts m_se_X6_cuts rfl (by decide) rfl rfl rfl (c_X6_cuts hs hI.1) ?_
  refine l_a2 h dL_753 ?_
  refine l_Nq (As := []) (rest := [_]) h dL_754 m_ml_L_96 m_im_X7_cuts m_se_X7_cuts rfl (by decide) rfl rfl rfl (c_X7_cuts hm hI.2 hF hW.cl) (fun ρ N1 hp => ?_)
  obtain ⟨z, rfl, rfl, hq⟩ := hp
  have w := cuS3 hW hx hk
  exact l_eq h dL_757 rfl w.1 (kk _ _ ((w.2.2.1.qw hq).le (by omega)) hq.2)
theorem dL_762 : decode code 762 = .ok (.aload_n 1, 1) := by decide +kernel
theorem dL_763 : decode code 763 = .ok (.invokevirtual 97, 3) := by decide +kernel
theorem dL_766 : decode code 766 = .ok (.aload_n 2, 1) := by decide +kernel
theorem dL_767 : decode code 767 = .ok (.invokevirtual 100, 3) := by decide +kernel
theorem dL_770 : decode code 770 = .ok (.if_icmp .eq 681, 3) := by decide +kernel
set_option maxHeartbeats 800000 in
set_option maxRecDepth 100000 in
theorem L_20 (h : LOk ω ω' κ l b L xs ki vi kss) (hi : 0 ≤ i ∧ i + 6 ≤ (L : Int)) (hk : kI K) (hW : Wo K C N) (hF : Fc N) (kk : ∀ C' N', Wo (K + 100) C' N' → Fc N' → LW ω ω' κ b i 1451 [] C' N') : LW ω ω' κ b i 762 [] C N := by
  refine l_xr fun hx _ => ?_
  have hI := hW.inv
  have hs := h.2.1.2.2.2.2.1
  have hm := h.2.2.1.2.2.2.2.1
  refine l_a1 h dL_762 ?_
  refine l_C (As := []) (rest := []) h dL_763 m_ml_L_97 m_im_X6_freed m_se_X6_freed rfl (by decide) rfl rfl rfl (c_X6_freed hs hI.1) ?_
  refine l_a2 h dL_766 ?_
  refine l_Nq (As := []) (rest := [_]) h dL_767 m_ml_L_100 m_im_X7_freed m_se_X7_freed rfl (by decide) rfl rfl rfl (c_X7_freed hm hI.2 hF hW.cl) (fun ρ N1 hp => ?_)
  obtain ⟨z, rfl, rfl, hq⟩ := hp
  have w := cuS3 hW hx hk
  exact l_eq h dL_770 rfl w.2.1 (kk _ _ ((w.2.2.2.qw hq).le (by omega)) hq.2)
theorem dL_775 : decode code 775 = .ok (.aload_n 1, 1) := by decide +kernel
theorem dL_776 : decode code 776 = .ok (.aload_n 0, 1) := by decide +kernel
theorem dL_777 : decode code 777 = .ok (.iload_n 3, 1) := by decide +kernel
theorem dL_778 : decode code 778 = .ok (.iconst 1, 1) := by decide +kernel
theorem dL_779 : decode code 779 = .ok (.iadd, 1) := by decide +kernel
theorem dL_780 : decode code 780 = .ok (.iaload, 1) := by decide +kernel
theorem dL_781 : decode code 781 = .ok (.aload_n 0, 1) := by decide +kernel
theorem dL_782 : decode code 782 = .ok (.iload_n 3, 1) := by decide +kernel
theorem dL_783 : decode code 783 = .ok (.iconst 2, 1) := by decide +kernel
theorem dL_784 : decode code 784 = .ok (.iadd, 1) := by decide +kernel
theorem dL_785 : decode code 785 = .ok (.iaload, 1) := by decide +kernel
theorem dL_786 : decode code 786 = .ok (.invokevirtual 101, 3) := by decide +kernel
theorem dL_789 : decode code 789 = .ok (.aload_n 2, 1) := by decide +kernel
theorem dL_790 : decode code 790 = .ok (.aload_n 0, 1) := by decide +kernel
theorem dL_791 : decode code 791 = .ok (.iload_n 3, 1) := by decide +kernel
theorem dL_792 : decode code 792 = .ok (.iconst 1, 1) := by decide +kernel
theorem dL_793 : decode code 793 = .ok (.iadd, 1) := by decide +kernel
theorem dL_794 : decode code 794 = .ok (.iaload, 1) := by decide +kernel
theorem dL_795 : decode code 795 = .ok (.aload_n 0, 1) := by decide +kernel
theorem dL_796 : decode code 796 = .ok (.iload_n 3, 1) := by decide +kernel
theorem dL_797 : decode code 797 = .ok (.iconst 2, 1) := by decide +kernel
theorem dL_798 : decode code 798 = .ok (.iadd, 1) := by decide +kernel
theorem dL_799 : decode code 799 = .ok (.iaload, 1) := by decide +kernel
theorem dL_800 : decode code 800 = .ok (.invokevirtual 104, 3) := by decide +kernel
theorem dL_803 : decode code 803 = .ok (.if_icmp .eq 648, 3) := by decide +kernel
set_option maxHeartbeats 800000 in
set_option maxRecDepth 100000 in
theorem L_21 (h : LOk ω ω' κ l b L xs ki vi kss) (hi : 0 ≤ i ∧ i + 6 ≤ (L : Int)) (hk : kI K) (hW : Wo K C N) (hF : Fc N) (kk : ∀ C' N', Wo (K + 100) C' N' → Fc N' → LW ω ω' κ b i 1451 [] C' N') : LW ω ω' κ b i 775 [] C N := by
  refine l_xr fun hx _ => ?_
  have hI := hW.inv
  have hs := h.2.1.2.2.2.2.1
  have hm := h.2.2.1.2.2.2.2.1
  refine l_a1 h dL_775 ?_
  refine l_arg h hi 1 (by decide) dL_776 dL_777 dL_778 dL_779 dL_780 ?_
  refine l_arg h hi 2 (by decide) dL_781 dL_782 dL_783 dL_784 dL_785 ?_
  refine l_C (As := [.int (iI (az xs i 1)), .int (iI (az xs i 2))]) (rest := []) h dL_786 m_ml_L_101 m_im_X6_apart m_se_X6_apart rfl (by decide) rfl rfl rfl (c_X6_apart hs hI.1 (az_R _ _ _) (az_R _ _ _)) ?_
  refine l_a2 h dL_789 ?_
  refine l_arg h hi 1 (by decide) dL_790 dL_791 dL_792 dL_793 dL_794 ?_
  refine l_arg h hi 2 (by decide) dL_795 dL_796 dL_797 dL_798 dL_799 ?_
  refine l_Nq (As := [.int (iI (az xs i 1)), .int (iI (az xs i 2))]) (rest := [_]) h dL_800 m_ml_L_104 m_im_X7_apart m_se_X7_apart rfl (by decide) rfl rfl rfl (c_X7_apart hm hI.2 hF (az_R _ _ _) (az_R _ _ _)) (fun ρ N1 hp => ?_)
  obtain ⟨z, rfl, rfl, hq⟩ := hp
  have w := w_apart (p := az xs i 1) (s := az xs i 2) hW hk
  exact l_eq h dL_803 rfl w.1 (kk _ _ (w.2.qe hq.q) hq.q.2)
theorem dL_808 : decode code 808 = .ok (.aload_n 1, 1) := by decide +kernel
theorem dL_809 : decode code 809 = .ok (.invokevirtual 105, 3) := by decide +kernel
theorem dL_812 : decode code 812 = .ok (.aload_n 2, 1) := by decide +kernel
theorem dL_813 : decode code 813 = .ok (.invokevirtual 108, 3) := by decide +kernel
theorem dL_816 : decode code 816 = .ok (.if_icmp .eq 635, 3) := by decide +kernel
set_option maxHeartbeats 800000 in
set_option maxRecDepth 100000 in
theorem L_22 (h : LOk ω ω' κ l b L xs ki vi kss) (hi : 0 ≤ i ∧ i + 6 ≤ (L : Int)) (hk : kI K) (hW : Wo K C N) (hF : Fc N) (kk : ∀ C' N', Wo (K + 100) C' N' → Fc N' → LW ω ω' κ b i 1451 [] C' N') : LW ω ω' κ b i 808 [] C N := by
  refine l_xr fun hx _ => ?_
  have hI := hW.inv
  have hs := h.2.1.2.2.2.2.1
  have hm := h.2.2.1.2.2.2.2.1
  refine l_a1 h dL_808 ?_
  refine l_C (As := []) (rest := []) h dL_809 m_ml_L_105 m_im_X6_least m_se_X6_least rfl (by decide) rfl rfl rfl (c_X6_least hs hI.1) ?_
  refine l_a2 h dL_812 ?_
  refine l_Nq (As := []) (rest := [_]) h dL_813 m_ml_L_108 m_im_X7_least m_se_X7_least rfl (by decide) rfl rfl rfl (c_X7_least hm hI.2 hF) (fun ρ N1 hp => ?_)
  obtain ⟨z, rfl, rfl, hq⟩ := hp
  have w := w_least  hW hx
  exact l_eq h dL_816 rfl w.1 (kk _ _ (w.2.qe hq.q) hq.q.2)
theorem dL_821 : decode code 821 = .ok (.aload_n 1, 1) := by decide +kernel
theorem dL_822 : decode code 822 = .ok (.aload_n 0, 1) := by decide +kernel
theorem dL_823 : decode code 823 = .ok (.iload_n 3, 1) := by decide +kernel
theorem dL_824 : decode code 824 = .ok (.iconst 1, 1) := by decide +kernel
theorem dL_825 : decode code 825 = .ok (.iadd, 1) := by decide +kernel
theorem dL_826 : decode code 826 = .ok (.iaload, 1) := by decide +kernel
theorem dL_827 : decode code 827 = .ok (.invokevirtual 109, 3) := by decide +kernel
theorem dL_830 : decode code 830 = .ok (.aload_n 2, 1) := by decide +kernel
theorem dL_831 : decode code 831 = .ok (.aload_n 0, 1) := by decide +kernel
theorem dL_832 : decode code 832 = .ok (.iload_n 3, 1) := by decide +kernel
theorem dL_833 : decode code 833 = .ok (.iconst 1, 1) := by decide +kernel
theorem dL_834 : decode code 834 = .ok (.iadd, 1) := by decide +kernel
theorem dL_835 : decode code 835 = .ok (.iaload, 1) := by decide +kernel
theorem dL_836 : decode code 836 = .ok (.invokevirtual 112, 3) := by decide +kernel
theorem dL_839 : decode code 839 = .ok (.if_icmp .eq 612, 3) := by decide +kernel
set_option maxHeartbeats 800000 in
set_option maxRecDepth 100000 in
theorem L_23 (h : LOk ω ω' κ l b L xs ki vi kss) (hi : 0 ≤ i ∧ i + 6 ≤ (L : Int)) (hk : kI K) (hW : Wo K C N) (hF : Fc N) (kk : ∀ C' N', Wo (K + 100) C' N' → Fc N' → LW ω ω' κ b i 1451 [] C' N') : LW ω ω' κ b i 821 [] C N := by
  refine l_xr fun hx _ => ?_
  have hI := hW.inv
  have hs := h.2.1.2.2.2.2.1
  have hm := h.2.2.1.2.2.2.2.1
  refine l_a1 h dL_821 ?_
  refine l_arg h hi 1 (by decide) dL_822 dL_823 dL_824 dL_825 dL_826 ?_
  refine l_C (As := [.int (iI (az xs i 1))]) (rest := []) h dL_827 m_ml_L_109 m_im_X6_mate m_se_X6_mate rfl (by decide) rfl rfl rfl (c_X6_mate hs hI.1 (az_R _ _ _)) ?_
  refine l_a2 h dL_830 ?_
  refine l_arg h hi 1 (by decide) dL_831 dL_832 dL_833 dL_834 dL_835 ?_
  refine l_Nq (As := [.int (iI (az xs i 1))]) (rest := [_]) h dL_836 m_ml_L_112 m_im_X7_mate m_se_X7_mate rfl (by decide) rfl rfl rfl (c_X7_mate hm hI.2 hF (az_R _ _ _)) (fun ρ N1 hp => ?_)
  obtain ⟨z, rfl, rfl, hq⟩ := hp
  have w := w_mate (p := az xs i 1) hW hx hk
  exact l_eq h dL_839 rfl w.1 (kk _ _ (w.2.qe hq.q) hq.q.2)
end LL
