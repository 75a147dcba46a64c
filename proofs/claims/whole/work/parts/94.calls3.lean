/-! the law, call by call: 24 to 31 -/
section LL
variable {ω ω' : xO} {κ : xK} {l : Launch} {b L : Nat} {xs : Nat → Int32} {ki vi : Nat → Nat} {kss : Nat → Option Nat} {i K : Int} {C N : xMem}
theorem dL_844 : decode code 844 = .ok (.aload_n 1, 1) := by decide +kernel
theorem dL_845 : decode code 845 = .ok (.invokevirtual 113, 3) := by decide +kernel
theorem dL_848 : decode code 848 = .ok (.aload_n 2, 1) := by decide +kernel
theorem dL_849 : decode code 849 = .ok (.invokevirtual 116, 3) := by decide +kernel
theorem dL_852 : decode code 852 = .ok (.if_icmp .eq 599, 3) := by decide +kernel
set_option maxHeartbeats 800000 in
set_option maxRecDepth 100000 in
theorem L_24 (h : LOk ω ω' κ l b L xs ki vi kss) (hi : 0 ≤ i ∧ i + 6 ≤ (L : Int)) (hk : kI K) (hW : Wo K C N) (hF : Fc N) (kk : ∀ C' N', Wo (K + 100) C' N' → Fc N' → LW ω ω' κ b i 1451 [] C' N') : LW ω ω' κ b i 844 [] C N := by
  refine l_xr fun hx _ => ?_
  have hI := hW.inv
  have hs := h.2.1.2.2.2.2.1
  have hm := h.2.2.1.2.2.2.2.1
  refine l_a1 h dL_844 ?_
  refine l_C (As := []) (rest := []) h dL_845 m_ml_L_113 m_im_X6_ways m_se_X6_ways rfl (by decide) rfl rfl rfl (c_X6_ways hs hI.1) ?_
  refine l_a2 h dL_848 ?_
  refine l_Nq (As := []) (rest := [_]) h dL_849 m_ml_L_116 m_im_X7_ways m_se_X7_ways rfl (by decide) rfl rfl rfl (c_X7_ways hm hI.2 hF) (fun ρ N1 hp => ?_)
  obtain ⟨z, rfl, rfl, hq⟩ := hp
  have w := w_ways  hW hx
  exact l_eq h dL_852 rfl w.1 (kk _ _ (w.2.qe hq.q) hq.q.2)
theorem dL_857 : decode code 857 = .ok (.aload_n 1, 1) := by decide +kernel
theorem dL_858 : decode code 858 = .ok (.aload_n 0, 1) := by decide +kernel
theorem dL_859 : decode code 859 = .ok (.iload_n 3, 1) := by decide +kernel
theorem dL_860 : decode code 860 = .ok (.iconst 1, 1) := by decide +kernel
theorem dL_861 : decode code 861 = .ok (.iadd, 1) := by decide +kernel
theorem dL_862 : decode code 862 = .ok (.iaload, 1) := by decide +kernel
theorem dL_863 : decode code 863 = .ok (.aload_n 0, 1) := by decide +kernel
theorem dL_864 : decode code 864 = .ok (.iload_n 3, 1) := by decide +kernel
theorem dL_865 : decode code 865 = .ok (.iconst 2, 1) := by decide +kernel
theorem dL_866 : decode code 866 = .ok (.iadd, 1) := by decide +kernel
theorem dL_867 : decode code 867 = .ok (.iaload, 1) := by decide +kernel
theorem dL_868 : decode code 868 = .ok (.aload_n 0, 1) := by decide +kernel
theorem dL_869 : decode code 869 = .ok (.iload_n 3, 1) := by decide +kernel
theorem dL_870 : decode code 870 = .ok (.iconst 3, 1) := by decide +kernel
theorem dL_871 : decode code 871 = .ok (.iadd, 1) := by decide +kernel
theorem dL_872 : decode code 872 = .ok (.iaload, 1) := by decide +kernel
theorem dL_873 : decode code 873 = .ok (.invokevirtual 117, 3) := by decide +kernel
theorem dL_876 : decode code 876 = .ok (.aload_n 2, 1) := by decide +kernel
theorem dL_877 : decode code 877 = .ok (.aload_n 0, 1) := by decide +kernel
theorem dL_878 : decode code 878 = .ok (.iload_n 3, 1) := by decide +kernel
theorem dL_879 : decode code 879 = .ok (.iconst 1, 1) := by decide +kernel
theorem dL_880 : decode code 880 = .ok (.iadd, 1) := by decide +kernel
theorem dL_881 : decode code 881 = .ok (.iaload, 1) := by decide +kernel
theorem dL_882 : decode code 882 = .ok (.aload_n 0, 1) := by decide +kernel
theorem dL_883 : decode code 883 = .ok (.iload_n 3, 1) := by decide +kernel
theorem dL_884 : decode code 884 = .ok (.iconst 2, 1) := by decide +kernel
theorem dL_885 : decode code 885 = .ok (.iadd, 1) := by decide +kernel
theorem dL_886 : decode code 886 = .ok (.iaload, 1) := by decide +kernel
theorem dL_887 : decode code 887 = .ok (.aload_n 0, 1) := by decide +kernel
theorem dL_888 : decode code 888 = .ok (.iload_n 3, 1) := by decide +kernel
theorem dL_889 : decode code 889 = .ok (.iconst 3, 1) := by decide +kernel
theorem dL_890 : decode code 890 = .ok (.iadd, 1) := by decide +kernel
theorem dL_891 : decode code 891 = .ok (.iaload, 1) := by decide +kernel
theorem dL_892 : decode code 892 = .ok (.invokevirtual 120, 3) := by decide +kernel
theorem dL_895 : decode code 895 = .ok (.if_icmp .eq 556, 3) := by decide +kernel
set_option maxHeartbeats 800000 in
set_option maxRecDepth 100000 in
theorem L_25 (h : LOk ω ω' κ l b L xs ki vi kss) (hi : 0 ≤ i ∧ i + 6 ≤ (L : Int)) (hk : kI K) (hW : Wo K C N) (hF : Fc N) (kk : ∀ C' N', Wo (K + 100) C' N' → Fc N' → LW ω ω' κ b i 1451 [] C' N') : LW ω ω' κ b i 857 [] C N := by
  refine l_xr fun hx _ => ?_
  have hI := hW.inv
  have hs := h.2.1.2.2.2.2.1
  have hm := h.2.2.1.2.2.2.2.1
  refine l_a1 h dL_857 ?_
  refine l_arg h hi 1 (by decide) dL_858 dL_859 dL_860 dL_861 dL_862 ?_
  refine l_arg h hi 2 (by decide) dL_863 dL_864 dL_865 dL_866 dL_867 ?_
  refine l_arg h hi 3 (by decide) dL_868 dL_869 dL_870 dL_871 dL_872 ?_
  refine l_C (As := [.int (iI (az xs i 1)), .int (iI (az xs i 2)), .int (iI (az xs i 3))]) (rest := []) h dL_873 m_ml_L_117 m_im_X6_fits m_se_X6_fits rfl (by decide) rfl rfl rfl (c_X6_fits hs hI.1 (az_R _ _ _) (az_R _ _ _) (az_R _ _ _)) ?_
  refine l_a2 h dL_876 ?_
  refine l_arg h hi 1 (by decide) dL_877 dL_878 dL_879 dL_880 dL_881 ?_
  refine l_arg h hi 2 (by decide) dL_882 dL_883 dL_884 dL_885 dL_886 ?_
  refine l_arg h hi 3 (by decide) dL_887 dL_888 dL_889 dL_890 dL_891 ?_
  refine l_Nq (As := [.int (iI (az xs i 1)), .int (iI (az xs i 2)), .int (iI (az xs i 3))]) (rest := [_]) h dL_892 m_ml_L_120 m_im_X7_fits m_se_X7_fits rfl (by decide) rfl rfl rfl (c_X7_fits hm hI.2 hF hW.sz (az_R _ _ _) (az_R _ _ _) (az_R _ _ _) hW.cl) (fun ρ N1 hp => ?_)
  obtain ⟨z, rfl, rfl, hq⟩ := hp
  have w := w_fits (s := az xs i 1) (p := az xs i 2) (v := az xs i 3) hW hx hk
  exact l_eq h dL_895 rfl w.1 (kk _ _ (w.2.qw hq) hq.2)
theorem dL_900 : decode code 900 = .ok (.aload_n 1, 1) := by decide +kernel
theorem dL_901 : decode code 901 = .ok (.aload_n 0, 1) := by decide +kernel
theorem dL_902 : decode code 902 = .ok (.iload_n 3, 1) := by decide +kernel
theorem dL_903 : decode code 903 = .ok (.iconst 1, 1) := by decide +kernel
theorem dL_904 : decode code 904 = .ok (.iadd, 1) := by decide +kernel
theorem dL_905 : decode code 905 = .ok (.iaload, 1) := by decide +kernel
theorem dL_906 : decode code 906 = .ok (.aload_n 0, 1) := by decide +kernel
theorem dL_907 : decode code 907 = .ok (.iload_n 3, 1) := by decide +kernel
theorem dL_908 : decode code 908 = .ok (.iconst 2, 1) := by decide +kernel
theorem dL_909 : decode code 909 = .ok (.iadd, 1) := by decide +kernel
theorem dL_910 : decode code 910 = .ok (.iaload, 1) := by decide +kernel
theorem dL_911 : decode code 911 = .ok (.aload_n 0, 1) := by decide +kernel
theorem dL_912 : decode code 912 = .ok (.iload_n 3, 1) := by decide +kernel
theorem dL_913 : decode code 913 = .ok (.iconst 3, 1) := by decide +kernel
theorem dL_914 : decode code 914 = .ok (.iadd, 1) := by decide +kernel
theorem dL_915 : decode code 915 = .ok (.iaload, 1) := by decide +kernel
theorem dL_916 : decode code 916 = .ok (.invokevirtual 121, 3) := by decide +kernel
theorem dL_919 : decode code 919 = .ok (.aload_n 2, 1) := by decide +kernel
theorem dL_920 : decode code 920 = .ok (.aload_n 0, 1) := by decide +kernel
theorem dL_921 : decode code 921 = .ok (.iload_n 3, 1) := by decide +kernel
theorem dL_922 : decode code 922 = .ok (.iconst 1, 1) := by decide +kernel
theorem dL_923 : decode code 923 = .ok (.iadd, 1) := by decide +kernel
theorem dL_924 : decode code 924 = .ok (.iaload, 1) := by decide +kernel
theorem dL_925 : decode code 925 = .ok (.aload_n 0, 1) := by decide +kernel
theorem dL_926 : decode code 926 = .ok (.iload_n 3, 1) := by decide +kernel
theorem dL_927 : decode code 927 = .ok (.iconst 2, 1) := by decide +kernel
theorem dL_928 : decode code 928 = .ok (.iadd, 1) := by decide +kernel
theorem dL_929 : decode code 929 = .ok (.iaload, 1) := by decide +kernel
theorem dL_930 : decode code 930 = .ok (.aload_n 0, 1) := by decide +kernel
theorem dL_931 : decode code 931 = .ok (.iload_n 3, 1) := by decide +kernel
theorem dL_932 : decode code 932 = .ok (.iconst 3, 1) := by decide +kernel
theorem dL_933 : decode code 933 = .ok (.iadd, 1) := by decide +kernel
theorem dL_934 : decode code 934 = .ok (.iaload, 1) := by decide +kernel
theorem dL_935 : decode code 935 = .ok (.invokevirtual 124, 3) := by decide +kernel
theorem dL_938 : decode code 938 = .ok (.if_icmp .eq 513, 3) := by decide +kernel
set_option maxHeartbeats 800000 in
set_option maxRecDepth 100000 in
theorem L_26 (h : LOk ω ω' κ l b L xs ki vi kss) (hi : 0 ≤ i ∧ i + 6 ≤ (L : Int)) (hk : kI K) (hW : Wo K C N) (hF : Fc N) (kk : ∀ C' N', Wo (K + 100) C' N' → Fc N' → LW ω ω' κ b i 1451 [] C' N') : LW ω ω' κ b i 900 [] C N := by
  refine l_xr fun hx _ => ?_
  have hI := hW.inv
  have hs := h.2.1.2.2.2.2.1
  have hm := h.2.2.1.2.2.2.2.1
  refine l_a1 h dL_900 ?_
  refine l_arg h hi 1 (by decide) dL_901 dL_902 dL_903 dL_904 dL_905 ?_
  refine l_arg h hi 2 (by decide) dL_906 dL_907 dL_908 dL_909 dL_910 ?_
  refine l_arg h hi 3 (by decide) dL_911 dL_912 dL_913 dL_914 dL_915 ?_
  refine l_C (As := [.int (iI (az xs i 1)), .int (iI (az xs i 2)), .int (iI (az xs i 3))]) (rest := []) h dL_916 m_ml_L_121 m_im_X6_who m_se_X6_who rfl (by decide) rfl rfl rfl (c_X6_who hs hI.1 (az_R _ _ _) (az_R _ _ _) (az_R _ _ _)) ?_
  refine l_a2 h dL_919 ?_
  refine l_arg h hi 1 (by decide) dL_920 dL_921 dL_922 dL_923 dL_924 ?_
  refine l_arg h hi 2 (by decide) dL_925 dL_926 dL_927 dL_928 dL_929 ?_
  refine l_arg h hi 3 (by decide) dL_930 dL_931 dL_932 dL_933 dL_934 ?_
  refine l_Nq (As := [.int (iI (az xs i 1)), .int (iI (az xs i 2)), .int (iI (az xs i 3))]) (rest := [_]) h dL_935 m_ml_L_124 m_im_X7_who m_se_X7_who rfl (by decide) rfl rfl rfl (c_X7_who hm hI.2 hF hW.sz (az_R _ _ _) (az_R _ _ _) (az_R _ _ _) hW.cl) (fun ρ N1 hp => ?_)
  obtain ⟨z, rfl, rfl, hq⟩ := hp
  have w := w_who (s := az xs i 1) (p := az xs i 2) (v := az xs i 3) hW hx hk
  exact l_eq h dL_938 rfl w.1 (kk _ _ (w.2.qw hq) hq.2)
theorem dL_943 : decode code 943 = .ok (.aload_n 1, 1) := by decide +kernel
theorem dL_944 : decode code 944 = .ok (.aload_n 0, 1) := by decide +kernel
theorem dL_945 : decode code 945 = .ok (.iload_n 3, 1) := by decide +kernel
theorem dL_946 : decode code 946 = .ok (.iconst 1, 1) := by decide +kernel
theorem dL_947 : decode code 947 = .ok (.iadd, 1) := by decide +kernel
theorem dL_948 : decode code 948 = .ok (.iaload, 1) := by decide +kernel
theorem dL_949 : decode code 949 = .ok (.invokevirtual 125, 3) := by decide +kernel
theorem dL_952 : decode code 952 = .ok (.aload_n 2, 1) := by decide +kernel
theorem dL_953 : decode code 953 = .ok (.aload_n 0, 1) := by decide +kernel
theorem dL_954 : decode code 954 = .ok (.iload_n 3, 1) := by decide +kernel
theorem dL_955 : decode code 955 = .ok (.iconst 1, 1) := by decide +kernel
theorem dL_956 : decode code 956 = .ok (.iadd, 1) := by decide +kernel
theorem dL_957 : decode code 957 = .ok (.iaload, 1) := by decide +kernel
theorem dL_958 : decode code 958 = .ok (.invokevirtual 128, 3) := by decide +kernel
theorem dL_961 : decode code 961 = .ok (.if_icmp .eq 490, 3) := by decide +kernel
set_option maxHeartbeats 800000 in
set_option maxRecDepth 100000 in
theorem L_27 (h : LOk ω ω' κ l b L xs ki vi kss) (hi : 0 ≤ i ∧ i + 6 ≤ (L : Int)) (hk : kI K) (hW : Wo K C N) (hF : Fc N) (kk : ∀ C' N', Wo (K + 100) C' N' → Fc N' → LW ω ω' κ b i 1451 [] C' N') : LW ω ω' κ b i 943 [] C N := by
  refine l_xr fun hx _ => ?_
  have hI := hW.inv
  have hs := h.2.1.2.2.2.2.1
  have hm := h.2.2.1.2.2.2.2.1
  refine l_a1 h dL_943 ?_
  refine l_arg h hi 1 (by decide) dL_944 dL_945 dL_946 dL_947 dL_948 ?_
  refine l_C (As := [.int (iI (az xs i 1))]) (rest := []) h dL_949 m_ml_L_125 m_im_X6_pulls m_se_X6_pulls rfl (by decide) rfl rfl rfl (c_X6_pulls hs hI.1 (az_R _ _ _)) ?_
  refine l_a2 h dL_952 ?_
  refine l_arg h hi 1 (by decide) dL_953 dL_954 dL_955 dL_956 dL_957 ?_
  refine l_N (As := [.int (iI (az xs i 1))]) (rest := [_]) h dL_958 m_ml_L_128 m_im_X7_pulls m_se_X7_pulls rfl (by decide) rfl rfl rfl (c_X7_pulls hm hI.2 (az_R _ _ _)) ?_
  have w := w_pulls (s := az xs i 1) hW hk
  exact l_eq h dL_961 rfl w.1 (kk _ _ w.2 (F_pulls hF))
theorem dL_966 : decode code 966 = .ok (.aload_n 1, 1) := by decide +kernel
theorem dL_967 : decode code 967 = .ok (.aload_n 0, 1) := by decide +kernel
theorem dL_968 : decode code 968 = .ok (.iload_n 3, 1) := by decide +kernel
theorem dL_969 : decode code 969 = .ok (.iconst 1, 1) := by decide +kernel
theorem dL_970 : decode code 970 = .ok (.iadd, 1) := by decide +kernel
theorem dL_971 : decode code 971 = .ok (.iaload, 1) := by decide +kernel
theorem dL_972 : decode code 972 = .ok (.aload_n 0, 1) := by decide +kernel
theorem dL_973 : decode code 973 = .ok (.iload_n 3, 1) := by decide +kernel
theorem dL_974 : decode code 974 = .ok (.iconst 2, 1) := by decide +kernel
theorem dL_975 : decode code 975 = .ok (.iadd, 1) := by decide +kernel
theorem dL_976 : decode code 976 = .ok (.iaload, 1) := by decide +kernel
theorem dL_977 : decode code 977 = .ok (.invokevirtual 129, 3) := by decide +kernel
theorem dL_980 : decode code 980 = .ok (.aload_n 2, 1) := by decide +kernel
theorem dL_981 : decode code 981 = .ok (.aload_n 0, 1) := by decide +kernel
theorem dL_982 : decode code 982 = .ok (.iload_n 3, 1) := by decide +kernel
theorem dL_983 : decode code 983 = .ok (.iconst 1, 1) := by decide +kernel
theorem dL_984 : decode code 984 = .ok (.iadd, 1) := by decide +kernel
theorem dL_985 : decode code 985 = .ok (.iaload, 1) := by decide +kernel
theorem dL_986 : decode code 986 = .ok (.aload_n 0, 1) := by decide +kernel
theorem dL_987 : decode code 987 = .ok (.iload_n 3, 1) := by decide +kernel
theorem dL_988 : decode code 988 = .ok (.iconst 2, 1) := by decide +kernel
theorem dL_989 : decode code 989 = .ok (.iadd, 1) := by decide +kernel
theorem dL_990 : decode code 990 = .ok (.iaload, 1) := by decide +kernel
theorem dL_991 : decode code 991 = .ok (.invokevirtual 133, 3) := by decide +kernel
theorem dL_994 : decode code 994 = .ok (.lcmp, 1) := by decide +kernel
theorem dL_995 : decode code 995 = .ok (.ifCond .eq 456, 3) := by decide +kernel
set_option maxHeartbeats 800000 in
set_option maxRecDepth 100000 in
theorem L_28 (h : LOk ω ω' κ l b L xs ki vi kss) (hi : 0 ≤ i ∧ i + 6 ≤ (L : Int)) (hk : kI K) (hW : Wo K C N) (hF : Fc N) (kk : ∀ C' N', Wo (K + 100) C' N' → Fc N' → LW ω ω' κ b i 1451 [] C' N') : LW ω ω' κ b i 966 [] C N := by
  refine l_xr fun hx _ => ?_
  have hI := hW.inv
  have hs := h.2.1.2.2.2.2.1
  have hm := h.2.2.1.2.2.2.2.1
  refine l_a1 h dL_966 ?_
  refine l_arg h hi 1 (by decide) dL_967 dL_968 dL_969 dL_970 dL_971 ?_
  refine l_arg h hi 2 (by decide) dL_972 dL_973 dL_974 dL_975 dL_976 ?_
  refine l_C (As := [.int (iI (az xs i 1)), .int (iI (az xs i 2))]) (rest := []) h dL_977 m_ml_L_129 m_im_X6_knots m_se_X6_knots rfl (by decide) rfl rfl rfl (c_X6_knots hs hI.1 (az_R _ _ _) (az_R _ _ _)) ?_
  refine l_a2 h dL_980 ?_
  refine l_arg h hi 1 (by decide) dL_981 dL_982 dL_983 dL_984 dL_985 ?_
  refine l_arg h hi 2 (by decide) dL_986 dL_987 dL_988 dL_989 dL_990 ?_
  refine l_N (As := [.int (iI (az xs i 1)), .int (iI (az xs i 2))]) (rest := [_]) h dL_991 m_ml_L_133 m_im_X7_knots m_se_X7_knots rfl (by decide) rfl rfl rfl (c_X7_knots hm (az_R _ _ _) (az_R _ _ _)) ?_
  have w := w_knots (n := az xs i 1) (v := az xs i 2) hW hk
  exact l_leq h dL_994 dL_995 rfl (kk _ _ w (F_knots hF))
theorem dL_1000 : decode code 1000 = .ok (.aload_n 1, 1) := by decide +kernel
theorem dL_1001 : decode code 1001 = .ok (.aload_n 0, 1) := by decide +kernel
theorem dL_1002 : decode code 1002 = .ok (.iload_n 3, 1) := by decide +kernel
theorem dL_1003 : decode code 1003 = .ok (.iconst 1, 1) := by decide +kernel
theorem dL_1004 : decode code 1004 = .ok (.iadd, 1) := by decide +kernel
theorem dL_1005 : decode code 1005 = .ok (.iaload, 1) := by decide +kernel
theorem dL_1006 : decode code 1006 = .ok (.invokevirtual 134, 3) := by decide +kernel
theorem dL_1009 : decode code 1009 = .ok (.aload_n 2, 1) := by decide +kernel
theorem dL_1010 : decode code 1010 = .ok (.aload_n 0, 1) := by decide +kernel
theorem dL_1011 : decode code 1011 = .ok (.iload_n 3, 1) := by decide +kernel
theorem dL_1012 : decode code 1012 = .ok (.iconst 1, 1) := by decide +kernel
theorem dL_1013 : decode code 1013 = .ok (.iadd, 1) := by decide +kernel
theorem dL_1014 : decode code 1014 = .ok (.iaload, 1) := by decide +kernel
theorem dL_1015 : decode code 1015 = .ok (.invokevirtual 137, 3) := by decide +kernel
theorem dL_1018 : decode code 1018 = .ok (.if_icmp .eq 433, 3) := by decide +kernel
set_option maxHeartbeats 800000 in
set_option maxRecDepth 100000 in
theorem L_29 (h : LOk ω ω' κ l b L xs ki vi kss) (hi : 0 ≤ i ∧ i + 6 ≤ (L : Int)) (hk : kI K) (hW : Wo K C N) (hF : Fc N) (kk : ∀ C' N', Wo (K + 100) C' N' → Fc N' → LW ω ω' κ b i 1451 [] C' N') : LW ω ω' κ b i 1000 [] C N := by
  refine l_xr fun hx _ => ?_
  have hI := hW.inv
  have hs := h.2.1.2.2.2.2.1
  have hm := h.2.2.1.2.2.2.2.1
  refine l_a1 h dL_1000 ?_
  refine l_arg h hi 1 (by decide) dL_1001 dL_1002 dL_1003 dL_1004 dL_1005 ?_
  refine l_C (As := [.int (iI (az xs i 1))]) (rest := []) h dL_1006 m_ml_L_134 m_im_X6_days m_se_X6_days rfl (by decide) rfl rfl rfl (c_X6_days hs hI.1 (az_R _ _ _)) ?_
  refine l_a2 h dL_1009 ?_
  refine l_arg h hi 1 (by decide) dL_1010 dL_1011 dL_1012 dL_1013 dL_1014 ?_
  refine l_Nq (As := [.int (iI (az xs i 1))]) (rest := [_]) h dL_1015 m_ml_L_137 m_im_X7_days m_se_X7_days rfl (by decide) rfl rfl rfl (c_X7_days hm hI.2 hF (az_R _ _ _) hW.cl) (fun ρ N1 hp => ?_)
  obtain ⟨z, rfl, rfl, hq⟩ := hp
  have w := w_days (n := az xs i 1) hW hx hk
  exact l_eq h dL_1018 rfl w.1 (kk _ _ (w.2.qe hq.q) hq.q.2)
theorem dL_1023 : decode code 1023 = .ok (.aload_n 1, 1) := by decide +kernel
theorem dL_1024 : decode code 1024 = .ok (.aload_n 0, 1) := by decide +kernel
theorem dL_1025 : decode code 1025 = .ok (.iload_n 3, 1) := by decide +kernel
theorem dL_1026 : decode code 1026 = .ok (.iconst 1, 1) := by decide +kernel
theorem dL_1027 : decode code 1027 = .ok (.iadd, 1) := by decide +kernel
theorem dL_1028 : decode code 1028 = .ok (.iaload, 1) := by decide +kernel
theorem dL_1029 : decode code 1029 = .ok (.invokevirtual 138, 3) := by decide +kernel
theorem dL_1032 : decode code 1032 = .ok (.aload_n 2, 1) := by decide +kernel
theorem dL_1033 : decode code 1033 = .ok (.aload_n 0, 1) := by decide +kernel
theorem dL_1034 : decode code 1034 = .ok (.iload_n 3, 1) := by decide +kernel
theorem dL_1035 : decode code 1035 = .ok (.iconst 1, 1) := by decide +kernel
theorem dL_1036 : decode code 1036 = .ok (.iadd, 1) := by decide +kernel
theorem dL_1037 : decode code 1037 = .ok (.iaload, 1) := by decide +kernel
theorem dL_1038 : decode code 1038 = .ok (.invokevirtual 141, 3) := by decide +kernel
theorem dL_1041 : decode code 1041 = .ok (.if_icmp .eq 410, 3) := by decide +kernel
set_option maxHeartbeats 800000 in
set_option maxRecDepth 100000 in
theorem L_30 (h : LOk ω ω' κ l b L xs ki vi kss) (hi : 0 ≤ i ∧ i + 6 ≤ (L : Int)) (hk : kI K) (hW : Wo K C N) (hF : Fc N) (kk : ∀ C' N', Wo (K + 100) C' N' → Fc N' → LW ω ω' κ b i 1451 [] C' N') : LW ω ω' κ b i 1023 [] C N := by
  refine l_xr fun hx _ => ?_
  have hI := hW.inv
  have hs := h.2.1.2.2.2.2.1
  have hm := h.2.2.1.2.2.2.2.1
  refine l_a1 h dL_1023 ?_
  refine l_arg h hi 1 (by decide) dL_1024 dL_1025 dL_1026 dL_1027 dL_1028 ?_
  refine l_C (As := [.int (iI (az xs i 1))]) (rest := []) h dL_1029 m_ml_L_138 m_im_X6_seed m_se_X6_seed rfl (by decide) rfl rfl rfl (c_X6_seed hs hI.1 (az_R _ _ _)) ?_
  refine l_a2 h dL_1032 ?_
  refine l_arg h hi 1 (by decide) dL_1033 dL_1034 dL_1035 dL_1036 dL_1037 ?_
  refine l_N (As := [.int (iI (az xs i 1))]) (rest := [_]) h dL_1038 m_ml_L_141 m_im_X7_seed m_se_X7_seed rfl (by decide) rfl rfl rfl (c_X7_seed hm (az_R _ _ _)) ?_
  have w := w_seed (v := az xs i 1) hW hk
  exact l_eq h dL_1041 rfl w.1 (kk _ _ w.2 (F_seed hF))
theorem dL_1046 : decode code 1046 = .ok (.aload_n 1, 1) := by decide +kernel
theorem dL_1047 : decode code 1047 = .ok (.aload_n 0, 1) := by decide +kernel
theorem dL_1048 : decode code 1048 = .ok (.iload_n 3, 1) := by decide +kernel
theorem dL_1049 : decode code 1049 = .ok (.iconst 1, 1) := by decide +kernel
theorem dL_1050 : decode code 1050 = .ok (.iadd, 1) := by decide +kernel
theorem dL_1051 : decode code 1051 = .ok (.iaload, 1) := by decide +kernel
theorem dL_1052 : decode code 1052 = .ok (.aload_n 0, 1) := by decide +kernel
theorem dL_1053 : decode code 1053 = .ok (.iload_n 3, 1) := by decide +kernel
theorem dL_1054 : decode code 1054 = .ok (.iconst 2, 1) := by decide +kernel
theorem dL_1055 : decode code 1055 = .ok (.iadd, 1) := by decide +kernel
theorem dL_1056 : decode code 1056 = .ok (.iaload, 1) := by decide +kernel
theorem dL_1057 : decode code 1057 = .ok (.invokevirtual 142, 3) := by decide +kernel
theorem dL_1060 : decode code 1060 = .ok (.aload_n 2, 1) := by decide +kernel
theorem dL_1061 : decode code 1061 = .ok (.aload_n 0, 1) := by decide +kernel
theorem dL_1062 : decode code 1062 = .ok (.iload_n 3, 1) := by decide +kernel
theorem dL_1063 : decode code 1063 = .ok (.iconst 1, 1) := by decide +kernel
theorem dL_1064 : decode code 1064 = .ok (.iadd, 1) := by decide +kernel
theorem dL_1065 : decode code 1065 = .ok (.iaload, 1) := by decide +kernel
theorem dL_1066 : decode code 1066 = .ok (.aload_n 0, 1) := by decide +kernel
theorem dL_1067 : decode code 1067 = .ok (.iload_n 3, 1) := by decide +kernel
theorem dL_1068 : decode code 1068 = .ok (.iconst 2, 1) := by decide +kernel
theorem dL_1069 : decode code 1069 = .ok (.iadd, 1) := by decide +kernel
theorem dL_1070 : decode code 1070 = .ok (.iaload, 1) := by decide +kernel
theorem dL_1071 : decode code 1071 = .ok (.invokevirtual 145, 3) := by decide +kernel
theorem dL_1074 : decode code 1074 = .ok (.if_icmp .eq 377, 3) := by decide +kernel
set_option maxHeartbeats 800000 in
set_option maxRecDepth 100000 in
theorem L_31 (h : LOk ω ω' κ l b L xs ki vi kss) (hi : 0 ≤ i ∧ i + 6 ≤ (L : Int)) (hk : kI K) (hW : Wo K C N) (hF : Fc N) (kk : ∀ C' N', Wo (K + 100) C' N' → Fc N' → LW ω ω' κ b i 1451 [] C' N') : LW ω ω' κ b i 1046 [] C N := by
  refine l_xr fun hx _ => ?_
  have hI := hW.inv
  have hs := h.2.1.2.2.2.2.1
  have hm := h.2.2.1.2.2.2.2.1
  refine l_a1 h dL_1046 ?_
  refine l_arg h hi 1 (by decide) dL_1047 dL_1048 dL_1049 dL_1050 dL_1051 ?_
  refine l_arg h hi 2 (by decide) dL_1052 dL_1053 dL_1054 dL_1055 dL_1056 ?_
  refine l_C (As := [.int (iI (az xs i 1)), .int (iI (az xs i 2))]) (rest := []) h dL_1057 m_ml_L_142 m_im_X6_feed m_se_X6_feed rfl (by decide) rfl rfl rfl (c_X6_feed hs hI.1 (az_R _ _ _) (az_R _ _ _)) ?_
  refine l_a2 h dL_1060 ?_
  refine l_arg h hi 1 (by decide) dL_1061 dL_1062 dL_1063 dL_1064 dL_1065 ?_
  refine l_arg h hi 2 (by decide) dL_1066 dL_1067 dL_1068 dL_1069 dL_1070 ?_
  refine l_N (As := [.int (iI (az xs i 1)), .int (iI (az xs i 2))]) (rest := [_]) h dL_1071 m_ml_L_145 m_im_X7_feed m_se_X7_feed rfl (by decide) rfl rfl rfl (c_X7_feed hm hW.ta (az_R _ _ _) (az_R _ _ _)) ?_
  have w := w_feed (x := az xs i 1) (n := az xs i 2) hW hk
  exact l_eq h dL_1074 rfl w.1 (kk _ _ w.2 (F_feed hF))
end LL
