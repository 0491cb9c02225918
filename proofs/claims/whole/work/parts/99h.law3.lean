theorem lc_best {F : zF} {n : Nat} {S : Nat → Int} {M : zM} {i : Int} (hF : zScr F n S) (hn : n < 2 ^ 31) (hR : ∀ j, -2147483648 ≤ S j ∧ S j < 2147483648) (hi : 0 ≤ i ∧ i + 6 ≤ n) (hS : Sim M) (k : ∀ K, SimN M K → Z RL cL_law 4 (some .boolean) 40 F 1445 [some (vR 96), some (vR 0), some (vR 75), some (vI i)] [] K) : Z RL cL_law 4 (some .boolean) 40 F 781 [some (vR 96), some (vR 0), some (vR 75), some (vI i)] [] M := by
  refine z_aload_1 dL_law_781 ?_
  refine z_aload_0 dL_law_782 ?_
  refine z_iload_3 dL_law_783 ?_
  refine z_iconst dL_law_784 ?_
  refine z_iadd dL_law_785 ?_
  refine z_scrl hF hn (by omega) dL_law_786 ?_
  refine z_aload_0 dL_law_787 ?_
  refine z_iload_3 dL_law_788 ?_
  refine z_iconst dL_law_789 ?_
  refine z_iadd dL_law_790 ?_
  refine z_scrl hF hn (by omega) dL_law_791 ?_
  obtain ⟨v_, P_, h6_, h7_⟩ := s_best hS (hR _) (hR _)
  refine z_rVJ yv_X6_best ml_L_99 h6_ zk_0 rfl rfl (by decide) (Nat.le_of_ble_eq_true rfl) dL_law_792 (fun N_ hN_ => ?_)
  obtain ⟨P2_, h8_, h9_⟩ := h7_ N_ hN_
  refine z_aload_2 dL_law_795 ?_
  refine z_aload_0 dL_law_796 ?_
  refine z_iload_3 dL_law_797 ?_
  refine z_iconst dL_law_798 ?_
  refine z_iadd dL_law_799 ?_
  refine z_scrl hF hn (by omega) dL_law_800 ?_
  refine z_aload_0 dL_law_801 ?_
  refine z_iload_3 dL_law_802 ?_
  refine z_iconst dL_law_803 ?_
  refine z_iadd dL_law_804 ?_
  refine z_scrl hF hn (by omega) dL_law_805 ?_
  refine z_rVJ yv_X7_best ml_L_103 h8_ zk_75 rfl rfl (by decide) (Nat.le_of_ble_eq_true rfl) dL_law_806 (fun K_ hK_ => ?_)
  exact z_sameJ (tgt := 1445) dL_law_809 dL_law_810 (by decide) (k K_ (h9_ K_ hK_))
theorem lc_turn {F : zF} {n : Nat} {S : Nat → Int} {M : zM} {i : Int} (hF : zScr F n S) (hn : n < 2 ^ 31) (hR : ∀ j, -2147483648 ≤ S j ∧ S j < 2147483648) (hi : 0 ≤ i ∧ i + 6 ≤ n) (hS : Sim M) (k : ∀ K, SimN M K → Z RL cL_law 4 (some .boolean) 40 F 1445 [some (vR 96), some (vR 0), some (vR 75), some (vI i)] [] K) : Z RL cL_law 4 (some .boolean) 40 F 815 [some (vR 96), some (vR 0), some (vR 75), some (vI i)] [] M := by
  refine z_aload_1 dL_law_815 ?_
  refine z_aload_0 dL_law_816 ?_
  refine z_iload_3 dL_law_817 ?_
  refine z_iconst dL_law_818 ?_
  refine z_iadd dL_law_819 ?_
  refine z_scrl hF hn (by omega) dL_law_820 ?_
  refine z_aload_0 dL_law_821 ?_
  refine z_iload_3 dL_law_822 ?_
  refine z_iconst dL_law_823 ?_
  refine z_iadd dL_law_824 ?_
  refine z_scrl hF hn (by omega) dL_law_825 ?_
  obtain ⟨v_, P_, h6_, h7_⟩ := s_turn hS (hR _) (hR _)
  refine z_rVI yv_X6_turn ml_L_104 h6_ zk_0 rfl rfl (by decide) (Nat.le_of_ble_eq_true rfl) dL_law_826 (fun N_ hN_ => ?_)
  obtain ⟨P2_, h8_, h9_⟩ := h7_ N_ hN_
  refine z_aload_2 dL_law_829 ?_
  refine z_aload_0 dL_law_830 ?_
  refine z_iload_3 dL_law_831 ?_
  refine z_iconst dL_law_832 ?_
  refine z_iadd dL_law_833 ?_
  refine z_scrl hF hn (by omega) dL_law_834 ?_
  refine z_aload_0 dL_law_835 ?_
  refine z_iload_3 dL_law_836 ?_
  refine z_iconst dL_law_837 ?_
  refine z_iadd dL_law_838 ?_
  refine z_scrl hF hn (by omega) dL_law_839 ?_
  refine z_rVI yv_X7_turn ml_L_107 h8_ zk_75 rfl rfl (by decide) (Nat.le_of_ble_eq_true rfl) dL_law_840 (fun K_ hK_ => ?_)
  exact z_sameI (tgt := 1445) dL_law_843 (by decide) (k K_ (h9_ K_ hK_))
theorem lc_rest {F : zF} {n : Nat} {S : Nat → Int} {M : zM} {i : Int} (hF : zScr F n S) (hn : n < 2 ^ 31) (hR : ∀ j, -2147483648 ≤ S j ∧ S j < 2147483648) (hi : 0 ≤ i ∧ i + 6 ≤ n) (hS : Sim M) (k : ∀ K, SimN M K → Z RL cL_law 4 (some .boolean) 40 F 1445 [some (vR 96), some (vR 0), some (vR 75), some (vI i)] [] K) : Z RL cL_law 4 (some .boolean) 40 F 848 [some (vR 96), some (vR 0), some (vR 75), some (vI i)] [] M := by
  refine z_aload_1 dL_law_848 ?_
  refine z_aload_0 dL_law_849 ?_
  refine z_iload_3 dL_law_850 ?_
  refine z_iconst dL_law_851 ?_
  refine z_iadd dL_law_852 ?_
  refine z_scrl hF hn (by omega) dL_law_853 ?_
  obtain ⟨v_, P_, h6_, h7_⟩ := s_rest hS (hR _)
  refine z_rVJ yv_X6_rest ml_L_108 h6_ zk_0 rfl rfl (by decide) (Nat.le_of_ble_eq_true rfl) dL_law_854 (fun N_ hN_ => ?_)
  obtain ⟨P2_, h8_, h9_⟩ := h7_ N_ hN_
  refine z_aload_2 dL_law_857 ?_
  refine z_aload_0 dL_law_858 ?_
  refine z_iload_3 dL_law_859 ?_
  refine z_iconst dL_law_860 ?_
  refine z_iadd dL_law_861 ?_
  refine z_scrl hF hn (by omega) dL_law_862 ?_
  refine z_rVJ yv_X7_rest ml_L_111 h8_ zk_75 rfl rfl (by decide) (Nat.le_of_ble_eq_true rfl) dL_law_863 (fun K_ hK_ => ?_)
  exact z_sameJ (tgt := 1445) dL_law_866 dL_law_867 (by decide) (k K_ (h9_ K_ hK_))
theorem lc_home {F : zF} {n : Nat} {S : Nat → Int} {M : zM} {i : Int} (hF : zScr F n S) (hn : n < 2 ^ 31) (hR : ∀ j, -2147483648 ≤ S j ∧ S j < 2147483648) (hi : 0 ≤ i ∧ i + 6 ≤ n) (hS : Sim M) (k : ∀ K, SimN M K → Z RL cL_law 4 (some .boolean) 40 F 1445 [some (vR 96), some (vR 0), some (vR 75), some (vI i)] [] K) : Z RL cL_law 4 (some .boolean) 40 F 872 [some (vR 96), some (vR 0), some (vR 75), some (vI i)] [] M := by
  refine z_aload_1 dL_law_872 ?_
  refine z_aload_0 dL_law_873 ?_
  refine z_iload_3 dL_law_874 ?_
  refine z_iconst dL_law_875 ?_
  refine z_iadd dL_law_876 ?_
  refine z_scrl hF hn (by omega) dL_law_877 ?_
  refine z_aload_0 dL_law_878 ?_
  refine z_iload_3 dL_law_879 ?_
  refine z_iconst dL_law_880 ?_
  refine z_iadd dL_law_881 ?_
  refine z_scrl hF hn (by omega) dL_law_882 ?_
  obtain ⟨v_, P_, h6_, h7_⟩ := s_home hS (hR _) (hR _)
  refine z_rVI yv_X6_home ml_L_112 h6_ zk_0 rfl rfl (by decide) (Nat.le_of_ble_eq_true rfl) dL_law_883 (fun N_ hN_ => ?_)
  obtain ⟨P2_, h8_, h9_⟩ := h7_ N_ hN_
  refine z_aload_2 dL_law_886 ?_
  refine z_aload_0 dL_law_887 ?_
  refine z_iload_3 dL_law_888 ?_
  refine z_iconst dL_law_889 ?_
  refine z_iadd dL_law_890 ?_
  refine z_scrl hF hn (by omega) dL_law_891 ?_
  refine z_aload_0 dL_law_892 ?_
  refine z_iload_3 dL_law_893 ?_
  refine z_iconst dL_law_894 ?_
  refine z_iadd dL_law_895 ?_
  refine z_scrl hF hn (by omega) dL_law_896 ?_
  refine z_rVI yv_X7_home ml_L_115 h8_ zk_75 rfl rfl (by decide) (Nat.le_of_ble_eq_true rfl) dL_law_897 (fun K_ hK_ => ?_)
  exact z_sameI (tgt := 1445) dL_law_900 (by decide) (k K_ (h9_ K_ hK_))
theorem lc_know {F : zF} {n : Nat} {S : Nat → Int} {M : zM} {i : Int} (hF : zScr F n S) (hn : n < 2 ^ 31) (hR : ∀ j, -2147483648 ≤ S j ∧ S j < 2147483648) (hi : 0 ≤ i ∧ i + 6 ≤ n) (hS : Sim M) (k : ∀ K, SimN M K → Z RL cL_law 4 (some .boolean) 40 F 1445 [some (vR 96), some (vR 0), some (vR 75), some (vI i)] [] K) : Z RL cL_law 4 (some .boolean) 40 F 905 [some (vR 96), some (vR 0), some (vR 75), some (vI i)] [] M := by
  refine z_aload_1 dL_law_905 ?_
  refine z_aload_0 dL_law_906 ?_
  refine z_iload_3 dL_law_907 ?_
  refine z_iconst dL_law_908 ?_
  refine z_iadd dL_law_909 ?_
  refine z_scrl hF hn (by omega) dL_law_910 ?_
  refine z_aload_0 dL_law_911 ?_
  refine z_iload_3 dL_law_912 ?_
  refine z_iconst dL_law_913 ?_
  refine z_iadd dL_law_914 ?_
  refine z_scrl hF hn (by omega) dL_law_915 ?_
  refine z_aload_0 dL_law_916 ?_
  refine z_iload_3 dL_law_917 ?_
  refine z_iconst dL_law_918 ?_
  refine z_iadd dL_law_919 ?_
  refine z_scrl hF hn (by omega) dL_law_920 ?_
  obtain ⟨v_, P_, h6_, h7_⟩ := s_know hS (hR _) (hR _) (hR _)
  refine z_rVJ yv_X6_know ml_L_116 h6_ zk_0 rfl rfl (by decide) (Nat.le_of_ble_eq_true rfl) dL_law_921 (fun N_ hN_ => ?_)
  obtain ⟨P2_, h8_, h9_⟩ := h7_ N_ hN_
  refine z_aload_2 dL_law_924 ?_
  refine z_aload_0 dL_law_925 ?_
  refine z_iload_3 dL_law_926 ?_
  refine z_iconst dL_law_927 ?_
  refine z_iadd dL_law_928 ?_
  refine z_scrl hF hn (by omega) dL_law_929 ?_
  refine z_aload_0 dL_law_930 ?_
  refine z_iload_3 dL_law_931 ?_
  refine z_iconst dL_law_932 ?_
  refine z_iadd dL_law_933 ?_
  refine z_scrl hF hn (by omega) dL_law_934 ?_
  refine z_aload_0 dL_law_935 ?_
  refine z_iload_3 dL_law_936 ?_
  refine z_iconst dL_law_937 ?_
  refine z_iadd dL_law_938 ?_
  refine z_scrl hF hn (by omega) dL_law_939 ?_
  refine z_rVJ yv_X7_know ml_L_120 h8_ zk_75 rfl rfl (by decide) (Nat.le_of_ble_eq_true rfl) dL_law_940 (fun K_ hK_ => ?_)
  exact z_sameJ (tgt := 1445) dL_law_943 dL_law_944 (by decide) (k K_ (h9_ K_ hK_))
theorem lc_life {F : zF} {n : Nat} {S : Nat → Int} {M : zM} {i : Int} (hF : zScr F n S) (hn : n < 2 ^ 31) (hR : ∀ j, -2147483648 ≤ S j ∧ S j < 2147483648) (hi : 0 ≤ i ∧ i + 6 ≤ n) (hS : Sim M) (k : ∀ K, SimN M K → Z RL cL_law 4 (some .boolean) 40 F 1445 [some (vR 96), some (vR 0), some (vR 75), some (vI i)] [] K) : Z RL cL_law 4 (some .boolean) 40 F 949 [some (vR 96), some (vR 0), some (vR 75), some (vI i)] [] M := by
  refine z_aload_1 dL_law_949 ?_
  refine z_aload_0 dL_law_950 ?_
  refine z_iload_3 dL_law_951 ?_
  refine z_iconst dL_law_952 ?_
  refine z_iadd dL_law_953 ?_
  refine z_scrl hF hn (by omega) dL_law_954 ?_
  refine z_aload_0 dL_law_955 ?_
  refine z_iload_3 dL_law_956 ?_
  refine z_iconst dL_law_957 ?_
  refine z_iadd dL_law_958 ?_
  refine z_scrl hF hn (by omega) dL_law_959 ?_
  obtain ⟨v_, P_, h6_, h7_⟩ := s_life (lo_ := S (i + 1).toNat) hS (hR _)
  refine z_rVI yv_X6_life ml_L_121 h6_ zk_0 rfl rfl (by decide) (Nat.le_of_ble_eq_true rfl) dL_law_960 (fun N_ hN_ => ?_)
  obtain ⟨P2_, h8_, h9_⟩ := h7_ N_ hN_
  refine z_aload_2 dL_law_963 ?_
  refine z_aload_0 dL_law_964 ?_
  refine z_iload_3 dL_law_965 ?_
  refine z_iconst dL_law_966 ?_
  refine z_iadd dL_law_967 ?_
  refine z_scrl hF hn (by omega) dL_law_968 ?_
  refine z_aload_0 dL_law_969 ?_
  refine z_iload_3 dL_law_970 ?_
  refine z_iconst dL_law_971 ?_
  refine z_iadd dL_law_972 ?_
  refine z_scrl hF hn (by omega) dL_law_973 ?_
  refine z_rVI yv_X7_life ml_L_124 h8_ zk_75 rfl rfl (by decide) (Nat.le_of_ble_eq_true rfl) dL_law_974 (fun K_ hK_ => ?_)
  exact z_sameI (tgt := 1445) dL_law_977 (by decide) (k K_ (h9_ K_ hK_))
theorem lc_lives {F : zF} {n : Nat} {S : Nat → Int} {M : zM} {i : Int} (hF : zScr F n S) (hn : n < 2 ^ 31) (hR : ∀ j, -2147483648 ≤ S j ∧ S j < 2147483648) (hi : 0 ≤ i ∧ i + 6 ≤ n) (hS : Sim M) (k : ∀ K, SimN M K → Z RL cL_law 4 (some .boolean) 40 F 1445 [some (vR 96), some (vR 0), some (vR 75), some (vI i)] [] K) : Z RL cL_law 4 (some .boolean) 40 F 982 [some (vR 96), some (vR 0), some (vR 75), some (vI i)] [] M := by
  refine z_aload_1 dL_law_982 ?_
  refine z_aload_0 dL_law_983 ?_
  refine z_iload_3 dL_law_984 ?_
  refine z_iconst dL_law_985 ?_
  refine z_iadd dL_law_986 ?_
  refine z_scrl hF hn (by omega) dL_law_987 ?_
  refine z_aload_0 dL_law_988 ?_
  refine z_iload_3 dL_law_989 ?_
  refine z_iconst dL_law_990 ?_
  refine z_iadd dL_law_991 ?_
  refine z_scrl hF hn (by omega) dL_law_992 ?_
  refine z_aload_0 dL_law_993 ?_
  refine z_iload_3 dL_law_994 ?_
  refine z_iconst dL_law_995 ?_
  refine z_iadd dL_law_996 ?_
  refine z_scrl hF hn (by omega) dL_law_997 ?_
  obtain ⟨v_, P_, h6_, h7_⟩ := s_lives (l_ := S (i + 1).toNat) hS (hR _) (hR _)
  refine z_rVI yv_X6_lives ml_L_125 h6_ zk_0 rfl rfl (by decide) (Nat.le_of_ble_eq_true rfl) dL_law_998 (fun N_ hN_ => ?_)
  obtain ⟨P2_, h8_, h9_⟩ := h7_ N_ hN_
  refine z_aload_2 dL_law_1001 ?_
  refine z_aload_0 dL_law_1002 ?_
  refine z_iload_3 dL_law_1003 ?_
  refine z_iconst dL_law_1004 ?_
  refine z_iadd dL_law_1005 ?_
  refine z_scrl hF hn (by omega) dL_law_1006 ?_
  refine z_aload_0 dL_law_1007 ?_
  refine z_iload_3 dL_law_1008 ?_
  refine z_iconst dL_law_1009 ?_
  refine z_iadd dL_law_1010 ?_
  refine z_scrl hF hn (by omega) dL_law_1011 ?_
  refine z_aload_0 dL_law_1012 ?_
  refine z_iload_3 dL_law_1013 ?_
  refine z_iconst dL_law_1014 ?_
  refine z_iadd dL_law_1015 ?_
  refine z_scrl hF hn (by omega) dL_law_1016 ?_
  refine z_rVI yv_X7_lives ml_L_128 h8_ zk_75 rfl rfl (by decide) (Nat.le_of_ble_eq_true rfl) dL_law_1017 (fun K_ hK_ => ?_)
  exact z_sameI (tgt := 1445) dL_law_1020 (by decide) (k K_ (h9_ K_ hK_))
theorem lc_rests {F : zF} {n : Nat} {S : Nat → Int} {M : zM} {i : Int} (hF : zScr F n S) (hn : n < 2 ^ 31) (hR : ∀ j, -2147483648 ≤ S j ∧ S j < 2147483648) (hi : 0 ≤ i ∧ i + 6 ≤ n) (hS : Sim M) (k : ∀ K, SimN M K → Z RL cL_law 4 (some .boolean) 40 F 1445 [some (vR 96), some (vR 0), some (vR 75), some (vI i)] [] K) : Z RL cL_law 4 (some .boolean) 40 F 1025 [some (vR 96), some (vR 0), some (vR 75), some (vI i)] [] M := by
  refine z_aload_1 dL_law_1025 ?_
  refine z_aload_0 dL_law_1026 ?_
  refine z_iload_3 dL_law_1027 ?_
  refine z_iconst dL_law_1028 ?_
  refine z_iadd dL_law_1029 ?_
  refine z_scrl hF hn (by omega) dL_law_1030 ?_
  obtain ⟨v_, P_, h6_, h7_⟩ := s_rests hS (hR _)
  refine z_rVI yv_X6_rests ml_L_129 h6_ zk_0 rfl rfl (by decide) (Nat.le_of_ble_eq_true rfl) dL_law_1031 (fun N_ hN_ => ?_)
  obtain ⟨P2_, h8_, h9_⟩ := h7_ N_ hN_
  refine z_aload_2 dL_law_1034 ?_
  refine z_aload_0 dL_law_1035 ?_
  refine z_iload_3 dL_law_1036 ?_
  refine z_iconst dL_law_1037 ?_
  refine z_iadd dL_law_1038 ?_
  refine z_scrl hF hn (by omega) dL_law_1039 ?_
  refine z_rVI yv_X7_rests ml_L_132 h8_ zk_75 rfl rfl (by decide) (Nat.le_of_ble_eq_true rfl) dL_law_1040 (fun K_ hK_ => ?_)
  exact z_sameI (tgt := 1445) dL_law_1043 (by decide) (k K_ (h9_ K_ hK_))
theorem lc_both {F : zF} {n : Nat} {S : Nat → Int} {M : zM} {i : Int} (hF : zScr F n S) (hn : n < 2 ^ 31) (hR : ∀ j, -2147483648 ≤ S j ∧ S j < 2147483648) (hi : 0 ≤ i ∧ i + 6 ≤ n) (hS : Sim M) (k : ∀ K, SimN M K → Z RL cL_law 4 (some .boolean) 40 F 1445 [some (vR 96), some (vR 0), some (vR 75), some (vI i)] [] K) : Z RL cL_law 4 (some .boolean) 40 F 1048 [some (vR 96), some (vR 0), some (vR 75), some (vI i)] [] M := by
  refine z_aload_1 dL_law_1048 ?_
  refine z_aload_0 dL_law_1049 ?_
  refine z_iload_3 dL_law_1050 ?_
  refine z_iconst dL_law_1051 ?_
  refine z_iadd dL_law_1052 ?_
  refine z_scrl hF hn (by omega) dL_law_1053 ?_
  refine z_aload_0 dL_law_1054 ?_
  refine z_iload_3 dL_law_1055 ?_
  refine z_iconst dL_law_1056 ?_
  refine z_iadd dL_law_1057 ?_
  refine z_scrl hF hn (by omega) dL_law_1058 ?_
  obtain ⟨v_, P_, h6_, h7_⟩ := s_both hS (hR _) (hR _)
  refine z_rVI yv_X6_both ml_L_133 h6_ zk_0 rfl rfl (by decide) (Nat.le_of_ble_eq_true rfl) dL_law_1059 (fun N_ hN_ => ?_)
  obtain ⟨P2_, h8_, h9_⟩ := h7_ N_ hN_
  refine z_aload_2 dL_law_1062 ?_
  refine z_aload_0 dL_law_1063 ?_
  refine z_iload_3 dL_law_1064 ?_
  refine z_iconst dL_law_1065 ?_
  refine z_iadd dL_law_1066 ?_
  refine z_scrl hF hn (by omega) dL_law_1067 ?_
  refine z_aload_0 dL_law_1068 ?_
  refine z_iload_3 dL_law_1069 ?_
  refine z_iconst dL_law_1070 ?_
  refine z_iadd dL_law_1071 ?_
  refine z_scrl hF hn (by omega) dL_law_1072 ?_
  refine z_rVI yv_X7_both ml_L_136 h8_ zk_75 rfl rfl (by decide) (Nat.le_of_ble_eq_true rfl) dL_law_1073 (fun K_ hK_ => ?_)
  exact z_sameI (tgt := 1445) dL_law_1076 (by decide) (k K_ (h9_ K_ hK_))
theorem lc_swarm {F : zF} {n : Nat} {S : Nat → Int} {M : zM} {i : Int} (hF : zScr F n S) (hn : n < 2 ^ 31) (hR : ∀ j, -2147483648 ≤ S j ∧ S j < 2147483648) (hi : 0 ≤ i ∧ i + 6 ≤ n) (hS : Sim M) (k : ∀ K, SimN M K → Z RL cL_law 4 (some .boolean) 40 F 1445 [some (vR 96), some (vR 0), some (vR 75), some (vI i)] [] K) : Z RL cL_law 4 (some .boolean) 40 F 1081 [some (vR 96), some (vR 0), some (vR 75), some (vI i)] [] M := by
  refine z_aload_1 dL_law_1081 ?_
  refine z_aload_0 dL_law_1082 ?_
  refine z_iload_3 dL_law_1083 ?_
  refine z_iconst dL_law_1084 ?_
  refine z_iadd dL_law_1085 ?_
  refine z_scrl hF hn (by omega) dL_law_1086 ?_
  refine z_aload_0 dL_law_1087 ?_
  refine z_iload_3 dL_law_1088 ?_
  refine z_iconst dL_law_1089 ?_
  refine z_iadd dL_law_1090 ?_
  refine z_scrl hF hn (by omega) dL_law_1091 ?_
  refine z_aload_0 dL_law_1092 ?_
  refine z_iload_3 dL_law_1093 ?_
  refine z_iconst dL_law_1094 ?_
  refine z_iadd dL_law_1095 ?_
  refine z_scrl hF hn (by omega) dL_law_1096 ?_
  refine z_aload_0 dL_law_1097 ?_
  refine z_iload_3 dL_law_1098 ?_
  refine z_iconst dL_law_1099 ?_
  refine z_iadd dL_law_1100 ?_
  refine z_scrl hF hn (by omega) dL_law_1101 ?_
  obtain ⟨v_, P_, h6_, h7_⟩ := s_swarm hS (hR _) (hR _) (hR _) (hR _)
  refine z_rVI yv_X6_swarm ml_L_137 h6_ zk_0 rfl rfl (by decide) (Nat.le_of_ble_eq_true rfl) dL_law_1102 (fun N_ hN_ => ?_)
  obtain ⟨P2_, h8_, h9_⟩ := h7_ N_ hN_
  refine z_aload_2 dL_law_1105 ?_
  refine z_aload_0 dL_law_1106 ?_
  refine z_iload_3 dL_law_1107 ?_
  refine z_iconst dL_law_1108 ?_
  refine z_iadd dL_law_1109 ?_
  refine z_scrl hF hn (by omega) dL_law_1110 ?_
  refine z_aload_0 dL_law_1111 ?_
  refine z_iload_3 dL_law_1112 ?_
  refine z_iconst dL_law_1113 ?_
  refine z_iadd dL_law_1114 ?_
  refine z_scrl hF hn (by omega) dL_law_1115 ?_
  refine z_aload_0 dL_law_1116 ?_
  refine z_iload_3 dL_law_1117 ?_
  refine z_iconst dL_law_1118 ?_
  refine z_iadd dL_law_1119 ?_
  refine z_scrl hF hn (by omega) dL_law_1120 ?_
  refine z_aload_0 dL_law_1121 ?_
  refine z_iload_3 dL_law_1122 ?_
  refine z_iconst dL_law_1123 ?_
  refine z_iadd dL_law_1124 ?_
  refine z_scrl hF hn (by omega) dL_law_1125 ?_
  refine z_rVI yv_X7_swarm ml_L_141 h8_ zk_75 rfl rfl (by decide) (Nat.le_of_ble_eq_true rfl) dL_law_1126 (fun K_ hK_ => ?_)
  exact z_sameI (tgt := 1445) dL_law_1129 (by decide) (k K_ (h9_ K_ hK_))
theorem lc_sheet {F : zF} {n : Nat} {S : Nat → Int} {M : zM} {i : Int} (hF : zScr F n S) (hn : n < 2 ^ 31) (hR : ∀ j, -2147483648 ≤ S j ∧ S j < 2147483648) (hi : 0 ≤ i ∧ i + 6 ≤ n) (hS : Sim M) (k : ∀ K, SimN M K → Z RL cL_law 4 (some .boolean) 40 F 1445 [some (vR 96), some (vR 0), some (vR 75), some (vI i)] [] K) : Z RL cL_law 4 (some .boolean) 40 F 1134 [some (vR 96), some (vR 0), some (vR 75), some (vI i)] [] M := by
  refine z_aload_1 dL_law_1134 ?_
  refine z_aload_0 dL_law_1135 ?_
  refine z_iload_3 dL_law_1136 ?_
  refine z_iconst dL_law_1137 ?_
  refine z_iadd dL_law_1138 ?_
  refine z_scrl hF hn (by omega) dL_law_1139 ?_
  refine z_aload_0 dL_law_1140 ?_
  refine z_iload_3 dL_law_1141 ?_
  refine z_iconst dL_law_1142 ?_
  refine z_iadd dL_law_1143 ?_
  refine z_scrl hF hn (by omega) dL_law_1144 ?_
  refine z_aload_0 dL_law_1145 ?_
  refine z_iload_3 dL_law_1146 ?_
  refine z_iconst dL_law_1147 ?_
  refine z_iadd dL_law_1148 ?_
  refine z_scrl hF hn (by omega) dL_law_1149 ?_
  obtain ⟨v_, P_, h6_, h7_⟩ := s_sheet hS (hR _) (hR _) (hR _)
  refine z_rVI yv_X6_sheet ml_L_142 h6_ zk_0 rfl rfl (by decide) (Nat.le_of_ble_eq_true rfl) dL_law_1150 (fun N_ hN_ => ?_)
  obtain ⟨P2_, h8_, h9_⟩ := h7_ N_ hN_
  refine z_aload_2 dL_law_1153 ?_
  refine z_aload_0 dL_law_1154 ?_
  refine z_iload_3 dL_law_1155 ?_
  refine z_iconst dL_law_1156 ?_
  refine z_iadd dL_law_1157 ?_
  refine z_scrl hF hn (by omega) dL_law_1158 ?_
  refine z_aload_0 dL_law_1159 ?_
  refine z_iload_3 dL_law_1160 ?_
  refine z_iconst dL_law_1161 ?_
  refine z_iadd dL_law_1162 ?_
  refine z_scrl hF hn (by omega) dL_law_1163 ?_
  refine z_aload_0 dL_law_1164 ?_
  refine z_iload_3 dL_law_1165 ?_
  refine z_iconst dL_law_1166 ?_
  refine z_iadd dL_law_1167 ?_
  refine z_scrl hF hn (by omega) dL_law_1168 ?_
  refine z_rVI yv_X7_sheet ml_L_145 h8_ zk_75 rfl rfl (by decide) (Nat.le_of_ble_eq_true rfl) dL_law_1169 (fun K_ hK_ => ?_)
  exact z_sameI (tgt := 1445) dL_law_1172 (by decide) (k K_ (h9_ K_ hK_))
theorem lc_write {F : zF} {n : Nat} {S : Nat → Int} {M : zM} {i : Int} (hF : zScr F n S) (hn : n < 2 ^ 31) (hR : ∀ j, -2147483648 ≤ S j ∧ S j < 2147483648) (hi : 0 ≤ i ∧ i + 6 ≤ n) (hS : Sim M) (k : ∀ K, SimN M K → Z RL cL_law 4 (some .boolean) 40 F 1445 [some (vR 96), some (vR 0), some (vR 75), some (vI i)] [] K) : Z RL cL_law 4 (some .boolean) 40 F 1177 [some (vR 96), some (vR 0), some (vR 75), some (vI i)] [] M := by
  refine z_aload_1 dL_law_1177 ?_
  refine z_aload_0 dL_law_1178 ?_
  refine z_iload_3 dL_law_1179 ?_
  refine z_iconst dL_law_1180 ?_
  refine z_iadd dL_law_1181 ?_
  refine z_scrl hF hn (by omega) dL_law_1182 ?_
  refine z_aload_0 dL_law_1183 ?_
  refine z_iload_3 dL_law_1184 ?_
  refine z_iconst dL_law_1185 ?_
  refine z_iadd dL_law_1186 ?_
  refine z_scrl hF hn (by omega) dL_law_1187 ?_
  refine z_aload_0 dL_law_1188 ?_
  refine z_iload_3 dL_law_1189 ?_
  refine z_iconst dL_law_1190 ?_
  refine z_iadd dL_law_1191 ?_
  refine z_scrl hF hn (by omega) dL_law_1192 ?_
  refine z_i2l (hR _) dL_law_1193 ?_
  refine z_bipush dL_law_1194 (by decide) ?_
  refine z_lshl dL_law_1196 ?_
  refine z_aload_0 dL_law_1197 ?_
  refine z_iload_3 dL_law_1198 ?_
  refine z_iconst dL_law_1199 ?_
  refine z_iadd dL_law_1200 ?_
  refine z_scrl hF hn (by omega) dL_law_1201 ?_
  refine z_i2l (hR _) dL_law_1202 ?_
  refine z_ldc2 (n := 4294967295) kl_L_146 (by decide) dL_law_1203 ?_
  refine z_land dL_law_1206 ?_
  refine z_lor dL_law_1207 ?_
  refine z_wrapJ ?_
  obtain ⟨v_, P_, h6_, h7_⟩ := s_write hS (hR _) (hR _) (zwl_r _)
  refine z_rVJ yv_X6_write ml_L_148 h6_ zk_0 rfl rfl (by decide) (Nat.le_of_ble_eq_true rfl) dL_law_1208 (fun N_ hN_ => ?_)
  obtain ⟨P2_, h8_, h9_⟩ := h7_ N_ hN_
  refine z_aload_2 dL_law_1211 ?_
  refine z_aload_0 dL_law_1212 ?_
  refine z_iload_3 dL_law_1213 ?_
  refine z_iconst dL_law_1214 ?_
  refine z_iadd dL_law_1215 ?_
  refine z_scrl hF hn (by omega) dL_law_1216 ?_
  refine z_aload_0 dL_law_1217 ?_
  refine z_iload_3 dL_law_1218 ?_
  refine z_iconst dL_law_1219 ?_
  refine z_iadd dL_law_1220 ?_
  refine z_scrl hF hn (by omega) dL_law_1221 ?_
  refine z_aload_0 dL_law_1222 ?_
  refine z_iload_3 dL_law_1223 ?_
  refine z_iconst dL_law_1224 ?_
  refine z_iadd dL_law_1225 ?_
  refine z_scrl hF hn (by omega) dL_law_1226 ?_
  refine z_i2l (hR _) dL_law_1227 ?_
  refine z_bipush dL_law_1228 (by decide) ?_
  refine z_lshl dL_law_1230 ?_
  refine z_aload_0 dL_law_1231 ?_
  refine z_iload_3 dL_law_1232 ?_
  refine z_iconst dL_law_1233 ?_
  refine z_iadd dL_law_1234 ?_
  refine z_scrl hF hn (by omega) dL_law_1235 ?_
  refine z_i2l (hR _) dL_law_1236 ?_
  refine z_ldc2 (n := 4294967295) kl_L_146 (by decide) dL_law_1237 ?_
  refine z_land dL_law_1240 ?_
  refine z_lor dL_law_1241 ?_
  refine z_wrapJ ?_
  refine z_rVJ yv_X7_write ml_L_152 h8_ zk_75 rfl rfl (by decide) (Nat.le_of_ble_eq_true rfl) dL_law_1242 (fun K_ hK_ => ?_)
  exact z_sameJ (tgt := 1445) dL_law_1245 dL_law_1246 (by decide) (k K_ (h9_ K_ hK_))
theorem lc_copy {F : zF} {n : Nat} {S : Nat → Int} {M : zM} {i : Int} (hF : zScr F n S) (hn : n < 2 ^ 31) (hR : ∀ j, -2147483648 ≤ S j ∧ S j < 2147483648) (hi : 0 ≤ i ∧ i + 6 ≤ n) (hS : Sim M) (k : ∀ K, SimN M K → Z RL cL_law 4 (some .boolean) 40 F 1445 [some (vR 96), some (vR 0), some (vR 75), some (vI i)] [] K) : Z RL cL_law 4 (some .boolean) 40 F 1251 [some (vR 96), some (vR 0), some (vR 75), some (vI i)] [] M := by
  refine z_aload_1 dL_law_1251 ?_
  refine z_aload_0 dL_law_1252 ?_
  refine z_iload_3 dL_law_1253 ?_
  refine z_iconst dL_law_1254 ?_
  refine z_iadd dL_law_1255 ?_
  refine z_scrl hF hn (by omega) dL_law_1256 ?_
  refine z_aload_0 dL_law_1257 ?_
  refine z_iload_3 dL_law_1258 ?_
  refine z_iconst dL_law_1259 ?_
  refine z_iadd dL_law_1260 ?_
  refine z_scrl hF hn (by omega) dL_law_1261 ?_
  refine z_aload_0 dL_law_1262 ?_
  refine z_iload_3 dL_law_1263 ?_
  refine z_iconst dL_law_1264 ?_
  refine z_iadd dL_law_1265 ?_
  refine z_scrl hF hn (by omega) dL_law_1266 ?_
  refine z_aload_0 dL_law_1267 ?_
  refine z_iload_3 dL_law_1268 ?_
  refine z_iconst dL_law_1269 ?_
  refine z_iadd dL_law_1270 ?_
  refine z_scrl hF hn (by omega) dL_law_1271 ?_
  refine z_aload_0 dL_law_1272 ?_
  refine z_iload_3 dL_law_1273 ?_
  refine z_iconst dL_law_1274 ?_
  refine z_iadd dL_law_1275 ?_
  refine z_scrl hF hn (by omega) dL_law_1276 ?_
  obtain ⟨v_, P_, h6_, h7_⟩ := s_copy hS (hR _) (hR _) (hR _) (hR _) (hR _)
  refine z_rVI yv_X6_copy ml_L_153 h6_ zk_0 rfl rfl (by decide) (Nat.le_of_ble_eq_true rfl) dL_law_1277 (fun N_ hN_ => ?_)
  obtain ⟨P2_, h8_, h9_⟩ := h7_ N_ hN_
  refine z_aload_2 dL_law_1280 ?_
  refine z_aload_0 dL_law_1281 ?_
  refine z_iload_3 dL_law_1282 ?_
  refine z_iconst dL_law_1283 ?_
  refine z_iadd dL_law_1284 ?_
  refine z_scrl hF hn (by omega) dL_law_1285 ?_
  refine z_aload_0 dL_law_1286 ?_
  refine z_iload_3 dL_law_1287 ?_
  refine z_iconst dL_law_1288 ?_
  refine z_iadd dL_law_1289 ?_
  refine z_scrl hF hn (by omega) dL_law_1290 ?_
  refine z_aload_0 dL_law_1291 ?_
  refine z_iload_3 dL_law_1292 ?_
  refine z_iconst dL_law_1293 ?_
  refine z_iadd dL_law_1294 ?_
  refine z_scrl hF hn (by omega) dL_law_1295 ?_
  refine z_aload_0 dL_law_1296 ?_
  refine z_iload_3 dL_law_1297 ?_
  refine z_iconst dL_law_1298 ?_
  refine z_iadd dL_law_1299 ?_
  refine z_scrl hF hn (by omega) dL_law_1300 ?_
  refine z_aload_0 dL_law_1301 ?_
  refine z_iload_3 dL_law_1302 ?_
  refine z_iconst dL_law_1303 ?_
  refine z_iadd dL_law_1304 ?_
  refine z_scrl hF hn (by omega) dL_law_1305 ?_
  refine z_rVI yv_X7_copy ml_L_157 h8_ zk_75 rfl rfl (by decide) (Nat.le_of_ble_eq_true rfl) dL_law_1306 (fun K_ hK_ => ?_)
  exact z_sameI (tgt := 1445) dL_law_1309 (by decide) (k K_ (h9_ K_ hK_))
theorem lc_turns {F : zF} {n : Nat} {S : Nat → Int} {M : zM} {i : Int} (hF : zScr F n S) (hn : n < 2 ^ 31) (hR : ∀ j, -2147483648 ≤ S j ∧ S j < 2147483648) (hi : 0 ≤ i ∧ i + 6 ≤ n) (hS : Sim M) (k : ∀ K, SimN M K → Z RL cL_law 4 (some .boolean) 40 F 1445 [some (vR 96), some (vR 0), some (vR 75), some (vI i)] [] K) : Z RL cL_law 4 (some .boolean) 40 F 1314 [some (vR 96), some (vR 0), some (vR 75), some (vI i)] [] M := by
  refine z_aload_1 dL_law_1314 ?_
  refine z_aload_0 dL_law_1315 ?_
  refine z_iload_3 dL_law_1316 ?_
  refine z_iconst dL_law_1317 ?_
  refine z_iadd dL_law_1318 ?_
  refine z_scrl hF hn (by omega) dL_law_1319 ?_
  obtain ⟨v_, P_, h6_, h7_⟩ := s_turns hS (hR _)
  refine z_rVI yv_X6_turns ml_L_158 h6_ zk_0 rfl rfl (by decide) (Nat.le_of_ble_eq_true rfl) dL_law_1320 (fun N_ hN_ => ?_)
  obtain ⟨P2_, h8_, h9_⟩ := h7_ N_ hN_
  refine z_aload_2 dL_law_1323 ?_
  refine z_aload_0 dL_law_1324 ?_
  refine z_iload_3 dL_law_1325 ?_
  refine z_iconst dL_law_1326 ?_
  refine z_iadd dL_law_1327 ?_
  refine z_scrl hF hn (by omega) dL_law_1328 ?_
  refine z_rVI yv_X7_turns ml_L_161 h8_ zk_75 rfl rfl (by decide) (Nat.le_of_ble_eq_true rfl) dL_law_1329 (fun K_ hK_ => ?_)
  exact z_sameI (tgt := 1445) dL_law_1332 (by decide) (k K_ (h9_ K_ hK_))
theorem lc_read {F : zF} {n : Nat} {S : Nat → Int} {M : zM} {i : Int} (hF : zScr F n S) (hn : n < 2 ^ 31) (hR : ∀ j, -2147483648 ≤ S j ∧ S j < 2147483648) (hi : 0 ≤ i ∧ i + 6 ≤ n) (hS : Sim M) (k : ∀ K, SimN M K → Z RL cL_law 4 (some .boolean) 40 F 1445 [some (vR 96), some (vR 0), some (vR 75), some (vI i)] [] K) : Z RL cL_law 4 (some .boolean) 40 F 1337 [some (vR 96), some (vR 0), some (vR 75), some (vI i)] [] M := by
  refine z_aload_1 dL_law_1337 ?_
  refine z_aload_0 dL_law_1338 ?_
  refine z_iload_3 dL_law_1339 ?_
  refine z_iconst dL_law_1340 ?_
  refine z_iadd dL_law_1341 ?_
  refine z_scrl hF hn (by omega) dL_law_1342 ?_
  obtain ⟨v_, P_, h6_, h7_⟩ := s_read hS (hR _)
  refine z_rVI yv_X6_read ml_L_162 h6_ zk_0 rfl rfl (by decide) (Nat.le_of_ble_eq_true rfl) dL_law_1343 (fun N_ hN_ => ?_)
  obtain ⟨P2_, h8_, h9_⟩ := h7_ N_ hN_
  refine z_aload_2 dL_law_1346 ?_
  refine z_aload_0 dL_law_1347 ?_
  refine z_iload_3 dL_law_1348 ?_
  refine z_iconst dL_law_1349 ?_
  refine z_iadd dL_law_1350 ?_
  refine z_scrl hF hn (by omega) dL_law_1351 ?_
  refine z_rVI yv_X7_read ml_L_165 h8_ zk_75 rfl rfl (by decide) (Nat.le_of_ble_eq_true rfl) dL_law_1352 (fun K_ hK_ => ?_)
  exact z_sameI (tgt := 1445) dL_law_1355 (by decide) (k K_ (h9_ K_ hK_))
theorem lc_image {F : zF} {n : Nat} {S : Nat → Int} {M : zM} {i : Int} (hF : zScr F n S) (hn : n < 2 ^ 31) (hR : ∀ j, -2147483648 ≤ S j ∧ S j < 2147483648) (hi : 0 ≤ i ∧ i + 6 ≤ n) (hS : Sim M) (k : ∀ K, SimN M K → Z RL cL_law 4 (some .boolean) 40 F 1445 [some (vR 96), some (vR 0), some (vR 75), some (vI i)] [] K) : Z RL cL_law 4 (some .boolean) 40 F 1360 [some (vR 96), some (vR 0), some (vR 75), some (vI i)] [] M := by
  refine z_aload_1 dL_law_1360 ?_
  obtain ⟨v_, P_, h6_, h7_⟩ := s_image hS 
  refine z_rVI yv_X6_image ml_L_166 h6_ zk_0 rfl rfl (by decide) (Nat.le_of_ble_eq_true rfl) dL_law_1361 (fun N_ hN_ => ?_)
  obtain ⟨P2_, h8_, h9_⟩ := h7_ N_ hN_
  refine z_aload_2 dL_law_1364 ?_
  refine z_rVI yv_X7_image ml_L_169 h8_ zk_75 rfl rfl (by decide) (Nat.le_of_ble_eq_true rfl) dL_law_1365 (fun K_ hK_ => ?_)
  exact z_sameI (tgt := 1445) dL_law_1368 (by decide) (k K_ (h9_ K_ hK_))
theorem lc_undo {F : zF} {n : Nat} {S : Nat → Int} {M : zM} {i : Int} (hF : zScr F n S) (hn : n < 2 ^ 31) (hR : ∀ j, -2147483648 ≤ S j ∧ S j < 2147483648) (hi : 0 ≤ i ∧ i + 6 ≤ n) (hS : Sim M) (k : ∀ K, SimN M K → Z RL cL_law 4 (some .boolean) 40 F 1445 [some (vR 96), some (vR 0), some (vR 75), some (vI i)] [] K) : Z RL cL_law 4 (some .boolean) 40 F 1373 [some (vR 96), some (vR 0), some (vR 75), some (vI i)] [] M := by
  refine z_aload_1 dL_law_1373 ?_
  obtain ⟨v_, P_, h6_, h7_⟩ := s_undo hS 
  refine z_rVI yv_X6_undo ml_L_170 h6_ zk_0 rfl rfl (by decide) (Nat.le_of_ble_eq_true rfl) dL_law_1374 (fun N_ hN_ => ?_)
  obtain ⟨P2_, h8_, h9_⟩ := h7_ N_ hN_
  refine z_aload_2 dL_law_1377 ?_
  refine z_rVI yv_X7_undo ml_L_173 h8_ zk_75 rfl rfl (by decide) (Nat.le_of_ble_eq_true rfl) dL_law_1378 (fun K_ hK_ => ?_)
  exact z_sameI (tgt := 1445) dL_law_1381 (by decide) (k K_ (h9_ K_ hK_))
theorem lc_tear {F : zF} {n : Nat} {S : Nat → Int} {M : zM} {i : Int} (hF : zScr F n S) (hn : n < 2 ^ 31) (hR : ∀ j, -2147483648 ≤ S j ∧ S j < 2147483648) (hi : 0 ≤ i ∧ i + 6 ≤ n) (hS : Sim M) (k : ∀ K, SimN M K → Z RL cL_law 4 (some .boolean) 40 F 1445 [some (vR 96), some (vR 0), some (vR 75), some (vI i)] [] K) : Z RL cL_law 4 (some .boolean) 40 F 1386 [some (vR 96), some (vR 0), some (vR 75), some (vI i)] [] M := by
  refine z_aload_1 dL_law_1386 ?_
  obtain ⟨v_, P_, h6_, h7_⟩ := s_tear hS 
  refine z_rVI yv_X6_tear ml_L_174 h6_ zk_0 rfl rfl (by decide) (Nat.le_of_ble_eq_true rfl) dL_law_1387 (fun N_ hN_ => ?_)
  obtain ⟨P2_, h8_, h9_⟩ := h7_ N_ hN_
  refine z_aload_2 dL_law_1390 ?_
  refine z_rVI yv_X7_tear ml_L_177 h8_ zk_75 rfl rfl (by decide) (Nat.le_of_ble_eq_true rfl) dL_law_1391 (fun K_ hK_ => ?_)
  exact z_sameI (tgt := 1445) dL_law_1394 (by decide) (k K_ (h9_ K_ hK_))
theorem lc_count {F : zF} {n : Nat} {S : Nat → Int} {M : zM} {i : Int} (hF : zScr F n S) (hn : n < 2 ^ 31) (hR : ∀ j, -2147483648 ≤ S j ∧ S j < 2147483648) (hi : 0 ≤ i ∧ i + 6 ≤ n) (hS : Sim M) (k : ∀ K, SimN M K → Z RL cL_law 4 (some .boolean) 40 F 1445 [some (vR 96), some (vR 0), some (vR 75), some (vI i)] [] K) : Z RL cL_law 4 (some .boolean) 40 F 1399 [some (vR 96), some (vR 0), some (vR 75), some (vI i)] [] M := by
  refine z_aload_1 dL_law_1399 ?_
  refine z_aload_0 dL_law_1400 ?_
  refine z_iload_3 dL_law_1401 ?_
  refine z_iconst dL_law_1402 ?_
  refine z_iadd dL_law_1403 ?_
  refine z_scrl hF hn (by omega) dL_law_1404 ?_
  obtain ⟨v_, P_, h6_, h7_⟩ := s_count hS (hR _)
  refine z_rVI yv_X6_count ml_L_178 h6_ zk_0 rfl rfl (by decide) (Nat.le_of_ble_eq_true rfl) dL_law_1405 (fun N_ hN_ => ?_)
  obtain ⟨P2_, h8_, h9_⟩ := h7_ N_ hN_
  refine z_aload_2 dL_law_1408 ?_
  refine z_aload_0 dL_law_1409 ?_
  refine z_iload_3 dL_law_1410 ?_
  refine z_iconst dL_law_1411 ?_
  refine z_iadd dL_law_1412 ?_
  refine z_scrl hF hn (by omega) dL_law_1413 ?_
  refine z_rVI yv_X7_count ml_L_181 h8_ zk_75 rfl rfl (by decide) (Nat.le_of_ble_eq_true rfl) dL_law_1414 (fun K_ hK_ => ?_)
  exact z_sameI (tgt := 1445) dL_law_1417 (by decide) (k K_ (h9_ K_ hK_))
theorem lc_status {F : zF} {n : Nat} {S : Nat → Int} {M : zM} {i : Int} (hF : zScr F n S) (hn : n < 2 ^ 31) (hR : ∀ j, -2147483648 ≤ S j ∧ S j < 2147483648) (hi : 0 ≤ i ∧ i + 6 ≤ n) (hS : Sim M) (k : ∀ K, SimN M K → Z RL cL_law 4 (some .boolean) 40 F 1445 [some (vR 96), some (vR 0), some (vR 75), some (vI i)] [] K) : Z RL cL_law 4 (some .boolean) 40 F 1422 [some (vR 96), some (vR 0), some (vR 75), some (vI i)] [] M := by
  refine z_aload_1 dL_law_1422 ?_
  refine z_aload_0 dL_law_1423 ?_
  refine z_iload_3 dL_law_1424 ?_
  refine z_iconst dL_law_1425 ?_
  refine z_iadd dL_law_1426 ?_
  refine z_scrl hF hn (by omega) dL_law_1427 ?_
  obtain ⟨v_, P_, h6_, h7_⟩ := s_status hS (hR _)
  refine z_rVI yv_X6_status ml_L_182 h6_ zk_0 rfl rfl (by decide) (Nat.le_of_ble_eq_true rfl) dL_law_1428 (fun N_ hN_ => ?_)
  obtain ⟨P2_, h8_, h9_⟩ := h7_ N_ hN_
  refine z_aload_2 dL_law_1431 ?_
  refine z_aload_0 dL_law_1432 ?_
  refine z_iload_3 dL_law_1433 ?_
  refine z_iconst dL_law_1434 ?_
  refine z_iadd dL_law_1435 ?_
  refine z_scrl hF hn (by omega) dL_law_1436 ?_
  refine z_rVI yv_X7_status ml_L_185 h8_ zk_75 rfl rfl (by decide) (Nat.le_of_ble_eq_true rfl) dL_law_1437 (fun K_ hK_ => ?_)
  exact z_sameI (tgt := 1445) dL_law_1440 (by decide) (k K_ (h9_ K_ hK_))
