theorem lc_18 {X : jX} {nm : String} {ret : Option FieldType} {R : Room} {QF : jQF} {cells slots : Nat} {M : jM} {i : Int} (hF : 68 ≤ R.frames) (hL : 7000 ≤ R.locals) (hC : cells ≤ R.cells) (hS : slots ≤ R.slots) (h2 : (X.2.2.2.2.1 : Int) < 100000) (h0 : 0 ≤ i) (h1 : i + 7 ≤ (X.2.2.2.2.1 : Int)) (hI : Inv M) (kk : ∀ M2 : jM, Inv M2 → gE X (yl nm) cL_law 4 ret R QF cells slots 949 topo M2 2160 (lwl i) []) : gE X (yl nm) cL_law 4 ret R QF cells slots 949 topo M 886 (lwl i) [] := by
  refine e_aload_n (i := 1) 887 dL_law_886 rfl rfl rfl ?_
  refine e_aloadF_n (i := 0) 888 dL_law_887 rfl rfl rfl ?_
  refine e_iload_n (i := 3) 889 dL_law_888 rfl rfl rfl ?_
  refine e_iconst 890 dL_law_889 rfl ?_
  refine e_iadd 891 dL_law_890 rfl ?_
  refine e_sald 892 dL_law_891 (by omega) (by omega) h2 rfl ?_
  refine e_aloadF_n (i := 0) 893 dL_law_892 rfl rfl rfl ?_
  refine e_iload_n (i := 3) 894 dL_law_893 rfl rfl rfl ?_
  refine e_iconst 895 dL_law_894 rfl ?_
  refine e_iadd 896 dL_law_895 rfl ?_
  refine e_sald 897 dL_law_896 (by omega) (by omega) h2 rfl ?_
  refine e_callP 900 mt_yX11_sale mv_yX11_sale wd_889 (Nat.le_of_ble_eq_true rfl) dL_law_897 at_0 jc_11 rfl rfl rfl (Nat.le_of_ble_eq_true rfl) ⟨by omega, by omega, by omega, by omega⟩ rfl (p_sale hI (i32_bnd _) (i32_bnd _)) (fun z M1 hc => ?_)
  refine e_aload_n (i := 2) 901 dL_law_900 rfl rfl rfl ?_
  refine e_aloadF_n (i := 0) 902 dL_law_901 rfl rfl rfl ?_
  refine e_iload_n (i := 3) 903 dL_law_902 rfl rfl rfl ?_
  refine e_iconst 904 dL_law_903 rfl ?_
  refine e_iadd 905 dL_law_904 rfl ?_
  refine e_sald 906 dL_law_905 (by omega) (by omega) h2 rfl ?_
  refine e_aloadF_n (i := 0) 907 dL_law_906 rfl rfl rfl ?_
  refine e_iload_n (i := 3) 908 dL_law_907 rfl rfl rfl ?_
  refine e_iconst 909 dL_law_908 rfl ?_
  refine e_iadd 910 dL_law_909 rfl ?_
  refine e_sald 911 dL_law_910 (by omega) (by omega) h2 rfl ?_
  refine e_callP 914 mt_yX12_sale mv_yX12_sale wd_1607 (Nat.le_of_ble_eq_true rfl) dL_law_911 at_928 jc_12 rfl rfl rfl (Nat.le_of_ble_eq_true rfl) ⟨by omega, by omega, by omega, by omega⟩ rfl hc (fun z2 M2 hc2 => ?_)
  obtain ⟨rfl, hI2⟩ := hc2
  refine e_w32 ?_
  refine e_w32b ?_
  exact e_icmp_eq 917 2160 dL_law_914 (w32_bnd _) (w32_bnd _) (by decide) rfl (fun _ => kk M2 hI2) (fun g => absurd rfl g)
theorem lc_19 {X : jX} {nm : String} {ret : Option FieldType} {R : Room} {QF : jQF} {cells slots : Nat} {M : jM} {i : Int} (hF : 68 ≤ R.frames) (hL : 7000 ≤ R.locals) (hC : cells ≤ R.cells) (hS : slots ≤ R.slots) (h2 : (X.2.2.2.2.1 : Int) < 100000) (h0 : 0 ≤ i) (h1 : i + 7 ≤ (X.2.2.2.2.1 : Int)) (hI : Inv M) (kk : ∀ M2 : jM, Inv M2 → gE X (yl nm) cL_law 4 ret R QF cells slots 949 topo M2 2160 (lwl i) []) : gE X (yl nm) cL_law 4 ret R QF cells slots 949 topo M 919 (lwl i) [] := by
  refine e_aload_n (i := 1) 920 dL_law_919 rfl rfl rfl ?_
  refine e_aloadF_n (i := 0) 921 dL_law_920 rfl rfl rfl ?_
  refine e_iload_n (i := 3) 922 dL_law_921 rfl rfl rfl ?_
  refine e_iconst 923 dL_law_922 rfl ?_
  refine e_iadd 924 dL_law_923 rfl ?_
  refine e_sald 925 dL_law_924 (by omega) (by omega) h2 rfl ?_
  refine e_callP 928 mt_yX11_over mv_yX11_over wd_895 (Nat.le_of_ble_eq_true rfl) dL_law_925 at_0 jc_11 rfl rfl rfl (Nat.le_of_ble_eq_true rfl) ⟨by omega, by omega, by omega, by omega⟩ rfl (p_over hI (i32_bnd _)) (fun z M1 hc => ?_)
  refine e_aload_n (i := 2) 929 dL_law_928 rfl rfl rfl ?_
  refine e_aloadF_n (i := 0) 930 dL_law_929 rfl rfl rfl ?_
  refine e_iload_n (i := 3) 931 dL_law_930 rfl rfl rfl ?_
  refine e_iconst 932 dL_law_931 rfl ?_
  refine e_iadd 933 dL_law_932 rfl ?_
  refine e_sald 934 dL_law_933 (by omega) (by omega) h2 rfl ?_
  refine e_callP 937 mt_yX12_over mv_yX12_over wd_1611 (Nat.le_of_ble_eq_true rfl) dL_law_934 at_928 jc_12 rfl rfl rfl (Nat.le_of_ble_eq_true rfl) ⟨by omega, by omega, by omega, by omega⟩ rfl hc (fun z2 M2 hc2 => ?_)
  obtain ⟨rfl, hI2⟩ := hc2
  refine e_w32 ?_
  refine e_w32b ?_
  exact e_icmp_eq 940 2160 dL_law_937 (w32_bnd _) (w32_bnd _) (by decide) rfl (fun _ => kk M2 hI2) (fun g => absurd rfl g)
theorem lc_20 {X : jX} {nm : String} {ret : Option FieldType} {R : Room} {QF : jQF} {cells slots : Nat} {M : jM} {i : Int} (hF : 68 ≤ R.frames) (hL : 7000 ≤ R.locals) (hC : cells ≤ R.cells) (hS : slots ≤ R.slots) (h2 : (X.2.2.2.2.1 : Int) < 100000) (h0 : 0 ≤ i) (h1 : i + 7 ≤ (X.2.2.2.2.1 : Int)) (hI : Inv M) (kk : ∀ M2 : jM, Inv M2 → gE X (yl nm) cL_law 4 ret R QF cells slots 949 topo M2 2160 (lwl i) []) : gE X (yl nm) cL_law 4 ret R QF cells slots 949 topo M 942 (lwl i) [] := by
  refine e_aload_n (i := 1) 943 dL_law_942 rfl rfl rfl ?_
  refine e_aloadF_n (i := 0) 944 dL_law_943 rfl rfl rfl ?_
  refine e_iload_n (i := 3) 945 dL_law_944 rfl rfl rfl ?_
  refine e_iconst 946 dL_law_945 rfl ?_
  refine e_iadd 947 dL_law_946 rfl ?_
  refine e_sald 948 dL_law_947 (by omega) (by omega) h2 rfl ?_
  refine e_aloadF_n (i := 0) 949 dL_law_948 rfl rfl rfl ?_
  refine e_iload_n (i := 3) 950 dL_law_949 rfl rfl rfl ?_
  refine e_iconst 951 dL_law_950 rfl ?_
  refine e_iadd 952 dL_law_951 rfl ?_
  refine e_sald 953 dL_law_952 (by omega) (by omega) h2 rfl ?_
  refine e_aloadF_n (i := 0) 954 dL_law_953 rfl rfl rfl ?_
  refine e_iload_n (i := 3) 955 dL_law_954 rfl rfl rfl ?_
  refine e_iconst 956 dL_law_955 rfl ?_
  refine e_iadd 957 dL_law_956 rfl ?_
  refine e_sald 958 dL_law_957 (by omega) (by omega) h2 rfl ?_
  refine e_callP 961 mt_yX11_lend mv_yX11_lend wd_899 (Nat.le_of_ble_eq_true rfl) dL_law_958 at_0 jc_11 rfl rfl rfl (Nat.le_of_ble_eq_true rfl) ⟨by omega, by omega, by omega, by omega⟩ rfl (p_lend hI (i32_bnd _) (i32_bnd _) (i32_bnd _)) (fun z M1 hc => ?_)
  refine e_aload_n (i := 2) 962 dL_law_961 rfl rfl rfl ?_
  refine e_aloadF_n (i := 0) 963 dL_law_962 rfl rfl rfl ?_
  refine e_iload_n (i := 3) 964 dL_law_963 rfl rfl rfl ?_
  refine e_iconst 965 dL_law_964 rfl ?_
  refine e_iadd 966 dL_law_965 rfl ?_
  refine e_sald 967 dL_law_966 (by omega) (by omega) h2 rfl ?_
  refine e_aloadF_n (i := 0) 968 dL_law_967 rfl rfl rfl ?_
  refine e_iload_n (i := 3) 969 dL_law_968 rfl rfl rfl ?_
  refine e_iconst 970 dL_law_969 rfl ?_
  refine e_iadd 971 dL_law_970 rfl ?_
  refine e_sald 972 dL_law_971 (by omega) (by omega) h2 rfl ?_
  refine e_aloadF_n (i := 0) 973 dL_law_972 rfl rfl rfl ?_
  refine e_iload_n (i := 3) 974 dL_law_973 rfl rfl rfl ?_
  refine e_iconst 975 dL_law_974 rfl ?_
  refine e_iadd 976 dL_law_975 rfl ?_
  refine e_sald 977 dL_law_976 (by omega) (by omega) h2 rfl ?_
  refine e_callP 980 mt_yX12_lend mv_yX12_lend wd_1615 (Nat.le_of_ble_eq_true rfl) dL_law_977 at_928 jc_12 rfl rfl rfl (Nat.le_of_ble_eq_true rfl) ⟨by omega, by omega, by omega, by omega⟩ rfl hc (fun z2 M2 hc2 => ?_)
  obtain ⟨rfl, hI2⟩ := hc2
  refine e_w32 ?_
  refine e_w32b ?_
  exact e_icmp_eq 983 2160 dL_law_980 (w32_bnd _) (w32_bnd _) (by decide) rfl (fun _ => kk M2 hI2) (fun g => absurd rfl g)
theorem lc_21 {X : jX} {nm : String} {ret : Option FieldType} {R : Room} {QF : jQF} {cells slots : Nat} {M : jM} {i : Int} (hF : 68 ≤ R.frames) (hL : 7000 ≤ R.locals) (hC : cells ≤ R.cells) (hS : slots ≤ R.slots) (h2 : (X.2.2.2.2.1 : Int) < 100000) (h0 : 0 ≤ i) (h1 : i + 7 ≤ (X.2.2.2.2.1 : Int)) (hI : Inv M) (kk : ∀ M2 : jM, Inv M2 → gE X (yl nm) cL_law 4 ret R QF cells slots 949 topo M2 2160 (lwl i) []) : gE X (yl nm) cL_law 4 ret R QF cells slots 949 topo M 985 (lwl i) [] := by
  refine e_aload_n (i := 1) 986 dL_law_985 rfl rfl rfl ?_
  refine e_aloadF_n (i := 0) 987 dL_law_986 rfl rfl rfl ?_
  refine e_iload_n (i := 3) 988 dL_law_987 rfl rfl rfl ?_
  refine e_iconst 989 dL_law_988 rfl ?_
  refine e_iadd 990 dL_law_989 rfl ?_
  refine e_sald 991 dL_law_990 (by omega) (by omega) h2 rfl ?_
  refine e_aloadF_n (i := 0) 992 dL_law_991 rfl rfl rfl ?_
  refine e_iload_n (i := 3) 993 dL_law_992 rfl rfl rfl ?_
  refine e_iconst 994 dL_law_993 rfl ?_
  refine e_iadd 995 dL_law_994 rfl ?_
  refine e_sald 996 dL_law_995 (by omega) (by omega) h2 rfl ?_
  refine e_aloadF_n (i := 0) 997 dL_law_996 rfl rfl rfl ?_
  refine e_iload_n (i := 3) 998 dL_law_997 rfl rfl rfl ?_
  refine e_iconst 999 dL_law_998 rfl ?_
  refine e_iadd 1000 dL_law_999 rfl ?_
  refine e_sald 1001 dL_law_1000 (by omega) (by omega) h2 rfl ?_
  refine e_aloadF_n (i := 0) 1002 dL_law_1001 rfl rfl rfl ?_
  refine e_iload_n (i := 3) 1003 dL_law_1002 rfl rfl rfl ?_
  refine e_iconst 1004 dL_law_1003 rfl ?_
  refine e_iadd 1005 dL_law_1004 rfl ?_
  refine e_sald 1006 dL_law_1005 (by omega) (by omega) h2 rfl ?_
  refine e_callP 1009 mt_yX11_gained mv_yX11_gained wd_928 (Nat.le_of_ble_eq_true rfl) dL_law_1006 at_0 jc_11 rfl rfl rfl (Nat.le_of_ble_eq_true rfl) ⟨by omega, by omega, by omega, by omega⟩ rfl (p_gained hI (i32_bnd _) (i32_bnd _) (i32_bnd _) (i32_bnd _)) (fun z M1 hc => ?_)
  refine e_aload_n (i := 2) 1010 dL_law_1009 rfl rfl rfl ?_
  refine e_aloadF_n (i := 0) 1011 dL_law_1010 rfl rfl rfl ?_
  refine e_iload_n (i := 3) 1012 dL_law_1011 rfl rfl rfl ?_
  refine e_iconst 1013 dL_law_1012 rfl ?_
  refine e_iadd 1014 dL_law_1013 rfl ?_
  refine e_sald 1015 dL_law_1014 (by omega) (by omega) h2 rfl ?_
  refine e_aloadF_n (i := 0) 1016 dL_law_1015 rfl rfl rfl ?_
  refine e_iload_n (i := 3) 1017 dL_law_1016 rfl rfl rfl ?_
  refine e_iconst 1018 dL_law_1017 rfl ?_
  refine e_iadd 1019 dL_law_1018 rfl ?_
  refine e_sald 1020 dL_law_1019 (by omega) (by omega) h2 rfl ?_
  refine e_aloadF_n (i := 0) 1021 dL_law_1020 rfl rfl rfl ?_
  refine e_iload_n (i := 3) 1022 dL_law_1021 rfl rfl rfl ?_
  refine e_iconst 1023 dL_law_1022 rfl ?_
  refine e_iadd 1024 dL_law_1023 rfl ?_
  refine e_sald 1025 dL_law_1024 (by omega) (by omega) h2 rfl ?_
  refine e_aloadF_n (i := 0) 1026 dL_law_1025 rfl rfl rfl ?_
  refine e_iload_n (i := 3) 1027 dL_law_1026 rfl rfl rfl ?_
  refine e_iconst 1028 dL_law_1027 rfl ?_
  refine e_iadd 1029 dL_law_1028 rfl ?_
  refine e_sald 1030 dL_law_1029 (by omega) (by omega) h2 rfl ?_
  refine e_callP 1033 mt_yX12_gained mv_yX12_gained wd_1629 (Nat.le_of_ble_eq_true rfl) dL_law_1030 at_928 jc_12 rfl rfl rfl (Nat.le_of_ble_eq_true rfl) ⟨by omega, by omega, by omega, by omega⟩ rfl hc (fun z2 M2 hc2 => ?_)
  obtain ⟨rfl, hI2⟩ := hc2
  refine e_w64 ?_
  refine e_w64b ?_
  refine e_lcmp 1034 dL_law_1033 (w64_bnd _) (w64_bnd _) rfl (fun g => absurd g (Int.lt_irrefl _)) (fun _ => ?_) (fun g => absurd g (Int.lt_irrefl _))
  exact e_if_eq 1037 2160 dL_law_1034 (by decide) (by decide) rfl (fun _ => kk M2 hI2) (fun g => absurd rfl g)
theorem lc_22 {X : jX} {nm : String} {ret : Option FieldType} {R : Room} {QF : jQF} {cells slots : Nat} {M : jM} {i : Int} (hF : 68 ≤ R.frames) (hL : 7000 ≤ R.locals) (hC : cells ≤ R.cells) (hS : slots ≤ R.slots) (h2 : (X.2.2.2.2.1 : Int) < 100000) (h0 : 0 ≤ i) (h1 : i + 7 ≤ (X.2.2.2.2.1 : Int)) (hI : Inv M) (kk : ∀ M2 : jM, Inv M2 → gE X (yl nm) cL_law 4 ret R QF cells slots 949 topo M2 2160 (lwl i) []) : gE X (yl nm) cL_law 4 ret R QF cells slots 949 topo M 1039 (lwl i) [] := by
  refine e_aload_n (i := 1) 1040 dL_law_1039 rfl rfl rfl ?_
  refine e_aloadF_n (i := 0) 1041 dL_law_1040 rfl rfl rfl ?_
  refine e_iload_n (i := 3) 1042 dL_law_1041 rfl rfl rfl ?_
  refine e_iconst 1043 dL_law_1042 rfl ?_
  refine e_iadd 1044 dL_law_1043 rfl ?_
  refine e_sald 1045 dL_law_1044 (by omega) (by omega) h2 rfl ?_
  refine e_aloadF_n (i := 0) 1046 dL_law_1045 rfl rfl rfl ?_
  refine e_iload_n (i := 3) 1047 dL_law_1046 rfl rfl rfl ?_
  refine e_iconst 1048 dL_law_1047 rfl ?_
  refine e_iadd 1049 dL_law_1048 rfl ?_
  refine e_sald 1050 dL_law_1049 (by omega) (by omega) h2 rfl ?_
  refine e_callP 1053 mt_yX11_rack mv_yX11_rack wd_938 (Nat.le_of_ble_eq_true rfl) dL_law_1050 at_0 jc_11 rfl rfl rfl (Nat.le_of_ble_eq_true rfl) ⟨by omega, by omega, by omega, by omega⟩ rfl (p_rack hI (i32_bnd _) (i32_bnd _)) (fun z M1 hc => ?_)
  refine e_aload_n (i := 2) 1054 dL_law_1053 rfl rfl rfl ?_
  refine e_aloadF_n (i := 0) 1055 dL_law_1054 rfl rfl rfl ?_
  refine e_iload_n (i := 3) 1056 dL_law_1055 rfl rfl rfl ?_
  refine e_iconst 1057 dL_law_1056 rfl ?_
  refine e_iadd 1058 dL_law_1057 rfl ?_
  refine e_sald 1059 dL_law_1058 (by omega) (by omega) h2 rfl ?_
  refine e_aloadF_n (i := 0) 1060 dL_law_1059 rfl rfl rfl ?_
  refine e_iload_n (i := 3) 1061 dL_law_1060 rfl rfl rfl ?_
  refine e_iconst 1062 dL_law_1061 rfl ?_
  refine e_iadd 1063 dL_law_1062 rfl ?_
  refine e_sald 1064 dL_law_1063 (by omega) (by omega) h2 rfl ?_
  refine e_callP 1067 mt_yX12_rack mv_yX12_rack wd_1637 (Nat.le_of_ble_eq_true rfl) dL_law_1064 at_928 jc_12 rfl rfl rfl (Nat.le_of_ble_eq_true rfl) ⟨by omega, by omega, by omega, by omega⟩ rfl hc (fun z2 M2 hc2 => ?_)
  obtain ⟨rfl, hI2⟩ := hc2
  refine e_w32 ?_
  refine e_w32b ?_
  exact e_icmp_eq 1070 2160 dL_law_1067 (w32_bnd _) (w32_bnd _) (by decide) rfl (fun _ => kk M2 hI2) (fun g => absurd rfl g)
theorem lc_23 {X : jX} {nm : String} {ret : Option FieldType} {R : Room} {QF : jQF} {cells slots : Nat} {M : jM} {i : Int} (hF : 68 ≤ R.frames) (hL : 7000 ≤ R.locals) (hC : cells ≤ R.cells) (hS : slots ≤ R.slots) (h2 : (X.2.2.2.2.1 : Int) < 100000) (h0 : 0 ≤ i) (h1 : i + 7 ≤ (X.2.2.2.2.1 : Int)) (hI : Inv M) (kk : ∀ M2 : jM, Inv M2 → gE X (yl nm) cL_law 4 ret R QF cells slots 949 topo M2 2160 (lwl i) []) : gE X (yl nm) cL_law 4 ret R QF cells slots 949 topo M 1072 (lwl i) [] := by
  refine e_aload_n (i := 1) 1073 dL_law_1072 rfl rfl rfl ?_
  refine e_aloadF_n (i := 0) 1074 dL_law_1073 rfl rfl rfl ?_
  refine e_iload_n (i := 3) 1075 dL_law_1074 rfl rfl rfl ?_
  refine e_iconst 1076 dL_law_1075 rfl ?_
  refine e_iadd 1077 dL_law_1076 rfl ?_
  refine e_sald 1078 dL_law_1077 (by omega) (by omega) h2 rfl ?_
  refine e_aloadF_n (i := 0) 1079 dL_law_1078 rfl rfl rfl ?_
  refine e_iload_n (i := 3) 1080 dL_law_1079 rfl rfl rfl ?_
  refine e_iconst 1081 dL_law_1080 rfl ?_
  refine e_iadd 1082 dL_law_1081 rfl ?_
  refine e_sald 1083 dL_law_1082 (by omega) (by omega) h2 rfl ?_
  refine e_callP 1086 mt_yX11_put mv_yX11_put wd_942 (Nat.le_of_ble_eq_true rfl) dL_law_1083 at_0 jc_11 rfl rfl rfl (Nat.le_of_ble_eq_true rfl) ⟨by omega, by omega, by omega, by omega⟩ rfl (p_put hI (i32_bnd _) (i32_bnd _)) (fun z M1 hc => ?_)
  refine e_aload_n (i := 2) 1087 dL_law_1086 rfl rfl rfl ?_
  refine e_aloadF_n (i := 0) 1088 dL_law_1087 rfl rfl rfl ?_
  refine e_iload_n (i := 3) 1089 dL_law_1088 rfl rfl rfl ?_
  refine e_iconst 1090 dL_law_1089 rfl ?_
  refine e_iadd 1091 dL_law_1090 rfl ?_
  refine e_sald 1092 dL_law_1091 (by omega) (by omega) h2 rfl ?_
  refine e_aloadF_n (i := 0) 1093 dL_law_1092 rfl rfl rfl ?_
  refine e_iload_n (i := 3) 1094 dL_law_1093 rfl rfl rfl ?_
  refine e_iconst 1095 dL_law_1094 rfl ?_
  refine e_iadd 1096 dL_law_1095 rfl ?_
  refine e_sald 1097 dL_law_1096 (by omega) (by omega) h2 rfl ?_
  refine e_callP 1100 mt_yX12_put mv_yX12_put wd_1641 (Nat.le_of_ble_eq_true rfl) dL_law_1097 at_928 jc_12 rfl rfl rfl (Nat.le_of_ble_eq_true rfl) ⟨by omega, by omega, by omega, by omega⟩ rfl hc (fun z2 M2 hc2 => ?_)
  obtain ⟨rfl, hI2⟩ := hc2
  refine e_w32 ?_
  refine e_w32b ?_
  exact e_icmp_eq 1103 2160 dL_law_1100 (w32_bnd _) (w32_bnd _) (by decide) rfl (fun _ => kk M2 hI2) (fun g => absurd rfl g)
theorem lc_24 {X : jX} {nm : String} {ret : Option FieldType} {R : Room} {QF : jQF} {cells slots : Nat} {M : jM} {i : Int} (hF : 68 ≤ R.frames) (hL : 7000 ≤ R.locals) (hC : cells ≤ R.cells) (hS : slots ≤ R.slots) (h2 : (X.2.2.2.2.1 : Int) < 100000) (h0 : 0 ≤ i) (h1 : i + 7 ≤ (X.2.2.2.2.1 : Int)) (hI : Inv M) (kk : ∀ M2 : jM, Inv M2 → gE X (yl nm) cL_law 4 ret R QF cells slots 949 topo M2 2160 (lwl i) []) : gE X (yl nm) cL_law 4 ret R QF cells slots 949 topo M 1105 (lwl i) [] := by
  refine e_aload_n (i := 1) 1106 dL_law_1105 rfl rfl rfl ?_
  refine e_aloadF_n (i := 0) 1107 dL_law_1106 rfl rfl rfl ?_
  refine e_iload_n (i := 3) 1108 dL_law_1107 rfl rfl rfl ?_
  refine e_iconst 1109 dL_law_1108 rfl ?_
  refine e_iadd 1110 dL_law_1109 rfl ?_
  refine e_sald 1111 dL_law_1110 (by omega) (by omega) h2 rfl ?_
  refine e_aloadF_n (i := 0) 1112 dL_law_1111 rfl rfl rfl ?_
  refine e_iload_n (i := 3) 1113 dL_law_1112 rfl rfl rfl ?_
  refine e_iconst 1114 dL_law_1113 rfl ?_
  refine e_iadd 1115 dL_law_1114 rfl ?_
  refine e_sald 1116 dL_law_1115 (by omega) (by omega) h2 rfl ?_
  refine e_callP 1119 mt_yX11_rush mv_yX11_rush wd_954 (Nat.le_of_ble_eq_true rfl) dL_law_1116 at_0 jc_11 rfl rfl rfl (Nat.le_of_ble_eq_true rfl) ⟨by omega, by omega, by omega, by omega⟩ rfl (p_rush hI (i32_bnd _) (i32_bnd _)) (fun z M1 hc => ?_)
  refine e_aload_n (i := 2) 1120 dL_law_1119 rfl rfl rfl ?_
  refine e_aloadF_n (i := 0) 1121 dL_law_1120 rfl rfl rfl ?_
  refine e_iload_n (i := 3) 1122 dL_law_1121 rfl rfl rfl ?_
  refine e_iconst 1123 dL_law_1122 rfl ?_
  refine e_iadd 1124 dL_law_1123 rfl ?_
  refine e_sald 1125 dL_law_1124 (by omega) (by omega) h2 rfl ?_
  refine e_aloadF_n (i := 0) 1126 dL_law_1125 rfl rfl rfl ?_
  refine e_iload_n (i := 3) 1127 dL_law_1126 rfl rfl rfl ?_
  refine e_iconst 1128 dL_law_1127 rfl ?_
  refine e_iadd 1129 dL_law_1128 rfl ?_
  refine e_sald 1130 dL_law_1129 (by omega) (by omega) h2 rfl ?_
  refine e_callP 1133 mt_yX12_rush mv_yX12_rush wd_1653 (Nat.le_of_ble_eq_true rfl) dL_law_1130 at_928 jc_12 rfl rfl rfl (Nat.le_of_ble_eq_true rfl) ⟨by omega, by omega, by omega, by omega⟩ rfl hc (fun z2 M2 hc2 => ?_)
  obtain ⟨rfl, hI2⟩ := hc2
  refine e_w32 ?_
  refine e_w32b ?_
  exact e_icmp_eq 1136 2160 dL_law_1133 (w32_bnd _) (w32_bnd _) (by decide) rfl (fun _ => kk M2 hI2) (fun g => absurd rfl g)
theorem lc_25 {X : jX} {nm : String} {ret : Option FieldType} {R : Room} {QF : jQF} {cells slots : Nat} {M : jM} {i : Int} (hF : 68 ≤ R.frames) (hL : 7000 ≤ R.locals) (hC : cells ≤ R.cells) (hS : slots ≤ R.slots) (h2 : (X.2.2.2.2.1 : Int) < 100000) (h0 : 0 ≤ i) (h1 : i + 7 ≤ (X.2.2.2.2.1 : Int)) (hI : Inv M) (kk : ∀ M2 : jM, Inv M2 → gE X (yl nm) cL_law 4 ret R QF cells slots 949 topo M2 2160 (lwl i) []) : gE X (yl nm) cL_law 4 ret R QF cells slots 949 topo M 1138 (lwl i) [] := by
  refine e_aload_n (i := 1) 1139 dL_law_1138 rfl rfl rfl ?_
  refine e_aloadF_n (i := 0) 1140 dL_law_1139 rfl rfl rfl ?_
  refine e_iload_n (i := 3) 1141 dL_law_1140 rfl rfl rfl ?_
  refine e_iconst 1142 dL_law_1141 rfl ?_
  refine e_iadd 1143 dL_law_1142 rfl ?_
  refine e_sald 1144 dL_law_1143 (by omega) (by omega) h2 rfl ?_
  refine e_aloadF_n (i := 0) 1145 dL_law_1144 rfl rfl rfl ?_
  refine e_iload_n (i := 3) 1146 dL_law_1145 rfl rfl rfl ?_
  refine e_iconst 1147 dL_law_1146 rfl ?_
  refine e_iadd 1148 dL_law_1147 rfl ?_
  refine e_sald 1149 dL_law_1148 (by omega) (by omega) h2 rfl ?_
  refine e_aloadF_n (i := 0) 1150 dL_law_1149 rfl rfl rfl ?_
  refine e_iload_n (i := 3) 1151 dL_law_1150 rfl rfl rfl ?_
  refine e_iconst 1152 dL_law_1151 rfl ?_
  refine e_iadd 1153 dL_law_1152 rfl ?_
  refine e_sald 1154 dL_law_1153 (by omega) (by omega) h2 rfl ?_
  refine e_callP 1157 mt_yX11_best mv_yX11_best wd_972 (Nat.le_of_ble_eq_true rfl) dL_law_1154 at_0 jc_11 rfl rfl rfl (Nat.le_of_ble_eq_true rfl) ⟨by omega, by omega, by omega, by omega⟩ rfl (p_best hI (i32_bnd _) (i32_bnd _) (i32_bnd _)) (fun z M1 hc => ?_)
  refine e_aload_n (i := 2) 1158 dL_law_1157 rfl rfl rfl ?_
  refine e_aloadF_n (i := 0) 1159 dL_law_1158 rfl rfl rfl ?_
  refine e_iload_n (i := 3) 1160 dL_law_1159 rfl rfl rfl ?_
  refine e_iconst 1161 dL_law_1160 rfl ?_
  refine e_iadd 1162 dL_law_1161 rfl ?_
  refine e_sald 1163 dL_law_1162 (by omega) (by omega) h2 rfl ?_
  refine e_aloadF_n (i := 0) 1164 dL_law_1163 rfl rfl rfl ?_
  refine e_iload_n (i := 3) 1165 dL_law_1164 rfl rfl rfl ?_
  refine e_iconst 1166 dL_law_1165 rfl ?_
  refine e_iadd 1167 dL_law_1166 rfl ?_
  refine e_sald 1168 dL_law_1167 (by omega) (by omega) h2 rfl ?_
  refine e_aloadF_n (i := 0) 1169 dL_law_1168 rfl rfl rfl ?_
  refine e_iload_n (i := 3) 1170 dL_law_1169 rfl rfl rfl ?_
  refine e_iconst 1171 dL_law_1170 rfl ?_
  refine e_iadd 1172 dL_law_1171 rfl ?_
  refine e_sald 1173 dL_law_1172 (by omega) (by omega) h2 rfl ?_
  refine e_callP 1176 mt_yX12_best mv_yX12_best wd_1658 (Nat.le_of_ble_eq_true rfl) dL_law_1173 at_928 jc_12 rfl rfl rfl (Nat.le_of_ble_eq_true rfl) ⟨by omega, by omega, by omega, by omega⟩ rfl hc (fun z2 M2 hc2 => ?_)
  obtain ⟨rfl, hI2⟩ := hc2
  refine e_w32 ?_
  refine e_w32b ?_
  exact e_icmp_eq 1179 2160 dL_law_1176 (w32_bnd _) (w32_bnd _) (by decide) rfl (fun _ => kk M2 hI2) (fun g => absurd rfl g)
theorem lc_26 {X : jX} {nm : String} {ret : Option FieldType} {R : Room} {QF : jQF} {cells slots : Nat} {M : jM} {i : Int} (hF : 68 ≤ R.frames) (hL : 7000 ≤ R.locals) (hC : cells ≤ R.cells) (hS : slots ≤ R.slots) (h2 : (X.2.2.2.2.1 : Int) < 100000) (h0 : 0 ≤ i) (h1 : i + 7 ≤ (X.2.2.2.2.1 : Int)) (hI : Inv M) (kk : ∀ M2 : jM, Inv M2 → gE X (yl nm) cL_law 4 ret R QF cells slots 949 topo M2 2160 (lwl i) []) : gE X (yl nm) cL_law 4 ret R QF cells slots 949 topo M 1181 (lwl i) [] := by
  refine e_aload_n (i := 1) 1182 dL_law_1181 rfl rfl rfl ?_
  refine e_aloadF_n (i := 0) 1183 dL_law_1182 rfl rfl rfl ?_
  refine e_iload_n (i := 3) 1184 dL_law_1183 rfl rfl rfl ?_
  refine e_iconst 1185 dL_law_1184 rfl ?_
  refine e_iadd 1186 dL_law_1185 rfl ?_
  refine e_sald 1187 dL_law_1186 (by omega) (by omega) h2 rfl ?_
  refine e_aloadF_n (i := 0) 1188 dL_law_1187 rfl rfl rfl ?_
  refine e_iload_n (i := 3) 1189 dL_law_1188 rfl rfl rfl ?_
  refine e_iconst 1190 dL_law_1189 rfl ?_
  refine e_iadd 1191 dL_law_1190 rfl ?_
  refine e_sald 1192 dL_law_1191 (by omega) (by omega) h2 rfl ?_
  refine e_aloadF_n (i := 0) 1193 dL_law_1192 rfl rfl rfl ?_
  refine e_iload_n (i := 3) 1194 dL_law_1193 rfl rfl rfl ?_
  refine e_iconst 1195 dL_law_1194 rfl ?_
  refine e_iadd 1196 dL_law_1195 rfl ?_
  refine e_sald 1197 dL_law_1196 (by omega) (by omega) h2 rfl ?_
  refine e_aloadF_n (i := 0) 1198 dL_law_1197 rfl rfl rfl ?_
  refine e_iload_n (i := 3) 1199 dL_law_1198 rfl rfl rfl ?_
  refine e_iconst 1200 dL_law_1199 rfl ?_
  refine e_iadd 1201 dL_law_1200 rfl ?_
  refine e_sald 1202 dL_law_1201 (by omega) (by omega) h2 rfl ?_
  refine e_aloadF_n (i := 0) 1203 dL_law_1202 rfl rfl rfl ?_
  refine e_iload_n (i := 3) 1204 dL_law_1203 rfl rfl rfl ?_
  refine e_iconst 1205 dL_law_1204 rfl ?_
  refine e_iadd 1206 dL_law_1205 rfl ?_
  refine e_sald 1207 dL_law_1206 (by omega) (by omega) h2 rfl ?_
  refine e_callP 1210 mt_yX11_life mv_yX11_life wd_1009 (Nat.le_of_ble_eq_true rfl) dL_law_1207 at_0 jc_11 rfl rfl rfl (Nat.le_of_ble_eq_true rfl) ⟨by omega, by omega, by omega, by omega⟩ rfl (p_life hI (i32_bnd _) (i32_bnd _) (i32_bnd _) (i32_bnd _) (i32_bnd _)) (fun z M1 hc => ?_)
  refine e_aload_n (i := 2) 1211 dL_law_1210 rfl rfl rfl ?_
  refine e_aloadF_n (i := 0) 1212 dL_law_1211 rfl rfl rfl ?_
  refine e_iload_n (i := 3) 1213 dL_law_1212 rfl rfl rfl ?_
  refine e_iconst 1214 dL_law_1213 rfl ?_
  refine e_iadd 1215 dL_law_1214 rfl ?_
  refine e_sald 1216 dL_law_1215 (by omega) (by omega) h2 rfl ?_
  refine e_aloadF_n (i := 0) 1217 dL_law_1216 rfl rfl rfl ?_
  refine e_iload_n (i := 3) 1218 dL_law_1217 rfl rfl rfl ?_
  refine e_iconst 1219 dL_law_1218 rfl ?_
  refine e_iadd 1220 dL_law_1219 rfl ?_
  refine e_sald 1221 dL_law_1220 (by omega) (by omega) h2 rfl ?_
  refine e_aloadF_n (i := 0) 1222 dL_law_1221 rfl rfl rfl ?_
  refine e_iload_n (i := 3) 1223 dL_law_1222 rfl rfl rfl ?_
  refine e_iconst 1224 dL_law_1223 rfl ?_
  refine e_iadd 1225 dL_law_1224 rfl ?_
  refine e_sald 1226 dL_law_1225 (by omega) (by omega) h2 rfl ?_
  refine e_aloadF_n (i := 0) 1227 dL_law_1226 rfl rfl rfl ?_
  refine e_iload_n (i := 3) 1228 dL_law_1227 rfl rfl rfl ?_
  refine e_iconst 1229 dL_law_1228 rfl ?_
  refine e_iadd 1230 dL_law_1229 rfl ?_
  refine e_sald 1231 dL_law_1230 (by omega) (by omega) h2 rfl ?_
  refine e_aloadF_n (i := 0) 1232 dL_law_1231 rfl rfl rfl ?_
  refine e_iload_n (i := 3) 1233 dL_law_1232 rfl rfl rfl ?_
  refine e_iconst 1234 dL_law_1233 rfl ?_
  refine e_iadd 1235 dL_law_1234 rfl ?_
  refine e_sald 1236 dL_law_1235 (by omega) (by omega) h2 rfl ?_
  refine e_callP 1239 mt_yX12_life mv_yX12_life wd_1671 (Nat.le_of_ble_eq_true rfl) dL_law_1236 at_928 jc_12 rfl rfl rfl (Nat.le_of_ble_eq_true rfl) ⟨by omega, by omega, by omega, by omega⟩ rfl hc (fun z2 M2 hc2 => ?_)
  obtain ⟨rfl, hI2⟩ := hc2
  refine e_w32 ?_
  refine e_w32b ?_
  exact e_icmp_eq 1242 2160 dL_law_1239 (w32_bnd _) (w32_bnd _) (by decide) rfl (fun _ => kk M2 hI2) (fun g => absurd rfl g)
theorem lc_27 {X : jX} {nm : String} {ret : Option FieldType} {R : Room} {QF : jQF} {cells slots : Nat} {M : jM} {i : Int} (hF : 68 ≤ R.frames) (hL : 7000 ≤ R.locals) (hC : cells ≤ R.cells) (hS : slots ≤ R.slots) (h2 : (X.2.2.2.2.1 : Int) < 100000) (h0 : 0 ≤ i) (h1 : i + 7 ≤ (X.2.2.2.2.1 : Int)) (hI : Inv M) (kk : ∀ M2 : jM, Inv M2 → gE X (yl nm) cL_law 4 ret R QF cells slots 949 topo M2 2160 (lwl i) []) : gE X (yl nm) cL_law 4 ret R QF cells slots 949 topo M 1244 (lwl i) [] := by
  refine e_aload_n (i := 1) 1245 dL_law_1244 rfl rfl rfl ?_
  refine e_aloadF_n (i := 0) 1246 dL_law_1245 rfl rfl rfl ?_
  refine e_iload_n (i := 3) 1247 dL_law_1246 rfl rfl rfl ?_
  refine e_iconst 1248 dL_law_1247 rfl ?_
  refine e_iadd 1249 dL_law_1248 rfl ?_
  refine e_sald 1250 dL_law_1249 (by omega) (by omega) h2 rfl ?_
  refine e_aloadF_n (i := 0) 1251 dL_law_1250 rfl rfl rfl ?_
  refine e_iload_n (i := 3) 1252 dL_law_1251 rfl rfl rfl ?_
  refine e_iconst 1253 dL_law_1252 rfl ?_
  refine e_iadd 1254 dL_law_1253 rfl ?_
  refine e_sald 1255 dL_law_1254 (by omega) (by omega) h2 rfl ?_
  refine e_aloadF_n (i := 0) 1256 dL_law_1255 rfl rfl rfl ?_
  refine e_iload_n (i := 3) 1257 dL_law_1256 rfl rfl rfl ?_
  refine e_iconst 1258 dL_law_1257 rfl ?_
  refine e_iadd 1259 dL_law_1258 rfl ?_
  refine e_sald 1260 dL_law_1259 (by omega) (by omega) h2 rfl ?_
  refine e_aloadF_n (i := 0) 1261 dL_law_1260 rfl rfl rfl ?_
  refine e_iload_n (i := 3) 1262 dL_law_1261 rfl rfl rfl ?_
  refine e_iconst 1263 dL_law_1262 rfl ?_
  refine e_iadd 1264 dL_law_1263 rfl ?_
  refine e_sald 1265 dL_law_1264 (by omega) (by omega) h2 rfl ?_
  refine e_callP 1268 mt_yX11_needs mv_yX11_needs wd_1025 (Nat.le_of_ble_eq_true rfl) dL_law_1265 at_0 jc_11 rfl rfl rfl (Nat.le_of_ble_eq_true rfl) ⟨by omega, by omega, by omega, by omega⟩ rfl (p_needs hI (i32_bnd _) (i32_bnd _) (i32_bnd _) (i32_bnd _)) (fun z M1 hc => ?_)
  refine e_aload_n (i := 2) 1269 dL_law_1268 rfl rfl rfl ?_
  refine e_aloadF_n (i := 0) 1270 dL_law_1269 rfl rfl rfl ?_
  refine e_iload_n (i := 3) 1271 dL_law_1270 rfl rfl rfl ?_
  refine e_iconst 1272 dL_law_1271 rfl ?_
  refine e_iadd 1273 dL_law_1272 rfl ?_
  refine e_sald 1274 dL_law_1273 (by omega) (by omega) h2 rfl ?_
  refine e_aloadF_n (i := 0) 1275 dL_law_1274 rfl rfl rfl ?_
  refine e_iload_n (i := 3) 1276 dL_law_1275 rfl rfl rfl ?_
  refine e_iconst 1277 dL_law_1276 rfl ?_
  refine e_iadd 1278 dL_law_1277 rfl ?_
  refine e_sald 1279 dL_law_1278 (by omega) (by omega) h2 rfl ?_
  refine e_aloadF_n (i := 0) 1280 dL_law_1279 rfl rfl rfl ?_
  refine e_iload_n (i := 3) 1281 dL_law_1280 rfl rfl rfl ?_
  refine e_iconst 1282 dL_law_1281 rfl ?_
  refine e_iadd 1283 dL_law_1282 rfl ?_
  refine e_sald 1284 dL_law_1283 (by omega) (by omega) h2 rfl ?_
  refine e_aloadF_n (i := 0) 1285 dL_law_1284 rfl rfl rfl ?_
  refine e_iload_n (i := 3) 1286 dL_law_1285 rfl rfl rfl ?_
  refine e_iconst 1287 dL_law_1286 rfl ?_
  refine e_iadd 1288 dL_law_1287 rfl ?_
  refine e_sald 1289 dL_law_1288 (by omega) (by omega) h2 rfl ?_
  refine e_callP 1292 mt_yX12_needs mv_yX12_needs wd_1684 (Nat.le_of_ble_eq_true rfl) dL_law_1289 at_928 jc_12 rfl rfl rfl (Nat.le_of_ble_eq_true rfl) ⟨by omega, by omega, by omega, by omega⟩ rfl hc (fun z2 M2 hc2 => ?_)
  obtain ⟨rfl, hI2⟩ := hc2
  refine e_w32 ?_
  refine e_w32b ?_
  exact e_icmp_eq 1295 2160 dL_law_1292 (w32_bnd _) (w32_bnd _) (by decide) rfl (fun _ => kk M2 hI2) (fun g => absurd rfl g)
theorem lc_28 {X : jX} {nm : String} {ret : Option FieldType} {R : Room} {QF : jQF} {cells slots : Nat} {M : jM} {i : Int} (hF : 68 ≤ R.frames) (hL : 7000 ≤ R.locals) (hC : cells ≤ R.cells) (hS : slots ≤ R.slots) (h2 : (X.2.2.2.2.1 : Int) < 100000) (h0 : 0 ≤ i) (h1 : i + 7 ≤ (X.2.2.2.2.1 : Int)) (hI : Inv M) (kk : ∀ M2 : jM, Inv M2 → gE X (yl nm) cL_law 4 ret R QF cells slots 949 topo M2 2160 (lwl i) []) : gE X (yl nm) cL_law 4 ret R QF cells slots 949 topo M 1297 (lwl i) [] := by
  refine e_aload_n (i := 1) 1298 dL_law_1297 rfl rfl rfl ?_
  refine e_aloadF_n (i := 0) 1299 dL_law_1298 rfl rfl rfl ?_
  refine e_iload_n (i := 3) 1300 dL_law_1299 rfl rfl rfl ?_
  refine e_iconst 1301 dL_law_1300 rfl ?_
  refine e_iadd 1302 dL_law_1301 rfl ?_
  refine e_sald 1303 dL_law_1302 (by omega) (by omega) h2 rfl ?_
  refine e_aloadF_n (i := 0) 1304 dL_law_1303 rfl rfl rfl ?_
  refine e_iload_n (i := 3) 1305 dL_law_1304 rfl rfl rfl ?_
  refine e_iconst 1306 dL_law_1305 rfl ?_
  refine e_iadd 1307 dL_law_1306 rfl ?_
  refine e_sald 1308 dL_law_1307 (by omega) (by omega) h2 rfl ?_
  refine e_callP 1311 mt_yX11_lots mv_yX11_lots wd_1029 (Nat.le_of_ble_eq_true rfl) dL_law_1308 at_0 jc_11 rfl rfl rfl (Nat.le_of_ble_eq_true rfl) ⟨by omega, by omega, by omega, by omega⟩ rfl (p_lots hI (i32_bnd _) (i32_bnd _)) (fun z M1 hc => ?_)
  refine e_aload_n (i := 2) 1312 dL_law_1311 rfl rfl rfl ?_
  refine e_aloadF_n (i := 0) 1313 dL_law_1312 rfl rfl rfl ?_
  refine e_iload_n (i := 3) 1314 dL_law_1313 rfl rfl rfl ?_
  refine e_iconst 1315 dL_law_1314 rfl ?_
  refine e_iadd 1316 dL_law_1315 rfl ?_
  refine e_sald 1317 dL_law_1316 (by omega) (by omega) h2 rfl ?_
  refine e_aloadF_n (i := 0) 1318 dL_law_1317 rfl rfl rfl ?_
  refine e_iload_n (i := 3) 1319 dL_law_1318 rfl rfl rfl ?_
  refine e_iconst 1320 dL_law_1319 rfl ?_
  refine e_iadd 1321 dL_law_1320 rfl ?_
  refine e_sald 1322 dL_law_1321 (by omega) (by omega) h2 rfl ?_
  refine e_callP 1325 mt_yX12_lots mv_yX12_lots wd_1688 (Nat.le_of_ble_eq_true rfl) dL_law_1322 at_928 jc_12 rfl rfl rfl (Nat.le_of_ble_eq_true rfl) ⟨by omega, by omega, by omega, by omega⟩ rfl hc (fun z2 M2 hc2 => ?_)
  obtain ⟨rfl, hI2⟩ := hc2
  refine e_w32 ?_
  refine e_w32b ?_
  exact e_icmp_eq 1328 2160 dL_law_1325 (w32_bnd _) (w32_bnd _) (by decide) rfl (fun _ => kk M2 hI2) (fun g => absurd rfl g)
theorem lc_29 {X : jX} {nm : String} {ret : Option FieldType} {R : Room} {QF : jQF} {cells slots : Nat} {M : jM} {i : Int} (hF : 68 ≤ R.frames) (hL : 7000 ≤ R.locals) (hC : cells ≤ R.cells) (hS : slots ≤ R.slots) (h2 : (X.2.2.2.2.1 : Int) < 100000) (h0 : 0 ≤ i) (h1 : i + 7 ≤ (X.2.2.2.2.1 : Int)) (hI : Inv M) (kk : ∀ M2 : jM, Inv M2 → gE X (yl nm) cL_law 4 ret R QF cells slots 949 topo M2 2160 (lwl i) []) : gE X (yl nm) cL_law 4 ret R QF cells slots 949 topo M 1330 (lwl i) [] := by
  refine e_aload_n (i := 1) 1331 dL_law_1330 rfl rfl rfl ?_
  refine e_aloadF_n (i := 0) 1332 dL_law_1331 rfl rfl rfl ?_
  refine e_iload_n (i := 3) 1333 dL_law_1332 rfl rfl rfl ?_
  refine e_iconst 1334 dL_law_1333 rfl ?_
  refine e_iadd 1335 dL_law_1334 rfl ?_
  refine e_sald 1336 dL_law_1335 (by omega) (by omega) h2 rfl ?_
  refine e_aloadF_n (i := 0) 1337 dL_law_1336 rfl rfl rfl ?_
  refine e_iload_n (i := 3) 1338 dL_law_1337 rfl rfl rfl ?_
  refine e_iconst 1339 dL_law_1338 rfl ?_
  refine e_iadd 1340 dL_law_1339 rfl ?_
  refine e_sald 1341 dL_law_1340 (by omega) (by omega) h2 rfl ?_
  refine e_callP 1344 mt_yX11_fits mv_yX11_fits wd_1053 (Nat.le_of_ble_eq_true rfl) dL_law_1341 at_0 jc_11 rfl rfl rfl (Nat.le_of_ble_eq_true rfl) ⟨by omega, by omega, by omega, by omega⟩ rfl (p_fits hI (i32_bnd _) (i32_bnd _)) (fun z M1 hc => ?_)
  refine e_aload_n (i := 2) 1345 dL_law_1344 rfl rfl rfl ?_
  refine e_aloadF_n (i := 0) 1346 dL_law_1345 rfl rfl rfl ?_
  refine e_iload_n (i := 3) 1347 dL_law_1346 rfl rfl rfl ?_
  refine e_iconst 1348 dL_law_1347 rfl ?_
  refine e_iadd 1349 dL_law_1348 rfl ?_
  refine e_sald 1350 dL_law_1349 (by omega) (by omega) h2 rfl ?_
  refine e_aloadF_n (i := 0) 1351 dL_law_1350 rfl rfl rfl ?_
  refine e_iload_n (i := 3) 1352 dL_law_1351 rfl rfl rfl ?_
  refine e_iconst 1353 dL_law_1352 rfl ?_
  refine e_iadd 1354 dL_law_1353 rfl ?_
  refine e_sald 1355 dL_law_1354 (by omega) (by omega) h2 rfl ?_
  refine e_callP 1358 mt_yX12_fits mv_yX12_fits wd_1696 (Nat.le_of_ble_eq_true rfl) dL_law_1355 at_928 jc_12 rfl rfl rfl (Nat.le_of_ble_eq_true rfl) ⟨by omega, by omega, by omega, by omega⟩ rfl hc (fun z2 M2 hc2 => ?_)
  obtain ⟨rfl, hI2⟩ := hc2
  refine e_w32 ?_
  refine e_w32b ?_
  exact e_icmp_eq 1361 2160 dL_law_1358 (w32_bnd _) (w32_bnd _) (by decide) rfl (fun _ => kk M2 hI2) (fun g => absurd rfl g)
theorem lc_30 {X : jX} {nm : String} {ret : Option FieldType} {R : Room} {QF : jQF} {cells slots : Nat} {M : jM} {i : Int} (hF : 68 ≤ R.frames) (hL : 7000 ≤ R.locals) (hC : cells ≤ R.cells) (hS : slots ≤ R.slots) (h2 : (X.2.2.2.2.1 : Int) < 100000) (h0 : 0 ≤ i) (h1 : i + 7 ≤ (X.2.2.2.2.1 : Int)) (hI : Inv M) (kk : ∀ M2 : jM, Inv M2 → gE X (yl nm) cL_law 4 ret R QF cells slots 949 topo M2 2160 (lwl i) []) : gE X (yl nm) cL_law 4 ret R QF cells slots 949 topo M 1363 (lwl i) [] := by
  refine e_aload_n (i := 1) 1364 dL_law_1363 rfl rfl rfl ?_
  refine e_aloadF_n (i := 0) 1365 dL_law_1364 rfl rfl rfl ?_
  refine e_iload_n (i := 3) 1366 dL_law_1365 rfl rfl rfl ?_
  refine e_iconst 1367 dL_law_1366 rfl ?_
  refine e_iadd 1368 dL_law_1367 rfl ?_
  refine e_sald 1369 dL_law_1368 (by omega) (by omega) h2 rfl ?_
  refine e_callP 1372 mt_yX11_hold mv_yX11_hold wd_1070 (Nat.le_of_ble_eq_true rfl) dL_law_1369 at_0 jc_11 rfl rfl rfl (Nat.le_of_ble_eq_true rfl) ⟨by omega, by omega, by omega, by omega⟩ rfl (p_hold hI (i32_bnd _)) (fun z M1 hc => ?_)
  refine e_aload_n (i := 2) 1373 dL_law_1372 rfl rfl rfl ?_
  refine e_aloadF_n (i := 0) 1374 dL_law_1373 rfl rfl rfl ?_
  refine e_iload_n (i := 3) 1375 dL_law_1374 rfl rfl rfl ?_
  refine e_iconst 1376 dL_law_1375 rfl ?_
  refine e_iadd 1377 dL_law_1376 rfl ?_
  refine e_sald 1378 dL_law_1377 (by omega) (by omega) h2 rfl ?_
  refine e_callP 1381 mt_yX12_hold mv_yX12_hold wd_1708 (Nat.le_of_ble_eq_true rfl) dL_law_1378 at_928 jc_12 rfl rfl rfl (Nat.le_of_ble_eq_true rfl) ⟨by omega, by omega, by omega, by omega⟩ rfl hc (fun z2 M2 hc2 => ?_)
  obtain ⟨rfl, hI2⟩ := hc2
  refine e_w32 ?_
  refine e_w32b ?_
  exact e_icmp_eq 1384 2160 dL_law_1381 (w32_bnd _) (w32_bnd _) (by decide) rfl (fun _ => kk M2 hI2) (fun g => absurd rfl g)
theorem lc_31 {X : jX} {nm : String} {ret : Option FieldType} {R : Room} {QF : jQF} {cells slots : Nat} {M : jM} {i : Int} (hF : 68 ≤ R.frames) (hL : 7000 ≤ R.locals) (hC : cells ≤ R.cells) (hS : slots ≤ R.slots) (h2 : (X.2.2.2.2.1 : Int) < 100000) (h0 : 0 ≤ i) (h1 : i + 7 ≤ (X.2.2.2.2.1 : Int)) (hI : Inv M) (kk : ∀ M2 : jM, Inv M2 → gE X (yl nm) cL_law 4 ret R QF cells slots 949 topo M2 2160 (lwl i) []) : gE X (yl nm) cL_law 4 ret R QF cells slots 949 topo M 1386 (lwl i) [] := by
  refine e_aload_n (i := 1) 1387 dL_law_1386 rfl rfl rfl ?_
  refine e_aloadF_n (i := 0) 1388 dL_law_1387 rfl rfl rfl ?_
  refine e_iload_n (i := 3) 1389 dL_law_1388 rfl rfl rfl ?_
  refine e_iconst 1390 dL_law_1389 rfl ?_
  refine e_iadd 1391 dL_law_1390 rfl ?_
  refine e_sald 1392 dL_law_1391 (by omega) (by omega) h2 rfl ?_
  refine e_aloadF_n (i := 0) 1393 dL_law_1392 rfl rfl rfl ?_
  refine e_iload_n (i := 3) 1394 dL_law_1393 rfl rfl rfl ?_
  refine e_iconst 1395 dL_law_1394 rfl ?_
  refine e_iadd 1396 dL_law_1395 rfl ?_
  refine e_sald 1397 dL_law_1396 (by omega) (by omega) h2 rfl ?_
  refine e_callP 1400 mt_yX11_runs mv_yX11_runs wd_1074 (Nat.le_of_ble_eq_true rfl) dL_law_1397 at_0 jc_11 rfl rfl rfl (Nat.le_of_ble_eq_true rfl) ⟨by omega, by omega, by omega, by omega⟩ rfl (p_runs hI (i32_bnd _) (i32_bnd _)) (fun z M1 hc => ?_)
  refine e_aload_n (i := 2) 1401 dL_law_1400 rfl rfl rfl ?_
  refine e_aloadF_n (i := 0) 1402 dL_law_1401 rfl rfl rfl ?_
  refine e_iload_n (i := 3) 1403 dL_law_1402 rfl rfl rfl ?_
  refine e_iconst 1404 dL_law_1403 rfl ?_
  refine e_iadd 1405 dL_law_1404 rfl ?_
  refine e_sald 1406 dL_law_1405 (by omega) (by omega) h2 rfl ?_
  refine e_aloadF_n (i := 0) 1407 dL_law_1406 rfl rfl rfl ?_
  refine e_iload_n (i := 3) 1408 dL_law_1407 rfl rfl rfl ?_
  refine e_iconst 1409 dL_law_1408 rfl ?_
  refine e_iadd 1410 dL_law_1409 rfl ?_
  refine e_sald 1411 dL_law_1410 (by omega) (by omega) h2 rfl ?_
  refine e_callP 1414 mt_yX12_runs mv_yX12_runs wd_1712 (Nat.le_of_ble_eq_true rfl) dL_law_1411 at_928 jc_12 rfl rfl rfl (Nat.le_of_ble_eq_true rfl) ⟨by omega, by omega, by omega, by omega⟩ rfl hc (fun z2 M2 hc2 => ?_)
  obtain ⟨rfl, hI2⟩ := hc2
  refine e_w32 ?_
  refine e_w32b ?_
  exact e_icmp_eq 1417 2160 dL_law_1414 (w32_bnd _) (w32_bnd _) (by decide) rfl (fun _ => kk M2 hI2) (fun g => absurd rfl g)
theorem lc_32 {X : jX} {nm : String} {ret : Option FieldType} {R : Room} {QF : jQF} {cells slots : Nat} {M : jM} {i : Int} (hF : 68 ≤ R.frames) (hL : 7000 ≤ R.locals) (hC : cells ≤ R.cells) (hS : slots ≤ R.slots) (h2 : (X.2.2.2.2.1 : Int) < 100000) (h0 : 0 ≤ i) (h1 : i + 7 ≤ (X.2.2.2.2.1 : Int)) (hI : Inv M) (kk : ∀ M2 : jM, Inv M2 → gE X (yl nm) cL_law 4 ret R QF cells slots 949 topo M2 2160 (lwl i) []) : gE X (yl nm) cL_law 4 ret R QF cells slots 949 topo M 1419 (lwl i) [] := by
  refine e_aload_n (i := 1) 1420 dL_law_1419 rfl rfl rfl ?_
  refine e_aloadF_n (i := 0) 1421 dL_law_1420 rfl rfl rfl ?_
  refine e_iload_n (i := 3) 1422 dL_law_1421 rfl rfl rfl ?_
  refine e_iconst 1423 dL_law_1422 rfl ?_
  refine e_iadd 1424 dL_law_1423 rfl ?_
  refine e_sald 1425 dL_law_1424 (by omega) (by omega) h2 rfl ?_
  refine e_callP 1428 mt_yX11_chain mv_yX11_chain wd_1082 (Nat.le_of_ble_eq_true rfl) dL_law_1425 at_0 jc_11 rfl rfl rfl (Nat.le_of_ble_eq_true rfl) ⟨by omega, by omega, by omega, by omega⟩ rfl (p_chain hI (i32_bnd _)) (fun z M1 hc => ?_)
  refine e_aload_n (i := 2) 1429 dL_law_1428 rfl rfl rfl ?_
  refine e_aloadF_n (i := 0) 1430 dL_law_1429 rfl rfl rfl ?_
  refine e_iload_n (i := 3) 1431 dL_law_1430 rfl rfl rfl ?_
  refine e_iconst 1432 dL_law_1431 rfl ?_
  refine e_iadd 1433 dL_law_1432 rfl ?_
  refine e_sald 1434 dL_law_1433 (by omega) (by omega) h2 rfl ?_
  refine e_callP 1437 mt_yX12_chain mv_yX12_chain wd_1716 (Nat.le_of_ble_eq_true rfl) dL_law_1434 at_928 jc_12 rfl rfl rfl (Nat.le_of_ble_eq_true rfl) ⟨by omega, by omega, by omega, by omega⟩ rfl hc (fun z2 M2 hc2 => ?_)
  obtain ⟨rfl, hI2⟩ := hc2
  refine e_w32 ?_
  refine e_w32b ?_
  exact e_icmp_eq 1440 2160 dL_law_1437 (w32_bnd _) (w32_bnd _) (by decide) rfl (fun _ => kk M2 hI2) (fun g => absurd rfl g)
theorem lc_33 {X : jX} {nm : String} {ret : Option FieldType} {R : Room} {QF : jQF} {cells slots : Nat} {M : jM} {i : Int} (hF : 68 ≤ R.frames) (hL : 7000 ≤ R.locals) (hC : cells ≤ R.cells) (hS : slots ≤ R.slots) (h2 : (X.2.2.2.2.1 : Int) < 100000) (h0 : 0 ≤ i) (h1 : i + 7 ≤ (X.2.2.2.2.1 : Int)) (hI : Inv M) (kk : ∀ M2 : jM, Inv M2 → gE X (yl nm) cL_law 4 ret R QF cells slots 949 topo M2 2160 (lwl i) []) : gE X (yl nm) cL_law 4 ret R QF cells slots 949 topo M 1442 (lwl i) [] := by
  refine e_aload_n (i := 1) 1443 dL_law_1442 rfl rfl rfl ?_
  refine e_aloadF_n (i := 0) 1444 dL_law_1443 rfl rfl rfl ?_
  refine e_iload_n (i := 3) 1445 dL_law_1444 rfl rfl rfl ?_
  refine e_iconst 1446 dL_law_1445 rfl ?_
  refine e_iadd 1447 dL_law_1446 rfl ?_
  refine e_sald 1448 dL_law_1447 (by omega) (by omega) h2 rfl ?_
  refine e_aloadF_n (i := 0) 1449 dL_law_1448 rfl rfl rfl ?_
  refine e_iload_n (i := 3) 1450 dL_law_1449 rfl rfl rfl ?_
  refine e_iconst 1451 dL_law_1450 rfl ?_
  refine e_iadd 1452 dL_law_1451 rfl ?_
  refine e_sald 1453 dL_law_1452 (by omega) (by omega) h2 rfl ?_
  refine e_callP 1456 mt_yX11_book mv_yX11_book wd_1094 (Nat.le_of_ble_eq_true rfl) dL_law_1453 at_0 jc_11 rfl rfl rfl (Nat.le_of_ble_eq_true rfl) ⟨by omega, by omega, by omega, by omega⟩ rfl (p_book hI (i32_bnd _) (i32_bnd _)) (fun z M1 hc => ?_)
  refine e_aload_n (i := 2) 1457 dL_law_1456 rfl rfl rfl ?_
  refine e_aloadF_n (i := 0) 1458 dL_law_1457 rfl rfl rfl ?_
  refine e_iload_n (i := 3) 1459 dL_law_1458 rfl rfl rfl ?_
  refine e_iconst 1460 dL_law_1459 rfl ?_
  refine e_iadd 1461 dL_law_1460 rfl ?_
  refine e_sald 1462 dL_law_1461 (by omega) (by omega) h2 rfl ?_
  refine e_aloadF_n (i := 0) 1463 dL_law_1462 rfl rfl rfl ?_
  refine e_iload_n (i := 3) 1464 dL_law_1463 rfl rfl rfl ?_
  refine e_iconst 1465 dL_law_1464 rfl ?_
  refine e_iadd 1466 dL_law_1465 rfl ?_
  refine e_sald 1467 dL_law_1466 (by omega) (by omega) h2 rfl ?_
  refine e_callP 1470 mt_yX12_book mv_yX12_book wd_1720 (Nat.le_of_ble_eq_true rfl) dL_law_1467 at_928 jc_12 rfl rfl rfl (Nat.le_of_ble_eq_true rfl) ⟨by omega, by omega, by omega, by omega⟩ rfl hc (fun z2 M2 hc2 => ?_)
  obtain ⟨rfl, hI2⟩ := hc2
  refine e_w32 ?_
  refine e_w32b ?_
  exact e_icmp_eq 1473 2160 dL_law_1470 (w32_bnd _) (w32_bnd _) (by decide) rfl (fun _ => kk M2 hI2) (fun g => absurd rfl g)
theorem lc_34 {X : jX} {nm : String} {ret : Option FieldType} {R : Room} {QF : jQF} {cells slots : Nat} {M : jM} {i : Int} (hF : 68 ≤ R.frames) (hL : 7000 ≤ R.locals) (hC : cells ≤ R.cells) (hS : slots ≤ R.slots) (h2 : (X.2.2.2.2.1 : Int) < 100000) (h0 : 0 ≤ i) (h1 : i + 7 ≤ (X.2.2.2.2.1 : Int)) (hI : Inv M) (kk : ∀ M2 : jM, Inv M2 → gE X (yl nm) cL_law 4 ret R QF cells slots 949 topo M2 2160 (lwl i) []) : gE X (yl nm) cL_law 4 ret R QF cells slots 949 topo M 1475 (lwl i) [] := by
  refine e_aload_n (i := 1) 1476 dL_law_1475 rfl rfl rfl ?_
  refine e_aloadF_n (i := 0) 1477 dL_law_1476 rfl rfl rfl ?_
  refine e_iload_n (i := 3) 1478 dL_law_1477 rfl rfl rfl ?_
  refine e_iconst 1479 dL_law_1478 rfl ?_
  refine e_iadd 1480 dL_law_1479 rfl ?_
  refine e_sald 1481 dL_law_1480 (by omega) (by omega) h2 rfl ?_
  refine e_aloadF_n (i := 0) 1482 dL_law_1481 rfl rfl rfl ?_
  refine e_iload_n (i := 3) 1483 dL_law_1482 rfl rfl rfl ?_
  refine e_iconst 1484 dL_law_1483 rfl ?_
  refine e_iadd 1485 dL_law_1484 rfl ?_
  refine e_sald 1486 dL_law_1485 (by omega) (by omega) h2 rfl ?_
  refine e_callP 1489 mt_yX11_worst mv_yX11_worst wd_1098 (Nat.le_of_ble_eq_true rfl) dL_law_1486 at_0 jc_11 rfl rfl rfl (Nat.le_of_ble_eq_true rfl) ⟨by omega, by omega, by omega, by omega⟩ rfl (p_worst hI (i32_bnd _) (i32_bnd _)) (fun z M1 hc => ?_)
  refine e_aload_n (i := 2) 1490 dL_law_1489 rfl rfl rfl ?_
  refine e_aloadF_n (i := 0) 1491 dL_law_1490 rfl rfl rfl ?_
  refine e_iload_n (i := 3) 1492 dL_law_1491 rfl rfl rfl ?_
  refine e_iconst 1493 dL_law_1492 rfl ?_
  refine e_iadd 1494 dL_law_1493 rfl ?_
  refine e_sald 1495 dL_law_1494 (by omega) (by omega) h2 rfl ?_
  refine e_aloadF_n (i := 0) 1496 dL_law_1495 rfl rfl rfl ?_
  refine e_iload_n (i := 3) 1497 dL_law_1496 rfl rfl rfl ?_
  refine e_iconst 1498 dL_law_1497 rfl ?_
  refine e_iadd 1499 dL_law_1498 rfl ?_
  refine e_sald 1500 dL_law_1499 (by omega) (by omega) h2 rfl ?_
  refine e_callP 1503 mt_yX12_worst mv_yX12_worst wd_1725 (Nat.le_of_ble_eq_true rfl) dL_law_1500 at_928 jc_12 rfl rfl rfl (Nat.le_of_ble_eq_true rfl) ⟨by omega, by omega, by omega, by omega⟩ rfl hc (fun z2 M2 hc2 => ?_)
  obtain ⟨rfl, hI2⟩ := hc2
  refine e_w32 ?_
  refine e_w32b ?_
  exact e_icmp_eq 1506 2160 dL_law_1503 (w32_bnd _) (w32_bnd _) (by decide) rfl (fun _ => kk M2 hI2) (fun g => absurd rfl g)
theorem lc_35 {X : jX} {nm : String} {ret : Option FieldType} {R : Room} {QF : jQF} {cells slots : Nat} {M : jM} {i : Int} (hF : 68 ≤ R.frames) (hL : 7000 ≤ R.locals) (hC : cells ≤ R.cells) (hS : slots ≤ R.slots) (h2 : (X.2.2.2.2.1 : Int) < 100000) (h0 : 0 ≤ i) (h1 : i + 7 ≤ (X.2.2.2.2.1 : Int)) (hI : Inv M) (kk : ∀ M2 : jM, Inv M2 → gE X (yl nm) cL_law 4 ret R QF cells slots 949 topo M2 2160 (lwl i) []) : gE X (yl nm) cL_law 4 ret R QF cells slots 949 topo M 1508 (lwl i) [] := by
  refine e_aload_n (i := 1) 1509 dL_law_1508 rfl rfl rfl ?_
  refine e_aloadF_n (i := 0) 1510 dL_law_1509 rfl rfl rfl ?_
  refine e_iload_n (i := 3) 1511 dL_law_1510 rfl rfl rfl ?_
  refine e_iconst 1512 dL_law_1511 rfl ?_
  refine e_iadd 1513 dL_law_1512 rfl ?_
  refine e_sald 1514 dL_law_1513 (by omega) (by omega) h2 rfl ?_
  refine e_aloadF_n (i := 0) 1515 dL_law_1514 rfl rfl rfl ?_
  refine e_iload_n (i := 3) 1516 dL_law_1515 rfl rfl rfl ?_
  refine e_iconst 1517 dL_law_1516 rfl ?_
  refine e_iadd 1518 dL_law_1517 rfl ?_
  refine e_sald 1519 dL_law_1518 (by omega) (by omega) h2 rfl ?_
  refine e_aloadF_n (i := 0) 1520 dL_law_1519 rfl rfl rfl ?_
  refine e_iload_n (i := 3) 1521 dL_law_1520 rfl rfl rfl ?_
  refine e_iconst 1522 dL_law_1521 rfl ?_
  refine e_iadd 1523 dL_law_1522 rfl ?_
  refine e_sald 1524 dL_law_1523 (by omega) (by omega) h2 rfl ?_
  refine e_aloadF_n (i := 0) 1525 dL_law_1524 rfl rfl rfl ?_
  refine e_iload_n (i := 3) 1526 dL_law_1525 rfl rfl rfl ?_
  refine e_iconst 1527 dL_law_1526 rfl ?_
  refine e_iadd 1528 dL_law_1527 rfl ?_
  refine e_sald 1529 dL_law_1528 (by omega) (by omega) h2 rfl ?_
  refine e_aloadF_n (i := 0) 1530 dL_law_1529 rfl rfl rfl ?_
  refine e_iload_n (i := 3) 1531 dL_law_1530 rfl rfl rfl ?_
  refine e_iconst 1532 dL_law_1531 rfl ?_
  refine e_iadd 1533 dL_law_1532 rfl ?_
  refine e_sald 1534 dL_law_1533 (by omega) (by omega) h2 rfl ?_
  refine e_aloadF_n (i := 0) 1535 dL_law_1534 rfl rfl rfl ?_
  refine e_iload_n (i := 3) 1536 dL_law_1535 rfl rfl rfl ?_
  refine e_bipush 1538 dL_law_1536 (by decide) rfl ?_
  refine e_iadd 1539 dL_law_1538 rfl ?_
  refine e_sald 1540 dL_law_1539 (by omega) (by omega) h2 rfl ?_
  refine e_callP 1543 mt_yX11_scribe mv_yX11_scribe wd_1106 (Nat.le_of_ble_eq_true rfl) dL_law_1540 at_0 jc_11 rfl rfl rfl (Nat.le_of_ble_eq_true rfl) ⟨by omega, by omega, by omega, by omega⟩ rfl (p_scribe hI (i32_bnd _) (i32_bnd _) (i32_bnd _) (i32_bnd _) (i32_bnd _) (i32_bnd _)) (fun z M1 hc => ?_)
  refine e_aload_n (i := 2) 1544 dL_law_1543 rfl rfl rfl ?_
  refine e_aloadF_n (i := 0) 1545 dL_law_1544 rfl rfl rfl ?_
  refine e_iload_n (i := 3) 1546 dL_law_1545 rfl rfl rfl ?_
  refine e_iconst 1547 dL_law_1546 rfl ?_
  refine e_iadd 1548 dL_law_1547 rfl ?_
  refine e_sald 1549 dL_law_1548 (by omega) (by omega) h2 rfl ?_
  refine e_aloadF_n (i := 0) 1550 dL_law_1549 rfl rfl rfl ?_
  refine e_iload_n (i := 3) 1551 dL_law_1550 rfl rfl rfl ?_
  refine e_iconst 1552 dL_law_1551 rfl ?_
  refine e_iadd 1553 dL_law_1552 rfl ?_
  refine e_sald 1554 dL_law_1553 (by omega) (by omega) h2 rfl ?_
  refine e_aloadF_n (i := 0) 1555 dL_law_1554 rfl rfl rfl ?_
  refine e_iload_n (i := 3) 1556 dL_law_1555 rfl rfl rfl ?_
  refine e_iconst 1557 dL_law_1556 rfl ?_
  refine e_iadd 1558 dL_law_1557 rfl ?_
  refine e_sald 1559 dL_law_1558 (by omega) (by omega) h2 rfl ?_
  refine e_aloadF_n (i := 0) 1560 dL_law_1559 rfl rfl rfl ?_
  refine e_iload_n (i := 3) 1561 dL_law_1560 rfl rfl rfl ?_
  refine e_iconst 1562 dL_law_1561 rfl ?_
  refine e_iadd 1563 dL_law_1562 rfl ?_
  refine e_sald 1564 dL_law_1563 (by omega) (by omega) h2 rfl ?_
  refine e_aloadF_n (i := 0) 1565 dL_law_1564 rfl rfl rfl ?_
  refine e_iload_n (i := 3) 1566 dL_law_1565 rfl rfl rfl ?_
  refine e_iconst 1567 dL_law_1566 rfl ?_
  refine e_iadd 1568 dL_law_1567 rfl ?_
  refine e_sald 1569 dL_law_1568 (by omega) (by omega) h2 rfl ?_
  refine e_aloadF_n (i := 0) 1570 dL_law_1569 rfl rfl rfl ?_
  refine e_iload_n (i := 3) 1571 dL_law_1570 rfl rfl rfl ?_
  refine e_bipush 1573 dL_law_1571 (by decide) rfl ?_
  refine e_iadd 1574 dL_law_1573 rfl ?_
  refine e_sald 1575 dL_law_1574 (by omega) (by omega) h2 rfl ?_
  refine e_callP 1578 mt_yX12_scribe mv_yX12_scribe wd_1729 (Nat.le_of_ble_eq_true rfl) dL_law_1575 at_928 jc_12 rfl rfl rfl (Nat.le_of_ble_eq_true rfl) ⟨by omega, by omega, by omega, by omega⟩ rfl hc (fun z2 M2 hc2 => ?_)
  obtain ⟨rfl, hI2⟩ := hc2
  refine e_w32 ?_
  refine e_w32b ?_
  exact e_icmp_eq 1581 2160 dL_law_1578 (w32_bnd _) (w32_bnd _) (by decide) rfl (fun _ => kk M2 hI2) (fun g => absurd rfl g)
