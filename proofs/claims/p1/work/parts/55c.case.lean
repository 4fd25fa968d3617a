theorem dL_law_790 : decode cL_law 790 = .ok (.aload_n 1, 1) := by decide +kernel
theorem dL_law_791 : decode cL_law 791 = .ok (.aload_n 0, 1) := by decide +kernel
theorem dL_law_792 : decode cL_law 792 = .ok (.iload 4, 2) := by decide +kernel
theorem dL_law_794 : decode cL_law 794 = .ok (.iconst 1, 1) := by decide +kernel
theorem dL_law_795 : decode cL_law 795 = .ok (.iadd, 1) := by decide +kernel
theorem dL_law_796 : decode cL_law 796 = .ok (.iaload, 1) := by decide +kernel
theorem dL_law_797 : decode cL_law 797 = .ok (.aload_n 0, 1) := by decide +kernel
theorem dL_law_798 : decode cL_law 798 = .ok (.iload 4, 2) := by decide +kernel
theorem dL_law_800 : decode cL_law 800 = .ok (.iconst 2, 1) := by decide +kernel
theorem dL_law_801 : decode cL_law 801 = .ok (.iadd, 1) := by decide +kernel
theorem dL_law_802 : decode cL_law 802 = .ok (.iaload, 1) := by decide +kernel
theorem dL_law_803 : decode cL_law 803 = .ok (.aload_n 0, 1) := by decide +kernel
theorem dL_law_804 : decode cL_law 804 = .ok (.iload 4, 2) := by decide +kernel
theorem dL_law_806 : decode cL_law 806 = .ok (.iconst 3, 1) := by decide +kernel
theorem dL_law_807 : decode cL_law 807 = .ok (.iadd, 1) := by decide +kernel
theorem dL_law_808 : decode cL_law 808 = .ok (.iaload, 1) := by decide +kernel
theorem dL_law_809 : decode cL_law 809 = .ok (.aload_n 0, 1) := by decide +kernel
theorem dL_law_810 : decode cL_law 810 = .ok (.iload 4, 2) := by decide +kernel
theorem dL_law_812 : decode cL_law 812 = .ok (.iconst 4, 1) := by decide +kernel
theorem dL_law_813 : decode cL_law 813 = .ok (.iadd, 1) := by decide +kernel
theorem dL_law_814 : decode cL_law 814 = .ok (.iaload, 1) := by decide +kernel
theorem dL_law_815 : decode cL_law 815 = .ok (.aload_n 3, 1) := by decide +kernel
theorem dL_law_816 : decode cL_law 816 = .ok (.invokestatic 141, 3) := by decide +kernel
theorem dL_law_819 : decode cL_law 819 = .ok (.istore 5, 2) := by decide +kernel
theorem dL_law_821 : decode cL_law 821 = .ok (.aload_n 2, 1) := by decide +kernel
theorem dL_law_822 : decode cL_law 822 = .ok (.aload_n 0, 1) := by decide +kernel
theorem dL_law_823 : decode cL_law 823 = .ok (.iload 4, 2) := by decide +kernel
theorem dL_law_825 : decode cL_law 825 = .ok (.iconst 1, 1) := by decide +kernel
theorem dL_law_826 : decode cL_law 826 = .ok (.iadd, 1) := by decide +kernel
theorem dL_law_827 : decode cL_law 827 = .ok (.iaload, 1) := by decide +kernel
theorem dL_law_828 : decode cL_law 828 = .ok (.aload_n 0, 1) := by decide +kernel
theorem dL_law_829 : decode cL_law 829 = .ok (.iload 4, 2) := by decide +kernel
theorem dL_law_831 : decode cL_law 831 = .ok (.iconst 2, 1) := by decide +kernel
theorem dL_law_832 : decode cL_law 832 = .ok (.iadd, 1) := by decide +kernel
theorem dL_law_833 : decode cL_law 833 = .ok (.iaload, 1) := by decide +kernel
theorem dL_law_834 : decode cL_law 834 = .ok (.aload_n 0, 1) := by decide +kernel
theorem dL_law_835 : decode cL_law 835 = .ok (.iload 4, 2) := by decide +kernel
theorem dL_law_837 : decode cL_law 837 = .ok (.iconst 3, 1) := by decide +kernel
theorem dL_law_838 : decode cL_law 838 = .ok (.iadd, 1) := by decide +kernel
theorem dL_law_839 : decode cL_law 839 = .ok (.iaload, 1) := by decide +kernel
theorem dL_law_840 : decode cL_law 840 = .ok (.aload_n 0, 1) := by decide +kernel
theorem dL_law_841 : decode cL_law 841 = .ok (.iload 4, 2) := by decide +kernel
theorem dL_law_843 : decode cL_law 843 = .ok (.iconst 4, 1) := by decide +kernel
theorem dL_law_844 : decode cL_law 844 = .ok (.iadd, 1) := by decide +kernel
theorem dL_law_845 : decode cL_law 845 = .ok (.iaload, 1) := by decide +kernel
theorem dL_law_846 : decode cL_law 846 = .ok (.invokevirtual 144, 3) := by decide +kernel
theorem dL_law_849 : decode cL_law 849 = .ok (.istore 6, 2) := by decide +kernel
theorem dL_law_851 : decode cL_law 851 = .ok (.aload_n 2, 1) := by decide +kernel
theorem dL_law_852 : decode cL_law 852 = .ok (.invokevirtual 113, 3) := by decide +kernel
theorem dL_law_855 : decode cL_law 855 = .ok (.iload 5, 2) := by decide +kernel
theorem dL_law_857 : decode cL_law 857 = .ok (.if_icmp .eq 5, 3) := by decide +kernel
theorem dL_law_862 : decode cL_law 862 = .ok (.iload 5, 2) := by decide +kernel
theorem dL_law_864 : decode cL_law 864 = .ok (.ifCond .ne 15, 3) := by decide +kernel
theorem dL_law_879 : decode cL_law 879 = .ok (.goto 1317, 3) := by decide +kernel
theorem dL_law_882 : decode cL_law 882 = .ok (.aload_n 1, 1) := by decide +kernel
theorem dL_law_883 : decode cL_law 883 = .ok (.aload_n 0, 1) := by decide +kernel
theorem dL_law_884 : decode cL_law 884 = .ok (.iload 4, 2) := by decide +kernel
theorem dL_law_886 : decode cL_law 886 = .ok (.iconst 1, 1) := by decide +kernel
theorem dL_law_887 : decode cL_law 887 = .ok (.iadd, 1) := by decide +kernel
theorem dL_law_888 : decode cL_law 888 = .ok (.iaload, 1) := by decide +kernel
theorem dL_law_889 : decode cL_law 889 = .ok (.aload_n 3, 1) := by decide +kernel
theorem dL_law_890 : decode cL_law 890 = .ok (.invokestatic 145, 3) := by decide +kernel
theorem dL_law_893 : decode cL_law 893 = .ok (.istore 5, 2) := by decide +kernel
theorem dL_law_895 : decode cL_law 895 = .ok (.aload_n 2, 1) := by decide +kernel
theorem dL_law_896 : decode cL_law 896 = .ok (.aload_n 0, 1) := by decide +kernel
theorem dL_law_897 : decode cL_law 897 = .ok (.iload 4, 2) := by decide +kernel
theorem dL_law_899 : decode cL_law 899 = .ok (.iconst 1, 1) := by decide +kernel
theorem dL_law_900 : decode cL_law 900 = .ok (.iadd, 1) := by decide +kernel
theorem dL_law_901 : decode cL_law 901 = .ok (.iaload, 1) := by decide +kernel
theorem dL_law_902 : decode cL_law 902 = .ok (.invokevirtual 147, 3) := by decide +kernel
theorem dL_law_905 : decode cL_law 905 = .ok (.istore 6, 2) := by decide +kernel
theorem dL_law_907 : decode cL_law 907 = .ok (.aload_n 2, 1) := by decide +kernel
theorem dL_law_908 : decode cL_law 908 = .ok (.invokevirtual 113, 3) := by decide +kernel
theorem dL_law_911 : decode cL_law 911 = .ok (.iload 5, 2) := by decide +kernel
theorem dL_law_913 : decode cL_law 913 = .ok (.if_icmp .eq 5, 3) := by decide +kernel
theorem dL_law_918 : decode cL_law 918 = .ok (.iload 5, 2) := by decide +kernel
theorem dL_law_920 : decode cL_law 920 = .ok (.ifCond .ne 15, 3) := by decide +kernel
theorem dL_law_935 : decode cL_law 935 = .ok (.goto 1261, 3) := by decide +kernel
theorem dL_law_923 : decode cL_law 923 = .ok (.aload_n 3, 1) := by decide +kernel
theorem dL_law_924 : decode cL_law 924 = .ok (.iconst 0, 1) := by decide +kernel
theorem dL_law_925 : decode cL_law 925 = .ok (.laload, 1) := by decide +kernel
theorem dL_law_926 : decode cL_law 926 = .ok (.iload 6, 2) := by decide +kernel
theorem dL_law_928 : decode cL_law 928 = .ok (.i2l, 1) := by decide +kernel
theorem dL_law_929 : decode cL_law 929 = .ok (.lcmp, 1) := by decide +kernel
theorem dL_law_930 : decode cL_law 930 = .ok (.ifCond .eq 5, 3) := by decide +kernel
theorem dL_law_938 : decode cL_law 938 = .ok (.aload_n 1, 1) := by decide +kernel
theorem dL_law_939 : decode cL_law 939 = .ok (.aload_n 0, 1) := by decide +kernel
theorem dL_law_940 : decode cL_law 940 = .ok (.iload 4, 2) := by decide +kernel
theorem dL_law_942 : decode cL_law 942 = .ok (.iconst 1, 1) := by decide +kernel
theorem dL_law_943 : decode cL_law 943 = .ok (.iadd, 1) := by decide +kernel
theorem dL_law_944 : decode cL_law 944 = .ok (.iaload, 1) := by decide +kernel
theorem dL_law_945 : decode cL_law 945 = .ok (.aload_n 3, 1) := by decide +kernel
theorem dL_law_946 : decode cL_law 946 = .ok (.invokestatic 148, 3) := by decide +kernel
theorem dL_law_949 : decode cL_law 949 = .ok (.istore 5, 2) := by decide +kernel
theorem dL_law_951 : decode cL_law 951 = .ok (.aload_n 2, 1) := by decide +kernel
theorem dL_law_952 : decode cL_law 952 = .ok (.aload_n 0, 1) := by decide +kernel
theorem dL_law_953 : decode cL_law 953 = .ok (.iload 4, 2) := by decide +kernel
theorem dL_law_955 : decode cL_law 955 = .ok (.iconst 1, 1) := by decide +kernel
theorem dL_law_956 : decode cL_law 956 = .ok (.iadd, 1) := by decide +kernel
theorem dL_law_957 : decode cL_law 957 = .ok (.iaload, 1) := by decide +kernel
theorem dL_law_958 : decode cL_law 958 = .ok (.invokevirtual 150, 3) := by decide +kernel
theorem dL_law_961 : decode cL_law 961 = .ok (.istore 6, 2) := by decide +kernel
theorem dL_law_963 : decode cL_law 963 = .ok (.aload_n 2, 1) := by decide +kernel
theorem dL_law_964 : decode cL_law 964 = .ok (.invokevirtual 113, 3) := by decide +kernel
theorem dL_law_967 : decode cL_law 967 = .ok (.iload 5, 2) := by decide +kernel
theorem dL_law_969 : decode cL_law 969 = .ok (.if_icmp .eq 5, 3) := by decide +kernel
theorem dL_law_974 : decode cL_law 974 = .ok (.iload 5, 2) := by decide +kernel
theorem dL_law_976 : decode cL_law 976 = .ok (.ifCond .ne 15, 3) := by decide +kernel
theorem dL_law_991 : decode cL_law 991 = .ok (.goto 1205, 3) := by decide +kernel
theorem dL_law_979 : decode cL_law 979 = .ok (.aload_n 3, 1) := by decide +kernel
theorem dL_law_980 : decode cL_law 980 = .ok (.iconst 0, 1) := by decide +kernel
theorem dL_law_981 : decode cL_law 981 = .ok (.laload, 1) := by decide +kernel
theorem dL_law_982 : decode cL_law 982 = .ok (.iload 6, 2) := by decide +kernel
theorem dL_law_984 : decode cL_law 984 = .ok (.i2l, 1) := by decide +kernel
theorem dL_law_985 : decode cL_law 985 = .ok (.lcmp, 1) := by decide +kernel
theorem dL_law_986 : decode cL_law 986 = .ok (.ifCond .eq 5, 3) := by decide +kernel
theorem dL_law_994 : decode cL_law 994 = .ok (.aload_n 1, 1) := by decide +kernel
theorem dL_law_995 : decode cL_law 995 = .ok (.aload_n 0, 1) := by decide +kernel
theorem dL_law_996 : decode cL_law 996 = .ok (.iload 4, 2) := by decide +kernel
theorem dL_law_998 : decode cL_law 998 = .ok (.iconst 1, 1) := by decide +kernel
theorem dL_law_999 : decode cL_law 999 = .ok (.iadd, 1) := by decide +kernel
theorem dL_law_1000 : decode cL_law 1000 = .ok (.iaload, 1) := by decide +kernel
theorem dL_law_1001 : decode cL_law 1001 = .ok (.aload_n 0, 1) := by decide +kernel
theorem dL_law_1002 : decode cL_law 1002 = .ok (.iload 4, 2) := by decide +kernel
theorem dL_law_1004 : decode cL_law 1004 = .ok (.iconst 2, 1) := by decide +kernel
theorem dL_law_1005 : decode cL_law 1005 = .ok (.iadd, 1) := by decide +kernel
theorem dL_law_1006 : decode cL_law 1006 = .ok (.iaload, 1) := by decide +kernel
theorem dL_law_1007 : decode cL_law 1007 = .ok (.aload_n 3, 1) := by decide +kernel
theorem dL_law_1008 : decode cL_law 1008 = .ok (.invokestatic 151, 3) := by decide +kernel
theorem dL_law_1011 : decode cL_law 1011 = .ok (.istore 5, 2) := by decide +kernel
theorem dL_law_1013 : decode cL_law 1013 = .ok (.aload_n 2, 1) := by decide +kernel
theorem dL_law_1014 : decode cL_law 1014 = .ok (.aload_n 0, 1) := by decide +kernel
theorem dL_law_1015 : decode cL_law 1015 = .ok (.iload 4, 2) := by decide +kernel
theorem dL_law_1017 : decode cL_law 1017 = .ok (.iconst 1, 1) := by decide +kernel
theorem dL_law_1018 : decode cL_law 1018 = .ok (.iadd, 1) := by decide +kernel
theorem dL_law_1019 : decode cL_law 1019 = .ok (.iaload, 1) := by decide +kernel
theorem dL_law_1020 : decode cL_law 1020 = .ok (.aload_n 0, 1) := by decide +kernel
theorem dL_law_1021 : decode cL_law 1021 = .ok (.iload 4, 2) := by decide +kernel
theorem dL_law_1023 : decode cL_law 1023 = .ok (.iconst 2, 1) := by decide +kernel
theorem dL_law_1024 : decode cL_law 1024 = .ok (.iadd, 1) := by decide +kernel
theorem dL_law_1025 : decode cL_law 1025 = .ok (.iaload, 1) := by decide +kernel
theorem dL_law_1026 : decode cL_law 1026 = .ok (.invokevirtual 153, 3) := by decide +kernel
theorem dL_law_1029 : decode cL_law 1029 = .ok (.istore 6, 2) := by decide +kernel
theorem dL_law_1031 : decode cL_law 1031 = .ok (.aload_n 2, 1) := by decide +kernel
theorem dL_law_1032 : decode cL_law 1032 = .ok (.invokevirtual 113, 3) := by decide +kernel
theorem dL_law_1035 : decode cL_law 1035 = .ok (.iload 5, 2) := by decide +kernel
theorem dL_law_1037 : decode cL_law 1037 = .ok (.if_icmp .eq 5, 3) := by decide +kernel
theorem dL_law_1042 : decode cL_law 1042 = .ok (.iload 5, 2) := by decide +kernel
theorem dL_law_1044 : decode cL_law 1044 = .ok (.ifCond .ne 22, 3) := by decide +kernel
theorem dL_law_1066 : decode cL_law 1066 = .ok (.goto 1130, 3) := by decide +kernel
theorem dL_law_1047 : decode cL_law 1047 = .ok (.aload_n 3, 1) := by decide +kernel
theorem dL_law_1048 : decode cL_law 1048 = .ok (.iconst 0, 1) := by decide +kernel
theorem dL_law_1049 : decode cL_law 1049 = .ok (.laload, 1) := by decide +kernel
theorem dL_law_1050 : decode cL_law 1050 = .ok (.iload 6, 2) := by decide +kernel
theorem dL_law_1052 : decode cL_law 1052 = .ok (.ifCond .eq 7, 3) := by decide +kernel
theorem dL_law_1055 : decode cL_law 1055 = .ok (.lconst 1, 1) := by decide +kernel
theorem dL_law_1056 : decode cL_law 1056 = .ok (.goto 4, 3) := by decide +kernel
theorem dL_law_1060 : decode cL_law 1060 = .ok (.lcmp, 1) := by decide +kernel
theorem dL_law_1061 : decode cL_law 1061 = .ok (.ifCond .eq 5, 3) := by decide +kernel
theorem dL_law_1059 : decode cL_law 1059 = .ok (.lconst 0, 1) := by decide +kernel
set_option maxRecDepth 100000 in
theorem gl_c_L_call : GoodIn lw_tbl (va_wsS RL 141 yL_call w_c_L_call) := goodIn_app (goodIn_of _ (by decide +kernel)) (goodIn_ca (goodIn_p (big := lw_tbl) (.codeWith yL_call cL_call 7 (some .int) [(0, 14, 17, 21), (0, 14, 21, 13), (0, 14, 25, 15)] :: wb_c_L_call) [1457, 1442, 438] rfl (by decide +kernel)) (goodIn_sub z_atIn zAt_good))
set_option maxRecDepth 100000 in
theorem gl_c_M_call : GoodIn lw_tbl (wsV RL 144 RX19 yX19_call w_c_M_call) := goodIn_app (goodIn_of _ (by decide +kernel)) (goodIn_p (big := lw_tbl) (.code yX19_call cX19_call 6 (some .int) :: wb_c_M_call) [1841, 1833, 438, 1664, 1668, 1672] rfl (by decide +kernel))
set_option maxRecDepth 100000 in
theorem gl_c_L_many : GoodIn lw_tbl (va_wsS RL 145 yL_many w_c_L_many) := goodIn_app (goodIn_of _ (by decide +kernel)) (goodIn_ca (goodIn_p (big := lw_tbl) (.codeWith yL_many cL_many 4 (some .int) [(0, 9, 12, 13)] :: wb_c_L_many) [1464, 1000, 438] rfl (by decide +kernel)) (goodIn_sub z_atIn zAt_good))
set_option maxRecDepth 100000 in
theorem gl_c_M_many : GoodIn lw_tbl (wsV RL 147 RX19 yX19_many w_c_M_many) := goodIn_app (goodIn_of _ (by decide +kernel)) (goodIn_p (big := lw_tbl) (.code yX19_many cX19_many 2 (some .int) :: wb_c_M_many) [1845, 1664, 1668, 1672, 1849, 438] rfl (by decide +kernel))
set_option maxRecDepth 100000 in
theorem gl_c_L_depth : GoodIn lw_tbl (va_wsS RL 148 yL_depth w_c_L_depth) := goodIn_app (goodIn_of _ (by decide +kernel)) (goodIn_ca (goodIn_p (big := lw_tbl) (.codeWith yL_depth cL_depth 4 (some .int) [(0, 9, 12, 21)] :: wb_c_L_depth) [1472, 1218, 1008, 828] rfl (by decide +kernel)) (goodIn_sub z_atIn zAt_good))
set_option maxRecDepth 100000 in
theorem gl_c_M_depth : GoodIn lw_tbl (wsV RL 150 RX19 yX19_depth w_c_M_depth) := goodIn_app (goodIn_of _ (by decide +kernel)) (goodIn_p (big := lw_tbl) (.code yX19_depth cX19_depth 2 (some .int) :: wb_c_M_depth) [1853, 1705, 438, 1664, 1668, 1672, 1709, 442, 445, 448, 452, 1742] rfl (by decide +kernel))
set_option maxRecDepth 100000 in
theorem gl_c_L_isSame : GoodIn lw_tbl (va_wsS RL 151 yL_isSame w_c_L_isSame) := goodIn_app (goodIn_of _ (by decide +kernel)) (goodIn_ca (goodIn_p (big := lw_tbl) (.codeWith yL_isSame cL_isSame 5 (some .int) [(0, 17, 20, 21)] :: wb_c_L_isSame) [1479, 1218, 1008] rfl (by decide +kernel)) (goodIn_sub z_atIn zAt_good))
set_option maxRecDepth 100000 in
theorem gl_c_M_isSame : GoodIn lw_tbl (wsV RL 153 RX19 yX19_isSame w_c_M_isSame) := goodIn_app (goodIn_of _ (by decide +kernel)) (goodIn_p (big := lw_tbl) (.code yX19_isSame cX19_isSame 3 (some .boolean) :: wb_c_M_isSame) [1857, 1705, 438, 1664, 1668, 1672, 1709, 442, 445, 448, 452, 1861] rfl (by decide +kernel))
set_option maxHeartbeats 4000000 in
set_option maxRecDepth 100000 in
theorem law_case_8 {p : Program} {e : Env} {s : State} {m : MethodId} {below : List Frame} {meth : Method} {c : Code} (l : Launch) {b : Nat} {xs : Nat → Int32} {A : Nat → Prop} {eD eI : Nat} {ad : Nat → Nat} (Z : zLaw l p s m meth c b xs A eD eI ad) (y1 : Int32) (hy1 : xs (1 : Int32).toNatClampNeg = y1) (y2 : Int32) (hy2 : xs (2 : Int32).toNatClampNeg = y2) (y3 : Int32) (hy3 : xs (3 : Int32).toNatClampNeg = y3) (y4 : Int32) (hy4 : xs (4 : Int32).toNatClampNeg = y4) (y5 : Int32) (hy5 : xs (5 : Int32).toNatClampNeg = y5) (y6 : Int32) (hy6 : xs (6 : Int32).toNatClampNeg = y6) (dC : Nat → ClassId) (dI : Nat → Nat → Nat) (hh : Nat) (aexpr : Nat) (achoo : Nat) (ameth : Nat) (aroom : Nat) (anod : Nat) (asort : Nat) (anote : Nat) (amet : Nat) (atold : Nat) (aheld : Nat) (apair : Nat) (astep : Nat) (asize : Nat) (nm : Nat) (nl : Nat) (n1 : Nat) (n2 : Nat) (nf : Nat) (ns : Nat) (nh : Nat) (nk : Nat) (np : Nat) (apsl : Nat) (azsl : Nat) (acand : Nat) (ahint : Nat) (af1 : Nat) (af2 : Nat) (af3 : Nat) (ou : Nat) (mm : Nat) (ms : Nat) (mt : Nat) (mh : Nat) (me : Nat) (ma : Nat) (t0 : Nat) (t1 : Nat) (t2 : Nat) (i0 : Nat) (i1 : Nat) (i2 : Nat) (kI : ClassId) (kL : ClassId) (kO : ClassId) (kT : ClassId) (mo : Int32) (fo : Nat → Int64) {H : Heap} {locs : List Loc} {ls : Array Slot} (hP : va_P (dC, dI) vwCl [(hh, .inr (13, [.ref aexpr, .ref achoo, .ref ameth, .ref aroom, .ref anod, .ref asort, .ref anote, .ref amet, .int 0, .int 1])), (achoo, .inr (3, [.ref aroom, .ref ameth, .ref acand, .ref ahint, .int 0, .int (-1), .int 0, .int 0, .null])), (aroom, .inr (9, [.ref asort, .ref anod, .ref atold, .int 3, .ref aheld, .int 0, .ref apair, .ref astep, .int 0, .int 0, .int (-1), .int 0, .int 0, .ref asize])), (anod, .inr (7, [.ref nm, .ref nl, .ref n1, .ref n2, .ref nf, .ref ns, .ref nh, .ref nk, .ref np, .int 16, .int 0, .int 16, .int 0, .int 0])), (apair, .inr (8, [.ref apsl, .int 0, .int 0])), (asize, .inr (10, [.ref azsl, .int 0])), (anote, .inr (5, [.ref af1, .ref af2, .ref af3, .int 0])), (aexpr, .inr (1, [.int 0, .ref eD, .int 0])), (ameth, .inr (1, [.int 0, .ref eD, .int 0])), (asort, .inr (1, [.int 0, .ref eD, .int 0])), (astep, .inr (1, [.int 0, .ref eD, .int 0])), (atold, .inl (kI, 60, .inl zTold)), (ns, .inl (kL, 1024, .inr (.inl zSec))), (nf, .inl (kL, 1024, .inr (.inl zFir))), (nm, .inl (kI, 12, .inl (fun _ => 0))), (nl, .inl (kI, 12, .inl (fun _ => 0))), (n1, .inl (kI, 12, .inl (fun _ => 0))), (n2, .inl (kI, 12, .inl (fun _ => 0))), (apsl, .inl (kL, 512, .inr (.inl (fun _ => 0)))), (azsl, .inl (kL, 0, .inr (.inl (fun _ => 0)))), (mm, .inr (21, [.int 0, .ref ms, .ref mt, .ref mh, .ref me])), (ms, .inr (1, [.int 0, .ref eD, .int 0])), (mt, .inr (1, [.int mo, .ref ma, .int 3])), (mh, .inr (1, [.int 0, .ref eD, .int 0])), (me, .inr (1, [.int 0, .ref eD, .int 0])), (ma, .inl (kO, 10, .inr (.inr (.inr (.inr (zfT t0 t1 t2)))))), (t0, .inr (18, [.int (-1), .ref i0])), (t1, .inr (18, [.int (-2), .ref i1])), (t2, .inr (18, [.int (-3), .ref i2])), (i0, .inl (kT, 0, .inr (.inr (.inr (.inr (fun _ => none)))))), (i1, .inl (kT, 0, .inr (.inr (.inr (.inr (fun _ => none)))))), (i2, .inl (kT, 0, .inr (.inr (.inr (.inr (fun _ => none)))))), (ou, .inl (kL, 1, .inr (.inl fo)))] H) (hD : va_D A [(hh, .inr (13, [.ref aexpr, .ref achoo, .ref ameth, .ref aroom, .ref anod, .ref asort, .ref anote, .ref amet, .int 0, .int 1])), (achoo, .inr (3, [.ref aroom, .ref ameth, .ref acand, .ref ahint, .int 0, .int (-1), .int 0, .int 0, .null])), (aroom, .inr (9, [.ref asort, .ref anod, .ref atold, .int 3, .ref aheld, .int 0, .ref apair, .ref astep, .int 0, .int 0, .int (-1), .int 0, .int 0, .ref asize])), (anod, .inr (7, [.ref nm, .ref nl, .ref n1, .ref n2, .ref nf, .ref ns, .ref nh, .ref nk, .ref np, .int 16, .int 0, .int 16, .int 0, .int 0])), (apair, .inr (8, [.ref apsl, .int 0, .int 0])), (asize, .inr (10, [.ref azsl, .int 0])), (anote, .inr (5, [.ref af1, .ref af2, .ref af3, .int 0])), (aexpr, .inr (1, [.int 0, .ref eD, .int 0])), (ameth, .inr (1, [.int 0, .ref eD, .int 0])), (asort, .inr (1, [.int 0, .ref eD, .int 0])), (astep, .inr (1, [.int 0, .ref eD, .int 0])), (atold, .inl (kI, 60, .inl zTold)), (ns, .inl (kL, 1024, .inr (.inl zSec))), (nf, .inl (kL, 1024, .inr (.inl zFir))), (nm, .inl (kI, 12, .inl (fun _ => 0))), (nl, .inl (kI, 12, .inl (fun _ => 0))), (n1, .inl (kI, 12, .inl (fun _ => 0))), (n2, .inl (kI, 12, .inl (fun _ => 0))), (apsl, .inl (kL, 512, .inr (.inl (fun _ => 0)))), (azsl, .inl (kL, 0, .inr (.inl (fun _ => 0)))), (mm, .inr (21, [.int 0, .ref ms, .ref mt, .ref mh, .ref me])), (ms, .inr (1, [.int 0, .ref eD, .int 0])), (mt, .inr (1, [.int mo, .ref ma, .int 3])), (mh, .inr (1, [.int 0, .ref eD, .int 0])), (me, .inr (1, [.int 0, .ref eD, .int 0])), (ma, .inl (kO, 10, .inr (.inr (.inr (.inr (zfT t0 t1 t2)))))), (t0, .inr (18, [.int (-1), .ref i0])), (t1, .inr (18, [.int (-2), .ref i1])), (t2, .inr (18, [.int (-3), .ref i2])), (i0, .inl (kT, 0, .inr (.inr (.inr (.inr (fun _ => none)))))), (i1, .inl (kT, 0, .inr (.inr (.inr (.inr (fun _ => none)))))), (i2, .inl (kT, 0, .inr (.inr (.inr (.inr (fun _ => none)))))), (ou, .inl (kL, 1, .inr (.inl fo)))]) (hK : va_K (dC, dI) vwCl [(kI, .int), (kL, .long), (kO, .object "java/lang/Object"), (kT, .object "HornbookModel$Tree")] s) (hS : va_S A s.heap H locs) (hl : lv_has ls 9 [(4, .int 0), (3, .ref ou), (2, .ref mm), (1, .ref hh), (0, .ref b)]) : W p l e room_1 s m #[Value.ref b] below meth c H locs 74 3613 (lw_Z below #[Value.ref b] s) (F0 m 790 ls []) := by
  obtain ⟨hfl, hx, hb, hr, hml, hown, hts, hX, hbl, hbA, hlocks, hE, hA, hAs, hDc⟩ := id Z
  have in_RJx4a65c : ∀ w ∈ u_ws RJx4a65c TJx4a65c 3, w ∈ lw_tbl := by decide +kernel
  have in_RX11 : ∀ w ∈ u_ws RX11 TX11 10, w ∈ lw_tbl := by decide +kernel
  have in_RX19 : ∀ w ∈ u_ws RX19 TX19 5, w ∈ lw_tbl := by decide +kernel
  refine lv_aload_n hx hb dL_law_790 rfl (lv_at hl 3 rfl) ?_
  refine lv_aload_n hx hb dL_law_791 rfl (lv_at hl 4 rfl) ?_
  refine lv_iload hx hb dL_law_792 (lv_at hl 0 rfl) ?_
  refine lv_iconst (v := 1) hx hb dL_law_794 (by decide) ?_
  refine lv_iadd hx hb dL_law_795 ?_
  refine z_top (v' := .int 1) (congrArg Value.int (by decide)) ?_
  refine va_sld hx hb hX hbl hbA hS (by unfold vp_in; decide) dL_law_796 ?_
  refine z_top (v' := .int y1) (congrArg Value.int hy1) ?_
  refine lv_aload_n hx hb dL_law_797 rfl (lv_at hl 4 rfl) ?_
  refine lv_iload hx hb dL_law_798 (lv_at hl 0 rfl) ?_
  refine lv_iconst (v := 2) hx hb dL_law_800 (by decide) ?_
  refine lv_iadd hx hb dL_law_801 ?_
  refine z_top (v' := .int 2) (congrArg Value.int (by decide)) ?_
  refine va_sld hx hb hX hbl hbA hS (by unfold vp_in; decide) dL_law_802 ?_
  refine z_top (v' := .int y2) (congrArg Value.int hy2) ?_
  refine lv_aload_n hx hb dL_law_803 rfl (lv_at hl 4 rfl) ?_
  refine lv_iload hx hb dL_law_804 (lv_at hl 0 rfl) ?_
  refine lv_iconst (v := 3) hx hb dL_law_806 (by decide) ?_
  refine lv_iadd hx hb dL_law_807 ?_
  refine z_top (v' := .int 3) (congrArg Value.int (by decide)) ?_
  refine va_sld hx hb hX hbl hbA hS (by unfold vp_in; decide) dL_law_808 ?_
  refine z_top (v' := .int y3) (congrArg Value.int hy3) ?_
  refine lv_aload_n hx hb dL_law_809 rfl (lv_at hl 4 rfl) ?_
  refine lv_iload hx hb dL_law_810 (lv_at hl 0 rfl) ?_
  refine lv_iconst (v := 4) hx hb dL_law_812 (by decide) ?_
  refine lv_iadd hx hb dL_law_813 ?_
  refine z_top (v' := .int 4) (congrArg Value.int (by decide)) ?_
  refine va_sld hx hb hX hbl hbA hS (by unfold vp_in; decide) dL_law_814 ?_
  refine z_top (v' := .int y4) (congrArg Value.int hy4) ?_
  refine lv_aload_n hx hb dL_law_815 rfl (lv_at hl 1 rfl) ?_
  refine zx_i (wr := [(achoo, .inr (3, [.ref aroom, .ref ameth, .ref acand, .ref ahint, .int 0, .int (-1), .int 0, .int 0, .null])), (aroom, .inr (9, [.ref asort, .ref anod, .ref atold, .int 3, .ref aheld, .int 0, .ref apair, .ref astep, .int 0, .int 0, .int (-1), .int 0, .int 0, .ref asize])), (anod, .inr (7, [.ref nm, .ref nl, .ref n1, .ref n2, .ref nf, .ref ns, .ref nh, .ref nk, .ref np, .int 16, .int 0, .int 16, .int 0, .int 0])), (apair, .inr (8, [.ref apsl, .int 0, .int 0])), (asize, .inr (10, [.ref azsl, .int 0])), (anote, .inr (5, [.ref af1, .ref af2, .ref af3, .int 0])), (ameth, .inr (1, [.int 0, .ref eD, .int 0])), (asort, .inr (1, [.int 0, .ref eD, .int 0])), (astep, .inr (1, [.int 0, .ref eD, .int 0])), (atold, .inl (kI, 60, .inl zTold)), (ns, .inl (kL, 1024, .inr (.inl zSec))), (nf, .inl (kL, 1024, .inr (.inl zFir))), (nm, .inl (kI, 12, .inl (fun _ => 0))), (nl, .inl (kI, 12, .inl (fun _ => 0))), (n1, .inl (kI, 12, .inl (fun _ => 0))), (n2, .inl (kI, 12, .inl (fun _ => 0))), (apsl, .inl (kL, 512, .inr (.inl (fun _ => 0)))), (azsl, .inl (kL, 0, .inr (.inl (fun _ => 0)))), (mm, .inr (21, [.int 0, .ref ms, .ref mt, .ref mh, .ref me])), (ms, .inr (1, [.int 0, .ref eD, .int 0])), (mt, .inr (1, [.int mo, .ref ma, .int 3])), (mh, .inr (1, [.int 0, .ref eD, .int 0])), (me, .inr (1, [.int 0, .ref eD, .int 0])), (ma, .inl (kO, 10, .inr (.inr (.inr (.inr (zfT t0 t1 t2)))))), (t0, .inr (18, [.int (-1), .ref i0])), (t1, .inr (18, [.int (-2), .ref i1])), (t2, .inr (18, [.int (-3), .ref i2])), (i0, .inl (kT, 0, .inr (.inr (.inr (.inr (fun _ => none)))))), (i1, .inl (kT, 0, .inr (.inr (.inr (.inr (fun _ => none)))))), (i2, .inl (kT, 0, .inr (.inr (.inr (.inr (fun _ => none))))))]) (vx_runSX (As := [.ref hh, .int y1, .int y2, .int y3, .int y4, .ref ou]) (rest := []) ⟨hx, hb, hml, hown, hts⟩ (c_L_call l hfl eD eI ad dC dI H.size hh aexpr achoo ameth aroom anod asort anote amet ou kL y1 y2 y3 y4 fo) (vx_cwSW 6 hts gl_c_L_call rfl rfl rfl (by decide +kernel) ⟨Nat.le_of_ble_eq_true rfl, Nat.le_of_ble_eq_true rfl⟩) (z_preSD (wc := [(hh, .inr (13, [.ref aexpr, .ref achoo, .ref ameth, .ref aroom, .ref anod, .ref asort, .ref anote, .ref amet, .int 0, .int 1])), (aexpr, .inr (1, [.int 0, .ref eD, .int 0])), (ou, .inl (kL, 1, .inr (.inl fo)))]) hP hD hK hS hA hE [0, 7, 32] [1] rfl (by decide) rfl hDc) rfl rfl hl.1 rfl (lv_room (Nat.le_of_ble_eq_true rfl)) dL_law_816 ⟨Nat.le_of_ble_eq_true rfl, Nat.le_of_ble_eq_true rfl⟩) hP hD hK hS hA [0, 7, 32] [1, 2, 3, 4, 5, 6, 8, 9, 10, 11, 12, 13, 14, 15, 16, 17, 18, 19, 20, 21, 22, 23, 24, 25, 26, 27, 28, 29, 30, 31] rfl rfl (by decide) (by decide) (fun E ce q9 H locs hbad hP hD hS h91 h92 h93 => ?_) (fun r_1 u H locs hw_2 hP hD hK hS => ?_)
  · exact absurd hbad id
  obtain ⟨⟩ := u
  have hP : va_P (dC, dI) vwCl [(achoo, .inr (3, [.ref aroom, .ref ameth, .ref acand, .ref ahint, .int 0, .int (-1), .int 0, .int 0, .null])), (aroom, .inr (9, [.ref asort, .ref anod, .ref atold, .int 3, .ref aheld, .int 0, .ref apair, .ref astep, .int 0, .int 0, .int (-1), .int 0, .int 0, .ref asize])), (anod, .inr (7, [.ref nm, .ref nl, .ref n1, .ref n2, .ref nf, .ref ns, .ref nh, .ref nk, .ref np, .int 16, .int 0, .int 16, .int 0, .int 0])), (apair, .inr (8, [.ref apsl, .int 0, .int 0])), (asize, .inr (10, [.ref azsl, .int 0])), (anote, .inr (5, [.ref af1, .ref af2, .ref af3, .int 0])), (ameth, .inr (1, [.int 0, .ref eD, .int 0])), (asort, .inr (1, [.int 0, .ref eD, .int 0])), (astep, .inr (1, [.int 0, .ref eD, .int 0])), (atold, .inl (kI, 60, .inl zTold)), (ns, .inl (kL, 1024, .inr (.inl zSec))), (nf, .inl (kL, 1024, .inr (.inl zFir))), (nm, .inl (kI, 12, .inl (fun _ => 0))), (nl, .inl (kI, 12, .inl (fun _ => 0))), (n1, .inl (kI, 12, .inl (fun _ => 0))), (n2, .inl (kI, 12, .inl (fun _ => 0))), (apsl, .inl (kL, 512, .inr (.inl (fun _ => 0)))), (azsl, .inl (kL, 0, .inr (.inl (fun _ => 0)))), (mm, .inr (21, [.int 0, .ref ms, .ref mt, .ref mh, .ref me])), (ms, .inr (1, [.int 0, .ref eD, .int 0])), (mt, .inr (1, [.int mo, .ref ma, .int 3])), (mh, .inr (1, [.int 0, .ref eD, .int 0])), (me, .inr (1, [.int 0, .ref eD, .int 0])), (ma, .inl (kO, 10, .inr (.inr (.inr (.inr (zfT t0 t1 t2)))))), (t0, .inr (18, [.int (-1), .ref i0])), (t1, .inr (18, [.int (-2), .ref i1])), (t2, .inr (18, [.int (-3), .ref i2])), (i0, .inl (kT, 0, .inr (.inr (.inr (.inr (fun _ => none)))))), (i1, .inl (kT, 0, .inr (.inr (.inr (.inr (fun _ => none)))))), (i2, .inl (kT, 0, .inr (.inr (.inr (.inr (fun _ => none)))))), (ou, .inl (kL, 1, .inr (.inl fo)))] H := hP
  have hD : va_D A [(achoo, .inr (3, [.ref aroom, .ref ameth, .ref acand, .ref ahint, .int 0, .int (-1), .int 0, .int 0, .null])), (aroom, .inr (9, [.ref asort, .ref anod, .ref atold, .int 3, .ref aheld, .int 0, .ref apair, .ref astep, .int 0, .int 0, .int (-1), .int 0, .int 0, .ref asize])), (anod, .inr (7, [.ref nm, .ref nl, .ref n1, .ref n2, .ref nf, .ref ns, .ref nh, .ref nk, .ref np, .int 16, .int 0, .int 16, .int 0, .int 0])), (apair, .inr (8, [.ref apsl, .int 0, .int 0])), (asize, .inr (10, [.ref azsl, .int 0])), (anote, .inr (5, [.ref af1, .ref af2, .ref af3, .int 0])), (ameth, .inr (1, [.int 0, .ref eD, .int 0])), (asort, .inr (1, [.int 0, .ref eD, .int 0])), (astep, .inr (1, [.int 0, .ref eD, .int 0])), (atold, .inl (kI, 60, .inl zTold)), (ns, .inl (kL, 1024, .inr (.inl zSec))), (nf, .inl (kL, 1024, .inr (.inl zFir))), (nm, .inl (kI, 12, .inl (fun _ => 0))), (nl, .inl (kI, 12, .inl (fun _ => 0))), (n1, .inl (kI, 12, .inl (fun _ => 0))), (n2, .inl (kI, 12, .inl (fun _ => 0))), (apsl, .inl (kL, 512, .inr (.inl (fun _ => 0)))), (azsl, .inl (kL, 0, .inr (.inl (fun _ => 0)))), (mm, .inr (21, [.int 0, .ref ms, .ref mt, .ref mh, .ref me])), (ms, .inr (1, [.int 0, .ref eD, .int 0])), (mt, .inr (1, [.int mo, .ref ma, .int 3])), (mh, .inr (1, [.int 0, .ref eD, .int 0])), (me, .inr (1, [.int 0, .ref eD, .int 0])), (ma, .inl (kO, 10, .inr (.inr (.inr (.inr (zfT t0 t1 t2)))))), (t0, .inr (18, [.int (-1), .ref i0])), (t1, .inr (18, [.int (-2), .ref i1])), (t2, .inr (18, [.int (-3), .ref i2])), (i0, .inl (kT, 0, .inr (.inr (.inr (.inr (fun _ => none)))))), (i1, .inl (kT, 0, .inr (.inr (.inr (.inr (fun _ => none)))))), (i2, .inl (kT, 0, .inr (.inr (.inr (.inr (fun _ => none)))))), (ou, .inl (kL, 1, .inr (.inl fo)))] := hD
  have hK : va_K (dC, dI) vwCl [(kI, .int), (kL, .long), (kO, .object "java/lang/Object"), (kT, .object "HornbookModel$Tree"), (kL, .long)] s := hK
  have hw_2 : r_1 = 1 := hw_2
  have hw_2 := hw_2.symm
  subst hw_2
  refine lv_istore (lv' := [(5, .int 1), (4, .int 0), (3, .ref ou), (2, .ref mm), (1, .ref hh), (0, .ref b)]) hx hb dL_law_819 hl (by decide) rfl (fun ls hl => ?_)
  refine lv_aload_n hx hb dL_law_821 rfl (lv_at hl 3 rfl) ?_
  refine lv_aload_n hx hb dL_law_822 rfl (lv_at hl 5 rfl) ?_
  refine lv_iload hx hb dL_law_823 (lv_at hl 1 rfl) ?_
  refine lv_iconst (v := 1) hx hb dL_law_825 (by decide) ?_
  refine lv_iadd hx hb dL_law_826 ?_
  refine z_top (v' := .int 1) (congrArg Value.int (by decide)) ?_
  refine va_sld hx hb hX hbl hbA hS (by unfold vp_in; decide) dL_law_827 ?_
  refine z_top (v' := .int y1) (congrArg Value.int hy1) ?_
  refine lv_aload_n hx hb dL_law_828 rfl (lv_at hl 5 rfl) ?_
  refine lv_iload hx hb dL_law_829 (lv_at hl 1 rfl) ?_
  refine lv_iconst (v := 2) hx hb dL_law_831 (by decide) ?_
  refine lv_iadd hx hb dL_law_832 ?_
  refine z_top (v' := .int 2) (congrArg Value.int (by decide)) ?_
  refine va_sld hx hb hX hbl hbA hS (by unfold vp_in; decide) dL_law_833 ?_
  refine z_top (v' := .int y2) (congrArg Value.int hy2) ?_
  refine lv_aload_n hx hb dL_law_834 rfl (lv_at hl 5 rfl) ?_
  refine lv_iload hx hb dL_law_835 (lv_at hl 1 rfl) ?_
  refine lv_iconst (v := 3) hx hb dL_law_837 (by decide) ?_
  refine lv_iadd hx hb dL_law_838 ?_
  refine z_top (v' := .int 3) (congrArg Value.int (by decide)) ?_
  refine va_sld hx hb hX hbl hbA hS (by unfold vp_in; decide) dL_law_839 ?_
  refine z_top (v' := .int y3) (congrArg Value.int hy3) ?_
  refine lv_aload_n hx hb dL_law_840 rfl (lv_at hl 5 rfl) ?_
  refine lv_iload hx hb dL_law_841 (lv_at hl 1 rfl) ?_
  refine lv_iconst (v := 4) hx hb dL_law_843 (by decide) ?_
  refine lv_iadd hx hb dL_law_844 ?_
  refine z_top (v' := .int 4) (congrArg Value.int (by decide)) ?_
  refine va_sld hx hb hX hbl hbA hS (by unfold vp_in; decide) dL_law_845 ?_
  refine z_top (v' := .int y4) (congrArg Value.int hy4) ?_
  refine z_i (wr := [(achoo, .inr (3, [.ref aroom, .ref ameth, .ref acand, .ref ahint, .int 0, .int (-1), .int 0, .int 0, .null])), (aroom, .inr (9, [.ref asort, .ref anod, .ref atold, .int 3, .ref aheld, .int 0, .ref apair, .ref astep, .int 0, .int 0, .int (-1), .int 0, .int 0, .ref asize])), (anod, .inr (7, [.ref nm, .ref nl, .ref n1, .ref n2, .ref nf, .ref ns, .ref nh, .ref nk, .ref np, .int 16, .int 0, .int 16, .int 0, .int 0])), (apair, .inr (8, [.ref apsl, .int 0, .int 0])), (asize, .inr (10, [.ref azsl, .int 0])), (anote, .inr (5, [.ref af1, .ref af2, .ref af3, .int 0])), (ameth, .inr (1, [.int 0, .ref eD, .int 0])), (asort, .inr (1, [.int 0, .ref eD, .int 0])), (astep, .inr (1, [.int 0, .ref eD, .int 0])), (atold, .inl (kI, 60, .inl zTold)), (ns, .inl (kL, 1024, .inr (.inl zSec))), (nf, .inl (kL, 1024, .inr (.inl zFir))), (nm, .inl (kI, 12, .inl (fun _ => 0))), (nl, .inl (kI, 12, .inl (fun _ => 0))), (n1, .inl (kI, 12, .inl (fun _ => 0))), (n2, .inl (kI, 12, .inl (fun _ => 0))), (apsl, .inl (kL, 512, .inr (.inl (fun _ => 0)))), (azsl, .inl (kL, 0, .inr (.inl (fun _ => 0)))), (ou, .inl (kL, 1, .inr (.inl fo)))]) (va_runV (As := [.int y1, .int y2, .int y3, .int y4]) (rest := []) ⟨hx, hb, hml, hown, hts⟩ (c_M_call l eD eI ad dC dI H.size mm ms mt mh me mo ma kO kT t0 t1 t2 i0 i1 i2 0 y1 y2 y3 y4) (cwV 4 hts gl_c_M_call rfl rfl rfl (by decide +kernel) ⟨Nat.le_of_ble_eq_true rfl, Nat.le_of_ble_eq_true rfl⟩) (z_preV (wc := [(mm, .inr (21, [.int 0, .ref ms, .ref mt, .ref mh, .ref me])), (ms, .inr (1, [.int 0, .ref eD, .int 0])), (mt, .inr (1, [.int mo, .ref ma, .int 3])), (mh, .inr (1, [.int 0, .ref eD, .int 0])), (me, .inr (1, [.int 0, .ref eD, .int 0])), (ma, .inl (kO, 10, .inr (.inr (.inr (.inr (zfT t0 t1 t2)))))), (t0, .inr (18, [.int (-1), .ref i0])), (t1, .inr (18, [.int (-2), .ref i1])), (t2, .inr (18, [.int (-3), .ref i2])), (i0, .inl (kT, 0, .inr (.inr (.inr (.inr (fun _ => none)))))), (i1, .inl (kT, 0, .inr (.inr (.inr (.inr (fun _ => none)))))), (i2, .inl (kT, 0, .inr (.inr (.inr (.inr (fun _ => none))))))]) hP hD hK hS hA hE [18, 19, 20, 21, 22, 23, 24, 25, 26, 27, 28, 29] [2, 3] rfl (by decide) rfl (ci := 21) (q0 := 0) rfl rfl) rfl rfl hl.1 rfl (lv_room (Nat.le_of_ble_eq_true rfl)) dL_law_846 ⟨Nat.le_of_ble_eq_true rfl, Nat.le_of_ble_eq_true rfl⟩) hP hD hK hS hA [18, 19, 20, 21, 22, 23, 24, 25, 26, 27, 28, 29] [0, 1, 2, 3, 4, 5, 6, 7, 8, 9, 10, 11, 12, 13, 14, 15, 16, 17, 30] rfl rfl (by decide) (by decide) (fun r_5 u H locs hw_6 hP hD hK hS => ?_)
  obtain ⟨u_3, u_4⟩ := u
  have hP : va_P (dC, dI) vwCl [(achoo, .inr (3, [.ref aroom, .ref ameth, .ref acand, .ref ahint, .int 0, .int (-1), .int 0, .int 0, .null])), (aroom, .inr (9, [.ref asort, .ref anod, .ref atold, .int 3, .ref aheld, .int 0, .ref apair, .ref astep, .int 0, .int 0, .int (-1), .int 0, .int 0, .ref asize])), (anod, .inr (7, [.ref nm, .ref nl, .ref n1, .ref n2, .ref nf, .ref ns, .ref nh, .ref nk, .ref np, .int 16, .int 0, .int 16, .int 0, .int 0])), (apair, .inr (8, [.ref apsl, .int 0, .int 0])), (asize, .inr (10, [.ref azsl, .int 0])), (anote, .inr (5, [.ref af1, .ref af2, .ref af3, .int 0])), (ameth, .inr (1, [.int 0, .ref eD, .int 0])), (asort, .inr (1, [.int 0, .ref eD, .int 0])), (astep, .inr (1, [.int 0, .ref eD, .int 0])), (atold, .inl (kI, 60, .inl zTold)), (ns, .inl (kL, 1024, .inr (.inl zSec))), (nf, .inl (kL, 1024, .inr (.inl zFir))), (nm, .inl (kI, 12, .inl (fun _ => 0))), (nl, .inl (kI, 12, .inl (fun _ => 0))), (n1, .inl (kI, 12, .inl (fun _ => 0))), (n2, .inl (kI, 12, .inl (fun _ => 0))), (apsl, .inl (kL, 512, .inr (.inl (fun _ => 0)))), (azsl, .inl (kL, 0, .inr (.inl (fun _ => 0)))), (ou, .inl (kL, 1, .inr (.inl fo))), (mm, .inr (21, [.int u_3, .ref ms, .ref mt, .ref mh, .ref me]))] H := hP
  have hD : va_D A [(achoo, .inr (3, [.ref aroom, .ref ameth, .ref acand, .ref ahint, .int 0, .int (-1), .int 0, .int 0, .null])), (aroom, .inr (9, [.ref asort, .ref anod, .ref atold, .int 3, .ref aheld, .int 0, .ref apair, .ref astep, .int 0, .int 0, .int (-1), .int 0, .int 0, .ref asize])), (anod, .inr (7, [.ref nm, .ref nl, .ref n1, .ref n2, .ref nf, .ref ns, .ref nh, .ref nk, .ref np, .int 16, .int 0, .int 16, .int 0, .int 0])), (apair, .inr (8, [.ref apsl, .int 0, .int 0])), (asize, .inr (10, [.ref azsl, .int 0])), (anote, .inr (5, [.ref af1, .ref af2, .ref af3, .int 0])), (ameth, .inr (1, [.int 0, .ref eD, .int 0])), (asort, .inr (1, [.int 0, .ref eD, .int 0])), (astep, .inr (1, [.int 0, .ref eD, .int 0])), (atold, .inl (kI, 60, .inl zTold)), (ns, .inl (kL, 1024, .inr (.inl zSec))), (nf, .inl (kL, 1024, .inr (.inl zFir))), (nm, .inl (kI, 12, .inl (fun _ => 0))), (nl, .inl (kI, 12, .inl (fun _ => 0))), (n1, .inl (kI, 12, .inl (fun _ => 0))), (n2, .inl (kI, 12, .inl (fun _ => 0))), (apsl, .inl (kL, 512, .inr (.inl (fun _ => 0)))), (azsl, .inl (kL, 0, .inr (.inl (fun _ => 0)))), (ou, .inl (kL, 1, .inr (.inl fo))), (mm, .inr (21, [.int u_3, .ref ms, .ref mt, .ref mh, .ref me]))] := hD
  have hK : va_K (dC, dI) vwCl [(kI, .int), (kL, .long), (kO, .object "java/lang/Object"), (kT, .object "HornbookModel$Tree"), (kL, .long)] s := by simpa using hK
  have hw_6 : r_5 = u_4 ∧ u_3 = 1 := hw_6
  obtain ⟨hw_6, hp_7⟩ := hw_6
  have hw_6 := hw_6.symm
  subst hw_6
  refine lv_istore (lv' := [(6, .int u_4), (5, .int 1), (4, .int 0), (3, .ref ou), (2, .ref mm), (1, .ref hh), (0, .ref b)]) hx hb dL_law_849 hl (by decide) rfl (fun ls hl => ?_)
  subst hp_7
  refine lv_aload_n hx hb dL_law_851 rfl (lv_at hl 4 rfl) ?_
  refine z_i (wr := [(achoo, .inr (3, [.ref aroom, .ref ameth, .ref acand, .ref ahint, .int 0, .int (-1), .int 0, .int 0, .null])), (aroom, .inr (9, [.ref asort, .ref anod, .ref atold, .int 3, .ref aheld, .int 0, .ref apair, .ref astep, .int 0, .int 0, .int (-1), .int 0, .int 0, .ref asize])), (anod, .inr (7, [.ref nm, .ref nl, .ref n1, .ref n2, .ref nf, .ref ns, .ref nh, .ref nk, .ref np, .int 16, .int 0, .int 16, .int 0, .int 0])), (apair, .inr (8, [.ref apsl, .int 0, .int 0])), (asize, .inr (10, [.ref azsl, .int 0])), (anote, .inr (5, [.ref af1, .ref af2, .ref af3, .int 0])), (ameth, .inr (1, [.int 0, .ref eD, .int 0])), (asort, .inr (1, [.int 0, .ref eD, .int 0])), (astep, .inr (1, [.int 0, .ref eD, .int 0])), (atold, .inl (kI, 60, .inl zTold)), (ns, .inl (kL, 1024, .inr (.inl zSec))), (nf, .inl (kL, 1024, .inr (.inl zFir))), (nm, .inl (kI, 12, .inl (fun _ => 0))), (nl, .inl (kI, 12, .inl (fun _ => 0))), (n1, .inl (kI, 12, .inl (fun _ => 0))), (n2, .inl (kI, 12, .inl (fun _ => 0))), (apsl, .inl (kL, 512, .inr (.inl (fun _ => 0)))), (azsl, .inl (kL, 0, .inr (.inl (fun _ => 0)))), (ou, .inl (kL, 1, .inr (.inl fo)))]) (va_runV (As := []) (rest := []) ⟨hx, hb, hml, hown, hts⟩ (c_M_thrown l eD eI ad dC dI H.size mm ((.ref ms)) ((.ref mt)) ((.ref mh)) ((.ref me)) 1) (cwV 0 hts gl_c_M_thrown rfl rfl rfl (by decide +kernel) ⟨Nat.le_of_ble_eq_true rfl, Nat.le_of_ble_eq_true rfl⟩) (z_preV (wc := [(mm, .inr (21, [.int 1, .ref ms, .ref mt, .ref mh, .ref me]))]) hP hD hK hS hA hE [19] [] rfl (by decide) rfl (ci := 21) (q0 := 0) rfl rfl) rfl rfl hl.1 rfl (lv_room (Nat.le_of_ble_eq_true rfl)) dL_law_852 ⟨Nat.le_of_ble_eq_true rfl, Nat.le_of_ble_eq_true rfl⟩) hP hD hK hS hA [19] [0, 1, 2, 3, 4, 5, 6, 7, 8, 9, 10, 11, 12, 13, 14, 15, 16, 17, 18] rfl rfl (by decide) (by decide) (fun r_8 u H locs hw_9 hP hD hK hS => ?_)
  obtain ⟨⟩ := u
  have hP : va_P (dC, dI) vwCl [(achoo, .inr (3, [.ref aroom, .ref ameth, .ref acand, .ref ahint, .int 0, .int (-1), .int 0, .int 0, .null])), (aroom, .inr (9, [.ref asort, .ref anod, .ref atold, .int 3, .ref aheld, .int 0, .ref apair, .ref astep, .int 0, .int 0, .int (-1), .int 0, .int 0, .ref asize])), (anod, .inr (7, [.ref nm, .ref nl, .ref n1, .ref n2, .ref nf, .ref ns, .ref nh, .ref nk, .ref np, .int 16, .int 0, .int 16, .int 0, .int 0])), (apair, .inr (8, [.ref apsl, .int 0, .int 0])), (asize, .inr (10, [.ref azsl, .int 0])), (anote, .inr (5, [.ref af1, .ref af2, .ref af3, .int 0])), (ameth, .inr (1, [.int 0, .ref eD, .int 0])), (asort, .inr (1, [.int 0, .ref eD, .int 0])), (astep, .inr (1, [.int 0, .ref eD, .int 0])), (atold, .inl (kI, 60, .inl zTold)), (ns, .inl (kL, 1024, .inr (.inl zSec))), (nf, .inl (kL, 1024, .inr (.inl zFir))), (nm, .inl (kI, 12, .inl (fun _ => 0))), (nl, .inl (kI, 12, .inl (fun _ => 0))), (n1, .inl (kI, 12, .inl (fun _ => 0))), (n2, .inl (kI, 12, .inl (fun _ => 0))), (apsl, .inl (kL, 512, .inr (.inl (fun _ => 0)))), (azsl, .inl (kL, 0, .inr (.inl (fun _ => 0)))), (ou, .inl (kL, 1, .inr (.inl fo))), (mm, .inr (21, [.int 1, .ref ms, .ref mt, .ref mh, .ref me]))] H := hP
  have hD : va_D A [(achoo, .inr (3, [.ref aroom, .ref ameth, .ref acand, .ref ahint, .int 0, .int (-1), .int 0, .int 0, .null])), (aroom, .inr (9, [.ref asort, .ref anod, .ref atold, .int 3, .ref aheld, .int 0, .ref apair, .ref astep, .int 0, .int 0, .int (-1), .int 0, .int 0, .ref asize])), (anod, .inr (7, [.ref nm, .ref nl, .ref n1, .ref n2, .ref nf, .ref ns, .ref nh, .ref nk, .ref np, .int 16, .int 0, .int 16, .int 0, .int 0])), (apair, .inr (8, [.ref apsl, .int 0, .int 0])), (asize, .inr (10, [.ref azsl, .int 0])), (anote, .inr (5, [.ref af1, .ref af2, .ref af3, .int 0])), (ameth, .inr (1, [.int 0, .ref eD, .int 0])), (asort, .inr (1, [.int 0, .ref eD, .int 0])), (astep, .inr (1, [.int 0, .ref eD, .int 0])), (atold, .inl (kI, 60, .inl zTold)), (ns, .inl (kL, 1024, .inr (.inl zSec))), (nf, .inl (kL, 1024, .inr (.inl zFir))), (nm, .inl (kI, 12, .inl (fun _ => 0))), (nl, .inl (kI, 12, .inl (fun _ => 0))), (n1, .inl (kI, 12, .inl (fun _ => 0))), (n2, .inl (kI, 12, .inl (fun _ => 0))), (apsl, .inl (kL, 512, .inr (.inl (fun _ => 0)))), (azsl, .inl (kL, 0, .inr (.inl (fun _ => 0)))), (ou, .inl (kL, 1, .inr (.inl fo))), (mm, .inr (21, [.int 1, .ref ms, .ref mt, .ref mh, .ref me]))] := hD
  have hK : va_K (dC, dI) vwCl [(kI, .int), (kL, .long), (kO, .object "java/lang/Object"), (kT, .object "HornbookModel$Tree"), (kL, .long)] s := by simpa using hK
  have hw_9 : r_8 = 1 := hw_9
  have hw_9 := hw_9.symm
  subst hw_9
  refine lv_iload hx hb dL_law_855 (lv_at hl 1 rfl) ?_
  refine lv_icmp_eq (tgt := 862) hx hb dL_law_857 (by decide) (fun c_10 => ?_) (fun c_10 => ?_)
  rotate_left
  · exact absurd (by decide) c_10
  refine lv_iload hx hb dL_law_862 (lv_at hl 1 rfl) ?_
  refine lv_if_ne (tgt := 879) hx hb dL_law_864 (by decide) (fun c_11 => ?_) (fun c_11 => ?_)
  rotate_left
  · exact absurd c_11 (by decide)
  refine lv_goto (tgt := 2196) hx hb dL_law_879 (by decide) ?_
  exact law_tail l Z hS (lv_sub hl [2, 6] rfl) (Nat.le_of_ble_eq_true rfl) (Nat.le_of_ble_eq_true rfl)

set_option maxHeartbeats 4000000 in
set_option maxRecDepth 100000 in
theorem law_case_9 {p : Program} {e : Env} {s : State} {m : MethodId} {below : List Frame} {meth : Method} {c : Code} (l : Launch) {b : Nat} {xs : Nat → Int32} {A : Nat → Prop} {eD eI : Nat} {ad : Nat → Nat} (Z : zLaw l p s m meth c b xs A eD eI ad) (y1 : Int32) (hy1 : xs (1 : Int32).toNatClampNeg = y1) (y2 : Int32) (hy2 : xs (2 : Int32).toNatClampNeg = y2) (y3 : Int32) (hy3 : xs (3 : Int32).toNatClampNeg = y3) (y4 : Int32) (hy4 : xs (4 : Int32).toNatClampNeg = y4) (y5 : Int32) (hy5 : xs (5 : Int32).toNatClampNeg = y5) (y6 : Int32) (hy6 : xs (6 : Int32).toNatClampNeg = y6) (dC : Nat → ClassId) (dI : Nat → Nat → Nat) (hh : Nat) (aexpr : Nat) (achoo : Nat) (ameth : Nat) (aroom : Nat) (anod : Nat) (asort : Nat) (anote : Nat) (amet : Nat) (atold : Nat) (aheld : Nat) (apair : Nat) (astep : Nat) (asize : Nat) (nm : Nat) (nl : Nat) (n1 : Nat) (n2 : Nat) (nf : Nat) (ns : Nat) (nh : Nat) (nk : Nat) (np : Nat) (apsl : Nat) (azsl : Nat) (acand : Nat) (ahint : Nat) (af1 : Nat) (af2 : Nat) (af3 : Nat) (ou : Nat) (mm : Nat) (ms : Nat) (mt : Nat) (mh : Nat) (me : Nat) (ma : Nat) (t0 : Nat) (t1 : Nat) (t2 : Nat) (i0 : Nat) (i1 : Nat) (i2 : Nat) (kI : ClassId) (kL : ClassId) (kO : ClassId) (kT : ClassId) (mo : Int32) (fo : Nat → Int64) {H : Heap} {locs : List Loc} {ls : Array Slot} (hP : va_P (dC, dI) vwCl [(hh, .inr (13, [.ref aexpr, .ref achoo, .ref ameth, .ref aroom, .ref anod, .ref asort, .ref anote, .ref amet, .int 0, .int 1])), (achoo, .inr (3, [.ref aroom, .ref ameth, .ref acand, .ref ahint, .int 0, .int (-1), .int 0, .int 0, .null])), (aroom, .inr (9, [.ref asort, .ref anod, .ref atold, .int 3, .ref aheld, .int 0, .ref apair, .ref astep, .int 0, .int 0, .int (-1), .int 0, .int 0, .ref asize])), (anod, .inr (7, [.ref nm, .ref nl, .ref n1, .ref n2, .ref nf, .ref ns, .ref nh, .ref nk, .ref np, .int 16, .int 0, .int 16, .int 0, .int 0])), (apair, .inr (8, [.ref apsl, .int 0, .int 0])), (asize, .inr (10, [.ref azsl, .int 0])), (anote, .inr (5, [.ref af1, .ref af2, .ref af3, .int 0])), (aexpr, .inr (1, [.int 0, .ref eD, .int 0])), (ameth, .inr (1, [.int 0, .ref eD, .int 0])), (asort, .inr (1, [.int 0, .ref eD, .int 0])), (astep, .inr (1, [.int 0, .ref eD, .int 0])), (atold, .inl (kI, 60, .inl zTold)), (ns, .inl (kL, 1024, .inr (.inl zSec))), (nf, .inl (kL, 1024, .inr (.inl zFir))), (nm, .inl (kI, 12, .inl (fun _ => 0))), (nl, .inl (kI, 12, .inl (fun _ => 0))), (n1, .inl (kI, 12, .inl (fun _ => 0))), (n2, .inl (kI, 12, .inl (fun _ => 0))), (apsl, .inl (kL, 512, .inr (.inl (fun _ => 0)))), (azsl, .inl (kL, 0, .inr (.inl (fun _ => 0)))), (mm, .inr (21, [.int 0, .ref ms, .ref mt, .ref mh, .ref me])), (ms, .inr (1, [.int 0, .ref eD, .int 0])), (mt, .inr (1, [.int mo, .ref ma, .int 3])), (mh, .inr (1, [.int 0, .ref eD, .int 0])), (me, .inr (1, [.int 0, .ref eD, .int 0])), (ma, .inl (kO, 10, .inr (.inr (.inr (.inr (zfT t0 t1 t2)))))), (t0, .inr (18, [.int (-1), .ref i0])), (t1, .inr (18, [.int (-2), .ref i1])), (t2, .inr (18, [.int (-3), .ref i2])), (i0, .inl (kT, 0, .inr (.inr (.inr (.inr (fun _ => none)))))), (i1, .inl (kT, 0, .inr (.inr (.inr (.inr (fun _ => none)))))), (i2, .inl (kT, 0, .inr (.inr (.inr (.inr (fun _ => none)))))), (ou, .inl (kL, 1, .inr (.inl fo)))] H) (hD : va_D A [(hh, .inr (13, [.ref aexpr, .ref achoo, .ref ameth, .ref aroom, .ref anod, .ref asort, .ref anote, .ref amet, .int 0, .int 1])), (achoo, .inr (3, [.ref aroom, .ref ameth, .ref acand, .ref ahint, .int 0, .int (-1), .int 0, .int 0, .null])), (aroom, .inr (9, [.ref asort, .ref anod, .ref atold, .int 3, .ref aheld, .int 0, .ref apair, .ref astep, .int 0, .int 0, .int (-1), .int 0, .int 0, .ref asize])), (anod, .inr (7, [.ref nm, .ref nl, .ref n1, .ref n2, .ref nf, .ref ns, .ref nh, .ref nk, .ref np, .int 16, .int 0, .int 16, .int 0, .int 0])), (apair, .inr (8, [.ref apsl, .int 0, .int 0])), (asize, .inr (10, [.ref azsl, .int 0])), (anote, .inr (5, [.ref af1, .ref af2, .ref af3, .int 0])), (aexpr, .inr (1, [.int 0, .ref eD, .int 0])), (ameth, .inr (1, [.int 0, .ref eD, .int 0])), (asort, .inr (1, [.int 0, .ref eD, .int 0])), (astep, .inr (1, [.int 0, .ref eD, .int 0])), (atold, .inl (kI, 60, .inl zTold)), (ns, .inl (kL, 1024, .inr (.inl zSec))), (nf, .inl (kL, 1024, .inr (.inl zFir))), (nm, .inl (kI, 12, .inl (fun _ => 0))), (nl, .inl (kI, 12, .inl (fun _ => 0))), (n1, .inl (kI, 12, .inl (fun _ => 0))), (n2, .inl (kI, 12, .inl (fun _ => 0))), (apsl, .inl (kL, 512, .inr (.inl (fun _ => 0)))), (azsl, .inl (kL, 0, .inr (.inl (fun _ => 0)))), (mm, .inr (21, [.int 0, .ref ms, .ref mt, .ref mh, .ref me])), (ms, .inr (1, [.int 0, .ref eD, .int 0])), (mt, .inr (1, [.int mo, .ref ma, .int 3])), (mh, .inr (1, [.int 0, .ref eD, .int 0])), (me, .inr (1, [.int 0, .ref eD, .int 0])), (ma, .inl (kO, 10, .inr (.inr (.inr (.inr (zfT t0 t1 t2)))))), (t0, .inr (18, [.int (-1), .ref i0])), (t1, .inr (18, [.int (-2), .ref i1])), (t2, .inr (18, [.int (-3), .ref i2])), (i0, .inl (kT, 0, .inr (.inr (.inr (.inr (fun _ => none)))))), (i1, .inl (kT, 0, .inr (.inr (.inr (.inr (fun _ => none)))))), (i2, .inl (kT, 0, .inr (.inr (.inr (.inr (fun _ => none)))))), (ou, .inl (kL, 1, .inr (.inl fo)))]) (hK : va_K (dC, dI) vwCl [(kI, .int), (kL, .long), (kO, .object "java/lang/Object"), (kT, .object "HornbookModel$Tree")] s) (hS : va_S A s.heap H locs) (hl : lv_has ls 9 [(4, .int 0), (3, .ref ou), (2, .ref mm), (1, .ref hh), (0, .ref b)]) : W p l e room_1 s m #[Value.ref b] below meth c H locs 74 3613 (lw_Z below #[Value.ref b] s) (F0 m 882 ls []) := by
  obtain ⟨hfl, hx, hb, hr, hml, hown, hts, hX, hbl, hbA, hlocks, hE, hA, hAs, hDc⟩ := id Z
  have in_RJx4a65c : ∀ w ∈ u_ws RJx4a65c TJx4a65c 3, w ∈ lw_tbl := by decide +kernel
  have in_RX11 : ∀ w ∈ u_ws RX11 TX11 10, w ∈ lw_tbl := by decide +kernel
  have in_RX19 : ∀ w ∈ u_ws RX19 TX19 5, w ∈ lw_tbl := by decide +kernel
  have in_RX7 : ∀ w ∈ u_ws RX7 TX7 14, w ∈ lw_tbl := by decide +kernel
  refine lv_aload_n hx hb dL_law_882 rfl (lv_at hl 3 rfl) ?_
  refine lv_aload_n hx hb dL_law_883 rfl (lv_at hl 4 rfl) ?_
  refine lv_iload hx hb dL_law_884 (lv_at hl 0 rfl) ?_
  refine lv_iconst (v := 1) hx hb dL_law_886 (by decide) ?_
  refine lv_iadd hx hb dL_law_887 ?_
  refine z_top (v' := .int 1) (congrArg Value.int (by decide)) ?_
  refine va_sld hx hb hX hbl hbA hS (by unfold vp_in; decide) dL_law_888 ?_
  refine z_top (v' := .int y1) (congrArg Value.int hy1) ?_
  refine lv_aload_n hx hb dL_law_889 rfl (lv_at hl 1 rfl) ?_
  refine zx_i (wr := [(achoo, .inr (3, [.ref aroom, .ref ameth, .ref acand, .ref ahint, .int 0, .int (-1), .int 0, .int 0, .null])), (anod, .inr (7, [.ref nm, .ref nl, .ref n1, .ref n2, .ref nf, .ref ns, .ref nh, .ref nk, .ref np, .int 16, .int 0, .int 16, .int 0, .int 0])), (apair, .inr (8, [.ref apsl, .int 0, .int 0])), (asize, .inr (10, [.ref azsl, .int 0])), (anote, .inr (5, [.ref af1, .ref af2, .ref af3, .int 0])), (astep, .inr (1, [.int 0, .ref eD, .int 0])), (atold, .inl (kI, 60, .inl zTold)), (ns, .inl (kL, 1024, .inr (.inl zSec))), (nf, .inl (kL, 1024, .inr (.inl zFir))), (nm, .inl (kI, 12, .inl (fun _ => 0))), (nl, .inl (kI, 12, .inl (fun _ => 0))), (n1, .inl (kI, 12, .inl (fun _ => 0))), (n2, .inl (kI, 12, .inl (fun _ => 0))), (apsl, .inl (kL, 512, .inr (.inl (fun _ => 0)))), (azsl, .inl (kL, 0, .inr (.inl (fun _ => 0)))), (mm, .inr (21, [.int 0, .ref ms, .ref mt, .ref mh, .ref me])), (ms, .inr (1, [.int 0, .ref eD, .int 0])), (mt, .inr (1, [.int mo, .ref ma, .int 3])), (mh, .inr (1, [.int 0, .ref eD, .int 0])), (me, .inr (1, [.int 0, .ref eD, .int 0])), (ma, .inl (kO, 10, .inr (.inr (.inr (.inr (zfT t0 t1 t2)))))), (t0, .inr (18, [.int (-1), .ref i0])), (t1, .inr (18, [.int (-2), .ref i1])), (t2, .inr (18, [.int (-3), .ref i2])), (i0, .inl (kT, 0, .inr (.inr (.inr (.inr (fun _ => none)))))), (i1, .inl (kT, 0, .inr (.inr (.inr (.inr (fun _ => none)))))), (i2, .inl (kT, 0, .inr (.inr (.inr (.inr (fun _ => none))))))]) (vx_runSX (As := [.ref hh, .int y1, .ref ou]) (rest := []) ⟨hx, hb, hml, hown, hts⟩ (c_L_many l hfl eD eI ad dC dI H.size hh aexpr achoo ameth aroom anod asort anote amet atold aheld apair astep asize ou kL y1 fo) (vx_cwSW 3 hts gl_c_L_many rfl rfl rfl (by decide +kernel) ⟨Nat.le_of_ble_eq_true rfl, Nat.le_of_ble_eq_true rfl⟩) (z_preSD (wc := [(hh, .inr (13, [.ref aexpr, .ref achoo, .ref ameth, .ref aroom, .ref anod, .ref asort, .ref anote, .ref amet, .int 0, .int 1])), (aroom, .inr (9, [.ref asort, .ref anod, .ref atold, .int 3, .ref aheld, .int 0, .ref apair, .ref astep, .int 0, .int 0, .int (-1), .int 0, .int 0, .ref asize])), (asort, .inr (1, [.int 0, .ref eD, .int 0])), (ameth, .inr (1, [.int 0, .ref eD, .int 0])), (aexpr, .inr (1, [.int 0, .ref eD, .int 0])), (ou, .inl (kL, 1, .inr (.inl fo)))]) hP hD hK hS hA hE [0, 2, 9, 8, 7, 32] [1] rfl (by decide) rfl hDc) rfl rfl hl.1 rfl (lv_room (Nat.le_of_ble_eq_true rfl)) dL_law_890 ⟨Nat.le_of_ble_eq_true rfl, Nat.le_of_ble_eq_true rfl⟩) hP hD hK hS hA [0, 2, 9, 8, 7, 32] [1, 3, 4, 5, 6, 10, 11, 12, 13, 14, 15, 16, 17, 18, 19, 20, 21, 22, 23, 24, 25, 26, 27, 28, 29, 30, 31] rfl rfl (by decide) (by decide) (fun E ce q9 H locs hbad hP hD hS h91 h92 h93 => ?_) (fun r_3 u H locs hw_4 hP hD hK hS => ?_)
  · exact absurd hbad id
  obtain ⟨u_1, u_2⟩ := u
  have hP : va_P (dC, dI) vwCl [(achoo, .inr (3, [.ref aroom, .ref ameth, .ref acand, .ref ahint, .int 0, .int (-1), .int 0, .int 0, .null])), (anod, .inr (7, [.ref nm, .ref nl, .ref n1, .ref n2, .ref nf, .ref ns, .ref nh, .ref nk, .ref np, .int 16, .int 0, .int 16, .int 0, .int 0])), (apair, .inr (8, [.ref apsl, .int 0, .int 0])), (asize, .inr (10, [.ref azsl, .int 0])), (anote, .inr (5, [.ref af1, .ref af2, .ref af3, .int 0])), (astep, .inr (1, [.int 0, .ref eD, .int 0])), (atold, .inl (kI, 60, .inl zTold)), (ns, .inl (kL, 1024, .inr (.inl zSec))), (nf, .inl (kL, 1024, .inr (.inl zFir))), (nm, .inl (kI, 12, .inl (fun _ => 0))), (nl, .inl (kI, 12, .inl (fun _ => 0))), (n1, .inl (kI, 12, .inl (fun _ => 0))), (n2, .inl (kI, 12, .inl (fun _ => 0))), (apsl, .inl (kL, 512, .inr (.inl (fun _ => 0)))), (azsl, .inl (kL, 0, .inr (.inl (fun _ => 0)))), (mm, .inr (21, [.int 0, .ref ms, .ref mt, .ref mh, .ref me])), (ms, .inr (1, [.int 0, .ref eD, .int 0])), (mt, .inr (1, [.int mo, .ref ma, .int 3])), (mh, .inr (1, [.int 0, .ref eD, .int 0])), (me, .inr (1, [.int 0, .ref eD, .int 0])), (ma, .inl (kO, 10, .inr (.inr (.inr (.inr (zfT t0 t1 t2)))))), (t0, .inr (18, [.int (-1), .ref i0])), (t1, .inr (18, [.int (-2), .ref i1])), (t2, .inr (18, [.int (-3), .ref i2])), (i0, .inl (kT, 0, .inr (.inr (.inr (.inr (fun _ => none)))))), (i1, .inl (kT, 0, .inr (.inr (.inr (.inr (fun _ => none)))))), (i2, .inl (kT, 0, .inr (.inr (.inr (.inr (fun _ => none)))))), (ou, .inl (kL, 1, .inr (.inl u_2)))] H := hP
  have hD : va_D A [(achoo, .inr (3, [.ref aroom, .ref ameth, .ref acand, .ref ahint, .int 0, .int (-1), .int 0, .int 0, .null])), (anod, .inr (7, [.ref nm, .ref nl, .ref n1, .ref n2, .ref nf, .ref ns, .ref nh, .ref nk, .ref np, .int 16, .int 0, .int 16, .int 0, .int 0])), (apair, .inr (8, [.ref apsl, .int 0, .int 0])), (asize, .inr (10, [.ref azsl, .int 0])), (anote, .inr (5, [.ref af1, .ref af2, .ref af3, .int 0])), (astep, .inr (1, [.int 0, .ref eD, .int 0])), (atold, .inl (kI, 60, .inl zTold)), (ns, .inl (kL, 1024, .inr (.inl zSec))), (nf, .inl (kL, 1024, .inr (.inl zFir))), (nm, .inl (kI, 12, .inl (fun _ => 0))), (nl, .inl (kI, 12, .inl (fun _ => 0))), (n1, .inl (kI, 12, .inl (fun _ => 0))), (n2, .inl (kI, 12, .inl (fun _ => 0))), (apsl, .inl (kL, 512, .inr (.inl (fun _ => 0)))), (azsl, .inl (kL, 0, .inr (.inl (fun _ => 0)))), (mm, .inr (21, [.int 0, .ref ms, .ref mt, .ref mh, .ref me])), (ms, .inr (1, [.int 0, .ref eD, .int 0])), (mt, .inr (1, [.int mo, .ref ma, .int 3])), (mh, .inr (1, [.int 0, .ref eD, .int 0])), (me, .inr (1, [.int 0, .ref eD, .int 0])), (ma, .inl (kO, 10, .inr (.inr (.inr (.inr (zfT t0 t1 t2)))))), (t0, .inr (18, [.int (-1), .ref i0])), (t1, .inr (18, [.int (-2), .ref i1])), (t2, .inr (18, [.int (-3), .ref i2])), (i0, .inl (kT, 0, .inr (.inr (.inr (.inr (fun _ => none)))))), (i1, .inl (kT, 0, .inr (.inr (.inr (.inr (fun _ => none)))))), (i2, .inl (kT, 0, .inr (.inr (.inr (.inr (fun _ => none)))))), (ou, .inl (kL, 1, .inr (.inl u_2)))] := hD
  have hK : va_K (dC, dI) vwCl [(kI, .int), (kL, .long), (kO, .object "java/lang/Object"), (kT, .object "HornbookModel$Tree"), (kL, .long)] s := hK
  have hw_4 : r_3 = u_1 ∧ u_1 = (if y1 < 0 ∨ 3 < y1 then 1 else 0) ∧ (u_1 = 0 → u_2 (0 : Int32).toNatClampNeg = ((if y1 = 1 then 3 else 0) : Int32).toInt64) := hw_4
  obtain ⟨hw_4, hp_5, hp_6⟩ := hw_4
  have hw_4 := hw_4.symm
  subst hw_4
  refine lv_istore (lv' := [(5, .int u_1), (4, .int 0), (3, .ref ou), (2, .ref mm), (1, .ref hh), (0, .ref b)]) hx hb dL_law_893 hl (by decide) rfl (fun ls hl => ?_)
  refine lv_aload_n hx hb dL_law_895 rfl (lv_at hl 3 rfl) ?_
  refine lv_aload_n hx hb dL_law_896 rfl (lv_at hl 5 rfl) ?_
  refine lv_iload hx hb dL_law_897 (lv_at hl 1 rfl) ?_
  refine lv_iconst (v := 1) hx hb dL_law_899 (by decide) ?_
  refine lv_iadd hx hb dL_law_900 ?_
  refine z_top (v' := .int 1) (congrArg Value.int (by decide)) ?_
  refine va_sld hx hb hX hbl hbA hS (by unfold vp_in; decide) dL_law_901 ?_
  refine z_top (v' := .int y1) (congrArg Value.int hy1) ?_
  refine z_i (wr := [(achoo, .inr (3, [.ref aroom, .ref ameth, .ref acand, .ref ahint, .int 0, .int (-1), .int 0, .int 0, .null])), (anod, .inr (7, [.ref nm, .ref nl, .ref n1, .ref n2, .ref nf, .ref ns, .ref nh, .ref nk, .ref np, .int 16, .int 0, .int 16, .int 0, .int 0])), (apair, .inr (8, [.ref apsl, .int 0, .int 0])), (asize, .inr (10, [.ref azsl, .int 0])), (anote, .inr (5, [.ref af1, .ref af2, .ref af3, .int 0])), (astep, .inr (1, [.int 0, .ref eD, .int 0])), (atold, .inl (kI, 60, .inl zTold)), (ns, .inl (kL, 1024, .inr (.inl zSec))), (nf, .inl (kL, 1024, .inr (.inl zFir))), (nm, .inl (kI, 12, .inl (fun _ => 0))), (nl, .inl (kI, 12, .inl (fun _ => 0))), (n1, .inl (kI, 12, .inl (fun _ => 0))), (n2, .inl (kI, 12, .inl (fun _ => 0))), (apsl, .inl (kL, 512, .inr (.inl (fun _ => 0)))), (azsl, .inl (kL, 0, .inr (.inl (fun _ => 0)))), (ou, .inl (kL, 1, .inr (.inl u_2)))]) (va_runV (As := [.int y1]) (rest := []) ⟨hx, hb, hml, hown, hts⟩ (c_M_many l eD eI ad dC dI H.size mm ms mt mh me mo ma kO kT t0 t1 t2 i0 i1 i2 0 y1) (cwV 1 hts gl_c_M_many rfl rfl rfl (by decide +kernel) ⟨Nat.le_of_ble_eq_true rfl, Nat.le_of_ble_eq_true rfl⟩) (z_preV (wc := [(mm, .inr (21, [.int 0, .ref ms, .ref mt, .ref mh, .ref me])), (ms, .inr (1, [.int 0, .ref eD, .int 0])), (mt, .inr (1, [.int mo, .ref ma, .int 3])), (mh, .inr (1, [.int 0, .ref eD, .int 0])), (me, .inr (1, [.int 0, .ref eD, .int 0])), (ma, .inl (kO, 10, .inr (.inr (.inr (.inr (zfT t0 t1 t2)))))), (t0, .inr (18, [.int (-1), .ref i0])), (t1, .inr (18, [.int (-2), .ref i1])), (t2, .inr (18, [.int (-3), .ref i2])), (i0, .inl (kT, 0, .inr (.inr (.inr (.inr (fun _ => none)))))), (i1, .inl (kT, 0, .inr (.inr (.inr (.inr (fun _ => none)))))), (i2, .inl (kT, 0, .inr (.inr (.inr (.inr (fun _ => none))))))]) hP hD hK hS hA hE [15, 16, 17, 18, 19, 20, 21, 22, 23, 24, 25, 26] [2, 3] rfl (by decide) rfl (ci := 21) (q0 := 0) rfl rfl) rfl rfl hl.1 rfl (lv_room (Nat.le_of_ble_eq_true rfl)) dL_law_902 ⟨Nat.le_of_ble_eq_true rfl, Nat.le_of_ble_eq_true rfl⟩) hP hD hK hS hA [15, 16, 17, 18, 19, 20, 21, 22, 23, 24, 25, 26] [0, 1, 2, 3, 4, 5, 6, 7, 8, 9, 10, 11, 12, 13, 14, 27] rfl rfl (by decide) (by decide) (fun r_9 u H locs hw_10 hP hD hK hS => ?_)
  obtain ⟨u_7, u_8⟩ := u
  have hP : va_P (dC, dI) vwCl [(achoo, .inr (3, [.ref aroom, .ref ameth, .ref acand, .ref ahint, .int 0, .int (-1), .int 0, .int 0, .null])), (anod, .inr (7, [.ref nm, .ref nl, .ref n1, .ref n2, .ref nf, .ref ns, .ref nh, .ref nk, .ref np, .int 16, .int 0, .int 16, .int 0, .int 0])), (apair, .inr (8, [.ref apsl, .int 0, .int 0])), (asize, .inr (10, [.ref azsl, .int 0])), (anote, .inr (5, [.ref af1, .ref af2, .ref af3, .int 0])), (astep, .inr (1, [.int 0, .ref eD, .int 0])), (atold, .inl (kI, 60, .inl zTold)), (ns, .inl (kL, 1024, .inr (.inl zSec))), (nf, .inl (kL, 1024, .inr (.inl zFir))), (nm, .inl (kI, 12, .inl (fun _ => 0))), (nl, .inl (kI, 12, .inl (fun _ => 0))), (n1, .inl (kI, 12, .inl (fun _ => 0))), (n2, .inl (kI, 12, .inl (fun _ => 0))), (apsl, .inl (kL, 512, .inr (.inl (fun _ => 0)))), (azsl, .inl (kL, 0, .inr (.inl (fun _ => 0)))), (ou, .inl (kL, 1, .inr (.inl u_2))), (mm, .inr (21, [.int u_7, .ref ms, .ref mt, .ref mh, .ref me]))] H := hP
  have hD : va_D A [(achoo, .inr (3, [.ref aroom, .ref ameth, .ref acand, .ref ahint, .int 0, .int (-1), .int 0, .int 0, .null])), (anod, .inr (7, [.ref nm, .ref nl, .ref n1, .ref n2, .ref nf, .ref ns, .ref nh, .ref nk, .ref np, .int 16, .int 0, .int 16, .int 0, .int 0])), (apair, .inr (8, [.ref apsl, .int 0, .int 0])), (asize, .inr (10, [.ref azsl, .int 0])), (anote, .inr (5, [.ref af1, .ref af2, .ref af3, .int 0])), (astep, .inr (1, [.int 0, .ref eD, .int 0])), (atold, .inl (kI, 60, .inl zTold)), (ns, .inl (kL, 1024, .inr (.inl zSec))), (nf, .inl (kL, 1024, .inr (.inl zFir))), (nm, .inl (kI, 12, .inl (fun _ => 0))), (nl, .inl (kI, 12, .inl (fun _ => 0))), (n1, .inl (kI, 12, .inl (fun _ => 0))), (n2, .inl (kI, 12, .inl (fun _ => 0))), (apsl, .inl (kL, 512, .inr (.inl (fun _ => 0)))), (azsl, .inl (kL, 0, .inr (.inl (fun _ => 0)))), (ou, .inl (kL, 1, .inr (.inl u_2))), (mm, .inr (21, [.int u_7, .ref ms, .ref mt, .ref mh, .ref me]))] := hD
  have hK : va_K (dC, dI) vwCl [(kI, .int), (kL, .long), (kO, .object "java/lang/Object"), (kT, .object "HornbookModel$Tree"), (kL, .long)] s := by simpa using hK
  have hw_10 : r_9 = u_8 ∧ u_7 = (if y1 < 0 ∨ 3 < y1 then 1 else 0) ∧ (u_7 = 0 → u_8 = (if y1 = 1 then 3 else 0)) := hw_10
  obtain ⟨hw_10, hp_11, hp_12⟩ := hw_10
  have hw_10 := hw_10.symm
  subst hw_10
  refine lv_istore (lv' := [(6, .int u_8), (5, .int u_1), (4, .int 0), (3, .ref ou), (2, .ref mm), (1, .ref hh), (0, .ref b)]) hx hb dL_law_905 hl (by decide) rfl (fun ls hl => ?_)
  have hk9 : u_1 = u_7 := hp_5.trans hp_11.symm
  subst hk9
  refine lv_aload_n hx hb dL_law_907 rfl (lv_at hl 4 rfl) ?_
  refine z_i (wr := [(achoo, .inr (3, [.ref aroom, .ref ameth, .ref acand, .ref ahint, .int 0, .int (-1), .int 0, .int 0, .null])), (anod, .inr (7, [.ref nm, .ref nl, .ref n1, .ref n2, .ref nf, .ref ns, .ref nh, .ref nk, .ref np, .int 16, .int 0, .int 16, .int 0, .int 0])), (apair, .inr (8, [.ref apsl, .int 0, .int 0])), (asize, .inr (10, [.ref azsl, .int 0])), (anote, .inr (5, [.ref af1, .ref af2, .ref af3, .int 0])), (astep, .inr (1, [.int 0, .ref eD, .int 0])), (atold, .inl (kI, 60, .inl zTold)), (ns, .inl (kL, 1024, .inr (.inl zSec))), (nf, .inl (kL, 1024, .inr (.inl zFir))), (nm, .inl (kI, 12, .inl (fun _ => 0))), (nl, .inl (kI, 12, .inl (fun _ => 0))), (n1, .inl (kI, 12, .inl (fun _ => 0))), (n2, .inl (kI, 12, .inl (fun _ => 0))), (apsl, .inl (kL, 512, .inr (.inl (fun _ => 0)))), (azsl, .inl (kL, 0, .inr (.inl (fun _ => 0)))), (ou, .inl (kL, 1, .inr (.inl u_2)))]) (va_runV (As := []) (rest := []) ⟨hx, hb, hml, hown, hts⟩ (c_M_thrown l eD eI ad dC dI H.size mm ((.ref ms)) ((.ref mt)) ((.ref mh)) ((.ref me)) u_1) (cwV 0 hts gl_c_M_thrown rfl rfl rfl (by decide +kernel) ⟨Nat.le_of_ble_eq_true rfl, Nat.le_of_ble_eq_true rfl⟩) (z_preV (wc := [(mm, .inr (21, [.int u_1, .ref ms, .ref mt, .ref mh, .ref me]))]) hP hD hK hS hA hE [16] [] rfl (by decide) rfl (ci := 21) (q0 := 0) rfl rfl) rfl rfl hl.1 rfl (lv_room (Nat.le_of_ble_eq_true rfl)) dL_law_908 ⟨Nat.le_of_ble_eq_true rfl, Nat.le_of_ble_eq_true rfl⟩) hP hD hK hS hA [16] [0, 1, 2, 3, 4, 5, 6, 7, 8, 9, 10, 11, 12, 13, 14, 15] rfl rfl (by decide) (by decide) (fun r_13 u H locs hw_14 hP hD hK hS => ?_)
  obtain ⟨⟩ := u
  have hP : va_P (dC, dI) vwCl [(achoo, .inr (3, [.ref aroom, .ref ameth, .ref acand, .ref ahint, .int 0, .int (-1), .int 0, .int 0, .null])), (anod, .inr (7, [.ref nm, .ref nl, .ref n1, .ref n2, .ref nf, .ref ns, .ref nh, .ref nk, .ref np, .int 16, .int 0, .int 16, .int 0, .int 0])), (apair, .inr (8, [.ref apsl, .int 0, .int 0])), (asize, .inr (10, [.ref azsl, .int 0])), (anote, .inr (5, [.ref af1, .ref af2, .ref af3, .int 0])), (astep, .inr (1, [.int 0, .ref eD, .int 0])), (atold, .inl (kI, 60, .inl zTold)), (ns, .inl (kL, 1024, .inr (.inl zSec))), (nf, .inl (kL, 1024, .inr (.inl zFir))), (nm, .inl (kI, 12, .inl (fun _ => 0))), (nl, .inl (kI, 12, .inl (fun _ => 0))), (n1, .inl (kI, 12, .inl (fun _ => 0))), (n2, .inl (kI, 12, .inl (fun _ => 0))), (apsl, .inl (kL, 512, .inr (.inl (fun _ => 0)))), (azsl, .inl (kL, 0, .inr (.inl (fun _ => 0)))), (ou, .inl (kL, 1, .inr (.inl u_2))), (mm, .inr (21, [.int u_1, .ref ms, .ref mt, .ref mh, .ref me]))] H := hP
  have hD : va_D A [(achoo, .inr (3, [.ref aroom, .ref ameth, .ref acand, .ref ahint, .int 0, .int (-1), .int 0, .int 0, .null])), (anod, .inr (7, [.ref nm, .ref nl, .ref n1, .ref n2, .ref nf, .ref ns, .ref nh, .ref nk, .ref np, .int 16, .int 0, .int 16, .int 0, .int 0])), (apair, .inr (8, [.ref apsl, .int 0, .int 0])), (asize, .inr (10, [.ref azsl, .int 0])), (anote, .inr (5, [.ref af1, .ref af2, .ref af3, .int 0])), (astep, .inr (1, [.int 0, .ref eD, .int 0])), (atold, .inl (kI, 60, .inl zTold)), (ns, .inl (kL, 1024, .inr (.inl zSec))), (nf, .inl (kL, 1024, .inr (.inl zFir))), (nm, .inl (kI, 12, .inl (fun _ => 0))), (nl, .inl (kI, 12, .inl (fun _ => 0))), (n1, .inl (kI, 12, .inl (fun _ => 0))), (n2, .inl (kI, 12, .inl (fun _ => 0))), (apsl, .inl (kL, 512, .inr (.inl (fun _ => 0)))), (azsl, .inl (kL, 0, .inr (.inl (fun _ => 0)))), (ou, .inl (kL, 1, .inr (.inl u_2))), (mm, .inr (21, [.int u_1, .ref ms, .ref mt, .ref mh, .ref me]))] := hD
  have hK : va_K (dC, dI) vwCl [(kI, .int), (kL, .long), (kO, .object "java/lang/Object"), (kT, .object "HornbookModel$Tree"), (kL, .long)] s := by simpa using hK
  have hw_14 : r_13 = u_1 := hw_14
  have hw_14 := hw_14.symm
  subst hw_14
  refine lv_iload hx hb dL_law_911 (lv_at hl 1 rfl) ?_
  refine lv_icmp_eq (tgt := 918) hx hb dL_law_913 (by decide) (fun c_15 => ?_) (fun c_15 => ?_)
  rotate_left
  · exact absurd rfl c_15
  refine lv_iload hx hb dL_law_918 (lv_at hl 1 rfl) ?_
  refine lv_if_ne (tgt := 935) hx hb dL_law_920 (by decide) (fun c_16 => ?_) (fun c_16 => ?_)
  · refine lv_goto (tgt := 2196) hx hb dL_law_935 (by decide) ?_
    exact law_tail l Z hS (lv_sub hl [2, 6] rfl) (Nat.le_of_ble_eq_true rfl) (Nat.le_of_ble_eq_true rfl)
  · refine lv_aload_n hx hb dL_law_923 rfl (lv_at hl 3 rfl) ?_
    have hf9 := hp_6 c_16
    have hv9 := hp_12 c_16
    refine lv_iconst (v := 0) hx hb dL_law_924 (by decide) ?_
    refine va_lald (D := (dC, dI)) hx hb hK hP 15 1 rfl rfl (by unfold vp_in; decide) dL_law_925 ?_
    refine lv_iload hx hb dL_law_926 (lv_at hl 0 rfl) ?_
    refine lv_i2l (v := u_8.toInt64) hx hb dL_law_928 rfl ?_
    refine W.lcmp hx hb dL_law_929 ?_
    refine z_top (v' := .int 0) (congrArg Value.int (by rw [hf9, hv9]; exact z_cmp0 _)) ?_
    refine lv_if_eq (tgt := 935) hx hb dL_law_930 (by decide) (fun c_17 => ?_) (fun c_17 => ?_)
    rotate_left
    · exact absurd (by decide) c_17
    refine lv_goto (tgt := 2196) hx hb dL_law_935 (by decide) ?_
    exact law_tail l Z hS (lv_sub hl [2, 6] rfl) (Nat.le_of_ble_eq_true rfl) (Nat.le_of_ble_eq_true rfl)

set_option maxHeartbeats 4000000 in
set_option maxRecDepth 100000 in
theorem law_case_10 {p : Program} {e : Env} {s : State} {m : MethodId} {below : List Frame} {meth : Method} {c : Code} (l : Launch) {b : Nat} {xs : Nat → Int32} {A : Nat → Prop} {eD eI : Nat} {ad : Nat → Nat} (Z : zLaw l p s m meth c b xs A eD eI ad) (y1 : Int32) (hy1 : xs (1 : Int32).toNatClampNeg = y1) (y2 : Int32) (hy2 : xs (2 : Int32).toNatClampNeg = y2) (y3 : Int32) (hy3 : xs (3 : Int32).toNatClampNeg = y3) (y4 : Int32) (hy4 : xs (4 : Int32).toNatClampNeg = y4) (y5 : Int32) (hy5 : xs (5 : Int32).toNatClampNeg = y5) (y6 : Int32) (hy6 : xs (6 : Int32).toNatClampNeg = y6) (dC : Nat → ClassId) (dI : Nat → Nat → Nat) (hh : Nat) (aexpr : Nat) (achoo : Nat) (ameth : Nat) (aroom : Nat) (anod : Nat) (asort : Nat) (anote : Nat) (amet : Nat) (atold : Nat) (aheld : Nat) (apair : Nat) (astep : Nat) (asize : Nat) (nm : Nat) (nl : Nat) (n1 : Nat) (n2 : Nat) (nf : Nat) (ns : Nat) (nh : Nat) (nk : Nat) (np : Nat) (apsl : Nat) (azsl : Nat) (acand : Nat) (ahint : Nat) (af1 : Nat) (af2 : Nat) (af3 : Nat) (ou : Nat) (mm : Nat) (ms : Nat) (mt : Nat) (mh : Nat) (me : Nat) (ma : Nat) (t0 : Nat) (t1 : Nat) (t2 : Nat) (i0 : Nat) (i1 : Nat) (i2 : Nat) (kI : ClassId) (kL : ClassId) (kO : ClassId) (kT : ClassId) (mo : Int32) (fo : Nat → Int64) {H : Heap} {locs : List Loc} {ls : Array Slot} (hP : va_P (dC, dI) vwCl [(hh, .inr (13, [.ref aexpr, .ref achoo, .ref ameth, .ref aroom, .ref anod, .ref asort, .ref anote, .ref amet, .int 0, .int 1])), (achoo, .inr (3, [.ref aroom, .ref ameth, .ref acand, .ref ahint, .int 0, .int (-1), .int 0, .int 0, .null])), (aroom, .inr (9, [.ref asort, .ref anod, .ref atold, .int 3, .ref aheld, .int 0, .ref apair, .ref astep, .int 0, .int 0, .int (-1), .int 0, .int 0, .ref asize])), (anod, .inr (7, [.ref nm, .ref nl, .ref n1, .ref n2, .ref nf, .ref ns, .ref nh, .ref nk, .ref np, .int 16, .int 0, .int 16, .int 0, .int 0])), (apair, .inr (8, [.ref apsl, .int 0, .int 0])), (asize, .inr (10, [.ref azsl, .int 0])), (anote, .inr (5, [.ref af1, .ref af2, .ref af3, .int 0])), (aexpr, .inr (1, [.int 0, .ref eD, .int 0])), (ameth, .inr (1, [.int 0, .ref eD, .int 0])), (asort, .inr (1, [.int 0, .ref eD, .int 0])), (astep, .inr (1, [.int 0, .ref eD, .int 0])), (atold, .inl (kI, 60, .inl zTold)), (ns, .inl (kL, 1024, .inr (.inl zSec))), (nf, .inl (kL, 1024, .inr (.inl zFir))), (nm, .inl (kI, 12, .inl (fun _ => 0))), (nl, .inl (kI, 12, .inl (fun _ => 0))), (n1, .inl (kI, 12, .inl (fun _ => 0))), (n2, .inl (kI, 12, .inl (fun _ => 0))), (apsl, .inl (kL, 512, .inr (.inl (fun _ => 0)))), (azsl, .inl (kL, 0, .inr (.inl (fun _ => 0)))), (mm, .inr (21, [.int 0, .ref ms, .ref mt, .ref mh, .ref me])), (ms, .inr (1, [.int 0, .ref eD, .int 0])), (mt, .inr (1, [.int mo, .ref ma, .int 3])), (mh, .inr (1, [.int 0, .ref eD, .int 0])), (me, .inr (1, [.int 0, .ref eD, .int 0])), (ma, .inl (kO, 10, .inr (.inr (.inr (.inr (zfT t0 t1 t2)))))), (t0, .inr (18, [.int (-1), .ref i0])), (t1, .inr (18, [.int (-2), .ref i1])), (t2, .inr (18, [.int (-3), .ref i2])), (i0, .inl (kT, 0, .inr (.inr (.inr (.inr (fun _ => none)))))), (i1, .inl (kT, 0, .inr (.inr (.inr (.inr (fun _ => none)))))), (i2, .inl (kT, 0, .inr (.inr (.inr (.inr (fun _ => none)))))), (ou, .inl (kL, 1, .inr (.inl fo)))] H) (hD : va_D A [(hh, .inr (13, [.ref aexpr, .ref achoo, .ref ameth, .ref aroom, .ref anod, .ref asort, .ref anote, .ref amet, .int 0, .int 1])), (achoo, .inr (3, [.ref aroom, .ref ameth, .ref acand, .ref ahint, .int 0, .int (-1), .int 0, .int 0, .null])), (aroom, .inr (9, [.ref asort, .ref anod, .ref atold, .int 3, .ref aheld, .int 0, .ref apair, .ref astep, .int 0, .int 0, .int (-1), .int 0, .int 0, .ref asize])), (anod, .inr (7, [.ref nm, .ref nl, .ref n1, .ref n2, .ref nf, .ref ns, .ref nh, .ref nk, .ref np, .int 16, .int 0, .int 16, .int 0, .int 0])), (apair, .inr (8, [.ref apsl, .int 0, .int 0])), (asize, .inr (10, [.ref azsl, .int 0])), (anote, .inr (5, [.ref af1, .ref af2, .ref af3, .int 0])), (aexpr, .inr (1, [.int 0, .ref eD, .int 0])), (ameth, .inr (1, [.int 0, .ref eD, .int 0])), (asort, .inr (1, [.int 0, .ref eD, .int 0])), (astep, .inr (1, [.int 0, .ref eD, .int 0])), (atold, .inl (kI, 60, .inl zTold)), (ns, .inl (kL, 1024, .inr (.inl zSec))), (nf, .inl (kL, 1024, .inr (.inl zFir))), (nm, .inl (kI, 12, .inl (fun _ => 0))), (nl, .inl (kI, 12, .inl (fun _ => 0))), (n1, .inl (kI, 12, .inl (fun _ => 0))), (n2, .inl (kI, 12, .inl (fun _ => 0))), (apsl, .inl (kL, 512, .inr (.inl (fun _ => 0)))), (azsl, .inl (kL, 0, .inr (.inl (fun _ => 0)))), (mm, .inr (21, [.int 0, .ref ms, .ref mt, .ref mh, .ref me])), (ms, .inr (1, [.int 0, .ref eD, .int 0])), (mt, .inr (1, [.int mo, .ref ma, .int 3])), (mh, .inr (1, [.int 0, .ref eD, .int 0])), (me, .inr (1, [.int 0, .ref eD, .int 0])), (ma, .inl (kO, 10, .inr (.inr (.inr (.inr (zfT t0 t1 t2)))))), (t0, .inr (18, [.int (-1), .ref i0])), (t1, .inr (18, [.int (-2), .ref i1])), (t2, .inr (18, [.int (-3), .ref i2])), (i0, .inl (kT, 0, .inr (.inr (.inr (.inr (fun _ => none)))))), (i1, .inl (kT, 0, .inr (.inr (.inr (.inr (fun _ => none)))))), (i2, .inl (kT, 0, .inr (.inr (.inr (.inr (fun _ => none)))))), (ou, .inl (kL, 1, .inr (.inl fo)))]) (hK : va_K (dC, dI) vwCl [(kI, .int), (kL, .long), (kO, .object "java/lang/Object"), (kT, .object "HornbookModel$Tree")] s) (hS : va_S A s.heap H locs) (hl : lv_has ls 9 [(4, .int 0), (3, .ref ou), (2, .ref mm), (1, .ref hh), (0, .ref b)]) : W p l e room_1 s m #[Value.ref b] below meth c H locs 74 3613 (lw_Z below #[Value.ref b] s) (F0 m 938 ls []) := by
  obtain ⟨hfl, hx, hb, hr, hml, hown, hts, hX, hbl, hbA, hlocks, hE, hA, hAs, hDc⟩ := id Z
  have in_RJx4a65c : ∀ w ∈ u_ws RJx4a65c TJx4a65c 3, w ∈ lw_tbl := by decide +kernel
  have in_RX11 : ∀ w ∈ u_ws RX11 TX11 10, w ∈ lw_tbl := by decide +kernel
  have in_RX16 : ∀ w ∈ u_ws RX16 TX16 2, w ∈ lw_tbl := by decide +kernel
  have in_RX19 : ∀ w ∈ u_ws RX19 TX19 5, w ∈ lw_tbl := by decide +kernel
  have in_RX5 : ∀ w ∈ u_ws RX5 TX5 14, w ∈ lw_tbl := by decide +kernel
  have in_RX7 : ∀ w ∈ u_ws RX7 TX7 14, w ∈ lw_tbl := by decide +kernel
  refine lv_aload_n hx hb dL_law_938 rfl (lv_at hl 3 rfl) ?_
  refine lv_aload_n hx hb dL_law_939 rfl (lv_at hl 4 rfl) ?_
  refine lv_iload hx hb dL_law_940 (lv_at hl 0 rfl) ?_
  refine lv_iconst (v := 1) hx hb dL_law_942 (by decide) ?_
  refine lv_iadd hx hb dL_law_943 ?_
  refine z_top (v' := .int 1) (congrArg Value.int (by decide)) ?_
  refine va_sld hx hb hX hbl hbA hS (by unfold vp_in; decide) dL_law_944 ?_
  refine z_top (v' := .int y1) (congrArg Value.int hy1) ?_
  refine lv_aload_n hx hb dL_law_945 rfl (lv_at hl 1 rfl) ?_
  refine zx_i (wr := [(achoo, .inr (3, [.ref aroom, .ref ameth, .ref acand, .ref ahint, .int 0, .int (-1), .int 0, .int 0, .null])), (apair, .inr (8, [.ref apsl, .int 0, .int 0])), (asize, .inr (10, [.ref azsl, .int 0])), (anote, .inr (5, [.ref af1, .ref af2, .ref af3, .int 0])), (aexpr, .inr (1, [.int 0, .ref eD, .int 0])), (ameth, .inr (1, [.int 0, .ref eD, .int 0])), (asort, .inr (1, [.int 0, .ref eD, .int 0])), (astep, .inr (1, [.int 0, .ref eD, .int 0])), (nf, .inl (kL, 1024, .inr (.inl zFir))), (nm, .inl (kI, 12, .inl (fun _ => 0))), (nl, .inl (kI, 12, .inl (fun _ => 0))), (n1, .inl (kI, 12, .inl (fun _ => 0))), (n2, .inl (kI, 12, .inl (fun _ => 0))), (apsl, .inl (kL, 512, .inr (.inl (fun _ => 0)))), (azsl, .inl (kL, 0, .inr (.inl (fun _ => 0)))), (mm, .inr (21, [.int 0, .ref ms, .ref mt, .ref mh, .ref me])), (ms, .inr (1, [.int 0, .ref eD, .int 0])), (mt, .inr (1, [.int mo, .ref ma, .int 3])), (mh, .inr (1, [.int 0, .ref eD, .int 0])), (me, .inr (1, [.int 0, .ref eD, .int 0])), (ma, .inl (kO, 10, .inr (.inr (.inr (.inr (zfT t0 t1 t2)))))), (t0, .inr (18, [.int (-1), .ref i0])), (t1, .inr (18, [.int (-2), .ref i1])), (t2, .inr (18, [.int (-3), .ref i2])), (i0, .inl (kT, 0, .inr (.inr (.inr (.inr (fun _ => none)))))), (i1, .inl (kT, 0, .inr (.inr (.inr (.inr (fun _ => none)))))), (i2, .inl (kT, 0, .inr (.inr (.inr (.inr (fun _ => none))))))]) (vx_runSX (As := [.ref hh, .int y1, .ref ou]) (rest := []) ⟨hx, hb, hml, hown, hts⟩ (c_L_depth l hfl eD eI ad dC dI H.size hh aexpr achoo ameth aroom anod asort anote amet atold aheld apair astep asize nm nl n1 n2 nf ns nh nk np ou kI kL y1 fo) (vx_cwSW 3 hts gl_c_L_depth rfl rfl rfl (by decide +kernel) ⟨Nat.le_of_ble_eq_true rfl, Nat.le_of_ble_eq_true rfl⟩) (z_preSD (wc := [(hh, .inr (13, [.ref aexpr, .ref achoo, .ref ameth, .ref aroom, .ref anod, .ref asort, .ref anote, .ref amet, .int 0, .int 1])), (aroom, .inr (9, [.ref asort, .ref anod, .ref atold, .int 3, .ref aheld, .int 0, .ref apair, .ref astep, .int 0, .int 0, .int (-1), .int 0, .int 0, .ref asize])), (atold, .inl (kI, 60, .inl zTold)), (anod, .inr (7, [.ref nm, .ref nl, .ref n1, .ref n2, .ref nf, .ref ns, .ref nh, .ref nk, .ref np, .int 16, .int 0, .int 16, .int 0, .int 0])), (ns, .inl (kL, 1024, .inr (.inl zSec))), (ou, .inl (kL, 1, .inr (.inl fo)))]) hP hD hK hS hA hE [0, 2, 11, 3, 12, 32] [0, 1] rfl (by decide) rfl hDc) rfl rfl hl.1 rfl (lv_room (Nat.le_of_ble_eq_true rfl)) dL_law_946 ⟨Nat.le_of_ble_eq_true rfl, Nat.le_of_ble_eq_true rfl⟩) hP hD hK hS hA [0, 2, 11, 3, 12, 32] [1, 4, 5, 6, 7, 8, 9, 10, 13, 14, 15, 16, 17, 18, 19, 20, 21, 22, 23, 24, 25, 26, 27, 28, 29, 30, 31] rfl rfl (by decide) (by decide) (fun E ce q9 H locs hbad hP hD hS h91 h92 h93 => ?_) (fun r_3 u H locs hw_4 hP hD hK hS => ?_)
  · exact absurd hbad id
  obtain ⟨u_1, u_2⟩ := u
  have hP : va_P (dC, dI) vwCl [(achoo, .inr (3, [.ref aroom, .ref ameth, .ref acand, .ref ahint, .int 0, .int (-1), .int 0, .int 0, .null])), (apair, .inr (8, [.ref apsl, .int 0, .int 0])), (asize, .inr (10, [.ref azsl, .int 0])), (anote, .inr (5, [.ref af1, .ref af2, .ref af3, .int 0])), (aexpr, .inr (1, [.int 0, .ref eD, .int 0])), (ameth, .inr (1, [.int 0, .ref eD, .int 0])), (asort, .inr (1, [.int 0, .ref eD, .int 0])), (astep, .inr (1, [.int 0, .ref eD, .int 0])), (nf, .inl (kL, 1024, .inr (.inl zFir))), (nm, .inl (kI, 12, .inl (fun _ => 0))), (nl, .inl (kI, 12, .inl (fun _ => 0))), (n1, .inl (kI, 12, .inl (fun _ => 0))), (n2, .inl (kI, 12, .inl (fun _ => 0))), (apsl, .inl (kL, 512, .inr (.inl (fun _ => 0)))), (azsl, .inl (kL, 0, .inr (.inl (fun _ => 0)))), (mm, .inr (21, [.int 0, .ref ms, .ref mt, .ref mh, .ref me])), (ms, .inr (1, [.int 0, .ref eD, .int 0])), (mt, .inr (1, [.int mo, .ref ma, .int 3])), (mh, .inr (1, [.int 0, .ref eD, .int 0])), (me, .inr (1, [.int 0, .ref eD, .int 0])), (ma, .inl (kO, 10, .inr (.inr (.inr (.inr (zfT t0 t1 t2)))))), (t0, .inr (18, [.int (-1), .ref i0])), (t1, .inr (18, [.int (-2), .ref i1])), (t2, .inr (18, [.int (-3), .ref i2])), (i0, .inl (kT, 0, .inr (.inr (.inr (.inr (fun _ => none)))))), (i1, .inl (kT, 0, .inr (.inr (.inr (.inr (fun _ => none)))))), (i2, .inl (kT, 0, .inr (.inr (.inr (.inr (fun _ => none)))))), (ou, .inl (kL, 1, .inr (.inl u_2)))] H := hP
  have hD : va_D A [(achoo, .inr (3, [.ref aroom, .ref ameth, .ref acand, .ref ahint, .int 0, .int (-1), .int 0, .int 0, .null])), (apair, .inr (8, [.ref apsl, .int 0, .int 0])), (asize, .inr (10, [.ref azsl, .int 0])), (anote, .inr (5, [.ref af1, .ref af2, .ref af3, .int 0])), (aexpr, .inr (1, [.int 0, .ref eD, .int 0])), (ameth, .inr (1, [.int 0, .ref eD, .int 0])), (asort, .inr (1, [.int 0, .ref eD, .int 0])), (astep, .inr (1, [.int 0, .ref eD, .int 0])), (nf, .inl (kL, 1024, .inr (.inl zFir))), (nm, .inl (kI, 12, .inl (fun _ => 0))), (nl, .inl (kI, 12, .inl (fun _ => 0))), (n1, .inl (kI, 12, .inl (fun _ => 0))), (n2, .inl (kI, 12, .inl (fun _ => 0))), (apsl, .inl (kL, 512, .inr (.inl (fun _ => 0)))), (azsl, .inl (kL, 0, .inr (.inl (fun _ => 0)))), (mm, .inr (21, [.int 0, .ref ms, .ref mt, .ref mh, .ref me])), (ms, .inr (1, [.int 0, .ref eD, .int 0])), (mt, .inr (1, [.int mo, .ref ma, .int 3])), (mh, .inr (1, [.int 0, .ref eD, .int 0])), (me, .inr (1, [.int 0, .ref eD, .int 0])), (ma, .inl (kO, 10, .inr (.inr (.inr (.inr (zfT t0 t1 t2)))))), (t0, .inr (18, [.int (-1), .ref i0])), (t1, .inr (18, [.int (-2), .ref i1])), (t2, .inr (18, [.int (-3), .ref i2])), (i0, .inl (kT, 0, .inr (.inr (.inr (.inr (fun _ => none)))))), (i1, .inl (kT, 0, .inr (.inr (.inr (.inr (fun _ => none)))))), (i2, .inl (kT, 0, .inr (.inr (.inr (.inr (fun _ => none)))))), (ou, .inl (kL, 1, .inr (.inl u_2)))] := hD
  have hK : va_K (dC, dI) vwCl [(kI, .int), (kL, .long), (kO, .object "java/lang/Object"), (kT, .object "HornbookModel$Tree"), (kL, .long)] s := hK
  have hw_4 : r_3 = u_1 ∧ u_1 = (if y1 < 0 ∨ 2 < y1 then 1 else 0) ∧ (u_1 = 0 → u_2 (0 : Int32).toNatClampNeg = (0 : Int32).toInt64) := hw_4
  obtain ⟨hw_4, hp_5, hp_6⟩ := hw_4
  have hw_4 := hw_4.symm
  subst hw_4
  refine lv_istore (lv' := [(5, .int u_1), (4, .int 0), (3, .ref ou), (2, .ref mm), (1, .ref hh), (0, .ref b)]) hx hb dL_law_949 hl (by decide) rfl (fun ls hl => ?_)
  refine lv_aload_n hx hb dL_law_951 rfl (lv_at hl 3 rfl) ?_
  refine lv_aload_n hx hb dL_law_952 rfl (lv_at hl 5 rfl) ?_
  refine lv_iload hx hb dL_law_953 (lv_at hl 1 rfl) ?_
  refine lv_iconst (v := 1) hx hb dL_law_955 (by decide) ?_
  refine lv_iadd hx hb dL_law_956 ?_
  refine z_top (v' := .int 1) (congrArg Value.int (by decide)) ?_
  refine va_sld hx hb hX hbl hbA hS (by unfold vp_in; decide) dL_law_957 ?_
  refine z_top (v' := .int y1) (congrArg Value.int hy1) ?_
  refine z_i (wr := [(achoo, .inr (3, [.ref aroom, .ref ameth, .ref acand, .ref ahint, .int 0, .int (-1), .int 0, .int 0, .null])), (apair, .inr (8, [.ref apsl, .int 0, .int 0])), (asize, .inr (10, [.ref azsl, .int 0])), (anote, .inr (5, [.ref af1, .ref af2, .ref af3, .int 0])), (aexpr, .inr (1, [.int 0, .ref eD, .int 0])), (ameth, .inr (1, [.int 0, .ref eD, .int 0])), (asort, .inr (1, [.int 0, .ref eD, .int 0])), (astep, .inr (1, [.int 0, .ref eD, .int 0])), (nf, .inl (kL, 1024, .inr (.inl zFir))), (nm, .inl (kI, 12, .inl (fun _ => 0))), (nl, .inl (kI, 12, .inl (fun _ => 0))), (n1, .inl (kI, 12, .inl (fun _ => 0))), (n2, .inl (kI, 12, .inl (fun _ => 0))), (apsl, .inl (kL, 512, .inr (.inl (fun _ => 0)))), (azsl, .inl (kL, 0, .inr (.inl (fun _ => 0)))), (ou, .inl (kL, 1, .inr (.inl u_2)))]) (va_runV (As := [.int y1]) (rest := []) ⟨hx, hb, hml, hown, hts⟩ (c_M_depth l eD eI ad dC dI H.size mm ms mt mh me mo ma kO kT t0 t1 t2 i0 i1 i2 0 y1) (cwV 1 hts gl_c_M_depth rfl rfl rfl (by decide +kernel) ⟨Nat.le_of_ble_eq_true rfl, Nat.le_of_ble_eq_true rfl⟩) (z_preV (wc := [(mm, .inr (21, [.int 0, .ref ms, .ref mt, .ref mh, .ref me])), (ms, .inr (1, [.int 0, .ref eD, .int 0])), (mt, .inr (1, [.int mo, .ref ma, .int 3])), (mh, .inr (1, [.int 0, .ref eD, .int 0])), (me, .inr (1, [.int 0, .ref eD, .int 0])), (ma, .inl (kO, 10, .inr (.inr (.inr (.inr (zfT t0 t1 t2)))))), (t0, .inr (18, [.int (-1), .ref i0])), (t1, .inr (18, [.int (-2), .ref i1])), (t2, .inr (18, [.int (-3), .ref i2])), (i0, .inl (kT, 0, .inr (.inr (.inr (.inr (fun _ => none)))))), (i1, .inl (kT, 0, .inr (.inr (.inr (.inr (fun _ => none)))))), (i2, .inl (kT, 0, .inr (.inr (.inr (.inr (fun _ => none))))))]) hP hD hK hS hA hE [15, 16, 17, 18, 19, 20, 21, 22, 23, 24, 25, 26] [2, 3] rfl (by decide) rfl (ci := 21) (q0 := 0) rfl rfl) rfl rfl hl.1 rfl (lv_room (Nat.le_of_ble_eq_true rfl)) dL_law_958 ⟨Nat.le_of_ble_eq_true rfl, Nat.le_of_ble_eq_true rfl⟩) hP hD hK hS hA [15, 16, 17, 18, 19, 20, 21, 22, 23, 24, 25, 26] [0, 1, 2, 3, 4, 5, 6, 7, 8, 9, 10, 11, 12, 13, 14, 27] rfl rfl (by decide) (by decide) (fun r_9 u H locs hw_10 hP hD hK hS => ?_)
  obtain ⟨u_7, u_8⟩ := u
  have hP : va_P (dC, dI) vwCl [(achoo, .inr (3, [.ref aroom, .ref ameth, .ref acand, .ref ahint, .int 0, .int (-1), .int 0, .int 0, .null])), (apair, .inr (8, [.ref apsl, .int 0, .int 0])), (asize, .inr (10, [.ref azsl, .int 0])), (anote, .inr (5, [.ref af1, .ref af2, .ref af3, .int 0])), (aexpr, .inr (1, [.int 0, .ref eD, .int 0])), (ameth, .inr (1, [.int 0, .ref eD, .int 0])), (asort, .inr (1, [.int 0, .ref eD, .int 0])), (astep, .inr (1, [.int 0, .ref eD, .int 0])), (nf, .inl (kL, 1024, .inr (.inl zFir))), (nm, .inl (kI, 12, .inl (fun _ => 0))), (nl, .inl (kI, 12, .inl (fun _ => 0))), (n1, .inl (kI, 12, .inl (fun _ => 0))), (n2, .inl (kI, 12, .inl (fun _ => 0))), (apsl, .inl (kL, 512, .inr (.inl (fun _ => 0)))), (azsl, .inl (kL, 0, .inr (.inl (fun _ => 0)))), (ou, .inl (kL, 1, .inr (.inl u_2))), (mm, .inr (21, [.int u_7, .ref ms, .ref mt, .ref mh, .ref me]))] H := hP
  have hD : va_D A [(achoo, .inr (3, [.ref aroom, .ref ameth, .ref acand, .ref ahint, .int 0, .int (-1), .int 0, .int 0, .null])), (apair, .inr (8, [.ref apsl, .int 0, .int 0])), (asize, .inr (10, [.ref azsl, .int 0])), (anote, .inr (5, [.ref af1, .ref af2, .ref af3, .int 0])), (aexpr, .inr (1, [.int 0, .ref eD, .int 0])), (ameth, .inr (1, [.int 0, .ref eD, .int 0])), (asort, .inr (1, [.int 0, .ref eD, .int 0])), (astep, .inr (1, [.int 0, .ref eD, .int 0])), (nf, .inl (kL, 1024, .inr (.inl zFir))), (nm, .inl (kI, 12, .inl (fun _ => 0))), (nl, .inl (kI, 12, .inl (fun _ => 0))), (n1, .inl (kI, 12, .inl (fun _ => 0))), (n2, .inl (kI, 12, .inl (fun _ => 0))), (apsl, .inl (kL, 512, .inr (.inl (fun _ => 0)))), (azsl, .inl (kL, 0, .inr (.inl (fun _ => 0)))), (ou, .inl (kL, 1, .inr (.inl u_2))), (mm, .inr (21, [.int u_7, .ref ms, .ref mt, .ref mh, .ref me]))] := hD
  have hK : va_K (dC, dI) vwCl [(kI, .int), (kL, .long), (kO, .object "java/lang/Object"), (kT, .object "HornbookModel$Tree"), (kL, .long)] s := by simpa using hK
  have hw_10 : r_9 = u_8 ∧ u_7 = (if y1 < 0 ∨ 2 < y1 then 1 else 0) ∧ (u_7 = 0 → u_8 = 0) := hw_10
  obtain ⟨hw_10, hp_11, hp_12⟩ := hw_10
  have hw_10 := hw_10.symm
  subst hw_10
  refine lv_istore (lv' := [(6, .int u_8), (5, .int u_1), (4, .int 0), (3, .ref ou), (2, .ref mm), (1, .ref hh), (0, .ref b)]) hx hb dL_law_961 hl (by decide) rfl (fun ls hl => ?_)
  have hk9 : u_1 = u_7 := hp_5.trans hp_11.symm
  subst hk9
  refine lv_aload_n hx hb dL_law_963 rfl (lv_at hl 4 rfl) ?_
  refine z_i (wr := [(achoo, .inr (3, [.ref aroom, .ref ameth, .ref acand, .ref ahint, .int 0, .int (-1), .int 0, .int 0, .null])), (apair, .inr (8, [.ref apsl, .int 0, .int 0])), (asize, .inr (10, [.ref azsl, .int 0])), (anote, .inr (5, [.ref af1, .ref af2, .ref af3, .int 0])), (aexpr, .inr (1, [.int 0, .ref eD, .int 0])), (ameth, .inr (1, [.int 0, .ref eD, .int 0])), (asort, .inr (1, [.int 0, .ref eD, .int 0])), (astep, .inr (1, [.int 0, .ref eD, .int 0])), (nf, .inl (kL, 1024, .inr (.inl zFir))), (nm, .inl (kI, 12, .inl (fun _ => 0))), (nl, .inl (kI, 12, .inl (fun _ => 0))), (n1, .inl (kI, 12, .inl (fun _ => 0))), (n2, .inl (kI, 12, .inl (fun _ => 0))), (apsl, .inl (kL, 512, .inr (.inl (fun _ => 0)))), (azsl, .inl (kL, 0, .inr (.inl (fun _ => 0)))), (ou, .inl (kL, 1, .inr (.inl u_2)))]) (va_runV (As := []) (rest := []) ⟨hx, hb, hml, hown, hts⟩ (c_M_thrown l eD eI ad dC dI H.size mm ((.ref ms)) ((.ref mt)) ((.ref mh)) ((.ref me)) u_1) (cwV 0 hts gl_c_M_thrown rfl rfl rfl (by decide +kernel) ⟨Nat.le_of_ble_eq_true rfl, Nat.le_of_ble_eq_true rfl⟩) (z_preV (wc := [(mm, .inr (21, [.int u_1, .ref ms, .ref mt, .ref mh, .ref me]))]) hP hD hK hS hA hE [16] [] rfl (by decide) rfl (ci := 21) (q0 := 0) rfl rfl) rfl rfl hl.1 rfl (lv_room (Nat.le_of_ble_eq_true rfl)) dL_law_964 ⟨Nat.le_of_ble_eq_true rfl, Nat.le_of_ble_eq_true rfl⟩) hP hD hK hS hA [16] [0, 1, 2, 3, 4, 5, 6, 7, 8, 9, 10, 11, 12, 13, 14, 15] rfl rfl (by decide) (by decide) (fun r_13 u H locs hw_14 hP hD hK hS => ?_)
  obtain ⟨⟩ := u
  have hP : va_P (dC, dI) vwCl [(achoo, .inr (3, [.ref aroom, .ref ameth, .ref acand, .ref ahint, .int 0, .int (-1), .int 0, .int 0, .null])), (apair, .inr (8, [.ref apsl, .int 0, .int 0])), (asize, .inr (10, [.ref azsl, .int 0])), (anote, .inr (5, [.ref af1, .ref af2, .ref af3, .int 0])), (aexpr, .inr (1, [.int 0, .ref eD, .int 0])), (ameth, .inr (1, [.int 0, .ref eD, .int 0])), (asort, .inr (1, [.int 0, .ref eD, .int 0])), (astep, .inr (1, [.int 0, .ref eD, .int 0])), (nf, .inl (kL, 1024, .inr (.inl zFir))), (nm, .inl (kI, 12, .inl (fun _ => 0))), (nl, .inl (kI, 12, .inl (fun _ => 0))), (n1, .inl (kI, 12, .inl (fun _ => 0))), (n2, .inl (kI, 12, .inl (fun _ => 0))), (apsl, .inl (kL, 512, .inr (.inl (fun _ => 0)))), (azsl, .inl (kL, 0, .inr (.inl (fun _ => 0)))), (ou, .inl (kL, 1, .inr (.inl u_2))), (mm, .inr (21, [.int u_1, .ref ms, .ref mt, .ref mh, .ref me]))] H := hP
  have hD : va_D A [(achoo, .inr (3, [.ref aroom, .ref ameth, .ref acand, .ref ahint, .int 0, .int (-1), .int 0, .int 0, .null])), (apair, .inr (8, [.ref apsl, .int 0, .int 0])), (asize, .inr (10, [.ref azsl, .int 0])), (anote, .inr (5, [.ref af1, .ref af2, .ref af3, .int 0])), (aexpr, .inr (1, [.int 0, .ref eD, .int 0])), (ameth, .inr (1, [.int 0, .ref eD, .int 0])), (asort, .inr (1, [.int 0, .ref eD, .int 0])), (astep, .inr (1, [.int 0, .ref eD, .int 0])), (nf, .inl (kL, 1024, .inr (.inl zFir))), (nm, .inl (kI, 12, .inl (fun _ => 0))), (nl, .inl (kI, 12, .inl (fun _ => 0))), (n1, .inl (kI, 12, .inl (fun _ => 0))), (n2, .inl (kI, 12, .inl (fun _ => 0))), (apsl, .inl (kL, 512, .inr (.inl (fun _ => 0)))), (azsl, .inl (kL, 0, .inr (.inl (fun _ => 0)))), (ou, .inl (kL, 1, .inr (.inl u_2))), (mm, .inr (21, [.int u_1, .ref ms, .ref mt, .ref mh, .ref me]))] := hD
  have hK : va_K (dC, dI) vwCl [(kI, .int), (kL, .long), (kO, .object "java/lang/Object"), (kT, .object "HornbookModel$Tree"), (kL, .long)] s := by simpa using hK
  have hw_14 : r_13 = u_1 := hw_14
  have hw_14 := hw_14.symm
  subst hw_14
  refine lv_iload hx hb dL_law_967 (lv_at hl 1 rfl) ?_
  refine lv_icmp_eq (tgt := 974) hx hb dL_law_969 (by decide) (fun c_15 => ?_) (fun c_15 => ?_)
  rotate_left
  · exact absurd rfl c_15
  refine lv_iload hx hb dL_law_974 (lv_at hl 1 rfl) ?_
  refine lv_if_ne (tgt := 991) hx hb dL_law_976 (by decide) (fun c_16 => ?_) (fun c_16 => ?_)
  · refine lv_goto (tgt := 2196) hx hb dL_law_991 (by decide) ?_
    exact law_tail l Z hS (lv_sub hl [2, 6] rfl) (Nat.le_of_ble_eq_true rfl) (Nat.le_of_ble_eq_true rfl)
  · refine lv_aload_n hx hb dL_law_979 rfl (lv_at hl 3 rfl) ?_
    have hf9 := hp_6 c_16
    have hv9 := hp_12 c_16
    refine lv_iconst (v := 0) hx hb dL_law_980 (by decide) ?_
    refine va_lald (D := (dC, dI)) hx hb hK hP 15 1 rfl rfl (by unfold vp_in; decide) dL_law_981 ?_
    refine lv_iload hx hb dL_law_982 (lv_at hl 0 rfl) ?_
    refine lv_i2l (v := u_8.toInt64) hx hb dL_law_984 rfl ?_
    refine W.lcmp hx hb dL_law_985 ?_
    refine z_top (v' := .int 0) (congrArg Value.int (by rw [hf9, hv9]; exact z_cmp0 _)) ?_
    refine lv_if_eq (tgt := 991) hx hb dL_law_986 (by decide) (fun c_17 => ?_) (fun c_17 => ?_)
    rotate_left
    · exact absurd (by decide) c_17
    refine lv_goto (tgt := 2196) hx hb dL_law_991 (by decide) ?_
    exact law_tail l Z hS (lv_sub hl [2, 6] rfl) (Nat.le_of_ble_eq_true rfl) (Nat.le_of_ble_eq_true rfl)

set_option maxHeartbeats 4000000 in
set_option maxRecDepth 100000 in
theorem law_case_11 {p : Program} {e : Env} {s : State} {m : MethodId} {below : List Frame} {meth : Method} {c : Code} (l : Launch) {b : Nat} {xs : Nat → Int32} {A : Nat → Prop} {eD eI : Nat} {ad : Nat → Nat} (Z : zLaw l p s m meth c b xs A eD eI ad) (y1 : Int32) (hy1 : xs (1 : Int32).toNatClampNeg = y1) (y2 : Int32) (hy2 : xs (2 : Int32).toNatClampNeg = y2) (y3 : Int32) (hy3 : xs (3 : Int32).toNatClampNeg = y3) (y4 : Int32) (hy4 : xs (4 : Int32).toNatClampNeg = y4) (y5 : Int32) (hy5 : xs (5 : Int32).toNatClampNeg = y5) (y6 : Int32) (hy6 : xs (6 : Int32).toNatClampNeg = y6) (dC : Nat → ClassId) (dI : Nat → Nat → Nat) (hh : Nat) (aexpr : Nat) (achoo : Nat) (ameth : Nat) (aroom : Nat) (anod : Nat) (asort : Nat) (anote : Nat) (amet : Nat) (atold : Nat) (aheld : Nat) (apair : Nat) (astep : Nat) (asize : Nat) (nm : Nat) (nl : Nat) (n1 : Nat) (n2 : Nat) (nf : Nat) (ns : Nat) (nh : Nat) (nk : Nat) (np : Nat) (apsl : Nat) (azsl : Nat) (acand : Nat) (ahint : Nat) (af1 : Nat) (af2 : Nat) (af3 : Nat) (ou : Nat) (mm : Nat) (ms : Nat) (mt : Nat) (mh : Nat) (me : Nat) (ma : Nat) (t0 : Nat) (t1 : Nat) (t2 : Nat) (i0 : Nat) (i1 : Nat) (i2 : Nat) (kI : ClassId) (kL : ClassId) (kO : ClassId) (kT : ClassId) (mo : Int32) (fo : Nat → Int64) {H : Heap} {locs : List Loc} {ls : Array Slot} (hP : va_P (dC, dI) vwCl [(hh, .inr (13, [.ref aexpr, .ref achoo, .ref ameth, .ref aroom, .ref anod, .ref asort, .ref anote, .ref amet, .int 0, .int 1])), (achoo, .inr (3, [.ref aroom, .ref ameth, .ref acand, .ref ahint, .int 0, .int (-1), .int 0, .int 0, .null])), (aroom, .inr (9, [.ref asort, .ref anod, .ref atold, .int 3, .ref aheld, .int 0, .ref apair, .ref astep, .int 0, .int 0, .int (-1), .int 0, .int 0, .ref asize])), (anod, .inr (7, [.ref nm, .ref nl, .ref n1, .ref n2, .ref nf, .ref ns, .ref nh, .ref nk, .ref np, .int 16, .int 0, .int 16, .int 0, .int 0])), (apair, .inr (8, [.ref apsl, .int 0, .int 0])), (asize, .inr (10, [.ref azsl, .int 0])), (anote, .inr (5, [.ref af1, .ref af2, .ref af3, .int 0])), (aexpr, .inr (1, [.int 0, .ref eD, .int 0])), (ameth, .inr (1, [.int 0, .ref eD, .int 0])), (asort, .inr (1, [.int 0, .ref eD, .int 0])), (astep, .inr (1, [.int 0, .ref eD, .int 0])), (atold, .inl (kI, 60, .inl zTold)), (ns, .inl (kL, 1024, .inr (.inl zSec))), (nf, .inl (kL, 1024, .inr (.inl zFir))), (nm, .inl (kI, 12, .inl (fun _ => 0))), (nl, .inl (kI, 12, .inl (fun _ => 0))), (n1, .inl (kI, 12, .inl (fun _ => 0))), (n2, .inl (kI, 12, .inl (fun _ => 0))), (apsl, .inl (kL, 512, .inr (.inl (fun _ => 0)))), (azsl, .inl (kL, 0, .inr (.inl (fun _ => 0)))), (mm, .inr (21, [.int 0, .ref ms, .ref mt, .ref mh, .ref me])), (ms, .inr (1, [.int 0, .ref eD, .int 0])), (mt, .inr (1, [.int mo, .ref ma, .int 3])), (mh, .inr (1, [.int 0, .ref eD, .int 0])), (me, .inr (1, [.int 0, .ref eD, .int 0])), (ma, .inl (kO, 10, .inr (.inr (.inr (.inr (zfT t0 t1 t2)))))), (t0, .inr (18, [.int (-1), .ref i0])), (t1, .inr (18, [.int (-2), .ref i1])), (t2, .inr (18, [.int (-3), .ref i2])), (i0, .inl (kT, 0, .inr (.inr (.inr (.inr (fun _ => none)))))), (i1, .inl (kT, 0, .inr (.inr (.inr (.inr (fun _ => none)))))), (i2, .inl (kT, 0, .inr (.inr (.inr (.inr (fun _ => none)))))), (ou, .inl (kL, 1, .inr (.inl fo)))] H) (hD : va_D A [(hh, .inr (13, [.ref aexpr, .ref achoo, .ref ameth, .ref aroom, .ref anod, .ref asort, .ref anote, .ref amet, .int 0, .int 1])), (achoo, .inr (3, [.ref aroom, .ref ameth, .ref acand, .ref ahint, .int 0, .int (-1), .int 0, .int 0, .null])), (aroom, .inr (9, [.ref asort, .ref anod, .ref atold, .int 3, .ref aheld, .int 0, .ref apair, .ref astep, .int 0, .int 0, .int (-1), .int 0, .int 0, .ref asize])), (anod, .inr (7, [.ref nm, .ref nl, .ref n1, .ref n2, .ref nf, .ref ns, .ref nh, .ref nk, .ref np, .int 16, .int 0, .int 16, .int 0, .int 0])), (apair, .inr (8, [.ref apsl, .int 0, .int 0])), (asize, .inr (10, [.ref azsl, .int 0])), (anote, .inr (5, [.ref af1, .ref af2, .ref af3, .int 0])), (aexpr, .inr (1, [.int 0, .ref eD, .int 0])), (ameth, .inr (1, [.int 0, .ref eD, .int 0])), (asort, .inr (1, [.int 0, .ref eD, .int 0])), (astep, .inr (1, [.int 0, .ref eD, .int 0])), (atold, .inl (kI, 60, .inl zTold)), (ns, .inl (kL, 1024, .inr (.inl zSec))), (nf, .inl (kL, 1024, .inr (.inl zFir))), (nm, .inl (kI, 12, .inl (fun _ => 0))), (nl, .inl (kI, 12, .inl (fun _ => 0))), (n1, .inl (kI, 12, .inl (fun _ => 0))), (n2, .inl (kI, 12, .inl (fun _ => 0))), (apsl, .inl (kL, 512, .inr (.inl (fun _ => 0)))), (azsl, .inl (kL, 0, .inr (.inl (fun _ => 0)))), (mm, .inr (21, [.int 0, .ref ms, .ref mt, .ref mh, .ref me])), (ms, .inr (1, [.int 0, .ref eD, .int 0])), (mt, .inr (1, [.int mo, .ref ma, .int 3])), (mh, .inr (1, [.int 0, .ref eD, .int 0])), (me, .inr (1, [.int 0, .ref eD, .int 0])), (ma, .inl (kO, 10, .inr (.inr (.inr (.inr (zfT t0 t1 t2)))))), (t0, .inr (18, [.int (-1), .ref i0])), (t1, .inr (18, [.int (-2), .ref i1])), (t2, .inr (18, [.int (-3), .ref i2])), (i0, .inl (kT, 0, .inr (.inr (.inr (.inr (fun _ => none)))))), (i1, .inl (kT, 0, .inr (.inr (.inr (.inr (fun _ => none)))))), (i2, .inl (kT, 0, .inr (.inr (.inr (.inr (fun _ => none)))))), (ou, .inl (kL, 1, .inr (.inl fo)))]) (hK : va_K (dC, dI) vwCl [(kI, .int), (kL, .long), (kO, .object "java/lang/Object"), (kT, .object "HornbookModel$Tree")] s) (hS : va_S A s.heap H locs) (hl : lv_has ls 9 [(4, .int 0), (3, .ref ou), (2, .ref mm), (1, .ref hh), (0, .ref b)]) : W p l e room_1 s m #[Value.ref b] below meth c H locs 74 3613 (lw_Z below #[Value.ref b] s) (F0 m 994 ls []) := by
  obtain ⟨hfl, hx, hb, hr, hml, hown, hts, hX, hbl, hbA, hlocks, hE, hA, hAs, hDc⟩ := id Z
  have in_RJx4a65c : ∀ w ∈ u_ws RJx4a65c TJx4a65c 3, w ∈ lw_tbl := by decide +kernel
  have in_RX11 : ∀ w ∈ u_ws RX11 TX11 10, w ∈ lw_tbl := by decide +kernel
  have in_RX16 : ∀ w ∈ u_ws RX16 TX16 2, w ∈ lw_tbl := by decide +kernel
  have in_RX19 : ∀ w ∈ u_ws RX19 TX19 5, w ∈ lw_tbl := by decide +kernel
  have in_RX7 : ∀ w ∈ u_ws RX7 TX7 14, w ∈ lw_tbl := by decide +kernel
  refine lv_aload_n hx hb dL_law_994 rfl (lv_at hl 3 rfl) ?_
  refine lv_aload_n hx hb dL_law_995 rfl (lv_at hl 4 rfl) ?_
  refine lv_iload hx hb dL_law_996 (lv_at hl 0 rfl) ?_
  refine lv_iconst (v := 1) hx hb dL_law_998 (by decide) ?_
  refine lv_iadd hx hb dL_law_999 ?_
  refine z_top (v' := .int 1) (congrArg Value.int (by decide)) ?_
  refine va_sld hx hb hX hbl hbA hS (by unfold vp_in; decide) dL_law_1000 ?_
  refine z_top (v' := .int y1) (congrArg Value.int hy1) ?_
  refine lv_aload_n hx hb dL_law_1001 rfl (lv_at hl 4 rfl) ?_
  refine lv_iload hx hb dL_law_1002 (lv_at hl 0 rfl) ?_
  refine lv_iconst (v := 2) hx hb dL_law_1004 (by decide) ?_
  refine lv_iadd hx hb dL_law_1005 ?_
  refine z_top (v' := .int 2) (congrArg Value.int (by decide)) ?_
  refine va_sld hx hb hX hbl hbA hS (by unfold vp_in; decide) dL_law_1006 ?_
  refine z_top (v' := .int y2) (congrArg Value.int hy2) ?_
  refine lv_aload_n hx hb dL_law_1007 rfl (lv_at hl 1 rfl) ?_
  refine zx_i (wr := [(achoo, .inr (3, [.ref aroom, .ref ameth, .ref acand, .ref ahint, .int 0, .int (-1), .int 0, .int 0, .null])), (anod, .inr (7, [.ref nm, .ref nl, .ref n1, .ref n2, .ref nf, .ref ns, .ref nh, .ref nk, .ref np, .int 16, .int 0, .int 16, .int 0, .int 0])), (apair, .inr (8, [.ref apsl, .int 0, .int 0])), (asize, .inr (10, [.ref azsl, .int 0])), (anote, .inr (5, [.ref af1, .ref af2, .ref af3, .int 0])), (aexpr, .inr (1, [.int 0, .ref eD, .int 0])), (ameth, .inr (1, [.int 0, .ref eD, .int 0])), (asort, .inr (1, [.int 0, .ref eD, .int 0])), (astep, .inr (1, [.int 0, .ref eD, .int 0])), (ns, .inl (kL, 1024, .inr (.inl zSec))), (nf, .inl (kL, 1024, .inr (.inl zFir))), (nm, .inl (kI, 12, .inl (fun _ => 0))), (nl, .inl (kI, 12, .inl (fun _ => 0))), (n1, .inl (kI, 12, .inl (fun _ => 0))), (n2, .inl (kI, 12, .inl (fun _ => 0))), (apsl, .inl (kL, 512, .inr (.inl (fun _ => 0)))), (azsl, .inl (kL, 0, .inr (.inl (fun _ => 0)))), (mm, .inr (21, [.int 0, .ref ms, .ref mt, .ref mh, .ref me])), (ms, .inr (1, [.int 0, .ref eD, .int 0])), (mt, .inr (1, [.int mo, .ref ma, .int 3])), (mh, .inr (1, [.int 0, .ref eD, .int 0])), (me, .inr (1, [.int 0, .ref eD, .int 0])), (ma, .inl (kO, 10, .inr (.inr (.inr (.inr (zfT t0 t1 t2)))))), (t0, .inr (18, [.int (-1), .ref i0])), (t1, .inr (18, [.int (-2), .ref i1])), (t2, .inr (18, [.int (-3), .ref i2])), (i0, .inl (kT, 0, .inr (.inr (.inr (.inr (fun _ => none)))))), (i1, .inl (kT, 0, .inr (.inr (.inr (.inr (fun _ => none)))))), (i2, .inl (kT, 0, .inr (.inr (.inr (.inr (fun _ => none))))))]) (vx_runSX (As := [.ref hh, .int y1, .int y2, .ref ou]) (rest := []) ⟨hx, hb, hml, hown, hts⟩ (c_L_isSame l hfl eD eI ad dC dI H.size hh aexpr achoo ameth aroom anod asort anote amet atold aheld apair astep asize ou kI kL y1 y2 fo) (vx_cwSW 4 hts gl_c_L_isSame rfl rfl rfl (by decide +kernel) ⟨Nat.le_of_ble_eq_true rfl, Nat.le_of_ble_eq_true rfl⟩) (z_preSD (wc := [(hh, .inr (13, [.ref aexpr, .ref achoo, .ref ameth, .ref aroom, .ref anod, .ref asort, .ref anote, .ref amet, .int 0, .int 1])), (aroom, .inr (9, [.ref asort, .ref anod, .ref atold, .int 3, .ref aheld, .int 0, .ref apair, .ref astep, .int 0, .int 0, .int (-1), .int 0, .int 0, .ref asize])), (atold, .inl (kI, 60, .inl zTold)), (ou, .inl (kL, 1, .inr (.inl fo)))]) hP hD hK hS hA hE [0, 2, 11, 32] [0, 1] rfl (by decide) rfl hDc) rfl rfl hl.1 rfl (lv_room (Nat.le_of_ble_eq_true rfl)) dL_law_1008 ⟨Nat.le_of_ble_eq_true rfl, Nat.le_of_ble_eq_true rfl⟩) hP hD hK hS hA [0, 2, 11, 32] [1, 3, 4, 5, 6, 7, 8, 9, 10, 12, 13, 14, 15, 16, 17, 18, 19, 20, 21, 22, 23, 24, 25, 26, 27, 28, 29, 30, 31] rfl rfl (by decide) (by decide) (fun E ce q9 H locs hbad hP hD hS h91 h92 h93 => ?_) (fun r_3 u H locs hw_4 hP hD hK hS => ?_)
  · exact absurd hbad id
  obtain ⟨u_1, u_2⟩ := u
  have hP : va_P (dC, dI) vwCl [(achoo, .inr (3, [.ref aroom, .ref ameth, .ref acand, .ref ahint, .int 0, .int (-1), .int 0, .int 0, .null])), (anod, .inr (7, [.ref nm, .ref nl, .ref n1, .ref n2, .ref nf, .ref ns, .ref nh, .ref nk, .ref np, .int 16, .int 0, .int 16, .int 0, .int 0])), (apair, .inr (8, [.ref apsl, .int 0, .int 0])), (asize, .inr (10, [.ref azsl, .int 0])), (anote, .inr (5, [.ref af1, .ref af2, .ref af3, .int 0])), (aexpr, .inr (1, [.int 0, .ref eD, .int 0])), (ameth, .inr (1, [.int 0, .ref eD, .int 0])), (asort, .inr (1, [.int 0, .ref eD, .int 0])), (astep, .inr (1, [.int 0, .ref eD, .int 0])), (ns, .inl (kL, 1024, .inr (.inl zSec))), (nf, .inl (kL, 1024, .inr (.inl zFir))), (nm, .inl (kI, 12, .inl (fun _ => 0))), (nl, .inl (kI, 12, .inl (fun _ => 0))), (n1, .inl (kI, 12, .inl (fun _ => 0))), (n2, .inl (kI, 12, .inl (fun _ => 0))), (apsl, .inl (kL, 512, .inr (.inl (fun _ => 0)))), (azsl, .inl (kL, 0, .inr (.inl (fun _ => 0)))), (mm, .inr (21, [.int 0, .ref ms, .ref mt, .ref mh, .ref me])), (ms, .inr (1, [.int 0, .ref eD, .int 0])), (mt, .inr (1, [.int mo, .ref ma, .int 3])), (mh, .inr (1, [.int 0, .ref eD, .int 0])), (me, .inr (1, [.int 0, .ref eD, .int 0])), (ma, .inl (kO, 10, .inr (.inr (.inr (.inr (zfT t0 t1 t2)))))), (t0, .inr (18, [.int (-1), .ref i0])), (t1, .inr (18, [.int (-2), .ref i1])), (t2, .inr (18, [.int (-3), .ref i2])), (i0, .inl (kT, 0, .inr (.inr (.inr (.inr (fun _ => none)))))), (i1, .inl (kT, 0, .inr (.inr (.inr (.inr (fun _ => none)))))), (i2, .inl (kT, 0, .inr (.inr (.inr (.inr (fun _ => none)))))), (ou, .inl (kL, 1, .inr (.inl u_2)))] H := hP
  have hD : va_D A [(achoo, .inr (3, [.ref aroom, .ref ameth, .ref acand, .ref ahint, .int 0, .int (-1), .int 0, .int 0, .null])), (anod, .inr (7, [.ref nm, .ref nl, .ref n1, .ref n2, .ref nf, .ref ns, .ref nh, .ref nk, .ref np, .int 16, .int 0, .int 16, .int 0, .int 0])), (apair, .inr (8, [.ref apsl, .int 0, .int 0])), (asize, .inr (10, [.ref azsl, .int 0])), (anote, .inr (5, [.ref af1, .ref af2, .ref af3, .int 0])), (aexpr, .inr (1, [.int 0, .ref eD, .int 0])), (ameth, .inr (1, [.int 0, .ref eD, .int 0])), (asort, .inr (1, [.int 0, .ref eD, .int 0])), (astep, .inr (1, [.int 0, .ref eD, .int 0])), (ns, .inl (kL, 1024, .inr (.inl zSec))), (nf, .inl (kL, 1024, .inr (.inl zFir))), (nm, .inl (kI, 12, .inl (fun _ => 0))), (nl, .inl (kI, 12, .inl (fun _ => 0))), (n1, .inl (kI, 12, .inl (fun _ => 0))), (n2, .inl (kI, 12, .inl (fun _ => 0))), (apsl, .inl (kL, 512, .inr (.inl (fun _ => 0)))), (azsl, .inl (kL, 0, .inr (.inl (fun _ => 0)))), (mm, .inr (21, [.int 0, .ref ms, .ref mt, .ref mh, .ref me])), (ms, .inr (1, [.int 0, .ref eD, .int 0])), (mt, .inr (1, [.int mo, .ref ma, .int 3])), (mh, .inr (1, [.int 0, .ref eD, .int 0])), (me, .inr (1, [.int 0, .ref eD, .int 0])), (ma, .inl (kO, 10, .inr (.inr (.inr (.inr (zfT t0 t1 t2)))))), (t0, .inr (18, [.int (-1), .ref i0])), (t1, .inr (18, [.int (-2), .ref i1])), (t2, .inr (18, [.int (-3), .ref i2])), (i0, .inl (kT, 0, .inr (.inr (.inr (.inr (fun _ => none)))))), (i1, .inl (kT, 0, .inr (.inr (.inr (.inr (fun _ => none)))))), (i2, .inl (kT, 0, .inr (.inr (.inr (.inr (fun _ => none)))))), (ou, .inl (kL, 1, .inr (.inl u_2)))] := hD
  have hK : va_K (dC, dI) vwCl [(kI, .int), (kL, .long), (kO, .object "java/lang/Object"), (kT, .object "HornbookModel$Tree"), (kL, .long)] s := hK
  have hw_4 : r_3 = u_1 ∧ u_1 = (if y1 < 0 ∨ 2 < y1 ∨ y2 < 0 ∨ 2 < y2 then 1 else 0) ∧ (u_1 = 0 → u_2 (0 : Int32).toNatClampNeg = (if y1 = y2 then 1 else 0)) := hw_4
  obtain ⟨hw_4, hp_5, hp_6⟩ := hw_4
  have hw_4 := hw_4.symm
  subst hw_4
  refine lv_istore (lv' := [(5, .int u_1), (4, .int 0), (3, .ref ou), (2, .ref mm), (1, .ref hh), (0, .ref b)]) hx hb dL_law_1011 hl (by decide) rfl (fun ls hl => ?_)
  refine lv_aload_n hx hb dL_law_1013 rfl (lv_at hl 3 rfl) ?_
  refine lv_aload_n hx hb dL_law_1014 rfl (lv_at hl 5 rfl) ?_
  refine lv_iload hx hb dL_law_1015 (lv_at hl 1 rfl) ?_
  refine lv_iconst (v := 1) hx hb dL_law_1017 (by decide) ?_
  refine lv_iadd hx hb dL_law_1018 ?_
  refine z_top (v' := .int 1) (congrArg Value.int (by decide)) ?_
  refine va_sld hx hb hX hbl hbA hS (by unfold vp_in; decide) dL_law_1019 ?_
  refine z_top (v' := .int y1) (congrArg Value.int hy1) ?_
  refine lv_aload_n hx hb dL_law_1020 rfl (lv_at hl 5 rfl) ?_
  refine lv_iload hx hb dL_law_1021 (lv_at hl 1 rfl) ?_
  refine lv_iconst (v := 2) hx hb dL_law_1023 (by decide) ?_
  refine lv_iadd hx hb dL_law_1024 ?_
  refine z_top (v' := .int 2) (congrArg Value.int (by decide)) ?_
  refine va_sld hx hb hX hbl hbA hS (by unfold vp_in; decide) dL_law_1025 ?_
  refine z_top (v' := .int y2) (congrArg Value.int hy2) ?_
  refine z_i (wr := [(achoo, .inr (3, [.ref aroom, .ref ameth, .ref acand, .ref ahint, .int 0, .int (-1), .int 0, .int 0, .null])), (anod, .inr (7, [.ref nm, .ref nl, .ref n1, .ref n2, .ref nf, .ref ns, .ref nh, .ref nk, .ref np, .int 16, .int 0, .int 16, .int 0, .int 0])), (apair, .inr (8, [.ref apsl, .int 0, .int 0])), (asize, .inr (10, [.ref azsl, .int 0])), (anote, .inr (5, [.ref af1, .ref af2, .ref af3, .int 0])), (aexpr, .inr (1, [.int 0, .ref eD, .int 0])), (ameth, .inr (1, [.int 0, .ref eD, .int 0])), (asort, .inr (1, [.int 0, .ref eD, .int 0])), (astep, .inr (1, [.int 0, .ref eD, .int 0])), (ns, .inl (kL, 1024, .inr (.inl zSec))), (nf, .inl (kL, 1024, .inr (.inl zFir))), (nm, .inl (kI, 12, .inl (fun _ => 0))), (nl, .inl (kI, 12, .inl (fun _ => 0))), (n1, .inl (kI, 12, .inl (fun _ => 0))), (n2, .inl (kI, 12, .inl (fun _ => 0))), (apsl, .inl (kL, 512, .inr (.inl (fun _ => 0)))), (azsl, .inl (kL, 0, .inr (.inl (fun _ => 0)))), (ou, .inl (kL, 1, .inr (.inl u_2)))]) (va_runV (As := [.int y1, .int y2]) (rest := []) ⟨hx, hb, hml, hown, hts⟩ (c_M_isSame l eD eI ad dC dI H.size mm ms mt mh me mo ma kO kT t0 t1 t2 i0 i1 i2 0 y1 y2) (cwV 2 hts gl_c_M_isSame rfl rfl rfl (by decide +kernel) ⟨Nat.le_of_ble_eq_true rfl, Nat.le_of_ble_eq_true rfl⟩) (z_preV (wc := [(mm, .inr (21, [.int 0, .ref ms, .ref mt, .ref mh, .ref me])), (ms, .inr (1, [.int 0, .ref eD, .int 0])), (mt, .inr (1, [.int mo, .ref ma, .int 3])), (mh, .inr (1, [.int 0, .ref eD, .int 0])), (me, .inr (1, [.int 0, .ref eD, .int 0])), (ma, .inl (kO, 10, .inr (.inr (.inr (.inr (zfT t0 t1 t2)))))), (t0, .inr (18, [.int (-1), .ref i0])), (t1, .inr (18, [.int (-2), .ref i1])), (t2, .inr (18, [.int (-3), .ref i2])), (i0, .inl (kT, 0, .inr (.inr (.inr (.inr (fun _ => none)))))), (i1, .inl (kT, 0, .inr (.inr (.inr (.inr (fun _ => none)))))), (i2, .inl (kT, 0, .inr (.inr (.inr (.inr (fun _ => none))))))]) hP hD hK hS hA hE [17, 18, 19, 20, 21, 22, 23, 24, 25, 26, 27, 28] [2, 3] rfl (by decide) rfl (ci := 21) (q0 := 0) rfl rfl) rfl rfl hl.1 rfl (lv_room (Nat.le_of_ble_eq_true rfl)) dL_law_1026 ⟨Nat.le_of_ble_eq_true rfl, Nat.le_of_ble_eq_true rfl⟩) hP hD hK hS hA [17, 18, 19, 20, 21, 22, 23, 24, 25, 26, 27, 28] [0, 1, 2, 3, 4, 5, 6, 7, 8, 9, 10, 11, 12, 13, 14, 15, 16, 29] rfl rfl (by decide) (by decide) (fun r_9 u H locs hw_10 hP hD hK hS => ?_)
  obtain ⟨u_7, u_8⟩ := u
  have hP : va_P (dC, dI) vwCl [(achoo, .inr (3, [.ref aroom, .ref ameth, .ref acand, .ref ahint, .int 0, .int (-1), .int 0, .int 0, .null])), (anod, .inr (7, [.ref nm, .ref nl, .ref n1, .ref n2, .ref nf, .ref ns, .ref nh, .ref nk, .ref np, .int 16, .int 0, .int 16, .int 0, .int 0])), (apair, .inr (8, [.ref apsl, .int 0, .int 0])), (asize, .inr (10, [.ref azsl, .int 0])), (anote, .inr (5, [.ref af1, .ref af2, .ref af3, .int 0])), (aexpr, .inr (1, [.int 0, .ref eD, .int 0])), (ameth, .inr (1, [.int 0, .ref eD, .int 0])), (asort, .inr (1, [.int 0, .ref eD, .int 0])), (astep, .inr (1, [.int 0, .ref eD, .int 0])), (ns, .inl (kL, 1024, .inr (.inl zSec))), (nf, .inl (kL, 1024, .inr (.inl zFir))), (nm, .inl (kI, 12, .inl (fun _ => 0))), (nl, .inl (kI, 12, .inl (fun _ => 0))), (n1, .inl (kI, 12, .inl (fun _ => 0))), (n2, .inl (kI, 12, .inl (fun _ => 0))), (apsl, .inl (kL, 512, .inr (.inl (fun _ => 0)))), (azsl, .inl (kL, 0, .inr (.inl (fun _ => 0)))), (ou, .inl (kL, 1, .inr (.inl u_2))), (mm, .inr (21, [.int u_7, .ref ms, .ref mt, .ref mh, .ref me]))] H := hP
  have hD : va_D A [(achoo, .inr (3, [.ref aroom, .ref ameth, .ref acand, .ref ahint, .int 0, .int (-1), .int 0, .int 0, .null])), (anod, .inr (7, [.ref nm, .ref nl, .ref n1, .ref n2, .ref nf, .ref ns, .ref nh, .ref nk, .ref np, .int 16, .int 0, .int 16, .int 0, .int 0])), (apair, .inr (8, [.ref apsl, .int 0, .int 0])), (asize, .inr (10, [.ref azsl, .int 0])), (anote, .inr (5, [.ref af1, .ref af2, .ref af3, .int 0])), (aexpr, .inr (1, [.int 0, .ref eD, .int 0])), (ameth, .inr (1, [.int 0, .ref eD, .int 0])), (asort, .inr (1, [.int 0, .ref eD, .int 0])), (astep, .inr (1, [.int 0, .ref eD, .int 0])), (ns, .inl (kL, 1024, .inr (.inl zSec))), (nf, .inl (kL, 1024, .inr (.inl zFir))), (nm, .inl (kI, 12, .inl (fun _ => 0))), (nl, .inl (kI, 12, .inl (fun _ => 0))), (n1, .inl (kI, 12, .inl (fun _ => 0))), (n2, .inl (kI, 12, .inl (fun _ => 0))), (apsl, .inl (kL, 512, .inr (.inl (fun _ => 0)))), (azsl, .inl (kL, 0, .inr (.inl (fun _ => 0)))), (ou, .inl (kL, 1, .inr (.inl u_2))), (mm, .inr (21, [.int u_7, .ref ms, .ref mt, .ref mh, .ref me]))] := hD
  have hK : va_K (dC, dI) vwCl [(kI, .int), (kL, .long), (kO, .object "java/lang/Object"), (kT, .object "HornbookModel$Tree"), (kL, .long)] s := by simpa using hK
  have hw_10 : r_9 = u_8 ∧ u_7 = (if y1 < 0 ∨ 2 < y1 ∨ y2 < 0 ∨ 2 < y2 then 1 else 0) ∧ (u_7 = 0 → u_8 = (if y1 = y2 then 1 else 0)) := hw_10
  obtain ⟨hw_10, hp_11, hp_12⟩ := hw_10
  have hw_10 := hw_10.symm
  subst hw_10
  refine lv_istore (lv' := [(6, .int u_8), (5, .int u_1), (4, .int 0), (3, .ref ou), (2, .ref mm), (1, .ref hh), (0, .ref b)]) hx hb dL_law_1029 hl (by decide) rfl (fun ls hl => ?_)
  have hk9 : u_1 = u_7 := hp_5.trans hp_11.symm
  subst hk9
  refine lv_aload_n hx hb dL_law_1031 rfl (lv_at hl 4 rfl) ?_
  refine z_i (wr := [(achoo, .inr (3, [.ref aroom, .ref ameth, .ref acand, .ref ahint, .int 0, .int (-1), .int 0, .int 0, .null])), (anod, .inr (7, [.ref nm, .ref nl, .ref n1, .ref n2, .ref nf, .ref ns, .ref nh, .ref nk, .ref np, .int 16, .int 0, .int 16, .int 0, .int 0])), (apair, .inr (8, [.ref apsl, .int 0, .int 0])), (asize, .inr (10, [.ref azsl, .int 0])), (anote, .inr (5, [.ref af1, .ref af2, .ref af3, .int 0])), (aexpr, .inr (1, [.int 0, .ref eD, .int 0])), (ameth, .inr (1, [.int 0, .ref eD, .int 0])), (asort, .inr (1, [.int 0, .ref eD, .int 0])), (astep, .inr (1, [.int 0, .ref eD, .int 0])), (ns, .inl (kL, 1024, .inr (.inl zSec))), (nf, .inl (kL, 1024, .inr (.inl zFir))), (nm, .inl (kI, 12, .inl (fun _ => 0))), (nl, .inl (kI, 12, .inl (fun _ => 0))), (n1, .inl (kI, 12, .inl (fun _ => 0))), (n2, .inl (kI, 12, .inl (fun _ => 0))), (apsl, .inl (kL, 512, .inr (.inl (fun _ => 0)))), (azsl, .inl (kL, 0, .inr (.inl (fun _ => 0)))), (ou, .inl (kL, 1, .inr (.inl u_2)))]) (va_runV (As := []) (rest := []) ⟨hx, hb, hml, hown, hts⟩ (c_M_thrown l eD eI ad dC dI H.size mm ((.ref ms)) ((.ref mt)) ((.ref mh)) ((.ref me)) u_1) (cwV 0 hts gl_c_M_thrown rfl rfl rfl (by decide +kernel) ⟨Nat.le_of_ble_eq_true rfl, Nat.le_of_ble_eq_true rfl⟩) (z_preV (wc := [(mm, .inr (21, [.int u_1, .ref ms, .ref mt, .ref mh, .ref me]))]) hP hD hK hS hA hE [18] [] rfl (by decide) rfl (ci := 21) (q0 := 0) rfl rfl) rfl rfl hl.1 rfl (lv_room (Nat.le_of_ble_eq_true rfl)) dL_law_1032 ⟨Nat.le_of_ble_eq_true rfl, Nat.le_of_ble_eq_true rfl⟩) hP hD hK hS hA [18] [0, 1, 2, 3, 4, 5, 6, 7, 8, 9, 10, 11, 12, 13, 14, 15, 16, 17] rfl rfl (by decide) (by decide) (fun r_13 u H locs hw_14 hP hD hK hS => ?_)
  obtain ⟨⟩ := u
  have hP : va_P (dC, dI) vwCl [(achoo, .inr (3, [.ref aroom, .ref ameth, .ref acand, .ref ahint, .int 0, .int (-1), .int 0, .int 0, .null])), (anod, .inr (7, [.ref nm, .ref nl, .ref n1, .ref n2, .ref nf, .ref ns, .ref nh, .ref nk, .ref np, .int 16, .int 0, .int 16, .int 0, .int 0])), (apair, .inr (8, [.ref apsl, .int 0, .int 0])), (asize, .inr (10, [.ref azsl, .int 0])), (anote, .inr (5, [.ref af1, .ref af2, .ref af3, .int 0])), (aexpr, .inr (1, [.int 0, .ref eD, .int 0])), (ameth, .inr (1, [.int 0, .ref eD, .int 0])), (asort, .inr (1, [.int 0, .ref eD, .int 0])), (astep, .inr (1, [.int 0, .ref eD, .int 0])), (ns, .inl (kL, 1024, .inr (.inl zSec))), (nf, .inl (kL, 1024, .inr (.inl zFir))), (nm, .inl (kI, 12, .inl (fun _ => 0))), (nl, .inl (kI, 12, .inl (fun _ => 0))), (n1, .inl (kI, 12, .inl (fun _ => 0))), (n2, .inl (kI, 12, .inl (fun _ => 0))), (apsl, .inl (kL, 512, .inr (.inl (fun _ => 0)))), (azsl, .inl (kL, 0, .inr (.inl (fun _ => 0)))), (ou, .inl (kL, 1, .inr (.inl u_2))), (mm, .inr (21, [.int u_1, .ref ms, .ref mt, .ref mh, .ref me]))] H := hP
  have hD : va_D A [(achoo, .inr (3, [.ref aroom, .ref ameth, .ref acand, .ref ahint, .int 0, .int (-1), .int 0, .int 0, .null])), (anod, .inr (7, [.ref nm, .ref nl, .ref n1, .ref n2, .ref nf, .ref ns, .ref nh, .ref nk, .ref np, .int 16, .int 0, .int 16, .int 0, .int 0])), (apair, .inr (8, [.ref apsl, .int 0, .int 0])), (asize, .inr (10, [.ref azsl, .int 0])), (anote, .inr (5, [.ref af1, .ref af2, .ref af3, .int 0])), (aexpr, .inr (1, [.int 0, .ref eD, .int 0])), (ameth, .inr (1, [.int 0, .ref eD, .int 0])), (asort, .inr (1, [.int 0, .ref eD, .int 0])), (astep, .inr (1, [.int 0, .ref eD, .int 0])), (ns, .inl (kL, 1024, .inr (.inl zSec))), (nf, .inl (kL, 1024, .inr (.inl zFir))), (nm, .inl (kI, 12, .inl (fun _ => 0))), (nl, .inl (kI, 12, .inl (fun _ => 0))), (n1, .inl (kI, 12, .inl (fun _ => 0))), (n2, .inl (kI, 12, .inl (fun _ => 0))), (apsl, .inl (kL, 512, .inr (.inl (fun _ => 0)))), (azsl, .inl (kL, 0, .inr (.inl (fun _ => 0)))), (ou, .inl (kL, 1, .inr (.inl u_2))), (mm, .inr (21, [.int u_1, .ref ms, .ref mt, .ref mh, .ref me]))] := hD
  have hK : va_K (dC, dI) vwCl [(kI, .int), (kL, .long), (kO, .object "java/lang/Object"), (kT, .object "HornbookModel$Tree"), (kL, .long)] s := by simpa using hK
  have hw_14 : r_13 = u_1 := hw_14
  have hw_14 := hw_14.symm
  subst hw_14
  refine lv_iload hx hb dL_law_1035 (lv_at hl 1 rfl) ?_
  refine lv_icmp_eq (tgt := 1042) hx hb dL_law_1037 (by decide) (fun c_15 => ?_) (fun c_15 => ?_)
  rotate_left
  · exact absurd rfl c_15
  refine lv_iload hx hb dL_law_1042 (lv_at hl 1 rfl) ?_
  refine lv_if_ne (tgt := 1066) hx hb dL_law_1044 (by decide) (fun c_16 => ?_) (fun c_16 => ?_)
  · refine lv_goto (tgt := 2196) hx hb dL_law_1066 (by decide) ?_
    exact law_tail l Z hS (lv_sub hl [2, 6] rfl) (Nat.le_of_ble_eq_true rfl) (Nat.le_of_ble_eq_true rfl)
  · refine lv_aload_n hx hb dL_law_1047 rfl (lv_at hl 3 rfl) ?_
    have hf9 := hp_6 c_16
    have hv9 := hp_12 c_16
    by_cases hB9 : y1 = y2
    · rw [if_pos hB9] at hf9 hv9
      have hPz := hP
      have hDz := hD
      have hKz := hK
      have hSz := hS
      have hlz := hl
      subst hv9
      have hP := hPz
      have hD := hDz
      have hK := hKz
      have hS := hSz
      have hl := hlz
      refine lv_iconst (v := 0) hx hb dL_law_1048 (by decide) ?_
      refine va_lald (D := (dC, dI)) hx hb hK hP 17 1 rfl rfl (by unfold vp_in; decide) dL_law_1049 ?_
      refine lv_iload hx hb dL_law_1050 (lv_at hl 0 rfl) ?_
      refine lv_if_eq (tgt := 1059) hx hb dL_law_1052 (by decide) (fun c_17 => ?_) (fun c_17 => ?_)
      · exact absurd c_17 (by decide)
      refine lv_lconst (v := 1) hx hb dL_law_1055 (by decide) ?_
      refine lv_goto (tgt := 1060) hx hb dL_law_1056 (by decide) ?_
      refine W.lcmp hx hb dL_law_1060 ?_
      refine z_top (v' := .int 0) (congrArg Value.int (by rw [hf9]; exact z_cmp0 _)) ?_
      refine lv_if_eq (tgt := 1066) hx hb dL_law_1061 (by decide) (fun c_18 => ?_) (fun c_18 => ?_)
      rotate_left
      · exact absurd (by decide) c_18
      refine lv_goto (tgt := 2196) hx hb dL_law_1066 (by decide) ?_
      exact law_tail l Z hS (lv_sub hl [2, 6] rfl) (Nat.le_of_ble_eq_true rfl) (Nat.le_of_ble_eq_true rfl)
    · rw [if_neg hB9] at hf9 hv9
      have hPz := hP
      have hDz := hD
      have hKz := hK
      have hSz := hS
      have hlz := hl
      subst hv9
      have hP := hPz
      have hD := hDz
      have hK := hKz
      have hS := hSz
      have hl := hlz
      refine lv_iconst (v := 0) hx hb dL_law_1048 (by decide) ?_
      refine va_lald (D := (dC, dI)) hx hb hK hP 17 1 rfl rfl (by unfold vp_in; decide) dL_law_1049 ?_
      refine lv_iload hx hb dL_law_1050 (lv_at hl 0 rfl) ?_
      refine lv_if_eq (tgt := 1059) hx hb dL_law_1052 (by decide) (fun c_19 => ?_) (fun c_19 => ?_)
      rotate_left
      · exact absurd (by decide) c_19
      refine lv_lconst (v := 0) hx hb dL_law_1059 (by decide) ?_
      refine W.lcmp hx hb dL_law_1060 ?_
      refine z_top (v' := .int 0) (congrArg Value.int (by rw [hf9]; exact z_cmp0 _)) ?_
      refine lv_if_eq (tgt := 1066) hx hb dL_law_1061 (by decide) (fun c_20 => ?_) (fun c_20 => ?_)
      rotate_left
      · exact absurd (by decide) c_20
      refine lv_goto (tgt := 2196) hx hb dL_law_1066 (by decide) ?_
      exact law_tail l Z hS (lv_sub hl [2, 6] rfl) (Nat.le_of_ble_eq_true rfl) (Nat.le_of_ble_eq_true rfl)
