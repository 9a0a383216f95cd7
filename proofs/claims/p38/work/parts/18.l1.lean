def zb_L_law_1090 (J273 : ZP) : ZP := (z_if (fun x => x = 0) (z_push 1 (zb_L_law_1098 J273)) (z_push 3 (zb_L_law_1098 J273)))
set_option maxRecDepth 20000 in
theorem zk_L_law_1090 {X : ZX} (CC : zCC X) (hn : X.nL = 22) (hR : ZL X 1613 0 z_yes) {m : Nat} {J273 : ZP} (he273 : 0 ≤ m) (hJ273 : ZL X 273 m J273) : ZL X 1090 (m + 1) (zb_L_law_1090 J273) := by
  unfold zb_L_law_1090
  intro a d ha hd
  have C := CC a d (by have h0 : (zXc X a d).ce = a := rfl; omega) (by have h0 : (zXc X a d).sl = d := rfl; omega)
  refine z_if_ne_ok (pc := 1090) (tgt := 1097) C.hx C.hb dL_law_1090 (by decide) ?_ ?_
  · refine z_iconst_ok (pc := 1097) (v := 3) C.hx C.hb dL_law_1097 (by decide) ?_
    exact zk_L_law_1098 CC hn hR he273 hJ273 _ _ (by have h0 : (zXc X a d).ce = a := rfl; omega) (by have h0 : (zXc X a d).sl = d := rfl; omega)
  · refine z_iconst_ok (pc := 1093) (v := 1) C.hx C.hb dL_law_1093 (by decide) ?_
    refine z_goto_ok (pc := 1094) (tgt := 1098) C.hx C.hb dL_law_1094 (by decide) ?_
    exact zk_L_law_1098 CC hn hR he273 hJ273 _ _ (by have h0 : (zXc X a d).ce = a := rfl; omega) (by have h0 : (zXc X a d).sl = d := rfl; omega)
def zb_L_law_1081 (J273 : ZP) : ZP := (z_ist 13 (z_ald 1 (z_ild 6 (z_push 4 (z_invSq 2 sp_L_low (zb_L_law_1090 J273))))))
set_option maxRecDepth 20000 in
theorem zk_L_law_1081 {X : ZX} (CC : zCC X) (hn : X.nL = 22) (hR : ZL X 1613 0 z_yes) {m : Nat} {J273 : ZP} (he273 : 0 ≤ m) (hJ273 : ZL X 273 m J273) : ZL X 1081 (m + 1) (zb_L_law_1081 J273) := by
  unfold zb_L_law_1081
  intro a d ha hd
  have C := CC a d (by have h0 : (zXc X a d).ce = a := rfl; omega) (by have h0 : (zXc X a d).sl = d := rfl; omega)
  refine z_istore_ok (pc := 1081) (i := 13) C.hx C.hb dL_law_1081 (zlt hn (by decide)) ?_
  refine z_aload_n_ok (pc := 1083) (i := 1) C.hx C.hb dL_law_1083 rfl ?_
  refine z_iload_ok (pc := 1084) (i := 6) C.hx C.hb dL_law_1084 ?_
  refine z_iconst_ok (pc := 1086) (v := 4) C.hx C.hb dL_law_1086 (by decide) ?_
  refine z_invSq_ok (pc := 1087) C (zm_L_low X.l C.htr) ⟨rfl, rfl⟩ ⟨by decide, by decide⟩ (by decide) (by decide) zcl_L_70 zw_625 dL_law_1087 ?_
  exact zk_L_law_1090 CC hn hR he273 hJ273 _ _ (by have h0 : (zXc X a d).ce = a := rfl; omega) (by have h0 : (zXc X a d).sl = d := rfl; omega)
def zb_L_law_1064 (J273 : ZP) : ZP := (zb_L_law_1562 J273)
set_option maxRecDepth 20000 in
theorem zk_L_law_1064 {X : ZX} (CC : zCC X) (hn : X.nL = 22) (hR : ZL X 1613 0 z_yes) {m : Nat} {J273 : ZP} (he273 : 0 ≤ m) (hJ273 : ZL X 273 m J273) : ZL X 1064 (m + 0) (zb_L_law_1064 J273) := by
  unfold zb_L_law_1064
  intro a d ha hd
  have C := CC a d (by have h0 : (zXc X a d).ce = a := rfl; omega) (by have h0 : (zXc X a d).sl = d := rfl; omega)
  refine z_goto_ok (pc := 1064) (tgt := 1562) C.hx C.hb dL_law_1064 (by decide) ?_
  exact zk_L_law_1562 CC hn hR he273 hJ273 _ _ (by have h0 : (zXc X a d).ce = a := rfl; omega) (by have h0 : (zXc X a d).sl = d := rfl; omega)
def zb_L_law_1054 (J273 : ZP) : ZP := (z_ild 15 (z_ild 14 (z_bin (fun x y => x - y) (z_cmp (fun x y => x = y) (zb_L_law_1064 J273) (fun _ _ _ _ => False)))))
set_option maxRecDepth 20000 in
theorem zk_L_law_1054 {X : ZX} (CC : zCC X) (hn : X.nL = 22) (hR : ZL X 1613 0 z_yes) {m : Nat} {J273 : ZP} (he273 : 0 ≤ m) (hJ273 : ZL X 273 m J273) : ZL X 1054 (m + 0) (zb_L_law_1054 J273) := by
  unfold zb_L_law_1054
  intro a d ha hd
  have C := CC a d (by have h0 : (zXc X a d).ce = a := rfl; omega) (by have h0 : (zXc X a d).sl = d := rfl; omega)
  refine z_iload_ok (pc := 1054) (i := 15) C.hx C.hb dL_law_1054 ?_
  refine z_iload_ok (pc := 1056) (i := 14) C.hx C.hb dL_law_1056 ?_
  refine z_isub_ok (pc := 1058) C.hx C.hb dL_law_1058 ?_
  refine z_icmp_eq_ok (pc := 1059) (tgt := 1064) C.hx C.hb dL_law_1059 (by decide) ?_ ?_
  · exact zk_L_law_1064 CC hn hR he273 hJ273 _ _ (by have h0 : (zXc X a d).ce = a := rfl; omega) (by have h0 : (zXc X a d).sl = d := rfl; omega)
  · exact fun _ _ _ _ _ _ _ h => h.elim
def zb_L_law_996 (J273 : ZP) : ZP := (z_ist 17 (z_ild 13 (z_ild 8 (z_cmp (fun x y => x = y) (z_ild 17 (z_push (-100) (z_cmp (fun x y => x = y) (zb_L_law_1064 J273) (fun _ _ _ _ => False)))) (z_ild 17 (z_push (-200) (z_cmp (fun x y => x = y) (zb_L_law_1064 J273) (z_ild 17 (z_ild 16 (z_cmp (fun x y => x < y) (fun _ _ _ _ => False) (z_ild 17 (z_ild 16 (z_ild 14 (z_bin (fun x y => x + y) (z_cmp (fun x y => y < x) (fun _ _ _ _ => False) (z_ild 15 (z_ild 14 (z_cmp (fun x y => x < y) (fun _ _ _ _ => False) (z_ald 1 (z_ild 8 (z_push 4 (z_invVq 7 2 sp_X7_personIs (zb_L_law_1054 J273)))))))))))))))))))))))
set_option maxRecDepth 20000 in
theorem zk_L_law_996 {X : ZX} (CC : zCC X) (hn : X.nL = 22) (hR : ZL X 1613 0 z_yes) {m : Nat} {J273 : ZP} (he273 : 0 ≤ m) (hJ273 : ZL X 273 m J273) : ZL X 996 (m + 0) (zb_L_law_996 J273) := by
  unfold zb_L_law_996
  intro a d ha hd
  have C := CC a d (by have h0 : (zXc X a d).ce = a := rfl; omega) (by have h0 : (zXc X a d).sl = d := rfl; omega)
  refine z_istore_ok (pc := 996) (i := 17) C.hx C.hb dL_law_996 (zlt hn (by decide)) ?_
  refine z_iload_ok (pc := 998) (i := 13) C.hx C.hb dL_law_998 ?_
  refine z_iload_ok (pc := 1000) (i := 8) C.hx C.hb dL_law_1000 ?_
  refine z_icmp_ne_ok (pc := 1002) (tgt := 1015) C.hx C.hb dL_law_1002 (by decide) ?_ ?_
  · refine z_iload_ok (pc := 1015) (i := 17) C.hx C.hb dL_law_1015 ?_
    refine z_sipush_ok (pc := 1017) (v := -200) C.hx C.hb dL_law_1017 (by decide) ?_
    refine z_icmp_eq_ok (pc := 1020) (tgt := 1064) C.hx C.hb dL_law_1020 (by decide) ?_ ?_
    · exact zk_L_law_1064 CC hn hR he273 hJ273 _ _ (by have h0 : (zXc X a d).ce = a := rfl; omega) (by have h0 : (zXc X a d).sl = d := rfl; omega)
    · refine z_iload_ok (pc := 1023) (i := 17) C.hx C.hb dL_law_1023 ?_
      refine z_iload_ok (pc := 1025) (i := 16) C.hx C.hb dL_law_1025 ?_
      refine z_icmp_lt_ok (pc := 1027) (tgt := 1062) C.hx C.hb dL_law_1027 (by decide) ?_ ?_
      · exact fun _ _ _ _ _ _ _ h => h.elim
      · refine z_iload_ok (pc := 1030) (i := 17) C.hx C.hb dL_law_1030 ?_
        refine z_iload_ok (pc := 1032) (i := 16) C.hx C.hb dL_law_1032 ?_
        refine z_iload_ok (pc := 1034) (i := 14) C.hx C.hb dL_law_1034 ?_
        refine z_iadd_ok (pc := 1036) C.hx C.hb dL_law_1036 ?_
        refine z_icmp_gt_ok (pc := 1037) (tgt := 1062) C.hx C.hb dL_law_1037 (by decide) ?_ ?_
        · exact fun _ _ _ _ _ _ _ h => h.elim
        · refine z_iload_ok (pc := 1040) (i := 15) C.hx C.hb dL_law_1040 ?_
          refine z_iload_ok (pc := 1042) (i := 14) C.hx C.hb dL_law_1042 ?_
          refine z_icmp_lt_ok (pc := 1044) (tgt := 1062) C.hx C.hb dL_law_1044 (by decide) ?_ ?_
          · exact fun _ _ _ _ _ _ _ h => h.elim
          · refine z_aload_n_ok (pc := 1047) (i := 1) C.hx C.hb dL_law_1047 rfl ?_
            refine z_iload_ok (pc := 1048) (i := 8) C.hx C.hb dL_law_1048 ?_
            refine z_iconst_ok (pc := 1050) (v := 4) C.hx C.hb dL_law_1050 (by decide) ?_
            refine z_invVq_ok (pc := 1051) C (zm_X7_personIs X.l C.htr) ⟨rfl, rfl⟩ ⟨by decide, by decide⟩ (by decide) (by decide) zcl_L_48 zw_363 zw_364 zK7 dL_law_1051 ?_
            exact zk_L_law_1054 CC hn hR he273 hJ273 _ _ (by have h0 : (zXc X a d).ce = a := rfl; omega) (by have h0 : (zXc X a d).sl = d := rfl; omega)
  · refine z_iload_ok (pc := 1005) (i := 17) C.hx C.hb dL_law_1005 ?_
    refine z_bipush_ok (pc := 1007) (v := -100) C.hx C.hb dL_law_1007 (by decide) ?_
    refine z_icmp_eq_ok (pc := 1009) (tgt := 1064) C.hx C.hb dL_law_1009 (by decide) ?_ ?_
    · exact zk_L_law_1064 CC hn hR he273 hJ273 _ _ (by have h0 : (zXc X a d).ce = a := rfl; omega) (by have h0 : (zXc X a d).sl = d := rfl; omega)
    · refine z_goto_ok (pc := 1012) (tgt := 1062) C.hx C.hb dL_law_1012 (by decide) ?_
      exact fun _ _ _ _ _ _ _ h => h.elim
def zb_L_law_983 (J273 : ZP) : ZP := (z_ist 16 (z_ald 1 (z_push 0 (z_ild 8 (z_ild 13 (z_ild 14 (z_invSq 5 sp_L_tryOne (zb_L_law_996 J273))))))))
set_option maxRecDepth 20000 in
theorem zk_L_law_983 {X : ZX} (CC : zCC X) (hn : X.nL = 22) (hR : ZL X 1613 0 z_yes) {m : Nat} {J273 : ZP} (he273 : 0 ≤ m) (hJ273 : ZL X 273 m J273) : ZL X 983 (m + 1) (zb_L_law_983 J273) := by
  unfold zb_L_law_983
  intro a d ha hd
  have C := CC a d (by have h0 : (zXc X a d).ce = a := rfl; omega) (by have h0 : (zXc X a d).sl = d := rfl; omega)
  refine z_istore_ok (pc := 983) (i := 16) C.hx C.hb dL_law_983 (zlt hn (by decide)) ?_
  refine z_aload_n_ok (pc := 985) (i := 1) C.hx C.hb dL_law_985 rfl ?_
  refine z_iconst_ok (pc := 986) (v := 0) C.hx C.hb dL_law_986 (by decide) ?_
  refine z_iload_ok (pc := 987) (i := 8) C.hx C.hb dL_law_987 ?_
  refine z_iload_ok (pc := 989) (i := 13) C.hx C.hb dL_law_989 ?_
  refine z_iload_ok (pc := 991) (i := 14) C.hx C.hb dL_law_991 ?_
  refine z_invSWq_ok (pc := 993) C (zm_L_tryOne X.l C.htr) ⟨rfl, rfl⟩ ⟨by decide, by decide⟩ (by decide) (by decide) zcl_L_110 zw_694 dL_law_993 ?_
  exact zk_L_law_996 CC hn hR he273 hJ273 _ _ (by have h0 : (zXc X a d).ce = a := rfl; omega) (by have h0 : (zXc X a d).sl = d := rfl; omega)
def zb_L_law_974 (J273 : ZP) : ZP := (z_ist 15 (z_ald 1 (z_ild 13 (z_push 4 (z_invVq 7 2 sp_X7_personIs (zb_L_law_983 J273))))))
set_option maxRecDepth 20000 in
theorem zk_L_law_974 {X : ZX} (CC : zCC X) (hn : X.nL = 22) (hR : ZL X 1613 0 z_yes) {m : Nat} {J273 : ZP} (he273 : 0 ≤ m) (hJ273 : ZL X 273 m J273) : ZL X 974 (m + 1) (zb_L_law_974 J273) := by
  unfold zb_L_law_974
  intro a d ha hd
  have C := CC a d (by have h0 : (zXc X a d).ce = a := rfl; omega) (by have h0 : (zXc X a d).sl = d := rfl; omega)
  refine z_istore_ok (pc := 974) (i := 15) C.hx C.hb dL_law_974 (zlt hn (by decide)) ?_
  refine z_aload_n_ok (pc := 976) (i := 1) C.hx C.hb dL_law_976 rfl ?_
  refine z_iload_ok (pc := 977) (i := 13) C.hx C.hb dL_law_977 ?_
  refine z_iconst_ok (pc := 979) (v := 4) C.hx C.hb dL_law_979 (by decide) ?_
  refine z_invVq_ok (pc := 980) C (zm_X7_personIs X.l C.htr) ⟨rfl, rfl⟩ ⟨by decide, by decide⟩ (by decide) (by decide) zcl_L_48 zw_363 zw_364 zK7 dL_law_980 ?_
  exact zk_L_law_983 CC hn hR he273 hJ273 _ _ (by have h0 : (zXc X a d).ce = a := rfl; omega) (by have h0 : (zXc X a d).sl = d := rfl; omega)
def zb_L_law_964 (J273 : ZP) : ZP := (z_bin (fun x y => x + y) (z_ist 14 (z_ald 1 (z_ild 8 (z_push 4 (z_invVq 7 2 sp_X7_personIs (zb_L_law_974 J273)))))))
set_option maxRecDepth 20000 in
theorem zk_L_law_964 {X : ZX} (CC : zCC X) (hn : X.nL = 22) (hR : ZL X 1613 0 z_yes) {m : Nat} {J273 : ZP} (he273 : 0 ≤ m) (hJ273 : ZL X 273 m J273) : ZL X 964 (m + 1) (zb_L_law_964 J273) := by
  unfold zb_L_law_964
  intro a d ha hd
  have C := CC a d (by have h0 : (zXc X a d).ce = a := rfl; omega) (by have h0 : (zXc X a d).sl = d := rfl; omega)
  refine z_iadd_ok (pc := 964) C.hx C.hb dL_law_964 ?_
  refine z_istore_ok (pc := 965) (i := 14) C.hx C.hb dL_law_965 (zlt hn (by decide)) ?_
  refine z_aload_n_ok (pc := 967) (i := 1) C.hx C.hb dL_law_967 rfl ?_
  refine z_iload_ok (pc := 968) (i := 8) C.hx C.hb dL_law_968 ?_
  refine z_iconst_ok (pc := 970) (v := 4) C.hx C.hb dL_law_970 (by decide) ?_
  refine z_invVq_ok (pc := 971) C (zm_X7_personIs X.l C.htr) ⟨rfl, rfl⟩ ⟨by decide, by decide⟩ (by decide) (by decide) zcl_L_48 zw_363 zw_364 zK7 dL_law_971 ?_
  exact zk_L_law_974 CC hn hR he273 hJ273 _ _ (by have h0 : (zXc X a d).ce = a := rfl; omega) (by have h0 : (zXc X a d).sl = d := rfl; omega)
def zb_L_law_952 (J273 : ZP) : ZP := (z_ist 13 (z_push 1 (z_ild 6 (z_push 4 (z_bin (fun x y => x >>> (y &&& 31)) (z_push 30 (z_invSq 2 sp_L_low (zb_L_law_964 J273))))))))
set_option maxRecDepth 20000 in
theorem zk_L_law_952 {X : ZX} (CC : zCC X) (hn : X.nL = 22) (hR : ZL X 1613 0 z_yes) {m : Nat} {J273 : ZP} (he273 : 0 ≤ m) (hJ273 : ZL X 273 m J273) : ZL X 952 (m + 1) (zb_L_law_952 J273) := by
  unfold zb_L_law_952
  intro a d ha hd
  have C := CC a d (by have h0 : (zXc X a d).ce = a := rfl; omega) (by have h0 : (zXc X a d).sl = d := rfl; omega)
  refine z_istore_ok (pc := 952) (i := 13) C.hx C.hb dL_law_952 (zlt hn (by decide)) ?_
  refine z_iconst_ok (pc := 954) (v := 1) C.hx C.hb dL_law_954 (by decide) ?_
  refine z_iload_ok (pc := 955) (i := 6) C.hx C.hb dL_law_955 ?_
  refine z_iconst_ok (pc := 957) (v := 4) C.hx C.hb dL_law_957 (by decide) ?_
  refine z_ishr_ok (pc := 958) C.hx C.hb dL_law_958 ?_
  refine z_bipush_ok (pc := 959) (v := 30) C.hx C.hb dL_law_959 (by decide) ?_
  refine z_invSq_ok (pc := 961) C (zm_L_low X.l C.htr) ⟨rfl, rfl⟩ ⟨by decide, by decide⟩ (by decide) (by decide) zcl_L_70 zw_625 dL_law_961 ?_
  exact zk_L_law_964 CC hn hR he273 hJ273 _ _ (by have h0 : (zXc X a d).ce = a := rfl; omega) (by have h0 : (zXc X a d).sl = d := rfl; omega)
def zb_L_law_936 (J273 : ZP) : ZP := (zb_L_law_1562 J273)
set_option maxRecDepth 20000 in
theorem zk_L_law_936 {X : ZX} (CC : zCC X) (hn : X.nL = 22) (hR : ZL X 1613 0 z_yes) {m : Nat} {J273 : ZP} (he273 : 0 ≤ m) (hJ273 : ZL X 273 m J273) : ZL X 936 (m + 0) (zb_L_law_936 J273) := by
  unfold zb_L_law_936
  intro a d ha hd
  have C := CC a d (by have h0 : (zXc X a d).ce = a := rfl; omega) (by have h0 : (zXc X a d).sl = d := rfl; omega)
  refine z_goto_ok (pc := 936) (tgt := 1562) C.hx C.hb dL_law_936 (by decide) ?_
  exact zk_L_law_1562 CC hn hR he273 hJ273 _ _ (by have h0 : (zXc X a d).ce = a := rfl; omega) (by have h0 : (zXc X a d).sl = d := rfl; omega)
def zb_L_law_930 (J273 : ZP) : ZP := (z_bin (fun x y => x + y) (z_cmp (fun x y => x = y) (zb_L_law_936 J273) (fun _ _ _ _ => False)))
set_option maxRecDepth 20000 in
theorem zk_L_law_930 {X : ZX} (CC : zCC X) (hn : X.nL = 22) (hR : ZL X 1613 0 z_yes) {m : Nat} {J273 : ZP} (he273 : 0 ≤ m) (hJ273 : ZL X 273 m J273) : ZL X 930 (m + 0) (zb_L_law_930 J273) := by
  unfold zb_L_law_930
  intro a d ha hd
  have C := CC a d (by have h0 : (zXc X a d).ce = a := rfl; omega) (by have h0 : (zXc X a d).sl = d := rfl; omega)
  refine z_iadd_ok (pc := 930) C.hx C.hb dL_law_930 ?_
  refine z_icmp_eq_ok (pc := 931) (tgt := 936) C.hx C.hb dL_law_931 (by decide) ?_ ?_
  · exact zk_L_law_936 CC hn hR he273 hJ273 _ _ (by have h0 : (zXc X a d).ce = a := rfl; omega) (by have h0 : (zXc X a d).sl = d := rfl; omega)
  · exact fun _ _ _ _ _ _ _ h => h.elim
def zb_L_law_916 (J273 : ZP) : ZP := (z_ild 19 (z_ild 13 (z_push 2 (z_cmp (fun x y => x = y) (z_ild 11 (zb_L_law_930 J273)) (z_push 0 (zb_L_law_930 J273))))))
set_option maxRecDepth 20000 in
theorem zk_L_law_916 {X : ZX} (CC : zCC X) (hn : X.nL = 22) (hR : ZL X 1613 0 z_yes) {m : Nat} {J273 : ZP} (he273 : 0 ≤ m) (hJ273 : ZL X 273 m J273) : ZL X 916 (m + 0) (zb_L_law_916 J273) := by
  unfold zb_L_law_916
  intro a d ha hd
  have C := CC a d (by have h0 : (zXc X a d).ce = a := rfl; omega) (by have h0 : (zXc X a d).sl = d := rfl; omega)
  refine z_iload_ok (pc := 916) (i := 19) C.hx C.hb dL_law_916 ?_
  refine z_iload_ok (pc := 918) (i := 13) C.hx C.hb dL_law_918 ?_
  refine z_iconst_ok (pc := 920) (v := 2) C.hx C.hb dL_law_920 (by decide) ?_
  refine z_icmp_ne_ok (pc := 921) (tgt := 929) C.hx C.hb dL_law_921 (by decide) ?_ ?_
  · refine z_iconst_ok (pc := 929) (v := 0) C.hx C.hb dL_law_929 (by decide) ?_
    exact zk_L_law_930 CC hn hR he273 hJ273 _ _ (by have h0 : (zXc X a d).ce = a := rfl; omega) (by have h0 : (zXc X a d).sl = d := rfl; omega)
  · refine z_iload_ok (pc := 924) (i := 11) C.hx C.hb dL_law_924 ?_
    refine z_goto_ok (pc := 926) (tgt := 930) C.hx C.hb dL_law_926 (by decide) ?_
    exact zk_L_law_930 CC hn hR he273 hJ273 _ _ (by have h0 : (zXc X a d).ce = a := rfl; omega) (by have h0 : (zXc X a d).sl = d := rfl; omega)
def zb_L_law_904 (J273 : ZP) : ZP := (z_cmp (fun x y => x = y) (z_ald 1 (z_ild 9 (z_ild 10 (z_push 3 (z_invVq 7 3 sp_X7_shopIs (zb_L_law_916 J273)))))) (fun _ _ _ _ => False))
set_option maxRecDepth 20000 in
theorem zk_L_law_904 {X : ZX} (CC : zCC X) (hn : X.nL = 22) (hR : ZL X 1613 0 z_yes) {m : Nat} {J273 : ZP} (he273 : 0 ≤ m) (hJ273 : ZL X 273 m J273) : ZL X 904 (m + 0) (zb_L_law_904 J273) := by
  unfold zb_L_law_904
  intro a d ha hd
  have C := CC a d (by have h0 : (zXc X a d).ce = a := rfl; omega) (by have h0 : (zXc X a d).sl = d := rfl; omega)
  refine z_icmp_ne_ok (pc := 904) (tgt := 934) C.hx C.hb dL_law_904 (by decide) ?_ ?_
  · exact fun _ _ _ _ _ _ _ h => h.elim
  · refine z_aload_n_ok (pc := 907) (i := 1) C.hx C.hb dL_law_907 rfl ?_
    refine z_iload_ok (pc := 908) (i := 9) C.hx C.hb dL_law_908 ?_
    refine z_iload_ok (pc := 910) (i := 10) C.hx C.hb dL_law_910 ?_
    refine z_iconst_ok (pc := 912) (v := 3) C.hx C.hb dL_law_912 (by decide) ?_
    refine z_invVq_ok (pc := 913) C (zm_X7_shopIs X.l C.htr) ⟨rfl, rfl⟩ ⟨by decide, by decide⟩ (by decide) (by decide) zcl_L_57 zw_505 zw_506 zK7 dL_law_913 ?_
    exact zk_L_law_916 CC hn hR he273 hJ273 _ _ (by have h0 : (zXc X a d).ce = a := rfl; omega) (by have h0 : (zXc X a d).sl = d := rfl; omega)
def zb_L_law_885 (J273 : ZP) : ZP := (z_ild 13 (z_push 2 (z_cmp (fun x y => x = y) (z_ild 16 (z_ild 11 (z_bin (fun x y => x - y) (zb_L_law_904 J273)))) (z_ild 16 (z_ild 11 (z_bin (fun x y => x + y) (zb_L_law_904 J273)))))))
set_option maxRecDepth 20000 in
theorem zk_L_law_885 {X : ZX} (CC : zCC X) (hn : X.nL = 22) (hR : ZL X 1613 0 z_yes) {m : Nat} {J273 : ZP} (he273 : 0 ≤ m) (hJ273 : ZL X 273 m J273) : ZL X 885 (m + 0) (zb_L_law_885 J273) := by
  unfold zb_L_law_885
  intro a d ha hd
  have C := CC a d (by have h0 : (zXc X a d).ce = a := rfl; omega) (by have h0 : (zXc X a d).sl = d := rfl; omega)
  refine z_iload_ok (pc := 885) (i := 13) C.hx C.hb dL_law_885 ?_
  refine z_iconst_ok (pc := 887) (v := 2) C.hx C.hb dL_law_887 (by decide) ?_
  refine z_icmp_ne_ok (pc := 888) (tgt := 899) C.hx C.hb dL_law_888 (by decide) ?_ ?_
  · refine z_iload_ok (pc := 899) (i := 16) C.hx C.hb dL_law_899 ?_
    refine z_iload_ok (pc := 901) (i := 11) C.hx C.hb dL_law_901 ?_
    refine z_iadd_ok (pc := 903) C.hx C.hb dL_law_903 ?_
    exact zk_L_law_904 CC hn hR he273 hJ273 _ _ (by have h0 : (zXc X a d).ce = a := rfl; omega) (by have h0 : (zXc X a d).sl = d := rfl; omega)
  · refine z_iload_ok (pc := 891) (i := 16) C.hx C.hb dL_law_891 ?_
    refine z_iload_ok (pc := 893) (i := 11) C.hx C.hb dL_law_893 ?_
    refine z_isub_ok (pc := 895) C.hx C.hb dL_law_895 ?_
    refine z_goto_ok (pc := 896) (tgt := 904) C.hx C.hb dL_law_896 (by decide) ?_
    exact zk_L_law_904 CC hn hR he273 hJ273 _ _ (by have h0 : (zXc X a d).ce = a := rfl; omega) (by have h0 : (zXc X a d).sl = d := rfl; omega)
def zb_L_law_866 (J273 : ZP) : ZP := (z_cmp (fun x y => x = y) (z_ild 20 (z_if (fun x => x = 0) (zb_L_law_936 J273) (z_ald 1 (z_ild 9 (z_ild 10 (z_push 0 (z_invVq 7 3 sp_X7_shopIs (zb_L_law_885 J273)))))))) (fun _ _ _ _ => False))
set_option maxRecDepth 20000 in
theorem zk_L_law_866 {X : ZX} (CC : zCC X) (hn : X.nL = 22) (hR : ZL X 1613 0 z_yes) {m : Nat} {J273 : ZP} (he273 : 0 ≤ m) (hJ273 : ZL X 273 m J273) : ZL X 866 (m + 0) (zb_L_law_866 J273) := by
  unfold zb_L_law_866
  intro a d ha hd
  have C := CC a d (by have h0 : (zXc X a d).ce = a := rfl; omega) (by have h0 : (zXc X a d).sl = d := rfl; omega)
  refine z_icmp_eq_ok (pc := 866) (tgt := 871) C.hx C.hb dL_law_866 (by decide) ?_ ?_
  · refine z_iload_ok (pc := 871) (i := 20) C.hx C.hb dL_law_871 ?_
    refine z_if_eq_ok (pc := 873) (tgt := 936) C.hx C.hb dL_law_873 (by decide) ?_ ?_
    · exact zk_L_law_936 CC hn hR he273 hJ273 _ _ (by have h0 : (zXc X a d).ce = a := rfl; omega) (by have h0 : (zXc X a d).sl = d := rfl; omega)
    · refine z_aload_n_ok (pc := 876) (i := 1) C.hx C.hb dL_law_876 rfl ?_
      refine z_iload_ok (pc := 877) (i := 9) C.hx C.hb dL_law_877 ?_
      refine z_iload_ok (pc := 879) (i := 10) C.hx C.hb dL_law_879 ?_
      refine z_iconst_ok (pc := 881) (v := 0) C.hx C.hb dL_law_881 (by decide) ?_
      refine z_invVq_ok (pc := 882) C (zm_X7_shopIs X.l C.htr) ⟨rfl, rfl⟩ ⟨by decide, by decide⟩ (by decide) (by decide) zcl_L_57 zw_505 zw_506 zK7 dL_law_882 ?_
      exact zk_L_law_885 CC hn hR he273 hJ273 _ _ (by have h0 : (zXc X a d).ce = a := rfl; omega) (by have h0 : (zXc X a d).sl = d := rfl; omega)
  · exact fun _ _ _ _ _ _ _ h => h.elim
def zb_L_law_817 (J273 : ZP) : ZP := (z_ist 21 (z_ild 21 (z_ild 20 (z_if (fun x => x = 0) (z_push (-200) (zb_L_law_866 J273)) (z_ild 13 (z_if (fun x => x = 0) (z_ild 16 (z_ild 11 (z_bin (fun x y => x + y) (zb_L_law_866 J273)))) (z_ild 13 (z_push 1 (z_cmp (fun x y => x = y) (z_ild 18 (z_ild 11 (z_bin (fun x y => x + y) (zb_L_law_866 J273)))) (z_ald 1 (z_ild 10 (z_push 5 (z_invVq 7 2 sp_X7_goodIs (zb_L_law_866 J273))))))))))))))
set_option maxRecDepth 20000 in
theorem zk_L_law_817 {X : ZX} (CC : zCC X) (hn : X.nL = 22) (hR : ZL X 1613 0 z_yes) {m : Nat} {J273 : ZP} (he273 : 0 ≤ m) (hJ273 : ZL X 273 m J273) : ZL X 817 (m + 0) (zb_L_law_817 J273) := by
  unfold zb_L_law_817
  intro a d ha hd
  have C := CC a d (by have h0 : (zXc X a d).ce = a := rfl; omega) (by have h0 : (zXc X a d).sl = d := rfl; omega)
  refine z_istore_ok (pc := 817) (i := 21) C.hx C.hb dL_law_817 (zlt hn (by decide)) ?_
  refine z_iload_ok (pc := 819) (i := 21) C.hx C.hb dL_law_819 ?_
  refine z_iload_ok (pc := 821) (i := 20) C.hx C.hb dL_law_821 ?_
  refine z_if_ne_ok (pc := 823) (tgt := 832) C.hx C.hb dL_law_823 (by decide) ?_ ?_
  · refine z_iload_ok (pc := 832) (i := 13) C.hx C.hb dL_law_832 ?_
    refine z_if_ne_ok (pc := 834) (tgt := 845) C.hx C.hb dL_law_834 (by decide) ?_ ?_
    · refine z_iload_ok (pc := 845) (i := 13) C.hx C.hb dL_law_845 ?_
      refine z_iconst_ok (pc := 847) (v := 1) C.hx C.hb dL_law_847 (by decide) ?_
      refine z_icmp_ne_ok (pc := 848) (tgt := 859) C.hx C.hb dL_law_848 (by decide) ?_ ?_
      · refine z_aload_n_ok (pc := 859) (i := 1) C.hx C.hb dL_law_859 rfl ?_
        refine z_iload_ok (pc := 860) (i := 10) C.hx C.hb dL_law_860 ?_
        refine z_iconst_ok (pc := 862) (v := 5) C.hx C.hb dL_law_862 (by decide) ?_
        refine z_invVq_ok (pc := 863) C (zm_X7_goodIs X.l C.htr) ⟨rfl, rfl⟩ ⟨by decide, by decide⟩ (by decide) (by decide) zcl_L_60 zw_277 zw_278 zK7 dL_law_863 ?_
        exact zk_L_law_866 CC hn hR he273 hJ273 _ _ (by have h0 : (zXc X a d).ce = a := rfl; omega) (by have h0 : (zXc X a d).sl = d := rfl; omega)
      · refine z_iload_ok (pc := 851) (i := 18) C.hx C.hb dL_law_851 ?_
        refine z_iload_ok (pc := 853) (i := 11) C.hx C.hb dL_law_853 ?_
        refine z_iadd_ok (pc := 855) C.hx C.hb dL_law_855 ?_
        refine z_goto_ok (pc := 856) (tgt := 866) C.hx C.hb dL_law_856 (by decide) ?_
        exact zk_L_law_866 CC hn hR he273 hJ273 _ _ (by have h0 : (zXc X a d).ce = a := rfl; omega) (by have h0 : (zXc X a d).sl = d := rfl; omega)
    · refine z_iload_ok (pc := 837) (i := 16) C.hx C.hb dL_law_837 ?_
      refine z_iload_ok (pc := 839) (i := 11) C.hx C.hb dL_law_839 ?_
      refine z_iadd_ok (pc := 841) C.hx C.hb dL_law_841 ?_
      refine z_goto_ok (pc := 842) (tgt := 866) C.hx C.hb dL_law_842 (by decide) ?_
      exact zk_L_law_866 CC hn hR he273 hJ273 _ _ (by have h0 : (zXc X a d).ce = a := rfl; omega) (by have h0 : (zXc X a d).sl = d := rfl; omega)
  · refine z_sipush_ok (pc := 826) (v := -200) C.hx C.hb dL_law_826 (by decide) ?_
    refine z_goto_ok (pc := 829) (tgt := 866) C.hx C.hb dL_law_829 (by decide) ?_
    exact zk_L_law_866 CC hn hR he273 hJ273 _ _ (by have h0 : (zXc X a d).ce = a := rfl; omega) (by have h0 : (zXc X a d).sl = d := rfl; omega)
def zb_L_law_803 (J273 : ZP) : ZP := (z_ist 20 (z_ald 1 (z_ild 13 (z_ild 9 (z_ild 10 (z_ild 11 (z_invSq 5 sp_L_tryShop (zb_L_law_817 J273))))))))
set_option maxRecDepth 20000 in
theorem zk_L_law_803 {X : ZX} (CC : zCC X) (hn : X.nL = 22) (hR : ZL X 1613 0 z_yes) {m : Nat} {J273 : ZP} (he273 : 0 ≤ m) (hJ273 : ZL X 273 m J273) : ZL X 803 (m + 1) (zb_L_law_803 J273) := by
  unfold zb_L_law_803
  intro a d ha hd
  have C := CC a d (by have h0 : (zXc X a d).ce = a := rfl; omega) (by have h0 : (zXc X a d).sl = d := rfl; omega)
  refine z_istore_ok (pc := 803) (i := 20) C.hx C.hb dL_law_803 (zlt hn (by decide)) ?_
  refine z_aload_n_ok (pc := 805) (i := 1) C.hx C.hb dL_law_805 rfl ?_
  refine z_iload_ok (pc := 806) (i := 13) C.hx C.hb dL_law_806 ?_
  refine z_iload_ok (pc := 808) (i := 9) C.hx C.hb dL_law_808 ?_
  refine z_iload_ok (pc := 810) (i := 10) C.hx C.hb dL_law_810 ?_
  refine z_iload_ok (pc := 812) (i := 11) C.hx C.hb dL_law_812 ?_
  refine z_invSWq_ok (pc := 814) C (zm_L_tryShop X.l C.htr) ⟨rfl, rfl⟩ ⟨by decide, by decide⟩ (by decide) (by decide) zcl_L_107 zw_672 dL_law_814 ?_
  exact zk_L_law_817 CC hn hR he273 hJ273 _ _ (by have h0 : (zXc X a d).ce = a := rfl; omega) (by have h0 : (zXc X a d).sl = d := rfl; omega)
def zb_L_law_798 (J273 : ZP) : ZP := (z_push 1 (zb_L_law_803 J273))
set_option maxRecDepth 20000 in
theorem zk_L_law_798 {X : ZX} (CC : zCC X) (hn : X.nL = 22) (hR : ZL X 1613 0 z_yes) {m : Nat} {J273 : ZP} (he273 : 0 ≤ m) (hJ273 : ZL X 273 m J273) : ZL X 798 (m + 1) (zb_L_law_798 J273) := by
  unfold zb_L_law_798
  intro a d ha hd
  have C := CC a d (by have h0 : (zXc X a d).ce = a := rfl; omega) (by have h0 : (zXc X a d).sl = d := rfl; omega)
  refine z_iconst_ok (pc := 798) (v := 1) C.hx C.hb dL_law_798 (by decide) ?_
  refine z_goto_ok (pc := 799) (tgt := 803) C.hx C.hb dL_law_799 (by decide) ?_
  exact zk_L_law_803 CC hn hR he273 hJ273 _ _ (by have h0 : (zXc X a d).ce = a := rfl; omega) (by have h0 : (zXc X a d).sl = d := rfl; omega)
def zb_L_law_802 (J273 : ZP) : ZP := (z_push 0 (zb_L_law_803 J273))
set_option maxRecDepth 20000 in
theorem zk_L_law_802 {X : ZX} (CC : zCC X) (hn : X.nL = 22) (hR : ZL X 1613 0 z_yes) {m : Nat} {J273 : ZP} (he273 : 0 ≤ m) (hJ273 : ZL X 273 m J273) : ZL X 802 (m + 1) (zb_L_law_802 J273) := by
  unfold zb_L_law_802
  intro a d ha hd
  have C := CC a d (by have h0 : (zXc X a d).ce = a := rfl; omega) (by have h0 : (zXc X a d).sl = d := rfl; omega)
  refine z_iconst_ok (pc := 802) (v := 0) C.hx C.hb dL_law_802 (by decide) ?_
  exact zk_L_law_803 CC hn hR he273 hJ273 _ _ (by have h0 : (zXc X a d).ce = a := rfl; omega) (by have h0 : (zXc X a d).sl = d := rfl; omega)
def zb_L_law_785 (J273 : ZP) : ZP := (z_ild 13 (z_push 1 (z_cmp (fun x y => x = y) (zb_L_law_798 J273) (z_ild 17 (z_ild 11 (z_cmp (fun x y => x < y) (zb_L_law_802 J273) (zb_L_law_798 J273)))))))
set_option maxRecDepth 20000 in
theorem zk_L_law_785 {X : ZX} (CC : zCC X) (hn : X.nL = 22) (hR : ZL X 1613 0 z_yes) {m : Nat} {J273 : ZP} (he273 : 0 ≤ m) (hJ273 : ZL X 273 m J273) : ZL X 785 (m + 1) (zb_L_law_785 J273) := by
  unfold zb_L_law_785
  intro a d ha hd
  have C := CC a d (by have h0 : (zXc X a d).ce = a := rfl; omega) (by have h0 : (zXc X a d).sl = d := rfl; omega)
  refine z_iload_ok (pc := 785) (i := 13) C.hx C.hb dL_law_785 ?_
  refine z_iconst_ok (pc := 787) (v := 1) C.hx C.hb dL_law_787 (by decide) ?_
  refine z_icmp_eq_ok (pc := 788) (tgt := 798) C.hx C.hb dL_law_788 (by decide) ?_ ?_
  · exact zk_L_law_798 CC hn hR he273 hJ273 _ _ (by have h0 : (zXc X a d).ce = a := rfl; omega) (by have h0 : (zXc X a d).sl = d := rfl; omega)
  · refine z_iload_ok (pc := 791) (i := 17) C.hx C.hb dL_law_791 ?_
    refine z_iload_ok (pc := 793) (i := 11) C.hx C.hb dL_law_793 ?_
    refine z_icmp_lt_ok (pc := 795) (tgt := 802) C.hx C.hb dL_law_795 (by decide) ?_ ?_
    · exact zk_L_law_802 CC hn hR he273 hJ273 _ _ (by have h0 : (zXc X a d).ce = a := rfl; omega) (by have h0 : (zXc X a d).sl = d := rfl; omega)
    · exact zk_L_law_798 CC hn hR he273 hJ273 _ _ (by have h0 : (zXc X a d).ce = a := rfl; omega) (by have h0 : (zXc X a d).sl = d := rfl; omega)
def zb_L_law_752 (J273 : ZP) : ZP := (z_ist 19 (z_ild 13 (z_push 2 (z_cmp (fun x y => x = y) (z_ild 16 (z_ild 11 (z_cmp (fun x y => x < y) (z_push 0 (zb_L_law_803 J273)) (z_push 1 (zb_L_law_803 J273))))) (z_ild 15 (z_if (fun x => x = 0) (z_ild 14 (z_if (fun x => x = 0) (zb_L_law_785 J273) (zb_L_law_802 J273))) (zb_L_law_785 J273)))))))
set_option maxRecDepth 20000 in
theorem zk_L_law_752 {X : ZX} (CC : zCC X) (hn : X.nL = 22) (hR : ZL X 1613 0 z_yes) {m : Nat} {J273 : ZP} (he273 : 0 ≤ m) (hJ273 : ZL X 273 m J273) : ZL X 752 (m + 1) (zb_L_law_752 J273) := by
  unfold zb_L_law_752
  intro a d ha hd
  have C := CC a d (by have h0 : (zXc X a d).ce = a := rfl; omega) (by have h0 : (zXc X a d).sl = d := rfl; omega)
  refine z_istore_ok (pc := 752) (i := 19) C.hx C.hb dL_law_752 (zlt hn (by decide)) ?_
  refine z_iload_ok (pc := 754) (i := 13) C.hx C.hb dL_law_754 ?_
  refine z_iconst_ok (pc := 756) (v := 2) C.hx C.hb dL_law_756 (by decide) ?_
  refine z_icmp_ne_ok (pc := 757) (tgt := 775) C.hx C.hb dL_law_757 (by decide) ?_ ?_
  · refine z_iload_ok (pc := 775) (i := 15) C.hx C.hb dL_law_775 ?_
    refine z_if_ne_ok (pc := 777) (tgt := 785) C.hx C.hb dL_law_777 (by decide) ?_ ?_
    · exact zk_L_law_785 CC hn hR he273 hJ273 _ _ (by have h0 : (zXc X a d).ce = a := rfl; omega) (by have h0 : (zXc X a d).sl = d := rfl; omega)
    · refine z_iload_ok (pc := 780) (i := 14) C.hx C.hb dL_law_780 ?_
      refine z_if_ne_ok (pc := 782) (tgt := 802) C.hx C.hb dL_law_782 (by decide) ?_ ?_
      · exact zk_L_law_802 CC hn hR he273 hJ273 _ _ (by have h0 : (zXc X a d).ce = a := rfl; omega) (by have h0 : (zXc X a d).sl = d := rfl; omega)
      · exact zk_L_law_785 CC hn hR he273 hJ273 _ _ (by have h0 : (zXc X a d).ce = a := rfl; omega) (by have h0 : (zXc X a d).sl = d := rfl; omega)
  · refine z_iload_ok (pc := 760) (i := 16) C.hx C.hb dL_law_760 ?_
    refine z_iload_ok (pc := 762) (i := 11) C.hx C.hb dL_law_762 ?_
    refine z_icmp_lt_ok (pc := 764) (tgt := 771) C.hx C.hb dL_law_764 (by decide) ?_ ?_
    · refine z_iconst_ok (pc := 771) (v := 0) C.hx C.hb dL_law_771 (by decide) ?_
      refine z_goto_ok (pc := 772) (tgt := 803) C.hx C.hb dL_law_772 (by decide) ?_
      exact zk_L_law_803 CC hn hR he273 hJ273 _ _ (by have h0 : (zXc X a d).ce = a := rfl; omega) (by have h0 : (zXc X a d).sl = d := rfl; omega)
    · refine z_iconst_ok (pc := 767) (v := 1) C.hx C.hb dL_law_767 (by decide) ?_
      refine z_goto_ok (pc := 768) (tgt := 803) C.hx C.hb dL_law_768 (by decide) ?_
      exact zk_L_law_803 CC hn hR he273 hJ273 _ _ (by have h0 : (zXc X a d).ce = a := rfl; omega) (by have h0 : (zXc X a d).sl = d := rfl; omega)
def zb_L_law_741 (J273 : ZP) : ZP := (z_ist 18 (z_ald 1 (z_ild 9 (z_ild 10 (z_push 3 (z_invVq 7 3 sp_X7_shopIs (zb_L_law_752 J273)))))))
set_option maxRecDepth 20000 in
theorem zk_L_law_741 {X : ZX} (CC : zCC X) (hn : X.nL = 22) (hR : ZL X 1613 0 z_yes) {m : Nat} {J273 : ZP} (he273 : 0 ≤ m) (hJ273 : ZL X 273 m J273) : ZL X 741 (m + 1) (zb_L_law_741 J273) := by
  unfold zb_L_law_741
  intro a d ha hd
  have C := CC a d (by have h0 : (zXc X a d).ce = a := rfl; omega) (by have h0 : (zXc X a d).sl = d := rfl; omega)
  refine z_istore_ok (pc := 741) (i := 18) C.hx C.hb dL_law_741 (zlt hn (by decide)) ?_
  refine z_aload_n_ok (pc := 743) (i := 1) C.hx C.hb dL_law_743 rfl ?_
  refine z_iload_ok (pc := 744) (i := 9) C.hx C.hb dL_law_744 ?_
  refine z_iload_ok (pc := 746) (i := 10) C.hx C.hb dL_law_746 ?_
  refine z_iconst_ok (pc := 748) (v := 3) C.hx C.hb dL_law_748 (by decide) ?_
  refine z_invVq_ok (pc := 749) C (zm_X7_shopIs X.l C.htr) ⟨rfl, rfl⟩ ⟨by decide, by decide⟩ (by decide) (by decide) zcl_L_57 zw_505 zw_506 zK7 dL_law_749 ?_
  exact zk_L_law_752 CC hn hR he273 hJ273 _ _ (by have h0 : (zXc X a d).ce = a := rfl; omega) (by have h0 : (zXc X a d).sl = d := rfl; omega)
def zb_L_law_730 (J273 : ZP) : ZP := (z_ist 17 (z_ald 1 (z_ild 9 (z_ild 10 (z_push 2 (z_invVq 7 3 sp_X7_shopIs (zb_L_law_741 J273)))))))
set_option maxRecDepth 20000 in
theorem zk_L_law_730 {X : ZX} (CC : zCC X) (hn : X.nL = 22) (hR : ZL X 1613 0 z_yes) {m : Nat} {J273 : ZP} (he273 : 0 ≤ m) (hJ273 : ZL X 273 m J273) : ZL X 730 (m + 1) (zb_L_law_730 J273) := by
  unfold zb_L_law_730
  intro a d ha hd
  have C := CC a d (by have h0 : (zXc X a d).ce = a := rfl; omega) (by have h0 : (zXc X a d).sl = d := rfl; omega)
  refine z_istore_ok (pc := 730) (i := 17) C.hx C.hb dL_law_730 (zlt hn (by decide)) ?_
  refine z_aload_n_ok (pc := 732) (i := 1) C.hx C.hb dL_law_732 rfl ?_
  refine z_iload_ok (pc := 733) (i := 9) C.hx C.hb dL_law_733 ?_
  refine z_iload_ok (pc := 735) (i := 10) C.hx C.hb dL_law_735 ?_
  refine z_iconst_ok (pc := 737) (v := 2) C.hx C.hb dL_law_737 (by decide) ?_
  refine z_invVq_ok (pc := 738) C (zm_X7_shopIs X.l C.htr) ⟨rfl, rfl⟩ ⟨by decide, by decide⟩ (by decide) (by decide) zcl_L_57 zw_505 zw_506 zK7 dL_law_738 ?_
  exact zk_L_law_741 CC hn hR he273 hJ273 _ _ (by have h0 : (zXc X a d).ce = a := rfl; omega) (by have h0 : (zXc X a d).sl = d := rfl; omega)
def zb_L_law_719 (J273 : ZP) : ZP := (z_ist 16 (z_ald 1 (z_ild 9 (z_ild 10 (z_push 1 (z_invVq 7 3 sp_X7_shopIs (zb_L_law_730 J273)))))))
set_option maxRecDepth 20000 in
theorem zk_L_law_719 {X : ZX} (CC : zCC X) (hn : X.nL = 22) (hR : ZL X 1613 0 z_yes) {m : Nat} {J273 : ZP} (he273 : 0 ≤ m) (hJ273 : ZL X 273 m J273) : ZL X 719 (m + 1) (zb_L_law_719 J273) := by
  unfold zb_L_law_719
  intro a d ha hd
  have C := CC a d (by have h0 : (zXc X a d).ce = a := rfl; omega) (by have h0 : (zXc X a d).sl = d := rfl; omega)
  refine z_istore_ok (pc := 719) (i := 16) C.hx C.hb dL_law_719 (zlt hn (by decide)) ?_
  refine z_aload_n_ok (pc := 721) (i := 1) C.hx C.hb dL_law_721 rfl ?_
  refine z_iload_ok (pc := 722) (i := 9) C.hx C.hb dL_law_722 ?_
  refine z_iload_ok (pc := 724) (i := 10) C.hx C.hb dL_law_724 ?_
  refine z_iconst_ok (pc := 726) (v := 1) C.hx C.hb dL_law_726 (by decide) ?_
  refine z_invVq_ok (pc := 727) C (zm_X7_shopIs X.l C.htr) ⟨rfl, rfl⟩ ⟨by decide, by decide⟩ (by decide) (by decide) zcl_L_57 zw_505 zw_506 zK7 dL_law_727 ?_
  exact zk_L_law_730 CC hn hR he273 hJ273 _ _ (by have h0 : (zXc X a d).ce = a := rfl; omega) (by have h0 : (zXc X a d).sl = d := rfl; omega)
def zb_L_law_708 (J273 : ZP) : ZP := (z_ist 15 (z_ald 1 (z_ild 9 (z_ild 10 (z_push 0 (z_invVq 7 3 sp_X7_shopIs (zb_L_law_719 J273)))))))
set_option maxRecDepth 20000 in
theorem zk_L_law_708 {X : ZX} (CC : zCC X) (hn : X.nL = 22) (hR : ZL X 1613 0 z_yes) {m : Nat} {J273 : ZP} (he273 : 0 ≤ m) (hJ273 : ZL X 273 m J273) : ZL X 708 (m + 1) (zb_L_law_708 J273) := by
  unfold zb_L_law_708
  intro a d ha hd
  have C := CC a d (by have h0 : (zXc X a d).ce = a := rfl; omega) (by have h0 : (zXc X a d).sl = d := rfl; omega)
  refine z_istore_ok (pc := 708) (i := 15) C.hx C.hb dL_law_708 (zlt hn (by decide)) ?_
  refine z_aload_n_ok (pc := 710) (i := 1) C.hx C.hb dL_law_710 rfl ?_
  refine z_iload_ok (pc := 711) (i := 9) C.hx C.hb dL_law_711 ?_
  refine z_iload_ok (pc := 713) (i := 10) C.hx C.hb dL_law_713 ?_
  refine z_iconst_ok (pc := 715) (v := 0) C.hx C.hb dL_law_715 (by decide) ?_
  refine z_invVq_ok (pc := 716) C (zm_X7_shopIs X.l C.htr) ⟨rfl, rfl⟩ ⟨by decide, by decide⟩ (by decide) (by decide) zcl_L_57 zw_505 zw_506 zK7 dL_law_716 ?_
  exact zk_L_law_719 CC hn hR he273 hJ273 _ _ (by have h0 : (zXc X a d).ce = a := rfl; omega) (by have h0 : (zXc X a d).sl = d := rfl; omega)
def zb_L_law_695 (J273 : ZP) : ZP := (z_ist 14 (z_ald 1 (z_ild 9 (z_ild 10 (z_ild 11 (z_push 2 (z_invVq 7 4 sp_X7_lacks (zb_L_law_708 J273))))))))
set_option maxRecDepth 20000 in
theorem zk_L_law_695 {X : ZX} (CC : zCC X) (hn : X.nL = 22) (hR : ZL X 1613 0 z_yes) {m : Nat} {J273 : ZP} (he273 : 0 ≤ m) (hJ273 : ZL X 273 m J273) : ZL X 695 (m + 1) (zb_L_law_695 J273) := by
  unfold zb_L_law_695
  intro a d ha hd
  have C := CC a d (by have h0 : (zXc X a d).ce = a := rfl; omega) (by have h0 : (zXc X a d).sl = d := rfl; omega)
  refine z_istore_ok (pc := 695) (i := 14) C.hx C.hb dL_law_695 (zlt hn (by decide)) ?_
  refine z_aload_n_ok (pc := 697) (i := 1) C.hx C.hb dL_law_697 rfl ?_
  refine z_iload_ok (pc := 698) (i := 9) C.hx C.hb dL_law_698 ?_
  refine z_iload_ok (pc := 700) (i := 10) C.hx C.hb dL_law_700 ?_
  refine z_iload_ok (pc := 702) (i := 11) C.hx C.hb dL_law_702 ?_
  refine z_iconst_ok (pc := 704) (v := 2) C.hx C.hb dL_law_704 (by decide) ?_
  refine z_invVq_ok (pc := 705) C (zm_X7_lacks X.l C.htr) ⟨rfl, rfl⟩ ⟨by decide, by decide⟩ (by decide) (by decide) zcl_L_104 zw_501 zw_502 zK7 dL_law_705 ?_
  exact zk_L_law_708 CC hn hR he273 hJ273 _ _ (by have h0 : (zXc X a d).ce = a := rfl; omega) (by have h0 : (zXc X a d).sl = d := rfl; omega)
def zb_L_law_662 (J273 : ZP) : ZP := (z_bin (fun x y => x + y) (z_cmp (fun x y => x = y) (zb_L_law_1562 J273) (fun _ _ _ _ => False)))
set_option maxRecDepth 20000 in
theorem zk_L_law_662 {X : ZX} (CC : zCC X) (hn : X.nL = 22) (hR : ZL X 1613 0 z_yes) {m : Nat} {J273 : ZP} (he273 : 0 ≤ m) (hJ273 : ZL X 273 m J273) : ZL X 662 (m + 0) (zb_L_law_662 J273) := by
  unfold zb_L_law_662
  intro a d ha hd
  have C := CC a d (by have h0 : (zXc X a d).ce = a := rfl; omega) (by have h0 : (zXc X a d).sl = d := rfl; omega)
  refine z_iadd_ok (pc := 662) C.hx C.hb dL_law_662 ?_
  refine z_icmp_eq_ok (pc := 663) (tgt := 668) C.hx C.hb dL_law_663 (by decide) ?_ ?_
  · refine z_goto_ok (pc := 668) (tgt := 1562) C.hx C.hb dL_law_668 (by decide) ?_
    exact zk_L_law_1562 CC hn hR he273 hJ273 _ _ (by have h0 : (zXc X a d).ce = a := rfl; omega) (by have h0 : (zXc X a d).sl = d := rfl; omega)
  · exact fun _ _ _ _ _ _ _ h => h.elim
def zb_L_law_661 (J273 : ZP) : ZP := (z_push 0 (zb_L_law_662 J273))
set_option maxRecDepth 20000 in
theorem zk_L_law_661 {X : ZX} (CC : zCC X) (hn : X.nL = 22) (hR : ZL X 1613 0 z_yes) {m : Nat} {J273 : ZP} (he273 : 0 ≤ m) (hJ273 : ZL X 273 m J273) : ZL X 661 (m + 0) (zb_L_law_661 J273) := by
  unfold zb_L_law_661
  intro a d ha hd
  have C := CC a d (by have h0 : (zXc X a d).ce = a := rfl; omega) (by have h0 : (zXc X a d).sl = d := rfl; omega)
  refine z_iconst_ok (pc := 661) (v := 0) C.hx C.hb dL_law_661 (by decide) ?_
  exact zk_L_law_662 CC hn hR he273 hJ273 _ _ (by have h0 : (zXc X a d).ce = a := rfl; omega) (by have h0 : (zXc X a d).sl = d := rfl; omega)
def zb_L_law_641 (J273 : ZP) : ZP := (z_ild 19 (z_ild 18 (z_push (-100) (z_cmp (fun x y => x ≤ y) (zb_L_law_661 J273) (z_ild 13 (z_push 2 (z_cmp (fun x y => y ≤ x) (zb_L_law_661 J273) (z_ild 11 (zb_L_law_662 J273)))))))))
set_option maxRecDepth 20000 in
theorem zk_L_law_641 {X : ZX} (CC : zCC X) (hn : X.nL = 22) (hR : ZL X 1613 0 z_yes) {m : Nat} {J273 : ZP} (he273 : 0 ≤ m) (hJ273 : ZL X 273 m J273) : ZL X 641 (m + 0) (zb_L_law_641 J273) := by
  unfold zb_L_law_641
  intro a d ha hd
  have C := CC a d (by have h0 : (zXc X a d).ce = a := rfl; omega) (by have h0 : (zXc X a d).sl = d := rfl; omega)
  refine z_iload_ok (pc := 641) (i := 19) C.hx C.hb dL_law_641 ?_
  refine z_iload_ok (pc := 643) (i := 18) C.hx C.hb dL_law_643 ?_
  refine z_bipush_ok (pc := 645) (v := -100) C.hx C.hb dL_law_645 (by decide) ?_
  refine z_icmp_le_ok (pc := 647) (tgt := 661) C.hx C.hb dL_law_647 (by decide) ?_ ?_
  · exact zk_L_law_661 CC hn hR he273 hJ273 _ _ (by have h0 : (zXc X a d).ce = a := rfl; omega) (by have h0 : (zXc X a d).sl = d := rfl; omega)
  · refine z_iload_ok (pc := 650) (i := 13) C.hx C.hb dL_law_650 ?_
    refine z_iconst_ok (pc := 652) (v := 2) C.hx C.hb dL_law_652 (by decide) ?_
    refine z_icmp_ge_ok (pc := 653) (tgt := 661) C.hx C.hb dL_law_653 (by decide) ?_ ?_
    · exact zk_L_law_661 CC hn hR he273 hJ273 _ _ (by have h0 : (zXc X a d).ce = a := rfl; omega) (by have h0 : (zXc X a d).sl = d := rfl; omega)
    · refine z_iload_ok (pc := 656) (i := 11) C.hx C.hb dL_law_656 ?_
      refine z_goto_ok (pc := 658) (tgt := 662) C.hx C.hb dL_law_658 (by decide) ?_
      exact zk_L_law_662 CC hn hR he273 hJ273 _ _ (by have h0 : (zXc X a d).ce = a := rfl; omega) (by have h0 : (zXc X a d).sl = d := rfl; omega)
def zb_L_law_628 (J273 : ZP) : ZP := (z_bin (fun x y => x - y) (z_cmp (fun x y => x = y) (z_ald 1 (z_ild 9 (z_ild 10 (z_push 1 (z_invVq 7 3 sp_X7_shopIs (zb_L_law_641 J273)))))) (fun _ _ _ _ => False)))
set_option maxRecDepth 20000 in
theorem zk_L_law_628 {X : ZX} (CC : zCC X) (hn : X.nL = 22) (hR : ZL X 1613 0 z_yes) {m : Nat} {J273 : ZP} (he273 : 0 ≤ m) (hJ273 : ZL X 273 m J273) : ZL X 628 (m + 0) (zb_L_law_628 J273) := by
  unfold zb_L_law_628
  intro a d ha hd
  have C := CC a d (by have h0 : (zXc X a d).ce = a := rfl; omega) (by have h0 : (zXc X a d).sl = d := rfl; omega)
  refine z_isub_ok (pc := 628) C.hx C.hb dL_law_628 ?_
  refine z_icmp_ne_ok (pc := 629) (tgt := 666) C.hx C.hb dL_law_629 (by decide) ?_ ?_
  · exact fun _ _ _ _ _ _ _ h => h.elim
  · refine z_aload_n_ok (pc := 632) (i := 1) C.hx C.hb dL_law_632 rfl ?_
    refine z_iload_ok (pc := 633) (i := 9) C.hx C.hb dL_law_633 ?_
    refine z_iload_ok (pc := 635) (i := 10) C.hx C.hb dL_law_635 ?_
    refine z_iconst_ok (pc := 637) (v := 1) C.hx C.hb dL_law_637 (by decide) ?_
    refine z_invVq_ok (pc := 638) C (zm_X7_shopIs X.l C.htr) ⟨rfl, rfl⟩ ⟨by decide, by decide⟩ (by decide) (by decide) zcl_L_57 zw_505 zw_506 zK7 dL_law_638 ?_
    exact zk_L_law_641 CC hn hR he273 hJ273 _ _ (by have h0 : (zXc X a d).ce = a := rfl; omega) (by have h0 : (zXc X a d).sl = d := rfl; omega)
def zb_L_law_613 (J273 : ZP) : ZP := (z_ild 14 (z_ild 18 (z_push (-100) (z_cmp (fun x y => x ≤ y) (z_push 0 (zb_L_law_628 J273)) (z_ild 11 (zb_L_law_628 J273))))))
set_option maxRecDepth 20000 in
theorem zk_L_law_613 {X : ZX} (CC : zCC X) (hn : X.nL = 22) (hR : ZL X 1613 0 z_yes) {m : Nat} {J273 : ZP} (he273 : 0 ≤ m) (hJ273 : ZL X 273 m J273) : ZL X 613 (m + 0) (zb_L_law_613 J273) := by
  unfold zb_L_law_613
  intro a d ha hd
  have C := CC a d (by have h0 : (zXc X a d).ce = a := rfl; omega) (by have h0 : (zXc X a d).sl = d := rfl; omega)
  refine z_iload_ok (pc := 613) (i := 14) C.hx C.hb dL_law_613 ?_
  refine z_iload_ok (pc := 615) (i := 18) C.hx C.hb dL_law_615 ?_
  refine z_bipush_ok (pc := 617) (v := -100) C.hx C.hb dL_law_617 (by decide) ?_
  refine z_icmp_le_ok (pc := 619) (tgt := 627) C.hx C.hb dL_law_619 (by decide) ?_ ?_
  · refine z_iconst_ok (pc := 627) (v := 0) C.hx C.hb dL_law_627 (by decide) ?_
    exact zk_L_law_628 CC hn hR he273 hJ273 _ _ (by have h0 : (zXc X a d).ce = a := rfl; omega) (by have h0 : (zXc X a d).sl = d := rfl; omega)
  · refine z_iload_ok (pc := 622) (i := 11) C.hx C.hb dL_law_622 ?_
    refine z_goto_ok (pc := 624) (tgt := 628) C.hx C.hb dL_law_624 (by decide) ?_
    exact zk_L_law_628 CC hn hR he273 hJ273 _ _ (by have h0 : (zXc X a d).ce = a := rfl; omega) (by have h0 : (zXc X a d).sl = d := rfl; omega)
def zb_L_law_599 (J273 : ZP) : ZP := (z_ild 18 (z_cmp (fun x y => x = y) (z_ald 1 (z_ild 9 (z_ild 10 (z_push 0 (z_invVq 7 3 sp_X7_shopIs (zb_L_law_613 J273)))))) (fun _ _ _ _ => False)))
set_option maxRecDepth 20000 in
theorem zk_L_law_599 {X : ZX} (CC : zCC X) (hn : X.nL = 22) (hR : ZL X 1613 0 z_yes) {m : Nat} {J273 : ZP} (he273 : 0 ≤ m) (hJ273 : ZL X 273 m J273) : ZL X 599 (m + 0) (zb_L_law_599 J273) := by
  unfold zb_L_law_599
  intro a d ha hd
  have C := CC a d (by have h0 : (zXc X a d).ce = a := rfl; omega) (by have h0 : (zXc X a d).sl = d := rfl; omega)
  refine z_iload_ok (pc := 599) (i := 18) C.hx C.hb dL_law_599 ?_
  refine z_icmp_ne_ok (pc := 601) (tgt := 666) C.hx C.hb dL_law_601 (by decide) ?_ ?_
  · exact fun _ _ _ _ _ _ _ h => h.elim
  · refine z_aload_n_ok (pc := 604) (i := 1) C.hx C.hb dL_law_604 rfl ?_
    refine z_iload_ok (pc := 605) (i := 9) C.hx C.hb dL_law_605 ?_
    refine z_iload_ok (pc := 607) (i := 10) C.hx C.hb dL_law_607 ?_
    refine z_iconst_ok (pc := 609) (v := 0) C.hx C.hb dL_law_609 (by decide) ?_
    refine z_invVq_ok (pc := 610) C (zm_X7_shopIs X.l C.htr) ⟨rfl, rfl⟩ ⟨by decide, by decide⟩ (by decide) (by decide) zcl_L_57 zw_505 zw_506 zK7 dL_law_610 ?_
    exact zk_L_law_613 CC hn hR he273 hJ273 _ _ (by have h0 : (zXc X a d).ce = a := rfl; omega) (by have h0 : (zXc X a d).sl = d := rfl; omega)
def zb_L_law_585 (J273 : ZP) : ZP := (z_ist 19 (z_ald 1 (z_ild 8 (z_ild 9 (z_ild 10 (z_ild 11 (z_invSq 5 sp_L_tryBuy (zb_L_law_599 J273))))))))
set_option maxRecDepth 20000 in
theorem zk_L_law_585 {X : ZX} (CC : zCC X) (hn : X.nL = 22) (hR : ZL X 1613 0 z_yes) {m : Nat} {J273 : ZP} (he273 : 0 ≤ m) (hJ273 : ZL X 273 m J273) : ZL X 585 (m + 1) (zb_L_law_585 J273) := by
  unfold zb_L_law_585
  intro a d ha hd
  have C := CC a d (by have h0 : (zXc X a d).ce = a := rfl; omega) (by have h0 : (zXc X a d).sl = d := rfl; omega)
  refine z_istore_ok (pc := 585) (i := 19) C.hx C.hb dL_law_585 (zlt hn (by decide)) ?_
  refine z_aload_n_ok (pc := 587) (i := 1) C.hx C.hb dL_law_587 rfl ?_
  refine z_iload_ok (pc := 588) (i := 8) C.hx C.hb dL_law_588 ?_
  refine z_iload_ok (pc := 590) (i := 9) C.hx C.hb dL_law_590 ?_
  refine z_iload_ok (pc := 592) (i := 10) C.hx C.hb dL_law_592 ?_
  refine z_iload_ok (pc := 594) (i := 11) C.hx C.hb dL_law_594 ?_
  refine z_invSWq_ok (pc := 596) C (zm_L_tryBuy X.l C.htr) ⟨rfl, rfl⟩ ⟨by decide, by decide⟩ (by decide) (by decide) zcl_L_100 zw_629 dL_law_596 ?_
  exact zk_L_law_599 CC hn hR he273 hJ273 _ _ (by have h0 : (zXc X a d).ce = a := rfl; omega) (by have h0 : (zXc X a d).sl = d := rfl; omega)
def zb_L_law_574 (J273 : ZP) : ZP := (z_ist 18 (z_ald 1 (z_ild 9 (z_ild 10 (z_push 1 (z_invVq 7 3 sp_X7_shopIs (zb_L_law_585 J273)))))))
set_option maxRecDepth 20000 in
theorem zk_L_law_574 {X : ZX} (CC : zCC X) (hn : X.nL = 22) (hR : ZL X 1613 0 z_yes) {m : Nat} {J273 : ZP} (he273 : 0 ≤ m) (hJ273 : ZL X 273 m J273) : ZL X 574 (m + 1) (zb_L_law_574 J273) := by
  unfold zb_L_law_574
  intro a d ha hd
  have C := CC a d (by have h0 : (zXc X a d).ce = a := rfl; omega) (by have h0 : (zXc X a d).sl = d := rfl; omega)
  refine z_istore_ok (pc := 574) (i := 18) C.hx C.hb dL_law_574 (zlt hn (by decide)) ?_
  refine z_aload_n_ok (pc := 576) (i := 1) C.hx C.hb dL_law_576 rfl ?_
  refine z_iload_ok (pc := 577) (i := 9) C.hx C.hb dL_law_577 ?_
  refine z_iload_ok (pc := 579) (i := 10) C.hx C.hb dL_law_579 ?_
  refine z_iconst_ok (pc := 581) (v := 1) C.hx C.hb dL_law_581 (by decide) ?_
  refine z_invVq_ok (pc := 582) C (zm_X7_shopIs X.l C.htr) ⟨rfl, rfl⟩ ⟨by decide, by decide⟩ (by decide) (by decide) zcl_L_57 zw_505 zw_506 zK7 dL_law_582 ?_
  exact zk_L_law_585 CC hn hR he273 hJ273 _ _ (by have h0 : (zXc X a d).ce = a := rfl; omega) (by have h0 : (zXc X a d).sl = d := rfl; omega)
def zb_L_law_548 (J273 : ZP) : ZP := (z_ild 17 (z_if (fun x => x = 0) (z_push (-200) (zb_L_law_574 J273)) (z_ild 13 (z_push 2 (z_cmp (fun x y => x = y) (z_push (-1) (zb_L_law_574 J273)) (z_ild 15 (z_ild 16 (z_bin (fun x y => x - y) (zb_L_law_574 J273)))))))))
set_option maxRecDepth 20000 in
theorem zk_L_law_548 {X : ZX} (CC : zCC X) (hn : X.nL = 22) (hR : ZL X 1613 0 z_yes) {m : Nat} {J273 : ZP} (he273 : 0 ≤ m) (hJ273 : ZL X 273 m J273) : ZL X 548 (m + 1) (zb_L_law_548 J273) := by
  unfold zb_L_law_548
  intro a d ha hd
  have C := CC a d (by have h0 : (zXc X a d).ce = a := rfl; omega) (by have h0 : (zXc X a d).sl = d := rfl; omega)
  refine z_iload_ok (pc := 548) (i := 17) C.hx C.hb dL_law_548 ?_
  refine z_if_ne_ok (pc := 550) (tgt := 559) C.hx C.hb dL_law_550 (by decide) ?_ ?_
  · refine z_iload_ok (pc := 559) (i := 13) C.hx C.hb dL_law_559 ?_
    refine z_iconst_ok (pc := 561) (v := 2) C.hx C.hb dL_law_561 (by decide) ?_
    refine z_icmp_ne_ok (pc := 562) (tgt := 569) C.hx C.hb dL_law_562 (by decide) ?_ ?_
    · refine z_iload_ok (pc := 569) (i := 15) C.hx C.hb dL_law_569 ?_
      refine z_iload_ok (pc := 571) (i := 16) C.hx C.hb dL_law_571 ?_
      refine z_isub_ok (pc := 573) C.hx C.hb dL_law_573 ?_
      exact zk_L_law_574 CC hn hR he273 hJ273 _ _ (by have h0 : (zXc X a d).ce = a := rfl; omega) (by have h0 : (zXc X a d).sl = d := rfl; omega)
    · refine z_iconst_ok (pc := 565) (v := -1) C.hx C.hb dL_law_565 (by decide) ?_
      refine z_goto_ok (pc := 566) (tgt := 574) C.hx C.hb dL_law_566 (by decide) ?_
      exact zk_L_law_574 CC hn hR he273 hJ273 _ _ (by have h0 : (zXc X a d).ce = a := rfl; omega) (by have h0 : (zXc X a d).sl = d := rfl; omega)
  · refine z_sipush_ok (pc := 553) (v := -200) C.hx C.hb dL_law_553 (by decide) ?_
    refine z_goto_ok (pc := 556) (tgt := 574) C.hx C.hb dL_law_556 (by decide) ?_
    exact zk_L_law_574 CC hn hR he273 hJ273 _ _ (by have h0 : (zXc X a d).ce = a := rfl; omega) (by have h0 : (zXc X a d).sl = d := rfl; omega)
def zb_L_law_527 (J273 : ZP) : ZP := (z_ist 17 (z_ild 13 (z_push 1 (z_cmp (fun x y => x = y) (z_ild 11 (z_push 100 (z_dvn (fun x y => x - x / y * y) (z_if (fun x => x ≤ 0) (zb_L_law_548 J273) (z_push (-100) (zb_L_law_574 J273)))))) (zb_L_law_548 J273)))))
set_option maxRecDepth 20000 in
theorem zk_L_law_527 {X : ZX} (CC : zCC X) (hn : X.nL = 22) (hR : ZL X 1613 0 z_yes) {m : Nat} {J273 : ZP} (he273 : 0 ≤ m) (hJ273 : ZL X 273 m J273) : ZL X 527 (m + 1) (zb_L_law_527 J273) := by
  unfold zb_L_law_527
  intro a d ha hd
  have C := CC a d (by have h0 : (zXc X a d).ce = a := rfl; omega) (by have h0 : (zXc X a d).sl = d := rfl; omega)
  refine z_istore_ok (pc := 527) (i := 17) C.hx C.hb dL_law_527 (zlt hn (by decide)) ?_
  refine z_iload_ok (pc := 529) (i := 13) C.hx C.hb dL_law_529 ?_
  refine z_iconst_ok (pc := 531) (v := 1) C.hx C.hb dL_law_531 (by decide) ?_
  refine z_icmp_ne_ok (pc := 532) (tgt := 548) C.hx C.hb dL_law_532 (by decide) ?_ ?_
  · exact zk_L_law_548 CC hn hR he273 hJ273 _ _ (by have h0 : (zXc X a d).ce = a := rfl; omega) (by have h0 : (zXc X a d).sl = d := rfl; omega)
  · refine z_iload_ok (pc := 535) (i := 11) C.hx C.hb dL_law_535 ?_
    refine z_bipush_ok (pc := 537) (v := 100) C.hx C.hb dL_law_537 (by decide) ?_
    refine z_irem_ok (pc := 539) C.hx C.hb dL_law_539 ?_
    refine z_if_le_ok (pc := 540) (tgt := 548) C.hx C.hb dL_law_540 (by decide) ?_ ?_
    · exact zk_L_law_548 CC hn hR he273 hJ273 _ _ (by have h0 : (zXc X a d).ce = a := rfl; omega) (by have h0 : (zXc X a d).sl = d := rfl; omega)
    · refine z_bipush_ok (pc := 543) (v := -100) C.hx C.hb dL_law_543 (by decide) ?_
      refine z_goto_ok (pc := 545) (tgt := 574) C.hx C.hb dL_law_545 (by decide) ?_
      exact zk_L_law_574 CC hn hR he273 hJ273 _ _ (by have h0 : (zXc X a d).ce = a := rfl; omega) (by have h0 : (zXc X a d).sl = d := rfl; omega)
def zb_L_law_526 (J273 : ZP) : ZP := (z_push 0 (zb_L_law_527 J273))
set_option maxRecDepth 20000 in
theorem zk_L_law_526 {X : ZX} (CC : zCC X) (hn : X.nL = 22) (hR : ZL X 1613 0 z_yes) {m : Nat} {J273 : ZP} (he273 : 0 ≤ m) (hJ273 : ZL X 273 m J273) : ZL X 526 (m + 1) (zb_L_law_526 J273) := by
  unfold zb_L_law_526
  intro a d ha hd
  have C := CC a d (by have h0 : (zXc X a d).ce = a := rfl; omega) (by have h0 : (zXc X a d).sl = d := rfl; omega)
  refine z_iconst_ok (pc := 526) (v := 0) C.hx C.hb dL_law_526 (by decide) ?_
  exact zk_L_law_527 CC hn hR he273 hJ273 _ _ (by have h0 : (zXc X a d).ce = a := rfl; omega) (by have h0 : (zXc X a d).sl = d := rfl; omega)
def zb_L_law_522 (J273 : ZP) : ZP := (z_push 1 (zb_L_law_527 J273))
set_option maxRecDepth 20000 in
theorem zk_L_law_522 {X : ZX} (CC : zCC X) (hn : X.nL = 22) (hR : ZL X 1613 0 z_yes) {m : Nat} {J273 : ZP} (he273 : 0 ≤ m) (hJ273 : ZL X 273 m J273) : ZL X 522 (m + 1) (zb_L_law_522 J273) := by
  unfold zb_L_law_522
  intro a d ha hd
  have C := CC a d (by have h0 : (zXc X a d).ce = a := rfl; omega) (by have h0 : (zXc X a d).sl = d := rfl; omega)
  refine z_iconst_ok (pc := 522) (v := 1) C.hx C.hb dL_law_522 (by decide) ?_
  refine z_goto_ok (pc := 523) (tgt := 527) C.hx C.hb dL_law_523 (by decide) ?_
  exact zk_L_law_527 CC hn hR he273 hJ273 _ _ (by have h0 : (zXc X a d).ce = a := rfl; omega) (by have h0 : (zXc X a d).sl = d := rfl; omega)
def zb_L_law_517 (J273 : ZP) : ZP := (z_ild 9 (z_cmp (fun x y => x = y) (zb_L_law_522 J273) (zb_L_law_526 J273)))
set_option maxRecDepth 20000 in
theorem zk_L_law_517 {X : ZX} (CC : zCC X) (hn : X.nL = 22) (hR : ZL X 1613 0 z_yes) {m : Nat} {J273 : ZP} (he273 : 0 ≤ m) (hJ273 : ZL X 273 m J273) : ZL X 517 (m + 1) (zb_L_law_517 J273) := by
  unfold zb_L_law_517
  intro a d ha hd
  have C := CC a d (by have h0 : (zXc X a d).ce = a := rfl; omega) (by have h0 : (zXc X a d).sl = d := rfl; omega)
  refine z_iload_ok (pc := 517) (i := 9) C.hx C.hb dL_law_517 ?_
  refine z_icmp_ne_ok (pc := 519) (tgt := 526) C.hx C.hb dL_law_519 (by decide) ?_ ?_
  · exact zk_L_law_526 CC hn hR he273 hJ273 _ _ (by have h0 : (zXc X a d).ce = a := rfl; omega) (by have h0 : (zXc X a d).sl = d := rfl; omega)
  · exact zk_L_law_522 CC hn hR he273 hJ273 _ _ (by have h0 : (zXc X a d).ce = a := rfl; omega) (by have h0 : (zXc X a d).sl = d := rfl; omega)
def zb_L_law_488 (J273 : ZP) : ZP := (z_if (fun x => x = 0) (z_ild 14 (z_ild 11 (z_cmp (fun x y => x < y) (zb_L_law_526 J273) (z_ild 16 (z_ild 15 (z_cmp (fun x y => y < x) (zb_L_law_526 J273) (z_ild 13 (z_if (fun x => 0 < x) (zb_L_law_522 J273) (z_ald 1 (z_ild 8 (z_push 1 (z_invVq 7 2 sp_X7_personIs (zb_L_law_517 J273))))))))))))) (zb_L_law_526 J273))
set_option maxRecDepth 20000 in
theorem zk_L_law_488 {X : ZX} (CC : zCC X) (hn : X.nL = 22) (hR : ZL X 1613 0 z_yes) {m : Nat} {J273 : ZP} (he273 : 0 ≤ m) (hJ273 : ZL X 273 m J273) : ZL X 488 (m + 1) (zb_L_law_488 J273) := by
  unfold zb_L_law_488
  intro a d ha hd
  have C := CC a d (by have h0 : (zXc X a d).ce = a := rfl; omega) (by have h0 : (zXc X a d).sl = d := rfl; omega)
  refine z_if_ne_ok (pc := 488) (tgt := 526) C.hx C.hb dL_law_488 (by decide) ?_ ?_
  · exact zk_L_law_526 CC hn hR he273 hJ273 _ _ (by have h0 : (zXc X a d).ce = a := rfl; omega) (by have h0 : (zXc X a d).sl = d := rfl; omega)
  · refine z_iload_ok (pc := 491) (i := 14) C.hx C.hb dL_law_491 ?_
    refine z_iload_ok (pc := 493) (i := 11) C.hx C.hb dL_law_493 ?_
    refine z_icmp_lt_ok (pc := 495) (tgt := 526) C.hx C.hb dL_law_495 (by decide) ?_ ?_
    · exact zk_L_law_526 CC hn hR he273 hJ273 _ _ (by have h0 : (zXc X a d).ce = a := rfl; omega) (by have h0 : (zXc X a d).sl = d := rfl; omega)
    · refine z_iload_ok (pc := 498) (i := 16) C.hx C.hb dL_law_498 ?_
      refine z_iload_ok (pc := 500) (i := 15) C.hx C.hb dL_law_500 ?_
      refine z_icmp_gt_ok (pc := 502) (tgt := 526) C.hx C.hb dL_law_502 (by decide) ?_ ?_
      · exact zk_L_law_526 CC hn hR he273 hJ273 _ _ (by have h0 : (zXc X a d).ce = a := rfl; omega) (by have h0 : (zXc X a d).sl = d := rfl; omega)
      · refine z_iload_ok (pc := 505) (i := 13) C.hx C.hb dL_law_505 ?_
        refine z_if_gt_ok (pc := 507) (tgt := 522) C.hx C.hb dL_law_507 (by decide) ?_ ?_
        · exact zk_L_law_522 CC hn hR he273 hJ273 _ _ (by have h0 : (zXc X a d).ce = a := rfl; omega) (by have h0 : (zXc X a d).sl = d := rfl; omega)
        · refine z_aload_n_ok (pc := 510) (i := 1) C.hx C.hb dL_law_510 rfl ?_
          refine z_iload_ok (pc := 511) (i := 8) C.hx C.hb dL_law_511 ?_
          refine z_iconst_ok (pc := 513) (v := 1) C.hx C.hb dL_law_513 (by decide) ?_
          refine z_invVq_ok (pc := 514) C (zm_X7_personIs X.l C.htr) ⟨rfl, rfl⟩ ⟨by decide, by decide⟩ (by decide) (by decide) zcl_L_48 zw_363 zw_364 zK7 dL_law_514 ?_
          exact zk_L_law_517 CC hn hR he273 hJ273 _ _ (by have h0 : (zXc X a d).ce = a := rfl; omega) (by have h0 : (zXc X a d).sl = d := rfl; omega)
def zb_L_law_478 (J273 : ZP) : ZP := (z_ist 16 (z_ald 1 (z_ild 8 (z_push 6 (z_invVq 7 2 sp_X7_personIs (zb_L_law_488 J273))))))
set_option maxRecDepth 20000 in
theorem zk_L_law_478 {X : ZX} (CC : zCC X) (hn : X.nL = 22) (hR : ZL X 1613 0 z_yes) {m : Nat} {J273 : ZP} (he273 : 0 ≤ m) (hJ273 : ZL X 273 m J273) : ZL X 478 (m + 1) (zb_L_law_478 J273) := by
  unfold zb_L_law_478
  intro a d ha hd
  have C := CC a d (by have h0 : (zXc X a d).ce = a := rfl; omega) (by have h0 : (zXc X a d).sl = d := rfl; omega)
  refine z_istore_ok (pc := 478) (i := 16) C.hx C.hb dL_law_478 (zlt hn (by decide)) ?_
  refine z_aload_n_ok (pc := 480) (i := 1) C.hx C.hb dL_law_480 rfl ?_
  refine z_iload_ok (pc := 481) (i := 8) C.hx C.hb dL_law_481 ?_
  refine z_bipush_ok (pc := 483) (v := 6) C.hx C.hb dL_law_483 (by decide) ?_
  refine z_invVq_ok (pc := 485) C (zm_X7_personIs X.l C.htr) ⟨rfl, rfl⟩ ⟨by decide, by decide⟩ (by decide) (by decide) zcl_L_48 zw_363 zw_364 zK7 dL_law_485 ?_
  exact zk_L_law_488 CC hn hR he273 hJ273 _ _ (by have h0 : (zXc X a d).ce = a := rfl; omega) (by have h0 : (zXc X a d).sl = d := rfl; omega)
def zb_L_law_468 (J273 : ZP) : ZP := (z_ild 11 (z_bin (fun x y => x * y) (z_push 100 (z_dvn (fun x y => x / y) (zb_L_law_478 J273)))))
set_option maxRecDepth 20000 in
theorem zk_L_law_468 {X : ZX} (CC : zCC X) (hn : X.nL = 22) (hR : ZL X 1613 0 z_yes) {m : Nat} {J273 : ZP} (he273 : 0 ≤ m) (hJ273 : ZL X 273 m J273) : ZL X 468 (m + 1) (zb_L_law_468 J273) := by
  unfold zb_L_law_468
  intro a d ha hd
  have C := CC a d (by have h0 : (zXc X a d).ce = a := rfl; omega) (by have h0 : (zXc X a d).sl = d := rfl; omega)
  refine z_iload_ok (pc := 468) (i := 11) C.hx C.hb dL_law_468 ?_
  refine z_imul_ok (pc := 470) C.hx C.hb dL_law_470 ?_
  refine z_bipush_ok (pc := 471) (v := 100) C.hx C.hb dL_law_471 (by decide) ?_
  refine z_idiv_ok (pc := 473) C.hx C.hb dL_law_473 ?_
  refine z_goto_ok (pc := 474) (tgt := 478) C.hx C.hb dL_law_474 (by decide) ?_
  exact zk_L_law_478 CC hn hR he273 hJ273 _ _ (by have h0 : (zXc X a d).ce = a := rfl; omega) (by have h0 : (zXc X a d).sl = d := rfl; omega)
def zb_L_law_443 (J273 : ZP) : ZP := (z_ist 15 (z_ild 13 (z_if (fun x => x = 0) (z_ild 11 (zb_L_law_478 J273)) (z_ild 13 (z_push 1 (z_cmp (fun x y => x = y) (z_ald 1 (z_ild 10 (z_push 1 (z_invVq 7 2 sp_X7_goodIs (zb_L_law_468 J273))))) (z_push 0 (zb_L_law_478 J273))))))))
set_option maxRecDepth 20000 in
theorem zk_L_law_443 {X : ZX} (CC : zCC X) (hn : X.nL = 22) (hR : ZL X 1613 0 z_yes) {m : Nat} {J273 : ZP} (he273 : 0 ≤ m) (hJ273 : ZL X 273 m J273) : ZL X 443 (m + 1) (zb_L_law_443 J273) := by
  unfold zb_L_law_443
  intro a d ha hd
  have C := CC a d (by have h0 : (zXc X a d).ce = a := rfl; omega) (by have h0 : (zXc X a d).sl = d := rfl; omega)
  refine z_istore_ok (pc := 443) (i := 15) C.hx C.hb dL_law_443 (zlt hn (by decide)) ?_
  refine z_iload_ok (pc := 445) (i := 13) C.hx C.hb dL_law_445 ?_
  refine z_if_ne_ok (pc := 447) (tgt := 455) C.hx C.hb dL_law_447 (by decide) ?_ ?_
  · refine z_iload_ok (pc := 455) (i := 13) C.hx C.hb dL_law_455 ?_
    refine z_iconst_ok (pc := 457) (v := 1) C.hx C.hb dL_law_457 (by decide) ?_
    refine z_icmp_ne_ok (pc := 458) (tgt := 477) C.hx C.hb dL_law_458 (by decide) ?_ ?_
    · refine z_iconst_ok (pc := 477) (v := 0) C.hx C.hb dL_law_477 (by decide) ?_
      exact zk_L_law_478 CC hn hR he273 hJ273 _ _ (by have h0 : (zXc X a d).ce = a := rfl; omega) (by have h0 : (zXc X a d).sl = d := rfl; omega)
    · refine z_aload_n_ok (pc := 461) (i := 1) C.hx C.hb dL_law_461 rfl ?_
      refine z_iload_ok (pc := 462) (i := 10) C.hx C.hb dL_law_462 ?_
      refine z_iconst_ok (pc := 464) (v := 1) C.hx C.hb dL_law_464 (by decide) ?_
      refine z_invVq_ok (pc := 465) C (zm_X7_goodIs X.l C.htr) ⟨rfl, rfl⟩ ⟨by decide, by decide⟩ (by decide) (by decide) zcl_L_60 zw_277 zw_278 zK7 dL_law_465 ?_
      exact zk_L_law_468 CC hn hR he273 hJ273 _ _ (by have h0 : (zXc X a d).ce = a := rfl; omega) (by have h0 : (zXc X a d).sl = d := rfl; omega)
  · refine z_iload_ok (pc := 450) (i := 11) C.hx C.hb dL_law_450 ?_
    refine z_goto_ok (pc := 452) (tgt := 478) C.hx C.hb dL_law_452 (by decide) ?_
    exact zk_L_law_478 CC hn hR he273 hJ273 _ _ (by have h0 : (zXc X a d).ce = a := rfl; omega) (by have h0 : (zXc X a d).sl = d := rfl; omega)
def zb_L_law_433 (J273 : ZP) : ZP := (zb_L_law_443 J273)
set_option maxRecDepth 20000 in
theorem zk_L_law_433 {X : ZX} (CC : zCC X) (hn : X.nL = 22) (hR : ZL X 1613 0 z_yes) {m : Nat} {J273 : ZP} (he273 : 0 ≤ m) (hJ273 : ZL X 273 m J273) : ZL X 433 (m + 1) (zb_L_law_433 J273) := by
  unfold zb_L_law_433
  intro a d ha hd
  have C := CC a d (by have h0 : (zXc X a d).ce = a := rfl; omega) (by have h0 : (zXc X a d).sl = d := rfl; omega)
  refine z_goto_ok (pc := 433) (tgt := 443) C.hx C.hb dL_law_433 (by decide) ?_
  exact zk_L_law_443 CC hn hR he273 hJ273 _ _ (by have h0 : (zXc X a d).ce = a := rfl; omega) (by have h0 : (zXc X a d).sl = d := rfl; omega)
def zb_L_law_418 (J273 : ZP) : ZP := (z_ist 14 (z_ild 13 (z_if (fun x => x = 0) (z_ald 1 (z_ild 8 (z_ild 10 (z_invVq 7 2 sp_X7_left (zb_L_law_433 J273))))) (z_ald 1 (z_ild 8 (z_push 4 (z_invVq 7 2 sp_X7_personIs (zb_L_law_443 J273))))))))
set_option maxRecDepth 20000 in
theorem zk_L_law_418 {X : ZX} (CC : zCC X) (hn : X.nL = 22) (hR : ZL X 1613 0 z_yes) {m : Nat} {J273 : ZP} (he273 : 0 ≤ m) (hJ273 : ZL X 273 m J273) : ZL X 418 (m + 1) (zb_L_law_418 J273) := by
  unfold zb_L_law_418
  intro a d ha hd
  have C := CC a d (by have h0 : (zXc X a d).ce = a := rfl; omega) (by have h0 : (zXc X a d).sl = d := rfl; omega)
  refine z_istore_ok (pc := 418) (i := 14) C.hx C.hb dL_law_418 (zlt hn (by decide)) ?_
  refine z_iload_ok (pc := 420) (i := 13) C.hx C.hb dL_law_420 ?_
  refine z_if_ne_ok (pc := 422) (tgt := 436) C.hx C.hb dL_law_422 (by decide) ?_ ?_
  · refine z_aload_n_ok (pc := 436) (i := 1) C.hx C.hb dL_law_436 rfl ?_
    refine z_iload_ok (pc := 437) (i := 8) C.hx C.hb dL_law_437 ?_
    refine z_iconst_ok (pc := 439) (v := 4) C.hx C.hb dL_law_439 (by decide) ?_
    refine z_invVq_ok (pc := 440) C (zm_X7_personIs X.l C.htr) ⟨rfl, rfl⟩ ⟨by decide, by decide⟩ (by decide) (by decide) zcl_L_48 zw_363 zw_364 zK7 dL_law_440 ?_
    exact zk_L_law_443 CC hn hR he273 hJ273 _ _ (by have h0 : (zXc X a d).ce = a := rfl; omega) (by have h0 : (zXc X a d).sl = d := rfl; omega)
  · refine z_aload_n_ok (pc := 425) (i := 1) C.hx C.hb dL_law_425 rfl ?_
    refine z_iload_ok (pc := 426) (i := 8) C.hx C.hb dL_law_426 ?_
    refine z_iload_ok (pc := 428) (i := 10) C.hx C.hb dL_law_428 ?_
    refine z_invVq_ok (pc := 430) C (zm_X7_left X.l C.htr) ⟨rfl, rfl⟩ ⟨by decide, by decide⟩ (by decide) (by decide) zcl_L_51 zw_387 zw_388 zK7 dL_law_430 ?_
    exact zk_L_law_433 CC hn hR he273 hJ273 _ _ (by have h0 : (zXc X a d).ce = a := rfl; omega) (by have h0 : (zXc X a d).sl = d := rfl; omega)
