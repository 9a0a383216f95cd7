def zb_L_law_407 (J273 : ZP) : ZP := (z_ist 11 (z_ald 1 (z_ild 9 (z_ild 10 (z_push 0 (z_invVq 7 3 sp_X7_shopIs (zb_L_law_418 J273)))))))
set_option maxRecDepth 20000 in
theorem zk_L_law_407 {X : ZX} (CC : zCC X) (hn : X.nL = 22) (hR : ZL X 1613 0 z_yes) {m : Nat} {J273 : ZP} (he273 : 0 ≤ m) (hJ273 : ZL X 273 m J273) : ZL X 407 (m + 1) (zb_L_law_407 J273) := by
  unfold zb_L_law_407
  intro a d ha hd
  have C := CC a d (by have h0 : (zXc X a d).ce = a := rfl; omega) (by have h0 : (zXc X a d).sl = d := rfl; omega)
  refine z_istore_ok (pc := 407) (i := 11) C.hx C.hb dL_law_407 (zlt hn (by decide)) ?_
  refine z_aload_n_ok (pc := 409) (i := 1) C.hx C.hb dL_law_409 rfl ?_
  refine z_iload_ok (pc := 410) (i := 9) C.hx C.hb dL_law_410 ?_
  refine z_iload_ok (pc := 412) (i := 10) C.hx C.hb dL_law_412 ?_
  refine z_iconst_ok (pc := 414) (v := 0) C.hx C.hb dL_law_414 (by decide) ?_
  refine z_invVq_ok (pc := 415) C (zm_X7_shopIs X.l C.htr) ⟨rfl, rfl⟩ ⟨by decide, by decide⟩ (by decide) (by decide) zcl_L_57 zw_505 zw_506 zK7 dL_law_415 ?_
  exact zk_L_law_418 CC hn hR he273 hJ273 _ _ (by have h0 : (zXc X a d).ce = a := rfl; omega) (by have h0 : (zXc X a d).sl = d := rfl; omega)
def zb_L_law_405 (J273 : ZP) : ZP := (z_ild 11 (zb_L_law_407 J273))
set_option maxRecDepth 20000 in
theorem zk_L_law_405 {X : ZX} (CC : zCC X) (hn : X.nL = 22) (hR : ZL X 1613 0 z_yes) {m : Nat} {J273 : ZP} (he273 : 0 ≤ m) (hJ273 : ZL X 273 m J273) : ZL X 405 (m + 1) (zb_L_law_405 J273) := by
  unfold zb_L_law_405
  intro a d ha hd
  have C := CC a d (by have h0 : (zXc X a d).ce = a := rfl; omega) (by have h0 : (zXc X a d).sl = d := rfl; omega)
  refine z_iload_ok (pc := 405) (i := 11) C.hx C.hb dL_law_405 ?_
  exact zk_L_law_407 CC hn hR he273 hJ273 _ _ (by have h0 : (zXc X a d).ce = a := rfl; omega) (by have h0 : (zXc X a d).sl = d := rfl; omega)
def zb_L_law_388 (J273 : ZP) : ZP := (z_if (fun x => x ≤ 0) (zb_L_law_405 J273) (z_ild 11 (z_push 100 (z_dvn (fun x y => x / y) (z_push 100 (z_bin (fun x y => x * y) (z_push 100 (z_bin (fun x y => x + y) (zb_L_law_407 J273)))))))))
set_option maxRecDepth 20000 in
theorem zk_L_law_388 {X : ZX} (CC : zCC X) (hn : X.nL = 22) (hR : ZL X 1613 0 z_yes) {m : Nat} {J273 : ZP} (he273 : 0 ≤ m) (hJ273 : ZL X 273 m J273) : ZL X 388 (m + 1) (zb_L_law_388 J273) := by
  unfold zb_L_law_388
  intro a d ha hd
  have C := CC a d (by have h0 : (zXc X a d).ce = a := rfl; omega) (by have h0 : (zXc X a d).sl = d := rfl; omega)
  refine z_if_le_ok (pc := 388) (tgt := 405) C.hx C.hb dL_law_388 (by decide) ?_ ?_
  · exact zk_L_law_405 CC hn hR he273 hJ273 _ _ (by have h0 : (zXc X a d).ce = a := rfl; omega) (by have h0 : (zXc X a d).sl = d := rfl; omega)
  · refine z_iload_ok (pc := 391) (i := 11) C.hx C.hb dL_law_391 ?_
    refine z_bipush_ok (pc := 393) (v := 100) C.hx C.hb dL_law_393 (by decide) ?_
    refine z_idiv_ok (pc := 395) C.hx C.hb dL_law_395 ?_
    refine z_bipush_ok (pc := 396) (v := 100) C.hx C.hb dL_law_396 (by decide) ?_
    refine z_imul_ok (pc := 398) C.hx C.hb dL_law_398 ?_
    refine z_bipush_ok (pc := 399) (v := 100) C.hx C.hb dL_law_399 (by decide) ?_
    refine z_iadd_ok (pc := 401) C.hx C.hb dL_law_401 ?_
    refine z_goto_ok (pc := 402) (tgt := 407) C.hx C.hb dL_law_402 (by decide) ?_
    exact zk_L_law_407 CC hn hR he273 hJ273 _ _ (by have h0 : (zXc X a d).ce = a := rfl; omega) (by have h0 : (zXc X a d).sl = d := rfl; omega)
def zb_L_law_373 (J273 : ZP) : ZP := (z_ist 13 (z_ild 13 (z_push 1 (z_cmp (fun x y => x = y) (z_ild 6 (z_push 7 (z_invSq 2 sp_L_low (zb_L_law_388 J273)))) (zb_L_law_405 J273)))))
set_option maxRecDepth 20000 in
theorem zk_L_law_373 {X : ZX} (CC : zCC X) (hn : X.nL = 22) (hR : ZL X 1613 0 z_yes) {m : Nat} {J273 : ZP} (he273 : 0 ≤ m) (hJ273 : ZL X 273 m J273) : ZL X 373 (m + 1) (zb_L_law_373 J273) := by
  unfold zb_L_law_373
  intro a d ha hd
  have C := CC a d (by have h0 : (zXc X a d).ce = a := rfl; omega) (by have h0 : (zXc X a d).sl = d := rfl; omega)
  refine z_istore_ok (pc := 373) (i := 13) C.hx C.hb dL_law_373 (zlt hn (by decide)) ?_
  refine z_iload_ok (pc := 375) (i := 13) C.hx C.hb dL_law_375 ?_
  refine z_iconst_ok (pc := 377) (v := 1) C.hx C.hb dL_law_377 (by decide) ?_
  refine z_icmp_ne_ok (pc := 378) (tgt := 405) C.hx C.hb dL_law_378 (by decide) ?_ ?_
  · exact zk_L_law_405 CC hn hR he273 hJ273 _ _ (by have h0 : (zXc X a d).ce = a := rfl; omega) (by have h0 : (zXc X a d).sl = d := rfl; omega)
  · refine z_iload_ok (pc := 381) (i := 6) C.hx C.hb dL_law_381 ?_
    refine z_bipush_ok (pc := 383) (v := 7) C.hx C.hb dL_law_383 (by decide) ?_
    refine z_invSq_ok (pc := 385) C (zm_L_low X.l C.htr) ⟨rfl, rfl⟩ ⟨by decide, by decide⟩ (by decide) (by decide) zcl_L_70 zw_625 dL_law_385 ?_
    exact zk_L_law_388 CC hn hR he273 hJ273 _ _ (by have h0 : (zXc X a d).ce = a := rfl; omega) (by have h0 : (zXc X a d).sl = d := rfl; omega)
def zb_L_law_358 (J273 : ZP) : ZP := (z_ist 12 (z_ild 12 (z_push 3 (z_cmp (fun x y => y ≤ x) (z_ild 12 (z_push 6 (z_cmp (fun x y => y ≤ x) (z_ild 12 (z_push 6 (z_cmp (fun x y => x = y) (z_ild 6 (z_ild 2 (z_invSq 2 sp_L_low (zb_L_law_952 J273)))) (z_ild 12 (z_push 7 (z_cmp (fun x y => x = y) (z_ald 1 (z_ild 8 (z_push 4 (z_invVq 7 2 sp_X7_personIs (zb_L_law_1081 J273))))) (z_ild 12 (z_push 8 (z_cmp (fun x y => x = y) (z_ald 1 (z_ild 10 (z_push 5 (z_invVq 7 2 sp_X7_goodIs (zb_L_law_1158 J273))))) (z_ild 12 (z_push 9 (z_cmp (fun x y => x = y) (z_ald 1 (z_ild 9 (z_ild 10 (z_ild 11 (z_invVq 7 3 sp_X7_forge (zb_L_law_1251 J273)))))) (z_ild 12 (z_push 10 (z_cmp (fun x y => x = y) (z_ald 1 (z_push 2 (z_push 1 (z_invVq 7 2 sp_X7_goodIs (zb_L_law_1361 J273))))) (z_push 1 (z_ild 6 (z_push 2999 (z_invSq 2 sp_L_low (zb_L_law_1463 J273)))))))))))))))))))) (z_ild 12 (z_push 3 (z_bin (fun x y => x - y) (z_ist 13 (z_ald 1 (z_ild 9 (z_ild 10 (z_ild 11 (z_push 1 (z_invVq 7 4 sp_X7_lacks (zb_L_law_695 J273)))))))))))))) (z_ald 1 (z_ild 10 (z_push 0 (z_invVq 7 2 sp_X7_goodIs (zb_L_law_373 J273)))))))))
set_option maxRecDepth 20000 in
theorem zk_L_law_358 {X : ZX} (CC : zCC X) (hn : X.nL = 22) (hR : ZL X 1613 0 z_yes) {m : Nat} {J273 : ZP} (he273 : 0 ≤ m) (hJ273 : ZL X 273 m J273) : ZL X 358 (m + 1) (zb_L_law_358 J273) := by
  unfold zb_L_law_358
  intro a d ha hd
  have C := CC a d (by have h0 : (zXc X a d).ce = a := rfl; omega) (by have h0 : (zXc X a d).sl = d := rfl; omega)
  refine z_istore_ok (pc := 358) (i := 12) C.hx C.hb dL_law_358 (zlt hn (by decide)) ?_
  refine z_iload_ok (pc := 360) (i := 12) C.hx C.hb dL_law_360 ?_
  refine z_iconst_ok (pc := 362) (v := 3) C.hx C.hb dL_law_362 (by decide) ?_
  refine z_icmp_ge_ok (pc := 363) (tgt := 671) C.hx C.hb dL_law_363 (by decide) ?_ ?_
  · refine z_iload_ok (pc := 671) (i := 12) C.hx C.hb dL_law_671 ?_
    refine z_bipush_ok (pc := 673) (v := 6) C.hx C.hb dL_law_673 (by decide) ?_
    refine z_icmp_ge_ok (pc := 675) (tgt := 939) C.hx C.hb dL_law_675 (by decide) ?_ ?_
    · refine z_iload_ok (pc := 939) (i := 12) C.hx C.hb dL_law_939 ?_
      refine z_bipush_ok (pc := 941) (v := 6) C.hx C.hb dL_law_941 (by decide) ?_
      refine z_icmp_ne_ok (pc := 943) (tgt := 1067) C.hx C.hb dL_law_943 (by decide) ?_ ?_
      · refine z_iload_ok (pc := 1067) (i := 12) C.hx C.hb dL_law_1067 ?_
        refine z_bipush_ok (pc := 1069) (v := 7) C.hx C.hb dL_law_1069 (by decide) ?_
        refine z_icmp_ne_ok (pc := 1071) (tgt := 1144) C.hx C.hb dL_law_1071 (by decide) ?_ ?_
        · refine z_iload_ok (pc := 1144) (i := 12) C.hx C.hb dL_law_1144 ?_
          refine z_bipush_ok (pc := 1146) (v := 8) C.hx C.hb dL_law_1146 (by decide) ?_
          refine z_icmp_ne_ok (pc := 1148) (tgt := 1234) C.hx C.hb dL_law_1148 (by decide) ?_ ?_
          · refine z_iload_ok (pc := 1234) (i := 12) C.hx C.hb dL_law_1234 ?_
            refine z_bipush_ok (pc := 1236) (v := 9) C.hx C.hb dL_law_1236 (by decide) ?_
            refine z_icmp_ne_ok (pc := 1238) (tgt := 1348) C.hx C.hb dL_law_1238 (by decide) ?_ ?_
            · refine z_iload_ok (pc := 1348) (i := 12) C.hx C.hb dL_law_1348 ?_
              refine z_bipush_ok (pc := 1350) (v := 10) C.hx C.hb dL_law_1350 (by decide) ?_
              refine z_icmp_ne_ok (pc := 1352) (tgt := 1454) C.hx C.hb dL_law_1352 (by decide) ?_ ?_
              · refine z_iconst_ok (pc := 1454) (v := 1) C.hx C.hb dL_law_1454 (by decide) ?_
                refine z_iload_ok (pc := 1455) (i := 6) C.hx C.hb dL_law_1455 ?_
                refine z_sipush_ok (pc := 1457) (v := 2999) C.hx C.hb dL_law_1457 (by decide) ?_
                refine z_invSq_ok (pc := 1460) C (zm_L_low X.l C.htr) ⟨rfl, rfl⟩ ⟨by decide, by decide⟩ (by decide) (by decide) zcl_L_70 zw_625 dL_law_1460 ?_
                exact zk_L_law_1463 CC hn hR he273 hJ273 _ _ (by have h0 : (zXc X a d).ce = a := rfl; omega) (by have h0 : (zXc X a d).sl = d := rfl; omega)
              · refine z_aload_n_ok (pc := 1355) (i := 1) C.hx C.hb dL_law_1355 rfl ?_
                refine z_iconst_ok (pc := 1356) (v := 2) C.hx C.hb dL_law_1356 (by decide) ?_
                refine z_iconst_ok (pc := 1357) (v := 1) C.hx C.hb dL_law_1357 (by decide) ?_
                refine z_invVq_ok (pc := 1358) C (zm_X7_goodIs X.l C.htr) ⟨rfl, rfl⟩ ⟨by decide, by decide⟩ (by decide) (by decide) zcl_L_60 zw_277 zw_278 zK7 dL_law_1358 ?_
                exact zk_L_law_1361 CC hn hR he273 hJ273 _ _ (by have h0 : (zXc X a d).ce = a := rfl; omega) (by have h0 : (zXc X a d).sl = d := rfl; omega)
            · refine z_aload_n_ok (pc := 1241) (i := 1) C.hx C.hb dL_law_1241 rfl ?_
              refine z_iload_ok (pc := 1242) (i := 9) C.hx C.hb dL_law_1242 ?_
              refine z_iload_ok (pc := 1244) (i := 10) C.hx C.hb dL_law_1244 ?_
              refine z_iload_ok (pc := 1246) (i := 11) C.hx C.hb dL_law_1246 ?_
              refine z_invVq_ok (pc := 1248) C (zm_X7_forge X.l C.htr) ⟨rfl, rfl⟩ ⟨by decide, by decide⟩ (by decide) (by decide) zcl_L_113 zw_509 zw_510 zK7 dL_law_1248 ?_
              exact zk_L_law_1251 CC hn hR he273 hJ273 _ _ (by have h0 : (zXc X a d).ce = a := rfl; omega) (by have h0 : (zXc X a d).sl = d := rfl; omega)
          · refine z_aload_n_ok (pc := 1151) (i := 1) C.hx C.hb dL_law_1151 rfl ?_
            refine z_iload_ok (pc := 1152) (i := 10) C.hx C.hb dL_law_1152 ?_
            refine z_iconst_ok (pc := 1154) (v := 5) C.hx C.hb dL_law_1154 (by decide) ?_
            refine z_invVq_ok (pc := 1155) C (zm_X7_goodIs X.l C.htr) ⟨rfl, rfl⟩ ⟨by decide, by decide⟩ (by decide) (by decide) zcl_L_60 zw_277 zw_278 zK7 dL_law_1155 ?_
            exact zk_L_law_1158 CC hn hR he273 hJ273 _ _ (by have h0 : (zXc X a d).ce = a := rfl; omega) (by have h0 : (zXc X a d).sl = d := rfl; omega)
        · refine z_aload_n_ok (pc := 1074) (i := 1) C.hx C.hb dL_law_1074 rfl ?_
          refine z_iload_ok (pc := 1075) (i := 8) C.hx C.hb dL_law_1075 ?_
          refine z_iconst_ok (pc := 1077) (v := 4) C.hx C.hb dL_law_1077 (by decide) ?_
          refine z_invVq_ok (pc := 1078) C (zm_X7_personIs X.l C.htr) ⟨rfl, rfl⟩ ⟨by decide, by decide⟩ (by decide) (by decide) zcl_L_48 zw_363 zw_364 zK7 dL_law_1078 ?_
          exact zk_L_law_1081 CC hn hR he273 hJ273 _ _ (by have h0 : (zXc X a d).ce = a := rfl; omega) (by have h0 : (zXc X a d).sl = d := rfl; omega)
      · refine z_iload_ok (pc := 946) (i := 6) C.hx C.hb dL_law_946 ?_
        refine z_iload_n_ok (pc := 948) (i := 2) C.hx C.hb dL_law_948 rfl ?_
        refine z_invSq_ok (pc := 949) C (zm_L_low X.l C.htr) ⟨rfl, rfl⟩ ⟨by decide, by decide⟩ (by decide) (by decide) zcl_L_70 zw_625 dL_law_949 ?_
        exact zk_L_law_952 CC hn hR he273 hJ273 _ _ (by have h0 : (zXc X a d).ce = a := rfl; omega) (by have h0 : (zXc X a d).sl = d := rfl; omega)
    · refine z_iload_ok (pc := 678) (i := 12) C.hx C.hb dL_law_678 ?_
      refine z_iconst_ok (pc := 680) (v := 3) C.hx C.hb dL_law_680 (by decide) ?_
      refine z_isub_ok (pc := 681) C.hx C.hb dL_law_681 ?_
      refine z_istore_ok (pc := 682) (i := 13) C.hx C.hb dL_law_682 (zlt hn (by decide)) ?_
      refine z_aload_n_ok (pc := 684) (i := 1) C.hx C.hb dL_law_684 rfl ?_
      refine z_iload_ok (pc := 685) (i := 9) C.hx C.hb dL_law_685 ?_
      refine z_iload_ok (pc := 687) (i := 10) C.hx C.hb dL_law_687 ?_
      refine z_iload_ok (pc := 689) (i := 11) C.hx C.hb dL_law_689 ?_
      refine z_iconst_ok (pc := 691) (v := 1) C.hx C.hb dL_law_691 (by decide) ?_
      refine z_invVq_ok (pc := 692) C (zm_X7_lacks X.l C.htr) ⟨rfl, rfl⟩ ⟨by decide, by decide⟩ (by decide) (by decide) zcl_L_104 zw_501 zw_502 zK7 dL_law_692 ?_
      exact zk_L_law_695 CC hn hR he273 hJ273 _ _ (by have h0 : (zXc X a d).ce = a := rfl; omega) (by have h0 : (zXc X a d).sl = d := rfl; omega)
  · refine z_aload_n_ok (pc := 366) (i := 1) C.hx C.hb dL_law_366 rfl ?_
    refine z_iload_ok (pc := 367) (i := 10) C.hx C.hb dL_law_367 ?_
    refine z_iconst_ok (pc := 369) (v := 0) C.hx C.hb dL_law_369 (by decide) ?_
    refine z_invVq_ok (pc := 370) C (zm_X7_goodIs X.l C.htr) ⟨rfl, rfl⟩ ⟨by decide, by decide⟩ (by decide) (by decide) zcl_L_60 zw_277 zw_278 zK7 dL_law_370 ?_
    exact zk_L_law_373 CC hn hR he273 hJ273 _ _ (by have h0 : (zXc X a d).ce = a := rfl; omega) (by have h0 : (zXc X a d).sl = d := rfl; omega)
def zb_L_law_345 (J273 : ZP) : ZP := (z_bin (fun x y => x + y) (z_ist 11 (z_ild 6 (z_push 20 (z_bin (fun x y => x >>> (y &&& 31)) (z_push 12 (z_invSq 2 sp_L_low (zb_L_law_358 J273))))))))
set_option maxRecDepth 20000 in
theorem zk_L_law_345 {X : ZX} (CC : zCC X) (hn : X.nL = 22) (hR : ZL X 1613 0 z_yes) {m : Nat} {J273 : ZP} (he273 : 0 ≤ m) (hJ273 : ZL X 273 m J273) : ZL X 345 (m + 1) (zb_L_law_345 J273) := by
  unfold zb_L_law_345
  intro a d ha hd
  have C := CC a d (by have h0 : (zXc X a d).ce = a := rfl; omega) (by have h0 : (zXc X a d).sl = d := rfl; omega)
  refine z_iadd_ok (pc := 345) C.hx C.hb dL_law_345 ?_
  refine z_istore_ok (pc := 346) (i := 11) C.hx C.hb dL_law_346 (zlt hn (by decide)) ?_
  refine z_iload_ok (pc := 348) (i := 6) C.hx C.hb dL_law_348 ?_
  refine z_bipush_ok (pc := 350) (v := 20) C.hx C.hb dL_law_350 (by decide) ?_
  refine z_ishr_ok (pc := 352) C.hx C.hb dL_law_352 ?_
  refine z_bipush_ok (pc := 353) (v := 12) C.hx C.hb dL_law_353 (by decide) ?_
  refine z_invSq_ok (pc := 355) C (zm_L_low X.l C.htr) ⟨rfl, rfl⟩ ⟨by decide, by decide⟩ (by decide) (by decide) zcl_L_70 zw_625 dL_law_355 ?_
  exact zk_L_law_358 CC hn hR he273 hJ273 _ _ (by have h0 : (zXc X a d).ce = a := rfl; omega) (by have h0 : (zXc X a d).sl = d := rfl; omega)
def zb_L_law_334 (J273 : ZP) : ZP := (z_ist 10 (z_push 1 (z_ild 6 (z_push 1500 (z_invSq 2 sp_L_low (zb_L_law_345 J273))))))
set_option maxRecDepth 20000 in
theorem zk_L_law_334 {X : ZX} (CC : zCC X) (hn : X.nL = 22) (hR : ZL X 1613 0 z_yes) {m : Nat} {J273 : ZP} (he273 : 0 ≤ m) (hJ273 : ZL X 273 m J273) : ZL X 334 (m + 1) (zb_L_law_334 J273) := by
  unfold zb_L_law_334
  intro a d ha hd
  have C := CC a d (by have h0 : (zXc X a d).ce = a := rfl; omega) (by have h0 : (zXc X a d).sl = d := rfl; omega)
  refine z_istore_ok (pc := 334) (i := 10) C.hx C.hb dL_law_334 (zlt hn (by decide)) ?_
  refine z_iconst_ok (pc := 336) (v := 1) C.hx C.hb dL_law_336 (by decide) ?_
  refine z_iload_ok (pc := 337) (i := 6) C.hx C.hb dL_law_337 ?_
  refine z_sipush_ok (pc := 339) (v := 1500) C.hx C.hb dL_law_339 (by decide) ?_
  refine z_invSq_ok (pc := 342) C (zm_L_low X.l C.htr) ⟨rfl, rfl⟩ ⟨by decide, by decide⟩ (by decide) (by decide) zcl_L_70 zw_625 dL_law_342 ?_
  exact zk_L_law_345 CC hn hR he273 hJ273 _ _ (by have h0 : (zXc X a d).ce = a := rfl; omega) (by have h0 : (zXc X a d).sl = d := rfl; omega)
def zb_L_law_322 (J273 : ZP) : ZP := (z_ist 9 (z_ild 7 (z_push 7 (z_bin (fun x y => x >>> (y &&& 31)) (z_push 6 (z_invSq 2 sp_L_low (zb_L_law_334 J273)))))))
set_option maxRecDepth 20000 in
theorem zk_L_law_322 {X : ZX} (CC : zCC X) (hn : X.nL = 22) (hR : ZL X 1613 0 z_yes) {m : Nat} {J273 : ZP} (he273 : 0 ≤ m) (hJ273 : ZL X 273 m J273) : ZL X 322 (m + 1) (zb_L_law_322 J273) := by
  unfold zb_L_law_322
  intro a d ha hd
  have C := CC a d (by have h0 : (zXc X a d).ce = a := rfl; omega) (by have h0 : (zXc X a d).sl = d := rfl; omega)
  refine z_istore_ok (pc := 322) (i := 9) C.hx C.hb dL_law_322 (zlt hn (by decide)) ?_
  refine z_iload_ok (pc := 324) (i := 7) C.hx C.hb dL_law_324 ?_
  refine z_bipush_ok (pc := 326) (v := 7) C.hx C.hb dL_law_326 (by decide) ?_
  refine z_ishr_ok (pc := 328) C.hx C.hb dL_law_328 ?_
  refine z_bipush_ok (pc := 329) (v := 6) C.hx C.hb dL_law_329 (by decide) ?_
  refine z_invSq_ok (pc := 331) C (zm_L_low X.l C.htr) ⟨rfl, rfl⟩ ⟨by decide, by decide⟩ (by decide) (by decide) zcl_L_70 zw_625 dL_law_331 ?_
  exact zk_L_law_334 CC hn hR he273 hJ273 _ _ (by have h0 : (zXc X a d).ce = a := rfl; omega) (by have h0 : (zXc X a d).sl = d := rfl; omega)
def zb_L_law_312 (J273 : ZP) : ZP := (z_ist 8 (z_ild 7 (z_push 4 (z_bin (fun x y => x >>> (y &&& 31)) (z_push 2 (z_invSq 2 sp_L_low (zb_L_law_322 J273)))))))
set_option maxRecDepth 20000 in
theorem zk_L_law_312 {X : ZX} (CC : zCC X) (hn : X.nL = 22) (hR : ZL X 1613 0 z_yes) {m : Nat} {J273 : ZP} (he273 : 0 ≤ m) (hJ273 : ZL X 273 m J273) : ZL X 312 (m + 1) (zb_L_law_312 J273) := by
  unfold zb_L_law_312
  intro a d ha hd
  have C := CC a d (by have h0 : (zXc X a d).ce = a := rfl; omega) (by have h0 : (zXc X a d).sl = d := rfl; omega)
  refine z_istore_ok (pc := 312) (i := 8) C.hx C.hb dL_law_312 (zlt hn (by decide)) ?_
  refine z_iload_ok (pc := 314) (i := 7) C.hx C.hb dL_law_314 ?_
  refine z_iconst_ok (pc := 316) (v := 4) C.hx C.hb dL_law_316 (by decide) ?_
  refine z_ishr_ok (pc := 317) C.hx C.hb dL_law_317 ?_
  refine z_iconst_ok (pc := 318) (v := 2) C.hx C.hb dL_law_318 (by decide) ?_
  refine z_invSq_ok (pc := 319) C (zm_L_low X.l C.htr) ⟨rfl, rfl⟩ ⟨by decide, by decide⟩ (by decide) (by decide) zcl_L_70 zw_625 dL_law_319 ?_
  exact zk_L_law_322 CC hn hR he273 hJ273 _ _ (by have h0 : (zXc X a d).ce = a := rfl; omega) (by have h0 : (zXc X a d).sl = d := rfl; omega)
def zb_L_law_304 (J273 : ZP) : ZP := (z_ist 7 (z_ild 7 (z_ild 2 (z_invSq 2 sp_L_low (zb_L_law_312 J273)))))
set_option maxRecDepth 20000 in
theorem zk_L_law_304 {X : ZX} (CC : zCC X) (hn : X.nL = 22) (hR : ZL X 1613 0 z_yes) {m : Nat} {J273 : ZP} (he273 : 0 ≤ m) (hJ273 : ZL X 273 m J273) : ZL X 304 (m + 1) (zb_L_law_304 J273) := by
  unfold zb_L_law_304
  intro a d ha hd
  have C := CC a d (by have h0 : (zXc X a d).ce = a := rfl; omega) (by have h0 : (zXc X a d).sl = d := rfl; omega)
  refine z_istore_ok (pc := 304) (i := 7) C.hx C.hb dL_law_304 (zlt hn (by decide)) ?_
  refine z_iload_ok (pc := 306) (i := 7) C.hx C.hb dL_law_306 ?_
  refine z_iload_n_ok (pc := 308) (i := 2) C.hx C.hb dL_law_308 rfl ?_
  refine z_invSq_ok (pc := 309) C (zm_L_low X.l C.htr) ⟨rfl, rfl⟩ ⟨by decide, by decide⟩ (by decide) (by decide) zcl_L_70 zw_625 dL_law_309 ?_
  exact zk_L_law_312 CC hn hR he273 hJ273 _ _ (by have h0 : (zXc X a d).ce = a := rfl; omega) (by have h0 : (zXc X a d).sl = d := rfl; omega)
def zb_L_law_291 (J273 : ZP) : ZP := (z_ist 6 (z_ald 0 (z_push 16 (z_push 2 (z_ild 5 (z_bin (fun x y => x * y) (z_bin (fun x y => x + y) (z_invSq 2 sp_L_cell (zb_L_law_304 J273)))))))))
set_option maxRecDepth 20000 in
theorem zk_L_law_291 {X : ZX} (CC : zCC X) (hn : X.nL = 22) (hR : ZL X 1613 0 z_yes) {m : Nat} {J273 : ZP} (he273 : 0 ≤ m) (hJ273 : ZL X 273 m J273) : ZL X 291 (m + 1) (zb_L_law_291 J273) := by
  unfold zb_L_law_291
  intro a d ha hd
  have C := CC a d (by have h0 : (zXc X a d).ce = a := rfl; omega) (by have h0 : (zXc X a d).sl = d := rfl; omega)
  refine z_istore_ok (pc := 291) (i := 6) C.hx C.hb dL_law_291 (zlt hn (by decide)) ?_
  refine z_aload_n_ok (pc := 293) (i := 0) C.hx C.hb dL_law_293 rfl ?_
  refine z_bipush_ok (pc := 294) (v := 16) C.hx C.hb dL_law_294 (by decide) ?_
  refine z_iconst_ok (pc := 296) (v := 2) C.hx C.hb dL_law_296 (by decide) ?_
  refine z_iload_ok (pc := 297) (i := 5) C.hx C.hb dL_law_297 ?_
  refine z_imul_ok (pc := 299) C.hx C.hb dL_law_299 ?_
  refine z_iadd_ok (pc := 300) C.hx C.hb dL_law_300 ?_
  refine z_invSq_ok (pc := 301) C (zm_L_cell X.l C.htr) ⟨rfl, rfl⟩ ⟨by decide, by decide⟩ (by decide) (by decide) zcl_L_64 zw_621 dL_law_301 ?_
  exact zk_L_law_304 CC hn hR he273 hJ273 _ _ (by have h0 : (zXc X a d).ce = a := rfl; omega) (by have h0 : (zXc X a d).sl = d := rfl; omega)
def zb_L_law_273 (J273 : ZP) : ZP := (z_ild 5 (z_push 34 (z_cmp (fun x y => y ≤ x) (z_ald 1 (z_push 8 (z_invVq 7 1 sp_X7_sum zb_L_law_1594))) (z_ald 0 (z_push 15 (z_push 2 (z_ild 5 (z_bin (fun x y => x * y) (z_bin (fun x y => x + y) (z_invSq 2 sp_L_cell (zb_L_law_291 J273)))))))))))
set_option maxRecDepth 20000 in
theorem zk_L_law_273 {X : ZX} (CC : zCC X) (hn : X.nL = 22) (hR : ZL X 1613 0 z_yes) {m : Nat} {J273 : ZP} (he273 : 0 ≤ m) (hJ273 : ZL X 273 m J273) : ZL X 273 (m + 1) (zb_L_law_273 J273) := by
  unfold zb_L_law_273
  intro a d ha hd
  have C := CC a d (by have h0 : (zXc X a d).ce = a := rfl; omega) (by have h0 : (zXc X a d).sl = d := rfl; omega)
  refine z_iload_ok (pc := 273) (i := 5) C.hx C.hb dL_law_273 ?_
  refine z_bipush_ok (pc := 275) (v := 34) C.hx C.hb dL_law_275 (by decide) ?_
  refine z_icmp_ge_ok (pc := 277) (tgt := 1588) C.hx C.hb dL_law_277 (by decide) ?_ ?_
  · refine z_aload_n_ok (pc := 1588) (i := 1) C.hx C.hb dL_law_1588 rfl ?_
    refine z_bipush_ok (pc := 1589) (v := 8) C.hx C.hb dL_law_1589 (by decide) ?_
    refine z_invVq_ok (pc := 1591) C (zm_X7_sum X.l C.htr) ⟨rfl, rfl⟩ ⟨by decide, by decide⟩ (by decide) (by decide) zcl_L_45 zw_601 zw_602 zK7 dL_law_1591 ?_
    exact zk_L_law_1594 CC hn hR  _ _ (by have h0 : (zXc X a d).ce = a := rfl; omega) (by have h0 : (zXc X a d).sl = d := rfl; omega)
  · refine z_aload_n_ok (pc := 280) (i := 0) C.hx C.hb dL_law_280 rfl ?_
    refine z_bipush_ok (pc := 281) (v := 15) C.hx C.hb dL_law_281 (by decide) ?_
    refine z_iconst_ok (pc := 283) (v := 2) C.hx C.hb dL_law_283 (by decide) ?_
    refine z_iload_ok (pc := 284) (i := 5) C.hx C.hb dL_law_284 ?_
    refine z_imul_ok (pc := 286) C.hx C.hb dL_law_286 ?_
    refine z_iadd_ok (pc := 287) C.hx C.hb dL_law_287 ?_
    refine z_invSq_ok (pc := 288) C (zm_L_cell X.l C.htr) ⟨rfl, rfl⟩ ⟨by decide, by decide⟩ (by decide) (by decide) zcl_L_64 zw_621 dL_law_288 ?_
    exact zk_L_law_291 CC hn hR he273 hJ273 _ _ (by have h0 : (zXc X a d).ce = a := rfl; omega) (by have h0 : (zXc X a d).sl = d := rfl; omega)
def zb_L_law_269 : ZP := (z_pop (z_push 0 (z_ist 5 (z_loopN 35 (fun J273 => zb_L_law_273 J273)))))
set_option maxRecDepth 20000 in
theorem zk_L_law_269 {X : ZX} (CC : zCC X) (hn : X.nL = 22) (hR : ZL X 1613 0 z_yes) : ZL X 269 35 (zb_L_law_269) := by
  unfold zb_L_law_269
  intro a d ha hd
  have C := CC a d (by have h0 : (zXc X a d).ce = a := rfl; omega) (by have h0 : (zXc X a d).sl = d := rfl; omega)
  refine z_pop_ok (pc := 269) C.hx C.hb dL_law_269 ?_
  refine z_iconst_ok (pc := 270) (v := 0) C.hx C.hb dL_law_270 (by decide) ?_
  refine z_istore_ok (pc := 271) (i := 5) C.hx C.hb dL_law_271 (zlt hn (by decide)) ?_
  exact z_loopN_ok (c := 1) (e := 0) (fun m J273 he273 hJ273 => zk_L_law_273 CC hn hR he273 hJ273) _ _ (by have h0 : (zXc X a d).ce = a := rfl; omega) (by have h0 : (zXc X a d).sl = d := rfl; omega)
def zb_L_law_265 : ZP := (z_bin (fun x y => x + y) (z_invVq 7 3 sp_X7_farm zb_L_law_269))
set_option maxRecDepth 20000 in
theorem zk_L_law_265 {X : ZX} (CC : zCC X) (hn : X.nL = 22) (hR : ZL X 1613 0 z_yes) : ZL X 265 36 (zb_L_law_265) := by
  unfold zb_L_law_265
  intro a d ha hd
  have C := CC a d (by have h0 : (zXc X a d).ce = a := rfl; omega) (by have h0 : (zXc X a d).sl = d := rfl; omega)
  refine z_iadd_ok (pc := 265) C.hx C.hb dL_law_265 ?_
  refine z_invVq_ok (pc := 266) C (zm_X7_farm X.l C.htr) ⟨rfl, rfl⟩ ⟨by decide, by decide⟩ (by decide) (by decide) zcl_L_97 zw_517 zw_518 zK7 dL_law_266 ?_
  exact zk_L_law_269 CC hn hR  _ _ (by have h0 : (zXc X a d).ce = a := rfl; omega) (by have h0 : (zXc X a d).sl = d := rfl; omega)
def zb_L_law_259 : ZP := (z_push 900 (z_invSq 2 sp_L_low zb_L_law_265))
set_option maxRecDepth 20000 in
theorem zk_L_law_259 {X : ZX} (CC : zCC X) (hn : X.nL = 22) (hR : ZL X 1613 0 z_yes) : ZL X 259 36 (zb_L_law_259) := by
  unfold zb_L_law_259
  intro a d ha hd
  have C := CC a d (by have h0 : (zXc X a d).ce = a := rfl; omega) (by have h0 : (zXc X a d).sl = d := rfl; omega)
  refine z_sipush_ok (pc := 259) (v := 900) C.hx C.hb dL_law_259 (by decide) ?_
  refine z_invSq_ok (pc := 262) C (zm_L_low X.l C.htr) ⟨rfl, rfl⟩ ⟨by decide, by decide⟩ (by decide) (by decide) zcl_L_70 zw_625 dL_law_262 ?_
  exact zk_L_law_265 CC hn hR  _ _ (by have h0 : (zXc X a d).ce = a := rfl; omega) (by have h0 : (zXc X a d).sl = d := rfl; omega)
def zb_L_law_242 (J106 : ZP) : ZP := (z_pop (z_inc 5 (1) J106))
set_option maxRecDepth 20000 in
theorem zk_L_law_242 {X : ZX} (CC : zCC X) (hn : X.nL = 22) (hR : ZL X 1613 0 z_yes) {m : Nat} {J106 : ZP} (he106 : 36 ≤ m) (hJ106 : ZL X 106 m J106) : ZL X 242 (m + 0) (zb_L_law_242 J106) := by
  unfold zb_L_law_242
  intro a d ha hd
  have C := CC a d (by have h0 : (zXc X a d).ce = a := rfl; omega) (by have h0 : (zXc X a d).sl = d := rfl; omega)
  refine z_pop_ok (pc := 242) C.hx C.hb dL_law_242 ?_
  refine z_iinc_ok (pc := 243) (i := 5) (v := 1) C.hx C.hb dL_law_243 (by decide) (zlt hn (by decide)) ?_
  refine z_goto_ok (pc := 246) (tgt := 106) C.hx C.hb dL_law_246 (by decide) ?_
  exact hJ106 a d (by have h0 : (zXc X a d).ce = a := rfl; omega) (by have h0 : (zXc X a d).sl = d := rfl; omega)
def zb_L_law_238 (J106 : ZP) : ZP := (z_bin (fun x y => x + y) (z_invVq 7 3 sp_X7_ship (zb_L_law_242 J106)))
set_option maxRecDepth 20000 in
theorem zk_L_law_238 {X : ZX} (CC : zCC X) (hn : X.nL = 22) (hR : ZL X 1613 0 z_yes) {m : Nat} {J106 : ZP} (he106 : 36 ≤ m) (hJ106 : ZL X 106 m J106) : ZL X 238 (m + 0) (zb_L_law_238 J106) := by
  unfold zb_L_law_238
  intro a d ha hd
  have C := CC a d (by have h0 : (zXc X a d).ce = a := rfl; omega) (by have h0 : (zXc X a d).sl = d := rfl; omega)
  refine z_iadd_ok (pc := 238) C.hx C.hb dL_law_238 ?_
  refine z_invVq_ok (pc := 239) C (zm_X7_ship X.l C.htr) ⟨rfl, rfl⟩ ⟨by decide, by decide⟩ (by decide) (by decide) zcl_L_94 zw_485 zw_486 zK7 dL_law_239 ?_
  exact zk_L_law_242 CC hn hR he106 hJ106 _ _ (by have h0 : (zXc X a d).ce = a := rfl; omega) (by have h0 : (zXc X a d).sl = d := rfl; omega)
def zb_L_law_221 (J106 : ZP) : ZP := (z_pop (z_ald 1 (z_push 1 (z_ild 5 (z_push 1 (z_ild 6 (z_push 14 (z_bin (fun x y => x >>> (y &&& 31)) (z_push 4000 (z_invSq 2 sp_L_low (zb_L_law_238 J106)))))))))))
set_option maxRecDepth 20000 in
theorem zk_L_law_221 {X : ZX} (CC : zCC X) (hn : X.nL = 22) (hR : ZL X 1613 0 z_yes) {m : Nat} {J106 : ZP} (he106 : 36 ≤ m) (hJ106 : ZL X 106 m J106) : ZL X 221 (m + 0) (zb_L_law_221 J106) := by
  unfold zb_L_law_221
  intro a d ha hd
  have C := CC a d (by have h0 : (zXc X a d).ce = a := rfl; omega) (by have h0 : (zXc X a d).sl = d := rfl; omega)
  refine z_pop_ok (pc := 221) C.hx C.hb dL_law_221 ?_
  refine z_aload_n_ok (pc := 222) (i := 1) C.hx C.hb dL_law_222 rfl ?_
  refine z_iconst_ok (pc := 223) (v := 1) C.hx C.hb dL_law_223 (by decide) ?_
  refine z_iload_ok (pc := 224) (i := 5) C.hx C.hb dL_law_224 ?_
  refine z_iconst_ok (pc := 226) (v := 1) C.hx C.hb dL_law_226 (by decide) ?_
  refine z_iload_ok (pc := 227) (i := 6) C.hx C.hb dL_law_227 ?_
  refine z_bipush_ok (pc := 229) (v := 14) C.hx C.hb dL_law_229 (by decide) ?_
  refine z_ishr_ok (pc := 231) C.hx C.hb dL_law_231 ?_
  refine z_sipush_ok (pc := 232) (v := 4000) C.hx C.hb dL_law_232 (by decide) ?_
  refine z_invSq_ok (pc := 235) C (zm_L_low X.l C.htr) ⟨rfl, rfl⟩ ⟨by decide, by decide⟩ (by decide) (by decide) zcl_L_70 zw_625 dL_law_235 ?_
  exact zk_L_law_238 CC hn hR he106 hJ106 _ _ (by have h0 : (zXc X a d).ce = a := rfl; omega) (by have h0 : (zXc X a d).sl = d := rfl; omega)
def zb_L_law_217 (J106 : ZP) : ZP := (z_bin (fun x y => x + y) (z_invVq 7 3 sp_X7_ship (zb_L_law_221 J106)))
set_option maxRecDepth 20000 in
theorem zk_L_law_217 {X : ZX} (CC : zCC X) (hn : X.nL = 22) (hR : ZL X 1613 0 z_yes) {m : Nat} {J106 : ZP} (he106 : 36 ≤ m) (hJ106 : ZL X 106 m J106) : ZL X 217 (m + 0) (zb_L_law_217 J106) := by
  unfold zb_L_law_217
  intro a d ha hd
  have C := CC a d (by have h0 : (zXc X a d).ce = a := rfl; omega) (by have h0 : (zXc X a d).sl = d := rfl; omega)
  refine z_iadd_ok (pc := 217) C.hx C.hb dL_law_217 ?_
  refine z_invVq_ok (pc := 218) C (zm_X7_ship X.l C.htr) ⟨rfl, rfl⟩ ⟨by decide, by decide⟩ (by decide) (by decide) zcl_L_94 zw_485 zw_486 zK7 dL_law_218 ?_
  exact zk_L_law_221 CC hn hR he106 hJ106 _ _ (by have h0 : (zXc X a d).ce = a := rfl; omega) (by have h0 : (zXc X a d).sl = d := rfl; omega)
def zb_L_law_201 (J106 : ZP) : ZP := (z_ald 1 (z_push 0 (z_ild 5 (z_push 1 (z_ild 6 (z_push 11 (z_bin (fun x y => x >>> (y &&& 31)) (z_push 9000 (z_invSq 2 sp_L_low (zb_L_law_217 J106))))))))))
set_option maxRecDepth 20000 in
theorem zk_L_law_201 {X : ZX} (CC : zCC X) (hn : X.nL = 22) (hR : ZL X 1613 0 z_yes) {m : Nat} {J106 : ZP} (he106 : 36 ≤ m) (hJ106 : ZL X 106 m J106) : ZL X 201 (m + 0) (zb_L_law_201 J106) := by
  unfold zb_L_law_201
  intro a d ha hd
  have C := CC a d (by have h0 : (zXc X a d).ce = a := rfl; omega) (by have h0 : (zXc X a d).sl = d := rfl; omega)
  refine z_aload_n_ok (pc := 201) (i := 1) C.hx C.hb dL_law_201 rfl ?_
  refine z_iconst_ok (pc := 202) (v := 0) C.hx C.hb dL_law_202 (by decide) ?_
  refine z_iload_ok (pc := 203) (i := 5) C.hx C.hb dL_law_203 ?_
  refine z_iconst_ok (pc := 205) (v := 1) C.hx C.hb dL_law_205 (by decide) ?_
  refine z_iload_ok (pc := 206) (i := 6) C.hx C.hb dL_law_206 ?_
  refine z_bipush_ok (pc := 208) (v := 11) C.hx C.hb dL_law_208 (by decide) ?_
  refine z_ishr_ok (pc := 210) C.hx C.hb dL_law_210 ?_
  refine z_sipush_ok (pc := 211) (v := 9000) C.hx C.hb dL_law_211 (by decide) ?_
  refine z_invSq_ok (pc := 214) C (zm_L_low X.l C.htr) ⟨rfl, rfl⟩ ⟨by decide, by decide⟩ (by decide) (by decide) zcl_L_70 zw_625 dL_law_214 ?_
  exact zk_L_law_217 CC hn hR he106 hJ106 _ _ (by have h0 : (zXc X a d).ce = a := rfl; omega) (by have h0 : (zXc X a d).sl = d := rfl; omega)
def zb_L_law_200 (J106 : ZP) : ZP := (z_pop (zb_L_law_201 J106))
set_option maxRecDepth 20000 in
theorem zk_L_law_200 {X : ZX} (CC : zCC X) (hn : X.nL = 22) (hR : ZL X 1613 0 z_yes) {m : Nat} {J106 : ZP} (he106 : 36 ≤ m) (hJ106 : ZL X 106 m J106) : ZL X 200 (m + 0) (zb_L_law_200 J106) := by
  unfold zb_L_law_200
  intro a d ha hd
  have C := CC a d (by have h0 : (zXc X a d).ce = a := rfl; omega) (by have h0 : (zXc X a d).sl = d := rfl; omega)
  refine z_pop_ok (pc := 200) C.hx C.hb dL_law_200 ?_
  exact zk_L_law_201 CC hn hR he106 hJ106 _ _ (by have h0 : (zXc X a d).ce = a := rfl; omega) (by have h0 : (zXc X a d).sl = d := rfl; omega)
def zb_L_law_190 (J106 : ZP) : ZP := (z_pop (zb_L_law_201 J106))
set_option maxRecDepth 20000 in
theorem zk_L_law_190 {X : ZX} (CC : zCC X) (hn : X.nL = 22) (hR : ZL X 1613 0 z_yes) {m : Nat} {J106 : ZP} (he106 : 36 ≤ m) (hJ106 : ZL X 106 m J106) : ZL X 190 (m + 0) (zb_L_law_190 J106) := by
  unfold zb_L_law_190
  intro a d ha hd
  have C := CC a d (by have h0 : (zXc X a d).ce = a := rfl; omega) (by have h0 : (zXc X a d).sl = d := rfl; omega)
  refine z_pop_ok (pc := 190) C.hx C.hb dL_law_190 ?_
  refine z_goto_ok (pc := 191) (tgt := 201) C.hx C.hb dL_law_191 (by decide) ?_
  exact zk_L_law_201 CC hn hR he106 hJ106 _ _ (by have h0 : (zXc X a d).ce = a := rfl; omega) (by have h0 : (zXc X a d).sl = d := rfl; omega)
def zb_L_law_186 (J106 : ZP) : ZP := (z_bin (fun x y => x + y) (z_invVq 7 2 sp_X7_onPoints (zb_L_law_190 J106)))
set_option maxRecDepth 20000 in
theorem zk_L_law_186 {X : ZX} (CC : zCC X) (hn : X.nL = 22) (hR : ZL X 1613 0 z_yes) {m : Nat} {J106 : ZP} (he106 : 36 ≤ m) (hJ106 : ZL X 106 m J106) : ZL X 186 (m + 0) (zb_L_law_186 J106) := by
  unfold zb_L_law_186
  intro a d ha hd
  have C := CC a d (by have h0 : (zXc X a d).ce = a := rfl; omega) (by have h0 : (zXc X a d).sl = d := rfl; omega)
  refine z_iadd_ok (pc := 186) C.hx C.hb dL_law_186 ?_
  refine z_invVq_ok (pc := 187) C (zm_X7_onPoints X.l C.htr) ⟨rfl, rfl⟩ ⟨by decide, by decide⟩ (by decide) (by decide) zcl_L_88 zw_265 zw_266 zK7 dL_law_187 ?_
  exact zk_L_law_190 CC hn hR he106 hJ106 _ _ (by have h0 : (zXc X a d).ce = a := rfl; omega) (by have h0 : (zXc X a d).sl = d := rfl; omega)
def zb_L_law_162 (J106 : ZP) : ZP := (z_pop (zb_L_law_201 J106))
set_option maxRecDepth 20000 in
theorem zk_L_law_162 {X : ZX} (CC : zCC X) (hn : X.nL = 22) (hR : ZL X 1613 0 z_yes) {m : Nat} {J106 : ZP} (he106 : 36 ≤ m) (hJ106 : ZL X 106 m J106) : ZL X 162 (m + 0) (zb_L_law_162 J106) := by
  unfold zb_L_law_162
  intro a d ha hd
  have C := CC a d (by have h0 : (zXc X a d).ce = a := rfl; omega) (by have h0 : (zXc X a d).sl = d := rfl; omega)
  refine z_pop_ok (pc := 162) C.hx C.hb dL_law_162 ?_
  refine z_goto_ok (pc := 163) (tgt := 201) C.hx C.hb dL_law_163 (by decide) ?_
  exact zk_L_law_201 CC hn hR he106 hJ106 _ _ (by have h0 : (zXc X a d).ce = a := rfl; omega) (by have h0 : (zXc X a d).sl = d := rfl; omega)
def zb_L_law_159 (J106 : ZP) : ZP := (z_invVq 7 2 sp_X7_ration (zb_L_law_162 J106))
set_option maxRecDepth 20000 in
theorem zk_L_law_159 {X : ZX} (CC : zCC X) (hn : X.nL = 22) (hR : ZL X 1613 0 z_yes) {m : Nat} {J106 : ZP} (he106 : 36 ≤ m) (hJ106 : ZL X 106 m J106) : ZL X 159 (m + 0) (zb_L_law_159 J106) := by
  unfold zb_L_law_159
  intro a d ha hd
  have C := CC a d (by have h0 : (zXc X a d).ce = a := rfl; omega) (by have h0 : (zXc X a d).sl = d := rfl; omega)
  refine z_invVq_ok (pc := 159) C (zm_X7_ration X.l C.htr) ⟨rfl, rfl⟩ ⟨by decide, by decide⟩ (by decide) (by decide) zcl_L_85 zw_167 zw_168 zK7 dL_law_159 ?_
  exact zk_L_law_162 CC hn hR he106 hJ106 _ _ (by have h0 : (zXc X a d).ce = a := rfl; omega) (by have h0 : (zXc X a d).sl = d := rfl; omega)
def zb_L_law_138 (J106 : ZP) : ZP := (z_pop (z_ild 5 (z_push 2 (z_cmp (fun x y => y ≤ x) (z_ild 5 (z_push 4 (z_cmp (fun x y => y ≤ x) (z_ald 1 (z_ild 5 (z_invVq 7 1 sp_X7_free (zb_L_law_200 J106)))) (z_ald 1 (z_ild 5 (z_push 1 (z_ild 6 (z_push 7 (z_bin (fun x y => x >>> (y &&& 31)) (z_push 24 (z_invSq 2 sp_L_low (zb_L_law_186 J106)))))))))))) (z_ald 1 (z_ild 5 (z_ild 6 (z_push 7 (z_bin (fun x y => x >>> (y &&& 31)) (z_push 3000 (z_invSq 2 sp_L_low (zb_L_law_159 J106))))))))))))
set_option maxRecDepth 20000 in
theorem zk_L_law_138 {X : ZX} (CC : zCC X) (hn : X.nL = 22) (hR : ZL X 1613 0 z_yes) {m : Nat} {J106 : ZP} (he106 : 36 ≤ m) (hJ106 : ZL X 106 m J106) : ZL X 138 (m + 0) (zb_L_law_138 J106) := by
  unfold zb_L_law_138
  intro a d ha hd
  have C := CC a d (by have h0 : (zXc X a d).ce = a := rfl; omega) (by have h0 : (zXc X a d).sl = d := rfl; omega)
  refine z_pop_ok (pc := 138) C.hx C.hb dL_law_138 ?_
  refine z_iload_ok (pc := 139) (i := 5) C.hx C.hb dL_law_139 ?_
  refine z_iconst_ok (pc := 141) (v := 2) C.hx C.hb dL_law_141 (by decide) ?_
  refine z_icmp_ge_ok (pc := 142) (tgt := 166) C.hx C.hb dL_law_142 (by decide) ?_ ?_
  · refine z_iload_ok (pc := 166) (i := 5) C.hx C.hb dL_law_166 ?_
    refine z_iconst_ok (pc := 168) (v := 4) C.hx C.hb dL_law_168 (by decide) ?_
    refine z_icmp_ge_ok (pc := 169) (tgt := 194) C.hx C.hb dL_law_169 (by decide) ?_ ?_
    · refine z_aload_n_ok (pc := 194) (i := 1) C.hx C.hb dL_law_194 rfl ?_
      refine z_iload_ok (pc := 195) (i := 5) C.hx C.hb dL_law_195 ?_
      refine z_invVq_ok (pc := 197) C (zm_X7_free X.l C.htr) ⟨rfl, rfl⟩ ⟨by decide, by decide⟩ (by decide) (by decide) zcl_L_91 zw_269 zw_270 zK7 dL_law_197 ?_
      exact zk_L_law_200 CC hn hR he106 hJ106 _ _ (by have h0 : (zXc X a d).ce = a := rfl; omega) (by have h0 : (zXc X a d).sl = d := rfl; omega)
    · refine z_aload_n_ok (pc := 172) (i := 1) C.hx C.hb dL_law_172 rfl ?_
      refine z_iload_ok (pc := 173) (i := 5) C.hx C.hb dL_law_173 ?_
      refine z_iconst_ok (pc := 175) (v := 1) C.hx C.hb dL_law_175 (by decide) ?_
      refine z_iload_ok (pc := 176) (i := 6) C.hx C.hb dL_law_176 ?_
      refine z_bipush_ok (pc := 178) (v := 7) C.hx C.hb dL_law_178 (by decide) ?_
      refine z_ishr_ok (pc := 180) C.hx C.hb dL_law_180 ?_
      refine z_bipush_ok (pc := 181) (v := 24) C.hx C.hb dL_law_181 (by decide) ?_
      refine z_invSq_ok (pc := 183) C (zm_L_low X.l C.htr) ⟨rfl, rfl⟩ ⟨by decide, by decide⟩ (by decide) (by decide) zcl_L_70 zw_625 dL_law_183 ?_
      exact zk_L_law_186 CC hn hR he106 hJ106 _ _ (by have h0 : (zXc X a d).ce = a := rfl; omega) (by have h0 : (zXc X a d).sl = d := rfl; omega)
  · refine z_aload_n_ok (pc := 145) (i := 1) C.hx C.hb dL_law_145 rfl ?_
    refine z_iload_ok (pc := 146) (i := 5) C.hx C.hb dL_law_146 ?_
    refine z_iload_ok (pc := 148) (i := 6) C.hx C.hb dL_law_148 ?_
    refine z_bipush_ok (pc := 150) (v := 7) C.hx C.hb dL_law_150 (by decide) ?_
    refine z_ishr_ok (pc := 152) C.hx C.hb dL_law_152 ?_
    refine z_sipush_ok (pc := 153) (v := 3000) C.hx C.hb dL_law_153 (by decide) ?_
    refine z_invSq_ok (pc := 156) C (zm_L_low X.l C.htr) ⟨rfl, rfl⟩ ⟨by decide, by decide⟩ (by decide) (by decide) zcl_L_70 zw_625 dL_law_156 ?_
    exact zk_L_law_159 CC hn hR he106 hJ106 _ _ (by have h0 : (zXc X a d).ce = a := rfl; omega) (by have h0 : (zXc X a d).sl = d := rfl; omega)
def zb_L_law_135 (J106 : ZP) : ZP := (z_invVq 7 2 sp_X7_energy (zb_L_law_138 J106))
set_option maxRecDepth 20000 in
theorem zk_L_law_135 {X : ZX} (CC : zCC X) (hn : X.nL = 22) (hR : ZL X 1613 0 z_yes) {m : Nat} {J106 : ZP} (he106 : 36 ≤ m) (hJ106 : ZL X 106 m J106) : ZL X 135 (m + 0) (zb_L_law_135 J106) := by
  unfold zb_L_law_135
  intro a d ha hd
  have C := CC a d (by have h0 : (zXc X a d).ce = a := rfl; omega) (by have h0 : (zXc X a d).sl = d := rfl; omega)
  refine z_invVq_ok (pc := 135) C (zm_X7_energy X.l C.htr) ⟨rfl, rfl⟩ ⟨by decide, by decide⟩ (by decide) (by decide) zcl_L_82 zw_273 zw_274 zK7 dL_law_135 ?_
  exact zk_L_law_138 CC hn hR he106 hJ106 _ _ (by have h0 : (zXc X a d).ce = a := rfl; omega) (by have h0 : (zXc X a d).sl = d := rfl; omega)
def zb_L_law_122 (J106 : ZP) : ZP := (z_ist 6 (z_ald 1 (z_ild 5 (z_ild 6 (z_push 901 (z_invSq 2 sp_L_low (zb_L_law_135 J106)))))))
set_option maxRecDepth 20000 in
theorem zk_L_law_122 {X : ZX} (CC : zCC X) (hn : X.nL = 22) (hR : ZL X 1613 0 z_yes) {m : Nat} {J106 : ZP} (he106 : 36 ≤ m) (hJ106 : ZL X 106 m J106) : ZL X 122 (m + 0) (zb_L_law_122 J106) := by
  unfold zb_L_law_122
  intro a d ha hd
  have C := CC a d (by have h0 : (zXc X a d).ce = a := rfl; omega) (by have h0 : (zXc X a d).sl = d := rfl; omega)
  refine z_istore_ok (pc := 122) (i := 6) C.hx C.hb dL_law_122 (zlt hn (by decide)) ?_
  refine z_aload_n_ok (pc := 124) (i := 1) C.hx C.hb dL_law_124 rfl ?_
  refine z_iload_ok (pc := 125) (i := 5) C.hx C.hb dL_law_125 ?_
  refine z_iload_ok (pc := 127) (i := 6) C.hx C.hb dL_law_127 ?_
  refine z_sipush_ok (pc := 129) (v := 901) C.hx C.hb dL_law_129 (by decide) ?_
  refine z_invSq_ok (pc := 132) C (zm_L_low X.l C.htr) ⟨rfl, rfl⟩ ⟨by decide, by decide⟩ (by decide) (by decide) zcl_L_70 zw_625 dL_law_132 ?_
  exact zk_L_law_135 CC hn hR he106 hJ106 _ _ (by have h0 : (zXc X a d).ce = a := rfl; omega) (by have h0 : (zXc X a d).sl = d := rfl; omega)
def zb_L_law_106 (J106 : ZP) : ZP := (z_ild 5 (z_push 6 (z_cmp (fun x y => y ≤ x) (z_ald 1 (z_push 1 (z_push 0 (z_push 1 (z_ald 0 (z_push 14 (z_invSq 2 sp_L_cell zb_L_law_259))))))) (z_ald 0 (z_push 8 (z_ild 5 (z_bin (fun x y => x + y) (z_invSq 2 sp_L_cell (zb_L_law_122 J106)))))))))
set_option maxRecDepth 20000 in
theorem zk_L_law_106 {X : ZX} (CC : zCC X) (hn : X.nL = 22) (hR : ZL X 1613 0 z_yes) {m : Nat} {J106 : ZP} (he106 : 36 ≤ m) (hJ106 : ZL X 106 m J106) : ZL X 106 (m + 0) (zb_L_law_106 J106) := by
  unfold zb_L_law_106
  intro a d ha hd
  have C := CC a d (by have h0 : (zXc X a d).ce = a := rfl; omega) (by have h0 : (zXc X a d).sl = d := rfl; omega)
  refine z_iload_ok (pc := 106) (i := 5) C.hx C.hb dL_law_106 ?_
  refine z_bipush_ok (pc := 108) (v := 6) C.hx C.hb dL_law_108 (by decide) ?_
  refine z_icmp_ge_ok (pc := 110) (tgt := 249) C.hx C.hb dL_law_110 (by decide) ?_ ?_
  · refine z_aload_n_ok (pc := 249) (i := 1) C.hx C.hb dL_law_249 rfl ?_
    refine z_iconst_ok (pc := 250) (v := 1) C.hx C.hb dL_law_250 (by decide) ?_
    refine z_iconst_ok (pc := 251) (v := 0) C.hx C.hb dL_law_251 (by decide) ?_
    refine z_iconst_ok (pc := 252) (v := 1) C.hx C.hb dL_law_252 (by decide) ?_
    refine z_aload_n_ok (pc := 253) (i := 0) C.hx C.hb dL_law_253 rfl ?_
    refine z_bipush_ok (pc := 254) (v := 14) C.hx C.hb dL_law_254 (by decide) ?_
    refine z_invSq_ok (pc := 256) C (zm_L_cell X.l C.htr) ⟨rfl, rfl⟩ ⟨by decide, by decide⟩ (by decide) (by decide) zcl_L_64 zw_621 dL_law_256 ?_
    exact zk_L_law_259 CC hn hR  _ _ (by have h0 : (zXc X a d).ce = a := rfl; omega) (by have h0 : (zXc X a d).sl = d := rfl; omega)
  · refine z_aload_n_ok (pc := 113) (i := 0) C.hx C.hb dL_law_113 rfl ?_
    refine z_bipush_ok (pc := 114) (v := 8) C.hx C.hb dL_law_114 (by decide) ?_
    refine z_iload_ok (pc := 116) (i := 5) C.hx C.hb dL_law_116 ?_
    refine z_iadd_ok (pc := 118) C.hx C.hb dL_law_118 ?_
    refine z_invSq_ok (pc := 119) C (zm_L_cell X.l C.htr) ⟨rfl, rfl⟩ ⟨by decide, by decide⟩ (by decide) (by decide) zcl_L_64 zw_621 dL_law_119 ?_
    exact zk_L_law_122 CC hn hR he106 hJ106 _ _ (by have h0 : (zXc X a d).ce = a := rfl; omega) (by have h0 : (zXc X a d).sl = d := rfl; omega)
def zb_L_law_96 (J60 : ZP) : ZP := (z_pop (z_inc 5 (1) J60))
set_option maxRecDepth 20000 in
theorem zk_L_law_96 {X : ZX} (CC : zCC X) (hn : X.nL = 22) (hR : ZL X 1613 0 z_yes) {m : Nat} {J60 : ZP} (he60 : 36 ≤ m) (hJ60 : ZL X 60 m J60) : ZL X 96 (m + 0) (zb_L_law_96 J60) := by
  unfold zb_L_law_96
  intro a d ha hd
  have C := CC a d (by have h0 : (zXc X a d).ce = a := rfl; omega) (by have h0 : (zXc X a d).sl = d := rfl; omega)
  refine z_pop_ok (pc := 96) C.hx C.hb dL_law_96 ?_
  refine z_iinc_ok (pc := 97) (i := 5) (v := 1) C.hx C.hb dL_law_97 (by decide) (zlt hn (by decide)) ?_
  refine z_goto_ok (pc := 100) (tgt := 60) C.hx C.hb dL_law_100 (by decide) ?_
  exact hJ60 a d (by have h0 : (zXc X a d).ce = a := rfl; omega) (by have h0 : (zXc X a d).sl = d := rfl; omega)
def zb_L_law_93 (J60 : ZP) : ZP := (z_invVq 7 2 sp_X7_person (zb_L_law_96 J60))
set_option maxRecDepth 20000 in
theorem zk_L_law_93 {X : ZX} (CC : zCC X) (hn : X.nL = 22) (hR : ZL X 1613 0 z_yes) {m : Nat} {J60 : ZP} (he60 : 36 ≤ m) (hJ60 : ZL X 60 m J60) : ZL X 93 (m + 1) (zb_L_law_93 J60) := by
  unfold zb_L_law_93
  intro a d ha hd
  have C := CC a d (by have h0 : (zXc X a d).ce = a := rfl; omega) (by have h0 : (zXc X a d).sl = d := rfl; omega)
  refine z_invVq_ok (pc := 93) C (zm_X7_person X.l C.htr) ⟨rfl, rfl⟩ ⟨by decide, by decide⟩ (by decide) (by decide) zcl_L_79 zw_285 zw_286 zK7 dL_law_93 ?_
  exact zk_L_law_96 CC hn hR he60 hJ60 _ _ (by have h0 : (zXc X a d).ce = a := rfl; omega) (by have h0 : (zXc X a d).sl = d := rfl; omega)
def zb_L_law_87 (J60 : ZP) : ZP := (z_push 3 (z_bin (fun x y => x >>> (y &&& 31)) (z_push 2 (z_invSq 2 sp_L_low (zb_L_law_93 J60)))))
set_option maxRecDepth 20000 in
theorem zk_L_law_87 {X : ZX} (CC : zCC X) (hn : X.nL = 22) (hR : ZL X 1613 0 z_yes) {m : Nat} {J60 : ZP} (he60 : 36 ≤ m) (hJ60 : ZL X 60 m J60) : ZL X 87 (m + 1) (zb_L_law_87 J60) := by
  unfold zb_L_law_87
  intro a d ha hd
  have C := CC a d (by have h0 : (zXc X a d).ce = a := rfl; omega) (by have h0 : (zXc X a d).sl = d := rfl; omega)
  refine z_iconst_ok (pc := 87) (v := 3) C.hx C.hb dL_law_87 (by decide) ?_
  refine z_ishr_ok (pc := 88) C.hx C.hb dL_law_88 ?_
  refine z_iconst_ok (pc := 89) (v := 2) C.hx C.hb dL_law_89 (by decide) ?_
  refine z_invSq_ok (pc := 90) C (zm_L_low X.l C.htr) ⟨rfl, rfl⟩ ⟨by decide, by decide⟩ (by decide) (by decide) zcl_L_70 zw_625 dL_law_90 ?_
  exact zk_L_law_93 CC hn hR he60 hJ60 _ _ (by have h0 : (zXc X a d).ce = a := rfl; omega) (by have h0 : (zXc X a d).sl = d := rfl; omega)
def zb_L_law_79 (J60 : ZP) : ZP := (z_ald 0 (z_push 2 (z_ild 5 (z_bin (fun x y => x + y) (z_invSq 2 sp_L_cell (zb_L_law_87 J60))))))
set_option maxRecDepth 20000 in
theorem zk_L_law_79 {X : ZX} (CC : zCC X) (hn : X.nL = 22) (hR : ZL X 1613 0 z_yes) {m : Nat} {J60 : ZP} (he60 : 36 ≤ m) (hJ60 : ZL X 60 m J60) : ZL X 79 (m + 1) (zb_L_law_79 J60) := by
  unfold zb_L_law_79
  intro a d ha hd
  have C := CC a d (by have h0 : (zXc X a d).ce = a := rfl; omega) (by have h0 : (zXc X a d).sl = d := rfl; omega)
  refine z_aload_n_ok (pc := 79) (i := 0) C.hx C.hb dL_law_79 rfl ?_
  refine z_iconst_ok (pc := 80) (v := 2) C.hx C.hb dL_law_80 (by decide) ?_
  refine z_iload_ok (pc := 81) (i := 5) C.hx C.hb dL_law_81 ?_
  refine z_iadd_ok (pc := 83) C.hx C.hb dL_law_83 ?_
  refine z_invSq_ok (pc := 84) C (zm_L_cell X.l C.htr) ⟨rfl, rfl⟩ ⟨by decide, by decide⟩ (by decide) (by decide) zcl_L_64 zw_621 dL_law_84 ?_
  exact zk_L_law_87 CC hn hR he60 hJ60 _ _ (by have h0 : (zXc X a d).ce = a := rfl; omega) (by have h0 : (zXc X a d).sl = d := rfl; omega)
def zb_L_law_75 (J60 : ZP) : ZP := (z_push 4 (z_invSq 2 sp_L_low (zb_L_law_79 J60)))
set_option maxRecDepth 20000 in
theorem zk_L_law_75 {X : ZX} (CC : zCC X) (hn : X.nL = 22) (hR : ZL X 1613 0 z_yes) {m : Nat} {J60 : ZP} (he60 : 36 ≤ m) (hJ60 : ZL X 60 m J60) : ZL X 75 (m + 1) (zb_L_law_75 J60) := by
  unfold zb_L_law_75
  intro a d ha hd
  have C := CC a d (by have h0 : (zXc X a d).ce = a := rfl; omega) (by have h0 : (zXc X a d).sl = d := rfl; omega)
  refine z_iconst_ok (pc := 75) (v := 4) C.hx C.hb dL_law_75 (by decide) ?_
  refine z_invSq_ok (pc := 76) C (zm_L_low X.l C.htr) ⟨rfl, rfl⟩ ⟨by decide, by decide⟩ (by decide) (by decide) zcl_L_70 zw_625 dL_law_76 ?_
  exact zk_L_law_79 CC hn hR he60 hJ60 _ _ (by have h0 : (zXc X a d).ce = a := rfl; omega) (by have h0 : (zXc X a d).sl = d := rfl; omega)
def zb_L_law_60 (J60 : ZP) : ZP := (z_ild 5 (z_ild 2 (z_cmp (fun x y => y ≤ x) (z_push 0 (z_ist 5 (z_loopN 7 (fun J106 => zb_L_law_106 J106)))) (z_ald 1 (z_ald 0 (z_push 2 (z_ild 5 (z_bin (fun x y => x + y) (z_invSq 2 sp_L_cell (zb_L_law_75 J60))))))))))
set_option maxRecDepth 20000 in
theorem zk_L_law_60 {X : ZX} (CC : zCC X) (hn : X.nL = 22) (hR : ZL X 1613 0 z_yes) {m : Nat} {J60 : ZP} (he60 : 36 ≤ m) (hJ60 : ZL X 60 m J60) : ZL X 60 (m + 1) (zb_L_law_60 J60) := by
  unfold zb_L_law_60
  intro a d ha hd
  have C := CC a d (by have h0 : (zXc X a d).ce = a := rfl; omega) (by have h0 : (zXc X a d).sl = d := rfl; omega)
  refine z_iload_ok (pc := 60) (i := 5) C.hx C.hb dL_law_60 ?_
  refine z_iload_n_ok (pc := 62) (i := 2) C.hx C.hb dL_law_62 rfl ?_
  refine z_icmp_ge_ok (pc := 63) (tgt := 103) C.hx C.hb dL_law_63 (by decide) ?_ ?_
  · refine z_iconst_ok (pc := 103) (v := 0) C.hx C.hb dL_law_103 (by decide) ?_
    refine z_istore_ok (pc := 104) (i := 5) C.hx C.hb dL_law_104 (zlt hn (by decide)) ?_
    exact z_loopN_ok (c := 0) (e := 36) (fun m J106 he106 hJ106 => zk_L_law_106 CC hn hR he106 hJ106) _ _ (by have h0 : (zXc X a d).ce = a := rfl; omega) (by have h0 : (zXc X a d).sl = d := rfl; omega)
  · refine z_aload_n_ok (pc := 66) (i := 1) C.hx C.hb dL_law_66 rfl ?_
    refine z_aload_n_ok (pc := 67) (i := 0) C.hx C.hb dL_law_67 rfl ?_
    refine z_iconst_ok (pc := 68) (v := 2) C.hx C.hb dL_law_68 (by decide) ?_
    refine z_iload_ok (pc := 69) (i := 5) C.hx C.hb dL_law_69 ?_
    refine z_iadd_ok (pc := 71) C.hx C.hb dL_law_71 ?_
    refine z_invSq_ok (pc := 72) C (zm_L_cell X.l C.htr) ⟨rfl, rfl⟩ ⟨by decide, by decide⟩ (by decide) (by decide) zcl_L_64 zw_621 dL_law_72 ?_
    exact zk_L_law_75 CC hn hR he60 hJ60 _ _ (by have h0 : (zXc X a d).ce = a := rfl; omega) (by have h0 : (zXc X a d).sl = d := rfl; omega)
def zb_L_law_56 : ZP := (z_pop (z_push 0 (z_ist 5 (z_loopN 6 (fun J60 => zb_L_law_60 J60)))))
set_option maxRecDepth 20000 in
theorem zk_L_law_56 {X : ZX} (CC : zCC X) (hn : X.nL = 22) (hR : ZL X 1613 0 z_yes) : ZL X 56 42 (zb_L_law_56) := by
  unfold zb_L_law_56
  intro a d ha hd
  have C := CC a d (by have h0 : (zXc X a d).ce = a := rfl; omega) (by have h0 : (zXc X a d).sl = d := rfl; omega)
  refine z_pop_ok (pc := 56) C.hx C.hb dL_law_56 ?_
  refine z_iconst_ok (pc := 57) (v := 0) C.hx C.hb dL_law_57 (by decide) ?_
  refine z_istore_ok (pc := 58) (i := 5) C.hx C.hb dL_law_58 (zlt hn (by decide)) ?_
  exact z_loopN_ok (c := 1) (e := 36) (fun m J60 he60 hJ60 => zk_L_law_60 CC hn hR he60 hJ60) _ _ (by have h0 : (zXc X a d).ce = a := rfl; omega) (by have h0 : (zXc X a d).sl = d := rfl; omega)
def zb_L_law_53 : ZP := (z_invVq 7 1 sp_X7_shop zb_L_law_56)
set_option maxRecDepth 20000 in
theorem zk_L_law_53 {X : ZX} (CC : zCC X) (hn : X.nL = 22) (hR : ZL X 1613 0 z_yes) : ZL X 53 43 (zb_L_law_53) := by
  unfold zb_L_law_53
  intro a d ha hd
  have C := CC a d (by have h0 : (zXc X a d).ce = a := rfl; omega) (by have h0 : (zXc X a d).sl = d := rfl; omega)
  refine z_invVq_ok (pc := 53) C (zm_X7_shop X.l C.htr) ⟨rfl, rfl⟩ ⟨by decide, by decide⟩ (by decide) (by decide) zcl_L_76 zw_431 zw_432 zK7 dL_law_53 ?_
  exact zk_L_law_56 CC hn hR  _ _ (by have h0 : (zXc X a d).ce = a := rfl; omega) (by have h0 : (zXc X a d).sl = d := rfl; omega)
def zb_L_law_49 : ZP := (z_push 2 (z_invSq 2 sp_L_low zb_L_law_53))
set_option maxRecDepth 20000 in
theorem zk_L_law_49 {X : ZX} (CC : zCC X) (hn : X.nL = 22) (hR : ZL X 1613 0 z_yes) : ZL X 49 43 (zb_L_law_49) := by
  unfold zb_L_law_49
  intro a d ha hd
  have C := CC a d (by have h0 : (zXc X a d).ce = a := rfl; omega) (by have h0 : (zXc X a d).sl = d := rfl; omega)
  refine z_iconst_ok (pc := 49) (v := 2) C.hx C.hb dL_law_49 (by decide) ?_
  refine z_invSq_ok (pc := 50) C (zm_L_low X.l C.htr) ⟨rfl, rfl⟩ ⟨by decide, by decide⟩ (by decide) (by decide) zcl_L_70 zw_625 dL_law_50 ?_
  exact zk_L_law_53 CC hn hR  _ _ (by have h0 : (zXc X a d).ce = a := rfl; omega) (by have h0 : (zXc X a d).sl = d := rfl; omega)
def zb_L_law_42 : ZP := (z_pop (z_ald 1 (z_ald 0 (z_push 1 (z_invSq 2 sp_L_cell zb_L_law_49)))))
set_option maxRecDepth 20000 in
theorem zk_L_law_42 {X : ZX} (CC : zCC X) (hn : X.nL = 22) (hR : ZL X 1613 0 z_yes) : ZL X 42 43 (zb_L_law_42) := by
  unfold zb_L_law_42
  intro a d ha hd
  have C := CC a d (by have h0 : (zXc X a d).ce = a := rfl; omega) (by have h0 : (zXc X a d).sl = d := rfl; omega)
  refine z_pop_ok (pc := 42) C.hx C.hb dL_law_42 ?_
  refine z_aload_n_ok (pc := 43) (i := 1) C.hx C.hb dL_law_43 rfl ?_
  refine z_aload_n_ok (pc := 44) (i := 0) C.hx C.hb dL_law_44 rfl ?_
  refine z_iconst_ok (pc := 45) (v := 1) C.hx C.hb dL_law_45 (by decide) ?_
  refine z_invSq_ok (pc := 46) C (zm_L_cell X.l C.htr) ⟨rfl, rfl⟩ ⟨by decide, by decide⟩ (by decide) (by decide) zcl_L_64 zw_621 dL_law_46 ?_
  exact zk_L_law_49 CC hn hR  _ _ (by have h0 : (zXc X a d).ce = a := rfl; omega) (by have h0 : (zXc X a d).sl = d := rfl; omega)
def zb_L_law_36 : ZP := (z_pop (z_ald 1 (z_push 1 (z_invVq 7 1 sp_X7_shop zb_L_law_42))))
set_option maxRecDepth 20000 in
theorem zk_L_law_36 {X : ZX} (CC : zCC X) (hn : X.nL = 22) (hR : ZL X 1613 0 z_yes) : ZL X 36 44 (zb_L_law_36) := by
  unfold zb_L_law_36
  intro a d ha hd
  have C := CC a d (by have h0 : (zXc X a d).ce = a := rfl; omega) (by have h0 : (zXc X a d).sl = d := rfl; omega)
  refine z_pop_ok (pc := 36) C.hx C.hb dL_law_36 ?_
  refine z_aload_n_ok (pc := 37) (i := 1) C.hx C.hb dL_law_37 rfl ?_
  refine z_iconst_ok (pc := 38) (v := 1) C.hx C.hb dL_law_38 (by decide) ?_
  refine z_invVq_ok (pc := 39) C (zm_X7_shop X.l C.htr) ⟨rfl, rfl⟩ ⟨by decide, by decide⟩ (by decide) (by decide) zcl_L_76 zw_431 zw_432 zK7 dL_law_39 ?_
  exact zk_L_law_42 CC hn hR  _ _ (by have h0 : (zXc X a d).ce = a := rfl; omega) (by have h0 : (zXc X a d).sl = d := rfl; omega)
def zb_L_law_30 : ZP := (z_pop (z_ald 1 (z_push 0 (z_invVq 7 1 sp_X7_depot zb_L_law_36))))
set_option maxRecDepth 20000 in
theorem zk_L_law_30 {X : ZX} (CC : zCC X) (hn : X.nL = 22) (hR : ZL X 1613 0 z_yes) : ZL X 30 45 (zb_L_law_30) := by
  unfold zb_L_law_30
  intro a d ha hd
  have C := CC a d (by have h0 : (zXc X a d).ce = a := rfl; omega) (by have h0 : (zXc X a d).sl = d := rfl; omega)
  refine z_pop_ok (pc := 30) C.hx C.hb dL_law_30 ?_
  refine z_aload_n_ok (pc := 31) (i := 1) C.hx C.hb dL_law_31 rfl ?_
  refine z_iconst_ok (pc := 32) (v := 0) C.hx C.hb dL_law_32 (by decide) ?_
  refine z_invVq_ok (pc := 33) C (zm_X7_depot X.l C.htr) ⟨rfl, rfl⟩ ⟨by decide, by decide⟩ (by decide) (by decide) zcl_L_73 zw_404 zw_405 zK7 dL_law_33 ?_
  exact zk_L_law_36 CC hn hR  _ _ (by have h0 : (zXc X a d).ce = a := rfl; omega) (by have h0 : (zXc X a d).sl = d := rfl; omega)
def zb_L_law_18 : ZP := (z_bin (fun x y => x + y) (z_ist 2 (z_push 2 (z_ist 3 (z_push 0 (z_ist 4 (z_ald 1 (z_push (-1) (z_invVq 7 1 sp_X7_depot zb_L_law_30)))))))))
set_option maxRecDepth 20000 in
theorem zk_L_law_18 {X : ZX} (CC : zCC X) (hn : X.nL = 22) (hR : ZL X 1613 0 z_yes) : ZL X 18 46 (zb_L_law_18) := by
  unfold zb_L_law_18
  intro a d ha hd
  have C := CC a d (by have h0 : (zXc X a d).ce = a := rfl; omega) (by have h0 : (zXc X a d).sl = d := rfl; omega)
  refine z_iadd_ok (pc := 18) C.hx C.hb dL_law_18 ?_
  refine z_istore_n_ok (pc := 19) (i := 2) C.hx C.hb dL_law_19 rfl (zlt hn (by decide)) ?_
  refine z_iconst_ok (pc := 20) (v := 2) C.hx C.hb dL_law_20 (by decide) ?_
  refine z_istore_n_ok (pc := 21) (i := 3) C.hx C.hb dL_law_21 rfl (zlt hn (by decide)) ?_
  refine z_iconst_ok (pc := 22) (v := 0) C.hx C.hb dL_law_22 (by decide) ?_
  refine z_istore_ok (pc := 23) (i := 4) C.hx C.hb dL_law_23 (zlt hn (by decide)) ?_
  refine z_aload_n_ok (pc := 25) (i := 1) C.hx C.hb dL_law_25 rfl ?_
  refine z_iconst_ok (pc := 26) (v := -1) C.hx C.hb dL_law_26 (by decide) ?_
  refine z_invVq_ok (pc := 27) C (zm_X7_depot X.l C.htr) ⟨rfl, rfl⟩ ⟨by decide, by decide⟩ (by decide) (by decide) zcl_L_73 zw_404 zw_405 zK7 dL_law_27 ?_
  exact zk_L_law_30 CC hn hR  _ _ (by have h0 : (zXc X a d).ce = a := rfl; omega) (by have h0 : (zXc X a d).sl = d := rfl; omega)
def zb_L_law_14 : ZP := (z_push 4 (z_invSq 2 sp_L_low zb_L_law_18))
set_option maxRecDepth 20000 in
theorem zk_L_law_14 {X : ZX} (CC : zCC X) (hn : X.nL = 22) (hR : ZL X 1613 0 z_yes) : ZL X 14 46 (zb_L_law_14) := by
  unfold zb_L_law_14
  intro a d ha hd
  have C := CC a d (by have h0 : (zXc X a d).ce = a := rfl; omega) (by have h0 : (zXc X a d).sl = d := rfl; omega)
  refine z_iconst_ok (pc := 14) (v := 4) C.hx C.hb dL_law_14 (by decide) ?_
  refine z_invSq_ok (pc := 15) C (zm_L_low X.l C.htr) ⟨rfl, rfl⟩ ⟨by decide, by decide⟩ (by decide) (by decide) zcl_L_70 zw_625 dL_law_15 ?_
  exact zk_L_law_18 CC hn hR  _ _ (by have h0 : (zXc X a d).ce = a := rfl; omega) (by have h0 : (zXc X a d).sl = d := rfl; omega)
def zb_L_law_8 : ZP := (z_push 2 (z_ald 0 (z_push 0 (z_invSq 2 sp_L_cell zb_L_law_14))))
set_option maxRecDepth 20000 in
theorem zk_L_law_8 {X : ZX} (CC : zCC X) (hn : X.nL = 22) (hR : ZL X 1613 0 z_yes) : ZL X 8 46 (zb_L_law_8) := by
  unfold zb_L_law_8
  intro a d ha hd
  have C := CC a d (by have h0 : (zXc X a d).ce = a := rfl; omega) (by have h0 : (zXc X a d).sl = d := rfl; omega)
  refine z_iconst_ok (pc := 8) (v := 2) C.hx C.hb dL_law_8 (by decide) ?_
  refine z_aload_n_ok (pc := 9) (i := 0) C.hx C.hb dL_law_9 rfl ?_
  refine z_iconst_ok (pc := 10) (v := 0) C.hx C.hb dL_law_10 (by decide) ?_
  refine z_invSq_ok (pc := 11) C (zm_L_cell X.l C.htr) ⟨rfl, rfl⟩ ⟨by decide, by decide⟩ (by decide) (by decide) zcl_L_64 zw_621 dL_law_11 ?_
  exact zk_L_law_14 CC hn hR  _ _ (by have h0 : (zXc X a d).ce = a := rfl; omega) (by have h0 : (zXc X a d).sl = d := rfl; omega)
