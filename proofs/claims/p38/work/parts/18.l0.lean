/-- the law's own frame, whatever room is used -/
def zCC (X : ZX) : Prop := ∀ a d : Nat, a ≤ 200000 → d ≤ 2000000 → zCx (zXc X a d) cL_law RL ret 9 167 11 66
def z_yes : ZP := fun _ st _ _ => st = [zi 1]
def zb_L_law_1613 : ZP := z_yes
set_option maxRecDepth 20000 in
theorem zk_L_law_1613 {X : ZX} (CC : zCC X) (hn : X.nL = 22) (hR : ZL X 1613 0 z_yes) : ZL X 1613 0 (zb_L_law_1613) := by
  unfold zb_L_law_1613
  intro a d ha hd
  have C := CC a d (by have h0 : (zXc X a d).ce = a := rfl; omega) (by have h0 : (zXc X a d).sl = d := rfl; omega)
  exact hR _ _ (by have h0 : (zXc X a d).ce = a := rfl; omega) (by have h0 : (zXc X a d).sl = d := rfl; omega)
def zb_L_law_1605 : ZP := (z_if (fun x => x = 0) (fun _ _ _ _ => False) (z_push 1 zb_L_law_1613))
set_option maxRecDepth 20000 in
theorem zk_L_law_1605 {X : ZX} (CC : zCC X) (hn : X.nL = 22) (hR : ZL X 1613 0 z_yes) : ZL X 1605 0 (zb_L_law_1605) := by
  unfold zb_L_law_1605
  intro a d ha hd
  have C := CC a d (by have h0 : (zXc X a d).ce = a := rfl; omega) (by have h0 : (zXc X a d).sl = d := rfl; omega)
  refine z_if_eq_ok (pc := 1605) (tgt := 1612) C.hx C.hb dL_law_1605 (by decide) ?_ ?_
  · exact fun _ _ _ _ _ _ _ h => h.elim
  · refine z_iconst_ok (pc := 1608) (v := 1) C.hx C.hb dL_law_1608 (by decide) ?_
    refine z_goto_ok (pc := 1609) (tgt := 1613) C.hx C.hb dL_law_1609 (by decide) ?_
    exact zk_L_law_1613 CC hn hR  _ _ (by have h0 : (zXc X a d).ce = a := rfl; omega) (by have h0 : (zXc X a d).sl = d := rfl; omega)
def zb_L_law_1594 : ZP := (z_ild 4 (z_cmp (fun x y => x = y) (z_ald 1 (z_ild 2 (z_ild 3 (z_invSq 3 sp_L_agrees zb_L_law_1605)))) (fun _ _ _ _ => False)))
set_option maxRecDepth 20000 in
theorem zk_L_law_1594 {X : ZX} (CC : zCC X) (hn : X.nL = 22) (hR : ZL X 1613 0 z_yes) : ZL X 1594 0 (zb_L_law_1594) := by
  unfold zb_L_law_1594
  intro a d ha hd
  have C := CC a d (by have h0 : (zXc X a d).ce = a := rfl; omega) (by have h0 : (zXc X a d).sl = d := rfl; omega)
  refine z_iload_ok (pc := 1594) (i := 4) C.hx C.hb dL_law_1594 ?_
  refine z_icmp_ne_ok (pc := 1596) (tgt := 1612) C.hx C.hb dL_law_1596 (by decide) ?_ ?_
  · exact fun _ _ _ _ _ _ _ h => h.elim
  · refine z_aload_n_ok (pc := 1599) (i := 1) C.hx C.hb dL_law_1599 rfl ?_
    refine z_iload_n_ok (pc := 1600) (i := 2) C.hx C.hb dL_law_1600 rfl ?_
    refine z_iload_n_ok (pc := 1601) (i := 3) C.hx C.hb dL_law_1601 rfl ?_
    refine z_invSq_ok (pc := 1602) C (zm_L_agrees X.l C.htr) ⟨rfl, rfl⟩ ⟨by decide, by decide⟩ (by decide) (by decide) zcl_L_132 zw_718 dL_law_1602 ?_
    exact zk_L_law_1605 CC hn hR  _ _ (by have h0 : (zXc X a d).ce = a := rfl; omega) (by have h0 : (zXc X a d).sl = d := rfl; omega)
def zb_L_law_1582 (J273 : ZP) : ZP := (z_inc 5 (1) J273)
set_option maxRecDepth 20000 in
theorem zk_L_law_1582 {X : ZX} (CC : zCC X) (hn : X.nL = 22) (hR : ZL X 1613 0 z_yes) {m : Nat} {J273 : ZP} (he273 : 0 ≤ m) (hJ273 : ZL X 273 m J273) : ZL X 1582 (m + 0) (zb_L_law_1582 J273) := by
  unfold zb_L_law_1582
  intro a d ha hd
  have C := CC a d (by have h0 : (zXc X a d).ce = a := rfl; omega) (by have h0 : (zXc X a d).sl = d := rfl; omega)
  refine z_iinc_ok (pc := 1582) (i := 5) (v := 1) C.hx C.hb dL_law_1582 (by decide) (zlt hn (by decide)) ?_
  refine z_goto_ok (pc := 1585) (tgt := 273) C.hx C.hb dL_law_1585 (by decide) ?_
  exact hJ273 a d (by have h0 : (zXc X a d).ce = a := rfl; omega) (by have h0 : (zXc X a d).sl = d := rfl; omega)
def zb_L_law_1577 (J273 : ZP) : ZP := (z_if (fun x => x = 0) (fun _ _ _ _ => False) (zb_L_law_1582 J273))
set_option maxRecDepth 20000 in
theorem zk_L_law_1577 {X : ZX} (CC : zCC X) (hn : X.nL = 22) (hR : ZL X 1613 0 z_yes) {m : Nat} {J273 : ZP} (he273 : 0 ≤ m) (hJ273 : ZL X 273 m J273) : ZL X 1577 (m + 0) (zb_L_law_1577 J273) := by
  unfold zb_L_law_1577
  intro a d ha hd
  have C := CC a d (by have h0 : (zXc X a d).ce = a := rfl; omega) (by have h0 : (zXc X a d).sl = d := rfl; omega)
  refine z_if_ne_ok (pc := 1577) (tgt := 1582) C.hx C.hb dL_law_1577 (by decide) ?_ ?_
  · exact zk_L_law_1582 CC hn hR he273 hJ273 _ _ (by have h0 : (zXc X a d).ce = a := rfl; omega) (by have h0 : (zXc X a d).sl = d := rfl; omega)
  · exact fun _ _ _ _ _ _ _ h => h.elim
def zb_L_law_1562 (J273 : ZP) : ZP := (z_ild 5 (z_push 6 (z_dvn (fun x y => x - x / y * y) (z_push 5 (z_cmp (fun x y => x = y) (z_ald 1 (z_ild 2 (z_ild 3 (z_invSq 3 sp_L_agrees (zb_L_law_1577 J273))))) (zb_L_law_1582 J273))))))
set_option maxRecDepth 20000 in
theorem zk_L_law_1562 {X : ZX} (CC : zCC X) (hn : X.nL = 22) (hR : ZL X 1613 0 z_yes) {m : Nat} {J273 : ZP} (he273 : 0 ≤ m) (hJ273 : ZL X 273 m J273) : ZL X 1562 (m + 0) (zb_L_law_1562 J273) := by
  unfold zb_L_law_1562
  intro a d ha hd
  have C := CC a d (by have h0 : (zXc X a d).ce = a := rfl; omega) (by have h0 : (zXc X a d).sl = d := rfl; omega)
  refine z_iload_ok (pc := 1562) (i := 5) C.hx C.hb dL_law_1562 ?_
  refine z_bipush_ok (pc := 1564) (v := 6) C.hx C.hb dL_law_1564 (by decide) ?_
  refine z_irem_ok (pc := 1566) C.hx C.hb dL_law_1566 ?_
  refine z_iconst_ok (pc := 1567) (v := 5) C.hx C.hb dL_law_1567 (by decide) ?_
  refine z_icmp_ne_ok (pc := 1568) (tgt := 1582) C.hx C.hb dL_law_1568 (by decide) ?_ ?_
  · exact zk_L_law_1582 CC hn hR he273 hJ273 _ _ (by have h0 : (zXc X a d).ce = a := rfl; omega) (by have h0 : (zXc X a d).sl = d := rfl; omega)
  · refine z_aload_n_ok (pc := 1571) (i := 1) C.hx C.hb dL_law_1571 rfl ?_
    refine z_iload_n_ok (pc := 1572) (i := 2) C.hx C.hb dL_law_1572 rfl ?_
    refine z_iload_n_ok (pc := 1573) (i := 3) C.hx C.hb dL_law_1573 rfl ?_
    refine z_invSq_ok (pc := 1574) C (zm_L_agrees X.l C.htr) ⟨rfl, rfl⟩ ⟨by decide, by decide⟩ (by decide) (by decide) zcl_L_132 zw_718 dL_law_1574 ?_
    exact zk_L_law_1577 CC hn hR he273 hJ273 _ _ (by have h0 : (zXc X a d).ce = a := rfl; omega) (by have h0 : (zXc X a d).sl = d := rfl; omega)
def zb_L_law_1561 (J273 : ZP) : ZP := (z_pop (zb_L_law_1562 J273))
set_option maxRecDepth 20000 in
theorem zk_L_law_1561 {X : ZX} (CC : zCC X) (hn : X.nL = 22) (hR : ZL X 1613 0 z_yes) {m : Nat} {J273 : ZP} (he273 : 0 ≤ m) (hJ273 : ZL X 273 m J273) : ZL X 1561 (m + 0) (zb_L_law_1561 J273) := by
  unfold zb_L_law_1561
  intro a d ha hd
  have C := CC a d (by have h0 : (zXc X a d).ce = a := rfl; omega) (by have h0 : (zXc X a d).sl = d := rfl; omega)
  refine z_pop_ok (pc := 1561) C.hx C.hb dL_law_1561 ?_
  exact zk_L_law_1562 CC hn hR he273 hJ273 _ _ (by have h0 : (zXc X a d).ce = a := rfl; omega) (by have h0 : (zXc X a d).sl = d := rfl; omega)
def zb_L_law_1554 (J273 : ZP) : ZP := (z_ild 10 (z_ild 11 (z_invVq 7 3 sp_X7_ship (zb_L_law_1561 J273))))
set_option maxRecDepth 20000 in
theorem zk_L_law_1554 {X : ZX} (CC : zCC X) (hn : X.nL = 22) (hR : ZL X 1613 0 z_yes) {m : Nat} {J273 : ZP} (he273 : 0 ≤ m) (hJ273 : ZL X 273 m J273) : ZL X 1554 (m + 0) (zb_L_law_1554 J273) := by
  unfold zb_L_law_1554
  intro a d ha hd
  have C := CC a d (by have h0 : (zXc X a d).ce = a := rfl; omega) (by have h0 : (zXc X a d).sl = d := rfl; omega)
  refine z_iload_ok (pc := 1554) (i := 10) C.hx C.hb dL_law_1554 ?_
  refine z_iload_ok (pc := 1556) (i := 11) C.hx C.hb dL_law_1556 ?_
  refine z_invVq_ok (pc := 1558) C (zm_X7_ship X.l C.htr) ⟨rfl, rfl⟩ ⟨by decide, by decide⟩ (by decide) (by decide) zcl_L_94 zw_485 zw_486 zK7 dL_law_1558 ?_
  exact zk_L_law_1561 CC hn hR he273 hJ273 _ _ (by have h0 : (zXc X a d).ce = a := rfl; omega) (by have h0 : (zXc X a d).sl = d := rfl; omega)
def zb_L_law_1544 (J273 : ZP) : ZP := (z_pop (z_ald 1 (z_ild 7 (z_push 5 (z_bin (fun x y => x >>> (y &&& 31)) (z_push 2 (z_invSq 2 sp_L_low (zb_L_law_1554 J273))))))))
set_option maxRecDepth 20000 in
theorem zk_L_law_1544 {X : ZX} (CC : zCC X) (hn : X.nL = 22) (hR : ZL X 1613 0 z_yes) {m : Nat} {J273 : ZP} (he273 : 0 ≤ m) (hJ273 : ZL X 273 m J273) : ZL X 1544 (m + 0) (zb_L_law_1544 J273) := by
  unfold zb_L_law_1544
  intro a d ha hd
  have C := CC a d (by have h0 : (zXc X a d).ce = a := rfl; omega) (by have h0 : (zXc X a d).sl = d := rfl; omega)
  refine z_pop_ok (pc := 1544) C.hx C.hb dL_law_1544 ?_
  refine z_aload_n_ok (pc := 1545) (i := 1) C.hx C.hb dL_law_1545 rfl ?_
  refine z_iload_ok (pc := 1546) (i := 7) C.hx C.hb dL_law_1546 ?_
  refine z_iconst_ok (pc := 1548) (v := 5) C.hx C.hb dL_law_1548 (by decide) ?_
  refine z_ishr_ok (pc := 1549) C.hx C.hb dL_law_1549 ?_
  refine z_iconst_ok (pc := 1550) (v := 2) C.hx C.hb dL_law_1550 (by decide) ?_
  refine z_invSq_ok (pc := 1551) C (zm_L_low X.l C.htr) ⟨rfl, rfl⟩ ⟨by decide, by decide⟩ (by decide) (by decide) zcl_L_70 zw_625 dL_law_1551 ?_
  exact zk_L_law_1554 CC hn hR he273 hJ273 _ _ (by have h0 : (zXc X a d).ce = a := rfl; omega) (by have h0 : (zXc X a d).sl = d := rfl; omega)
def zb_L_law_1536 (J273 : ZP) : ZP := (z_ald 1 (z_ild 9 (z_ild 10 (z_invVq 7 2 sp_X7_settle (zb_L_law_1544 J273)))))
set_option maxRecDepth 20000 in
theorem zk_L_law_1536 {X : ZX} (CC : zCC X) (hn : X.nL = 22) (hR : ZL X 1613 0 z_yes) {m : Nat} {J273 : ZP} (he273 : 0 ≤ m) (hJ273 : ZL X 273 m J273) : ZL X 1536 (m + 0) (zb_L_law_1536 J273) := by
  unfold zb_L_law_1536
  intro a d ha hd
  have C := CC a d (by have h0 : (zXc X a d).ce = a := rfl; omega) (by have h0 : (zXc X a d).sl = d := rfl; omega)
  refine z_aload_n_ok (pc := 1536) (i := 1) C.hx C.hb dL_law_1536 rfl ?_
  refine z_iload_ok (pc := 1537) (i := 9) C.hx C.hb dL_law_1537 ?_
  refine z_iload_ok (pc := 1539) (i := 10) C.hx C.hb dL_law_1539 ?_
  refine z_invVq_ok (pc := 1541) C (zm_X7_settle X.l C.htr) ⟨rfl, rfl⟩ ⟨by decide, by decide⟩ (by decide) (by decide) zcl_L_129 zw_494 zw_495 zK7 dL_law_1541 ?_
  exact zk_L_law_1544 CC hn hR he273 hJ273 _ _ (by have h0 : (zXc X a d).ce = a := rfl; omega) (by have h0 : (zXc X a d).sl = d := rfl; omega)
def zb_L_law_1524 (J273 : ZP) : ZP := (z_ild 14 (z_cmp (fun x y => x ≤ y) (zb_L_law_1536 J273) (z_ild 14 (z_if (fun x => x < 0) (zb_L_law_1536 J273) (fun _ _ _ _ => False)))))
set_option maxRecDepth 20000 in
theorem zk_L_law_1524 {X : ZX} (CC : zCC X) (hn : X.nL = 22) (hR : ZL X 1613 0 z_yes) {m : Nat} {J273 : ZP} (he273 : 0 ≤ m) (hJ273 : ZL X 273 m J273) : ZL X 1524 (m + 0) (zb_L_law_1524 J273) := by
  unfold zb_L_law_1524
  intro a d ha hd
  have C := CC a d (by have h0 : (zXc X a d).ce = a := rfl; omega) (by have h0 : (zXc X a d).sl = d := rfl; omega)
  refine z_iload_ok (pc := 1524) (i := 14) C.hx C.hb dL_law_1524 ?_
  refine z_icmp_le_ok (pc := 1526) (tgt := 1536) C.hx C.hb dL_law_1526 (by decide) ?_ ?_
  · exact zk_L_law_1536 CC hn hR he273 hJ273 _ _ (by have h0 : (zXc X a d).ce = a := rfl; omega) (by have h0 : (zXc X a d).sl = d := rfl; omega)
  · refine z_iload_ok (pc := 1529) (i := 14) C.hx C.hb dL_law_1529 ?_
    refine z_if_lt_ok (pc := 1531) (tgt := 1536) C.hx C.hb dL_law_1531 (by decide) ?_ ?_
    · exact zk_L_law_1536 CC hn hR he273 hJ273 _ _ (by have h0 : (zXc X a d).ce = a := rfl; omega) (by have h0 : (zXc X a d).sl = d := rfl; omega)
    · exact fun _ _ _ _ _ _ _ h => h.elim
def zb_L_law_1504 (J273 : ZP) : ZP := (z_cmp (fun x y => x = y) (z_ild 14 (z_ild 15 (z_cmp (fun x y => y < x) (fun _ _ _ _ => False) (z_ild 14 (z_if (fun x => x = 0) (fun _ _ _ _ => False) (z_ald 1 (z_push 1 (z_invVq 7 1 sp_X7_diet (zb_L_law_1524 J273))))))))) (fun _ _ _ _ => False))
set_option maxRecDepth 20000 in
theorem zk_L_law_1504 {X : ZX} (CC : zCC X) (hn : X.nL = 22) (hR : ZL X 1613 0 z_yes) {m : Nat} {J273 : ZP} (he273 : 0 ≤ m) (hJ273 : ZL X 273 m J273) : ZL X 1504 (m + 0) (zb_L_law_1504 J273) := by
  unfold zb_L_law_1504
  intro a d ha hd
  have C := CC a d (by have h0 : (zXc X a d).ce = a := rfl; omega) (by have h0 : (zXc X a d).sl = d := rfl; omega)
  refine z_icmp_ne_ok (pc := 1504) (tgt := 1534) C.hx C.hb dL_law_1504 (by decide) ?_ ?_
  · exact fun _ _ _ _ _ _ _ h => h.elim
  · refine z_iload_ok (pc := 1507) (i := 14) C.hx C.hb dL_law_1507 ?_
    refine z_iload_ok (pc := 1509) (i := 15) C.hx C.hb dL_law_1509 ?_
    refine z_icmp_gt_ok (pc := 1511) (tgt := 1534) C.hx C.hb dL_law_1511 (by decide) ?_ ?_
    · exact fun _ _ _ _ _ _ _ h => h.elim
    · refine z_iload_ok (pc := 1514) (i := 14) C.hx C.hb dL_law_1514 ?_
      refine z_if_eq_ok (pc := 1516) (tgt := 1534) C.hx C.hb dL_law_1516 (by decide) ?_ ?_
      · exact fun _ _ _ _ _ _ _ h => h.elim
      · refine z_aload_n_ok (pc := 1519) (i := 1) C.hx C.hb dL_law_1519 rfl ?_
        refine z_iconst_ok (pc := 1520) (v := 1) C.hx C.hb dL_law_1520 (by decide) ?_
        refine z_invVq_ok (pc := 1521) C (zm_X7_diet X.l C.htr) ⟨rfl, rfl⟩ ⟨by decide, by decide⟩ (by decide) (by decide) zcl_L_126 zw_593 zw_594 zK7 dL_law_1521 ?_
        exact zk_L_law_1524 CC hn hR he273 hJ273 _ _ (by have h0 : (zXc X a d).ce = a := rfl; omega) (by have h0 : (zXc X a d).sl = d := rfl; omega)
def zb_L_law_1494 (J273 : ZP) : ZP := (z_ild 15 (z_if (fun x => 0 ≤ x) (z_push 0 (zb_L_law_1504 J273)) (z_push 1 (zb_L_law_1504 J273))))
set_option maxRecDepth 20000 in
theorem zk_L_law_1494 {X : ZX} (CC : zCC X) (hn : X.nL = 22) (hR : ZL X 1613 0 z_yes) {m : Nat} {J273 : ZP} (he273 : 0 ≤ m) (hJ273 : ZL X 273 m J273) : ZL X 1494 (m + 0) (zb_L_law_1494 J273) := by
  unfold zb_L_law_1494
  intro a d ha hd
  have C := CC a d (by have h0 : (zXc X a d).ce = a := rfl; omega) (by have h0 : (zXc X a d).sl = d := rfl; omega)
  refine z_iload_ok (pc := 1494) (i := 15) C.hx C.hb dL_law_1494 ?_
  refine z_if_ge_ok (pc := 1496) (tgt := 1503) C.hx C.hb dL_law_1496 (by decide) ?_ ?_
  · refine z_iconst_ok (pc := 1503) (v := 0) C.hx C.hb dL_law_1503 (by decide) ?_
    exact zk_L_law_1504 CC hn hR he273 hJ273 _ _ (by have h0 : (zXc X a d).ce = a := rfl; omega) (by have h0 : (zXc X a d).sl = d := rfl; omega)
  · refine z_iconst_ok (pc := 1499) (v := 1) C.hx C.hb dL_law_1499 (by decide) ?_
    refine z_goto_ok (pc := 1500) (tgt := 1504) C.hx C.hb dL_law_1500 (by decide) ?_
    exact zk_L_law_1504 CC hn hR he273 hJ273 _ _ (by have h0 : (zXc X a d).ce = a := rfl; omega) (by have h0 : (zXc X a d).sl = d := rfl; omega)
def zb_L_law_1482 (J273 : ZP) : ZP := (z_ist 15 (z_ild 14 (z_if (fun x => 0 ≤ x) (z_push 0 (zb_L_law_1494 J273)) (z_push 1 (zb_L_law_1494 J273)))))
set_option maxRecDepth 20000 in
theorem zk_L_law_1482 {X : ZX} (CC : zCC X) (hn : X.nL = 22) (hR : ZL X 1613 0 z_yes) {m : Nat} {J273 : ZP} (he273 : 0 ≤ m) (hJ273 : ZL X 273 m J273) : ZL X 1482 (m + 0) (zb_L_law_1482 J273) := by
  unfold zb_L_law_1482
  intro a d ha hd
  have C := CC a d (by have h0 : (zXc X a d).ce = a := rfl; omega) (by have h0 : (zXc X a d).sl = d := rfl; omega)
  refine z_istore_ok (pc := 1482) (i := 15) C.hx C.hb dL_law_1482 (zlt hn (by decide)) ?_
  refine z_iload_ok (pc := 1484) (i := 14) C.hx C.hb dL_law_1484 ?_
  refine z_if_ge_ok (pc := 1486) (tgt := 1493) C.hx C.hb dL_law_1486 (by decide) ?_ ?_
  · refine z_iconst_ok (pc := 1493) (v := 0) C.hx C.hb dL_law_1493 (by decide) ?_
    exact zk_L_law_1494 CC hn hR he273 hJ273 _ _ (by have h0 : (zXc X a d).ce = a := rfl; omega) (by have h0 : (zXc X a d).sl = d := rfl; omega)
  · refine z_iconst_ok (pc := 1489) (v := 1) C.hx C.hb dL_law_1489 (by decide) ?_
    refine z_goto_ok (pc := 1490) (tgt := 1494) C.hx C.hb dL_law_1490 (by decide) ?_
    exact zk_L_law_1494 CC hn hR he273 hJ273 _ _ (by have h0 : (zXc X a d).ce = a := rfl; omega) (by have h0 : (zXc X a d).sl = d := rfl; omega)
def zb_L_law_1472 (J273 : ZP) : ZP := (z_ist 14 (z_ald 1 (z_ild 13 (z_push 1 (z_bin (fun x y => x + y) (z_invVq 7 1 sp_X7_diet (zb_L_law_1482 J273)))))))
set_option maxRecDepth 20000 in
theorem zk_L_law_1472 {X : ZX} (CC : zCC X) (hn : X.nL = 22) (hR : ZL X 1613 0 z_yes) {m : Nat} {J273 : ZP} (he273 : 0 ≤ m) (hJ273 : ZL X 273 m J273) : ZL X 1472 (m + 0) (zb_L_law_1472 J273) := by
  unfold zb_L_law_1472
  intro a d ha hd
  have C := CC a d (by have h0 : (zXc X a d).ce = a := rfl; omega) (by have h0 : (zXc X a d).sl = d := rfl; omega)
  refine z_istore_ok (pc := 1472) (i := 14) C.hx C.hb dL_law_1472 (zlt hn (by decide)) ?_
  refine z_aload_n_ok (pc := 1474) (i := 1) C.hx C.hb dL_law_1474 rfl ?_
  refine z_iload_ok (pc := 1475) (i := 13) C.hx C.hb dL_law_1475 ?_
  refine z_iconst_ok (pc := 1477) (v := 1) C.hx C.hb dL_law_1477 (by decide) ?_
  refine z_iadd_ok (pc := 1478) C.hx C.hb dL_law_1478 ?_
  refine z_invVq_ok (pc := 1479) C (zm_X7_diet X.l C.htr) ⟨rfl, rfl⟩ ⟨by decide, by decide⟩ (by decide) (by decide) zcl_L_126 zw_593 zw_594 zK7 dL_law_1479 ?_
  exact zk_L_law_1482 CC hn hR he273 hJ273 _ _ (by have h0 : (zXc X a d).ce = a := rfl; omega) (by have h0 : (zXc X a d).sl = d := rfl; omega)
def zb_L_law_1463 (J273 : ZP) : ZP := (z_bin (fun x y => x + y) (z_ist 13 (z_ald 1 (z_ild 13 (z_invVq 7 1 sp_X7_diet (zb_L_law_1472 J273))))))
set_option maxRecDepth 20000 in
theorem zk_L_law_1463 {X : ZX} (CC : zCC X) (hn : X.nL = 22) (hR : ZL X 1613 0 z_yes) {m : Nat} {J273 : ZP} (he273 : 0 ≤ m) (hJ273 : ZL X 273 m J273) : ZL X 1463 (m + 0) (zb_L_law_1463 J273) := by
  unfold zb_L_law_1463
  intro a d ha hd
  have C := CC a d (by have h0 : (zXc X a d).ce = a := rfl; omega) (by have h0 : (zXc X a d).sl = d := rfl; omega)
  refine z_iadd_ok (pc := 1463) C.hx C.hb dL_law_1463 ?_
  refine z_istore_ok (pc := 1464) (i := 13) C.hx C.hb dL_law_1464 (zlt hn (by decide)) ?_
  refine z_aload_n_ok (pc := 1466) (i := 1) C.hx C.hb dL_law_1466 rfl ?_
  refine z_iload_ok (pc := 1467) (i := 13) C.hx C.hb dL_law_1467 ?_
  refine z_invVq_ok (pc := 1469) C (zm_X7_diet X.l C.htr) ⟨rfl, rfl⟩ ⟨by decide, by decide⟩ (by decide) (by decide) zcl_L_126 zw_593 zw_594 zK7 dL_law_1469 ?_
  exact zk_L_law_1472 CC hn hR he273 hJ273 _ _ (by have h0 : (zXc X a d).ce = a := rfl; omega) (by have h0 : (zXc X a d).sl = d := rfl; omega)
def zb_L_law_1446 (J273 : ZP) : ZP := (z_if (fun x => x = 0) (zb_L_law_1562 J273) (fun _ _ _ _ => False))
set_option maxRecDepth 20000 in
theorem zk_L_law_1446 {X : ZX} (CC : zCC X) (hn : X.nL = 22) (hR : ZL X 1613 0 z_yes) {m : Nat} {J273 : ZP} (he273 : 0 ≤ m) (hJ273 : ZL X 273 m J273) : ZL X 1446 (m + 0) (zb_L_law_1446 J273) := by
  unfold zb_L_law_1446
  intro a d ha hd
  have C := CC a d (by have h0 : (zXc X a d).ce = a := rfl; omega) (by have h0 : (zXc X a d).sl = d := rfl; omega)
  refine z_if_eq_ok (pc := 1446) (tgt := 1451) C.hx C.hb dL_law_1446 (by decide) ?_ ?_
  · refine z_goto_ok (pc := 1451) (tgt := 1562) C.hx C.hb dL_law_1451 (by decide) ?_
    exact zk_L_law_1562 CC hn hR he273 hJ273 _ _ (by have h0 : (zXc X a d).ce = a := rfl; omega) (by have h0 : (zXc X a d).sl = d := rfl; omega)
  · exact fun _ _ _ _ _ _ _ h => h.elim
def zb_L_law_1436 (J273 : ZP) : ZP := (z_if (fun x => x = 0) (z_ald 1 (z_ild 8 (z_push 5 (z_invVq 7 2 sp_X7_personIs (zb_L_law_1446 J273))))) (fun _ _ _ _ => False))
set_option maxRecDepth 20000 in
theorem zk_L_law_1436 {X : ZX} (CC : zCC X) (hn : X.nL = 22) (hR : ZL X 1613 0 z_yes) {m : Nat} {J273 : ZP} (he273 : 0 ≤ m) (hJ273 : ZL X 273 m J273) : ZL X 1436 (m + 0) (zb_L_law_1436 J273) := by
  unfold zb_L_law_1436
  intro a d ha hd
  have C := CC a d (by have h0 : (zXc X a d).ce = a := rfl; omega) (by have h0 : (zXc X a d).sl = d := rfl; omega)
  refine z_if_ne_ok (pc := 1436) (tgt := 1449) C.hx C.hb dL_law_1436 (by decide) ?_ ?_
  · exact fun _ _ _ _ _ _ _ h => h.elim
  · refine z_aload_n_ok (pc := 1439) (i := 1) C.hx C.hb dL_law_1439 rfl ?_
    refine z_iload_ok (pc := 1440) (i := 8) C.hx C.hb dL_law_1440 ?_
    refine z_iconst_ok (pc := 1442) (v := 5) C.hx C.hb dL_law_1442 (by decide) ?_
    refine z_invVq_ok (pc := 1443) C (zm_X7_personIs X.l C.htr) ⟨rfl, rfl⟩ ⟨by decide, by decide⟩ (by decide) (by decide) zcl_L_48 zw_363 zw_364 zK7 dL_law_1443 ?_
    exact zk_L_law_1446 CC hn hR he273 hJ273 _ _ (by have h0 : (zXc X a d).ce = a := rfl; omega) (by have h0 : (zXc X a d).sl = d := rfl; omega)
def zb_L_law_1429 (J273 : ZP) : ZP := (z_ald 1 (z_ild 10 (z_push 3 (z_invVq 7 2 sp_X7_goodIs (zb_L_law_1436 J273)))))
set_option maxRecDepth 20000 in
theorem zk_L_law_1429 {X : ZX} (CC : zCC X) (hn : X.nL = 22) (hR : ZL X 1613 0 z_yes) {m : Nat} {J273 : ZP} (he273 : 0 ≤ m) (hJ273 : ZL X 273 m J273) : ZL X 1429 (m + 0) (zb_L_law_1429 J273) := by
  unfold zb_L_law_1429
  intro a d ha hd
  have C := CC a d (by have h0 : (zXc X a d).ce = a := rfl; omega) (by have h0 : (zXc X a d).sl = d := rfl; omega)
  refine z_aload_n_ok (pc := 1429) (i := 1) C.hx C.hb dL_law_1429 rfl ?_
  refine z_iload_ok (pc := 1430) (i := 10) C.hx C.hb dL_law_1430 ?_
  refine z_iconst_ok (pc := 1432) (v := 3) C.hx C.hb dL_law_1432 (by decide) ?_
  refine z_invVq_ok (pc := 1433) C (zm_X7_goodIs X.l C.htr) ⟨rfl, rfl⟩ ⟨by decide, by decide⟩ (by decide) (by decide) zcl_L_60 zw_277 zw_278 zK7 dL_law_1433 ?_
  exact zk_L_law_1436 CC hn hR he273 hJ273 _ _ (by have h0 : (zXc X a d).ce = a := rfl; omega) (by have h0 : (zXc X a d).sl = d := rfl; omega)
def zb_L_law_1422 (J273 : ZP) : ZP := (z_ild 13 (z_push 2 (z_bin (fun x y => x - y) (z_cmp (fun x y => x < y) (fun _ _ _ _ => False) (zb_L_law_1429 J273)))))
set_option maxRecDepth 20000 in
theorem zk_L_law_1422 {X : ZX} (CC : zCC X) (hn : X.nL = 22) (hR : ZL X 1613 0 z_yes) {m : Nat} {J273 : ZP} (he273 : 0 ≤ m) (hJ273 : ZL X 273 m J273) : ZL X 1422 (m + 0) (zb_L_law_1422 J273) := by
  unfold zb_L_law_1422
  intro a d ha hd
  have C := CC a d (by have h0 : (zXc X a d).ce = a := rfl; omega) (by have h0 : (zXc X a d).sl = d := rfl; omega)
  refine z_iload_ok (pc := 1422) (i := 13) C.hx C.hb dL_law_1422 ?_
  refine z_iconst_ok (pc := 1424) (v := 2) C.hx C.hb dL_law_1424 (by decide) ?_
  refine z_isub_ok (pc := 1425) C.hx C.hb dL_law_1425 ?_
  refine z_icmp_lt_ok (pc := 1426) (tgt := 1449) C.hx C.hb dL_law_1426 (by decide) ?_ ?_
  · exact fun _ _ _ _ _ _ _ h => h.elim
  · exact zk_L_law_1429 CC hn hR he273 hJ273 _ _ (by have h0 : (zXc X a d).ce = a := rfl; omega) (by have h0 : (zXc X a d).sl = d := rfl; omega)
def zb_L_law_1409 (J273 : ZP) : ZP := (z_ild 13 (z_push 2 (z_bin (fun x y => x + y) (z_cmp (fun x y => y < x) (fun _ _ _ _ => False) (z_ald 1 (z_push 2 (z_push 1 (z_invVq 7 2 sp_X7_goodIs (zb_L_law_1422 J273)))))))))
set_option maxRecDepth 20000 in
theorem zk_L_law_1409 {X : ZX} (CC : zCC X) (hn : X.nL = 22) (hR : ZL X 1613 0 z_yes) {m : Nat} {J273 : ZP} (he273 : 0 ≤ m) (hJ273 : ZL X 273 m J273) : ZL X 1409 (m + 0) (zb_L_law_1409 J273) := by
  unfold zb_L_law_1409
  intro a d ha hd
  have C := CC a d (by have h0 : (zXc X a d).ce = a := rfl; omega) (by have h0 : (zXc X a d).sl = d := rfl; omega)
  refine z_iload_ok (pc := 1409) (i := 13) C.hx C.hb dL_law_1409 ?_
  refine z_iconst_ok (pc := 1411) (v := 2) C.hx C.hb dL_law_1411 (by decide) ?_
  refine z_iadd_ok (pc := 1412) C.hx C.hb dL_law_1412 ?_
  refine z_icmp_gt_ok (pc := 1413) (tgt := 1449) C.hx C.hb dL_law_1413 (by decide) ?_ ?_
  · exact fun _ _ _ _ _ _ _ h => h.elim
  · refine z_aload_n_ok (pc := 1416) (i := 1) C.hx C.hb dL_law_1416 rfl ?_
    refine z_iconst_ok (pc := 1417) (v := 2) C.hx C.hb dL_law_1417 (by decide) ?_
    refine z_iconst_ok (pc := 1418) (v := 1) C.hx C.hb dL_law_1418 (by decide) ?_
    refine z_invVq_ok (pc := 1419) C (zm_X7_goodIs X.l C.htr) ⟨rfl, rfl⟩ ⟨by decide, by decide⟩ (by decide) (by decide) zcl_L_60 zw_277 zw_278 zK7 dL_law_1419 ?_
    exact zk_L_law_1422 CC hn hR he273 hJ273 _ _ (by have h0 : (zXc X a d).ce = a := rfl; omega) (by have h0 : (zXc X a d).sl = d := rfl; omega)
def zb_L_law_1392 (J273 : ZP) : ZP := (z_ild 15 (z_cmp (fun x y => x = y) (z_ild 14 (z_push 1 (z_cmp (fun x y => x = y) (z_ald 1 (z_push 2 (z_push 1 (z_invVq 7 2 sp_X7_goodIs (zb_L_law_1409 J273))))) (zb_L_law_1429 J273)))) (fun _ _ _ _ => False)))
set_option maxRecDepth 20000 in
theorem zk_L_law_1392 {X : ZX} (CC : zCC X) (hn : X.nL = 22) (hR : ZL X 1613 0 z_yes) {m : Nat} {J273 : ZP} (he273 : 0 ≤ m) (hJ273 : ZL X 273 m J273) : ZL X 1392 (m + 0) (zb_L_law_1392 J273) := by
  unfold zb_L_law_1392
  intro a d ha hd
  have C := CC a d (by have h0 : (zXc X a d).ce = a := rfl; omega) (by have h0 : (zXc X a d).sl = d := rfl; omega)
  refine z_iload_ok (pc := 1392) (i := 15) C.hx C.hb dL_law_1392 ?_
  refine z_icmp_ne_ok (pc := 1394) (tgt := 1449) C.hx C.hb dL_law_1394 (by decide) ?_ ?_
  · exact fun _ _ _ _ _ _ _ h => h.elim
  · refine z_iload_ok (pc := 1397) (i := 14) C.hx C.hb dL_law_1397 ?_
    refine z_iconst_ok (pc := 1399) (v := 1) C.hx C.hb dL_law_1399 (by decide) ?_
    refine z_icmp_ne_ok (pc := 1400) (tgt := 1429) C.hx C.hb dL_law_1400 (by decide) ?_ ?_
    · exact zk_L_law_1429 CC hn hR he273 hJ273 _ _ (by have h0 : (zXc X a d).ce = a := rfl; omega) (by have h0 : (zXc X a d).sl = d := rfl; omega)
    · refine z_aload_n_ok (pc := 1403) (i := 1) C.hx C.hb dL_law_1403 rfl ?_
      refine z_iconst_ok (pc := 1404) (v := 2) C.hx C.hb dL_law_1404 (by decide) ?_
      refine z_iconst_ok (pc := 1405) (v := 1) C.hx C.hb dL_law_1405 (by decide) ?_
      refine z_invVq_ok (pc := 1406) C (zm_X7_goodIs X.l C.htr) ⟨rfl, rfl⟩ ⟨by decide, by decide⟩ (by decide) (by decide) zcl_L_60 zw_277 zw_278 zK7 dL_law_1406 ?_
      exact zk_L_law_1409 CC hn hR he273 hJ273 _ _ (by have h0 : (zXc X a d).ce = a := rfl; omega) (by have h0 : (zXc X a d).sl = d := rfl; omega)
def zb_L_law_1387 (J273 : ZP) : ZP := (z_pop (z_ald 1 (z_invVq 7 0 sp_X7_month (zb_L_law_1392 J273))))
set_option maxRecDepth 20000 in
theorem zk_L_law_1387 {X : ZX} (CC : zCC X) (hn : X.nL = 22) (hR : ZL X 1613 0 z_yes) {m : Nat} {J273 : ZP} (he273 : 0 ≤ m) (hJ273 : ZL X 273 m J273) : ZL X 1387 (m + 0) (zb_L_law_1387 J273) := by
  unfold zb_L_law_1387
  intro a d ha hd
  have C := CC a d (by have h0 : (zXc X a d).ce = a := rfl; omega) (by have h0 : (zXc X a d).sl = d := rfl; omega)
  refine z_pop_ok (pc := 1387) C.hx C.hb dL_law_1387 ?_
  refine z_aload_n_ok (pc := 1388) (i := 1) C.hx C.hb dL_law_1388 rfl ?_
  refine z_invVq_ok (pc := 1389) C (zm_X7_month X.l C.htr) ⟨rfl, rfl⟩ ⟨by decide, by decide⟩ (by decide) (by decide) zcl_L_122 zw_556 zw_557 zK7 dL_law_1389 ?_
  exact zk_L_law_1392 CC hn hR he273 hJ273 _ _ (by have h0 : (zXc X a d).ce = a := rfl; omega) (by have h0 : (zXc X a d).sl = d := rfl; omega)
def zb_L_law_1376 (J273 : ZP) : ZP := (z_push 1 (z_bin (fun x y => x + y) (z_ist 15 (z_ald 1 (z_push 0 (z_ild 11 (z_invVq 7 2 sp_X7_deliver (zb_L_law_1387 J273))))))))
set_option maxRecDepth 20000 in
theorem zk_L_law_1376 {X : ZX} (CC : zCC X) (hn : X.nL = 22) (hR : ZL X 1613 0 z_yes) {m : Nat} {J273 : ZP} (he273 : 0 ≤ m) (hJ273 : ZL X 273 m J273) : ZL X 1376 (m + 0) (zb_L_law_1376 J273) := by
  unfold zb_L_law_1376
  intro a d ha hd
  have C := CC a d (by have h0 : (zXc X a d).ce = a := rfl; omega) (by have h0 : (zXc X a d).sl = d := rfl; omega)
  refine z_iconst_ok (pc := 1376) (v := 1) C.hx C.hb dL_law_1376 (by decide) ?_
  refine z_iadd_ok (pc := 1377) C.hx C.hb dL_law_1377 ?_
  refine z_istore_ok (pc := 1378) (i := 15) C.hx C.hb dL_law_1378 (zlt hn (by decide)) ?_
  refine z_aload_n_ok (pc := 1380) (i := 1) C.hx C.hb dL_law_1380 rfl ?_
  refine z_iconst_ok (pc := 1381) (v := 0) C.hx C.hb dL_law_1381 (by decide) ?_
  refine z_iload_ok (pc := 1382) (i := 11) C.hx C.hb dL_law_1382 ?_
  refine z_invVq_ok (pc := 1384) C (zm_X7_deliver X.l C.htr) ⟨rfl, rfl⟩ ⟨by decide, by decide⟩ (by decide) (by decide) zcl_L_119 zw_547 zw_548 zK7 dL_law_1384 ?_
  exact zk_L_law_1387 CC hn hR he273 hJ273 _ _ (by have h0 : (zXc X a d).ce = a := rfl; omega) (by have h0 : (zXc X a d).sl = d := rfl; omega)
def zb_L_law_1369 (J273 : ZP) : ZP := (z_ist 14 (z_ald 1 (z_push 0 (z_invVq 7 1 sp_X7_sum (zb_L_law_1376 J273)))))
set_option maxRecDepth 20000 in
theorem zk_L_law_1369 {X : ZX} (CC : zCC X) (hn : X.nL = 22) (hR : ZL X 1613 0 z_yes) {m : Nat} {J273 : ZP} (he273 : 0 ≤ m) (hJ273 : ZL X 273 m J273) : ZL X 1369 (m + 0) (zb_L_law_1369 J273) := by
  unfold zb_L_law_1369
  intro a d ha hd
  have C := CC a d (by have h0 : (zXc X a d).ce = a := rfl; omega) (by have h0 : (zXc X a d).sl = d := rfl; omega)
  refine z_istore_ok (pc := 1369) (i := 14) C.hx C.hb dL_law_1369 (zlt hn (by decide)) ?_
  refine z_aload_n_ok (pc := 1371) (i := 1) C.hx C.hb dL_law_1371 rfl ?_
  refine z_iconst_ok (pc := 1372) (v := 0) C.hx C.hb dL_law_1372 (by decide) ?_
  refine z_invVq_ok (pc := 1373) C (zm_X7_sum X.l C.htr) ⟨rfl, rfl⟩ ⟨by decide, by decide⟩ (by decide) (by decide) zcl_L_45 zw_601 zw_602 zK7 dL_law_1373 ?_
  exact zk_L_law_1376 CC hn hR he273 hJ273 _ _ (by have h0 : (zXc X a d).ce = a := rfl; omega) (by have h0 : (zXc X a d).sl = d := rfl; omega)
def zb_L_law_1361 (J273 : ZP) : ZP := (z_ist 13 (z_ald 1 (z_push 2 (z_push 0 (z_invVq 7 2 sp_X7_goodIs (zb_L_law_1369 J273))))))
set_option maxRecDepth 20000 in
theorem zk_L_law_1361 {X : ZX} (CC : zCC X) (hn : X.nL = 22) (hR : ZL X 1613 0 z_yes) {m : Nat} {J273 : ZP} (he273 : 0 ≤ m) (hJ273 : ZL X 273 m J273) : ZL X 1361 (m + 0) (zb_L_law_1361 J273) := by
  unfold zb_L_law_1361
  intro a d ha hd
  have C := CC a d (by have h0 : (zXc X a d).ce = a := rfl; omega) (by have h0 : (zXc X a d).sl = d := rfl; omega)
  refine z_istore_ok (pc := 1361) (i := 13) C.hx C.hb dL_law_1361 (zlt hn (by decide)) ?_
  refine z_aload_n_ok (pc := 1363) (i := 1) C.hx C.hb dL_law_1363 rfl ?_
  refine z_iconst_ok (pc := 1364) (v := 2) C.hx C.hb dL_law_1364 (by decide) ?_
  refine z_iconst_ok (pc := 1365) (v := 0) C.hx C.hb dL_law_1365 (by decide) ?_
  refine z_invVq_ok (pc := 1366) C (zm_X7_goodIs X.l C.htr) ⟨rfl, rfl⟩ ⟨by decide, by decide⟩ (by decide) (by decide) zcl_L_60 zw_277 zw_278 zK7 dL_law_1366 ?_
  exact zk_L_law_1369 CC hn hR he273 hJ273 _ _ (by have h0 : (zXc X a d).ce = a := rfl; omega) (by have h0 : (zXc X a d).sl = d := rfl; omega)
def zb_L_law_1336 (J273 : ZP) : ZP := (z_ild 14 (z_ild 11 (z_cmp (fun x y => y ≤ x) (zb_L_law_1562 J273) (fun _ _ _ _ => False))))
set_option maxRecDepth 20000 in
theorem zk_L_law_1336 {X : ZX} (CC : zCC X) (hn : X.nL = 22) (hR : ZL X 1613 0 z_yes) {m : Nat} {J273 : ZP} (he273 : 0 ≤ m) (hJ273 : ZL X 273 m J273) : ZL X 1336 (m + 0) (zb_L_law_1336 J273) := by
  unfold zb_L_law_1336
  intro a d ha hd
  have C := CC a d (by have h0 : (zXc X a d).ce = a := rfl; omega) (by have h0 : (zXc X a d).sl = d := rfl; omega)
  refine z_iload_ok (pc := 1336) (i := 14) C.hx C.hb dL_law_1336 ?_
  refine z_iload_ok (pc := 1338) (i := 11) C.hx C.hb dL_law_1338 ?_
  refine z_icmp_ge_ok (pc := 1340) (tgt := 1345) C.hx C.hb dL_law_1340 (by decide) ?_ ?_
  · refine z_goto_ok (pc := 1345) (tgt := 1562) C.hx C.hb dL_law_1345 (by decide) ?_
    exact zk_L_law_1562 CC hn hR he273 hJ273 _ _ (by have h0 : (zXc X a d).ce = a := rfl; omega) (by have h0 : (zXc X a d).sl = d := rfl; omega)
  · exact fun _ _ _ _ _ _ _ h => h.elim
def zb_L_law_1332 (J273 : ZP) : ZP := (z_bin (fun x y => x - y) (z_cmp (fun x y => y < x) (fun _ _ _ _ => False) (zb_L_law_1336 J273)))
set_option maxRecDepth 20000 in
theorem zk_L_law_1332 {X : ZX} (CC : zCC X) (hn : X.nL = 22) (hR : ZL X 1613 0 z_yes) {m : Nat} {J273 : ZP} (he273 : 0 ≤ m) (hJ273 : ZL X 273 m J273) : ZL X 1332 (m + 0) (zb_L_law_1332 J273) := by
  unfold zb_L_law_1332
  intro a d ha hd
  have C := CC a d (by have h0 : (zXc X a d).ce = a := rfl; omega) (by have h0 : (zXc X a d).sl = d := rfl; omega)
  refine z_isub_ok (pc := 1332) C.hx C.hb dL_law_1332 ?_
  refine z_icmp_gt_ok (pc := 1333) (tgt := 1343) C.hx C.hb dL_law_1333 (by decide) ?_ ?_
  · exact fun _ _ _ _ _ _ _ h => h.elim
  · exact zk_L_law_1336 CC hn hR he273 hJ273 _ _ (by have h0 : (zXc X a d).ce = a := rfl; omega) (by have h0 : (zXc X a d).sl = d := rfl; omega)
def zb_L_law_1316 (J273 : ZP) : ZP := (z_ild 14 (z_ild 13 (z_ild 14 (z_cmp (fun x y => y ≤ x) (z_ild 14 (zb_L_law_1332 J273)) (z_ild 13 (zb_L_law_1332 J273))))))
set_option maxRecDepth 20000 in
theorem zk_L_law_1316 {X : ZX} (CC : zCC X) (hn : X.nL = 22) (hR : ZL X 1613 0 z_yes) {m : Nat} {J273 : ZP} (he273 : 0 ≤ m) (hJ273 : ZL X 273 m J273) : ZL X 1316 (m + 0) (zb_L_law_1316 J273) := by
  unfold zb_L_law_1316
  intro a d ha hd
  have C := CC a d (by have h0 : (zXc X a d).ce = a := rfl; omega) (by have h0 : (zXc X a d).sl = d := rfl; omega)
  refine z_iload_ok (pc := 1316) (i := 14) C.hx C.hb dL_law_1316 ?_
  refine z_iload_ok (pc := 1318) (i := 13) C.hx C.hb dL_law_1318 ?_
  refine z_iload_ok (pc := 1320) (i := 14) C.hx C.hb dL_law_1320 ?_
  refine z_icmp_ge_ok (pc := 1322) (tgt := 1330) C.hx C.hb dL_law_1322 (by decide) ?_ ?_
  · refine z_iload_ok (pc := 1330) (i := 14) C.hx C.hb dL_law_1330 ?_
    exact zk_L_law_1332 CC hn hR he273 hJ273 _ _ (by have h0 : (zXc X a d).ce = a := rfl; omega) (by have h0 : (zXc X a d).sl = d := rfl; omega)
  · refine z_iload_ok (pc := 1325) (i := 13) C.hx C.hb dL_law_1325 ?_
    refine z_goto_ok (pc := 1327) (tgt := 1332) C.hx C.hb dL_law_1327 (by decide) ?_
    exact zk_L_law_1332 CC hn hR he273 hJ273 _ _ (by have h0 : (zXc X a d).ce = a := rfl; omega) (by have h0 : (zXc X a d).sl = d := rfl; omega)
def zb_L_law_1297 (J273 : ZP) : ZP := (z_ild 13 (z_cmp (fun x y => y < x) (fun _ _ _ _ => False) (z_ild 15 (z_if (fun x => x ≤ 0) (zb_L_law_1336 J273) (z_ald 1 (z_ild 9 (z_ild 10 (z_push 4 (z_invVq 7 3 sp_X7_shopIs (zb_L_law_1316 J273))))))))))
set_option maxRecDepth 20000 in
theorem zk_L_law_1297 {X : ZX} (CC : zCC X) (hn : X.nL = 22) (hR : ZL X 1613 0 z_yes) {m : Nat} {J273 : ZP} (he273 : 0 ≤ m) (hJ273 : ZL X 273 m J273) : ZL X 1297 (m + 0) (zb_L_law_1297 J273) := by
  unfold zb_L_law_1297
  intro a d ha hd
  have C := CC a d (by have h0 : (zXc X a d).ce = a := rfl; omega) (by have h0 : (zXc X a d).sl = d := rfl; omega)
  refine z_iload_ok (pc := 1297) (i := 13) C.hx C.hb dL_law_1297 ?_
  refine z_icmp_gt_ok (pc := 1299) (tgt := 1343) C.hx C.hb dL_law_1299 (by decide) ?_ ?_
  · exact fun _ _ _ _ _ _ _ h => h.elim
  · refine z_iload_ok (pc := 1302) (i := 15) C.hx C.hb dL_law_1302 ?_
    refine z_if_le_ok (pc := 1304) (tgt := 1336) C.hx C.hb dL_law_1304 (by decide) ?_ ?_
    · exact zk_L_law_1336 CC hn hR he273 hJ273 _ _ (by have h0 : (zXc X a d).ce = a := rfl; omega) (by have h0 : (zXc X a d).sl = d := rfl; omega)
    · refine z_aload_n_ok (pc := 1307) (i := 1) C.hx C.hb dL_law_1307 rfl ?_
      refine z_iload_ok (pc := 1308) (i := 9) C.hx C.hb dL_law_1308 ?_
      refine z_iload_ok (pc := 1310) (i := 10) C.hx C.hb dL_law_1310 ?_
      refine z_iconst_ok (pc := 1312) (v := 4) C.hx C.hb dL_law_1312 (by decide) ?_
      refine z_invVq_ok (pc := 1313) C (zm_X7_shopIs X.l C.htr) ⟨rfl, rfl⟩ ⟨by decide, by decide⟩ (by decide) (by decide) zcl_L_57 zw_505 zw_506 zK7 dL_law_1313 ?_
      exact zk_L_law_1316 CC hn hR he273 hJ273 _ _ (by have h0 : (zXc X a d).ce = a := rfl; omega) (by have h0 : (zXc X a d).sl = d := rfl; omega)
def zb_L_law_1286 (J273 : ZP) : ZP := (z_ist 15 (z_ald 1 (z_ild 9 (z_ild 10 (z_push 1 (z_invVq 7 3 sp_X7_shopIs (zb_L_law_1297 J273)))))))
set_option maxRecDepth 20000 in
theorem zk_L_law_1286 {X : ZX} (CC : zCC X) (hn : X.nL = 22) (hR : ZL X 1613 0 z_yes) {m : Nat} {J273 : ZP} (he273 : 0 ≤ m) (hJ273 : ZL X 273 m J273) : ZL X 1286 (m + 0) (zb_L_law_1286 J273) := by
  unfold zb_L_law_1286
  intro a d ha hd
  have C := CC a d (by have h0 : (zXc X a d).ce = a := rfl; omega) (by have h0 : (zXc X a d).sl = d := rfl; omega)
  refine z_istore_ok (pc := 1286) (i := 15) C.hx C.hb dL_law_1286 (zlt hn (by decide)) ?_
  refine z_aload_n_ok (pc := 1288) (i := 1) C.hx C.hb dL_law_1288 rfl ?_
  refine z_iload_ok (pc := 1289) (i := 9) C.hx C.hb dL_law_1289 ?_
  refine z_iload_ok (pc := 1291) (i := 10) C.hx C.hb dL_law_1291 ?_
  refine z_iconst_ok (pc := 1293) (v := 1) C.hx C.hb dL_law_1293 (by decide) ?_
  refine z_invVq_ok (pc := 1294) C (zm_X7_shopIs X.l C.htr) ⟨rfl, rfl⟩ ⟨by decide, by decide⟩ (by decide) (by decide) zcl_L_57 zw_505 zw_506 zK7 dL_law_1294 ?_
  exact zk_L_law_1297 CC hn hR he273 hJ273 _ _ (by have h0 : (zXc X a d).ce = a := rfl; omega) (by have h0 : (zXc X a d).sl = d := rfl; omega)
def zb_L_law_1282 (J273 : ZP) : ZP := (zb_L_law_1286 J273)
set_option maxRecDepth 20000 in
theorem zk_L_law_1282 {X : ZX} (CC : zCC X) (hn : X.nL = 22) (hR : ZL X 1613 0 z_yes) {m : Nat} {J273 : ZP} (he273 : 0 ≤ m) (hJ273 : ZL X 273 m J273) : ZL X 1282 (m + 0) (zb_L_law_1282 J273) := by
  unfold zb_L_law_1282
  intro a d ha hd
  have C := CC a d (by have h0 : (zXc X a d).ce = a := rfl; omega) (by have h0 : (zXc X a d).sl = d := rfl; omega)
  refine z_goto_ok (pc := 1282) (tgt := 1286) C.hx C.hb dL_law_1282 (by decide) ?_
  exact zk_L_law_1286 CC hn hR he273 hJ273 _ _ (by have h0 : (zXc X a d).ce = a := rfl; omega) (by have h0 : (zXc X a d).sl = d := rfl; omega)
def zb_L_law_1273 (J273 : ZP) : ZP := (z_if (fun x => x = 0) (z_ald 1 (z_ild 9 (z_invVq 7 1 sp_X7_inspect (zb_L_law_1282 J273)))) (z_push 0 (zb_L_law_1286 J273)))
set_option maxRecDepth 20000 in
theorem zk_L_law_1273 {X : ZX} (CC : zCC X) (hn : X.nL = 22) (hR : ZL X 1613 0 z_yes) {m : Nat} {J273 : ZP} (he273 : 0 ≤ m) (hJ273 : ZL X 273 m J273) : ZL X 1273 (m + 0) (zb_L_law_1273 J273) := by
  unfold zb_L_law_1273
  intro a d ha hd
  have C := CC a d (by have h0 : (zXc X a d).ce = a := rfl; omega) (by have h0 : (zXc X a d).sl = d := rfl; omega)
  refine z_if_ne_ok (pc := 1273) (tgt := 1285) C.hx C.hb dL_law_1273 (by decide) ?_ ?_
  · refine z_iconst_ok (pc := 1285) (v := 0) C.hx C.hb dL_law_1285 (by decide) ?_
    exact zk_L_law_1286 CC hn hR he273 hJ273 _ _ (by have h0 : (zXc X a d).ce = a := rfl; omega) (by have h0 : (zXc X a d).sl = d := rfl; omega)
  · refine z_aload_n_ok (pc := 1276) (i := 1) C.hx C.hb dL_law_1276 rfl ?_
    refine z_iload_ok (pc := 1277) (i := 9) C.hx C.hb dL_law_1277 ?_
    refine z_invVq_ok (pc := 1279) C (zm_X7_inspect X.l C.htr) ⟨rfl, rfl⟩ ⟨by decide, by decide⟩ (by decide) (by decide) zcl_L_116 zw_513 zw_514 zK7 dL_law_1279 ?_
    exact zk_L_law_1282 CC hn hR he273 hJ273 _ _ (by have h0 : (zXc X a d).ce = a := rfl; omega) (by have h0 : (zXc X a d).sl = d := rfl; omega)
def zb_L_law_1262 (J273 : ZP) : ZP := (z_ist 14 (z_ild 6 (z_push 9 (z_bin (fun x y => x >>> (y &&& 31)) (z_push 2 (z_invSq 2 sp_L_low (zb_L_law_1273 J273)))))))
set_option maxRecDepth 20000 in
theorem zk_L_law_1262 {X : ZX} (CC : zCC X) (hn : X.nL = 22) (hR : ZL X 1613 0 z_yes) {m : Nat} {J273 : ZP} (he273 : 0 ≤ m) (hJ273 : ZL X 273 m J273) : ZL X 1262 (m + 0) (zb_L_law_1262 J273) := by
  unfold zb_L_law_1262
  intro a d ha hd
  have C := CC a d (by have h0 : (zXc X a d).ce = a := rfl; omega) (by have h0 : (zXc X a d).sl = d := rfl; omega)
  refine z_istore_ok (pc := 1262) (i := 14) C.hx C.hb dL_law_1262 (zlt hn (by decide)) ?_
  refine z_iload_ok (pc := 1264) (i := 6) C.hx C.hb dL_law_1264 ?_
  refine z_bipush_ok (pc := 1266) (v := 9) C.hx C.hb dL_law_1266 (by decide) ?_
  refine z_ishr_ok (pc := 1268) C.hx C.hb dL_law_1268 ?_
  refine z_iconst_ok (pc := 1269) (v := 2) C.hx C.hb dL_law_1269 (by decide) ?_
  refine z_invSq_ok (pc := 1270) C (zm_L_low X.l C.htr) ⟨rfl, rfl⟩ ⟨by decide, by decide⟩ (by decide) (by decide) zcl_L_70 zw_625 dL_law_1270 ?_
  exact zk_L_law_1273 CC hn hR he273 hJ273 _ _ (by have h0 : (zXc X a d).ce = a := rfl; omega) (by have h0 : (zXc X a d).sl = d := rfl; omega)
def zb_L_law_1251 (J273 : ZP) : ZP := (z_ist 13 (z_ald 1 (z_ild 9 (z_ild 10 (z_push 4 (z_invVq 7 3 sp_X7_shopIs (zb_L_law_1262 J273)))))))
set_option maxRecDepth 20000 in
theorem zk_L_law_1251 {X : ZX} (CC : zCC X) (hn : X.nL = 22) (hR : ZL X 1613 0 z_yes) {m : Nat} {J273 : ZP} (he273 : 0 ≤ m) (hJ273 : ZL X 273 m J273) : ZL X 1251 (m + 0) (zb_L_law_1251 J273) := by
  unfold zb_L_law_1251
  intro a d ha hd
  have C := CC a d (by have h0 : (zXc X a d).ce = a := rfl; omega) (by have h0 : (zXc X a d).sl = d := rfl; omega)
  refine z_istore_ok (pc := 1251) (i := 13) C.hx C.hb dL_law_1251 (zlt hn (by decide)) ?_
  refine z_aload_n_ok (pc := 1253) (i := 1) C.hx C.hb dL_law_1253 rfl ?_
  refine z_iload_ok (pc := 1254) (i := 9) C.hx C.hb dL_law_1254 ?_
  refine z_iload_ok (pc := 1256) (i := 10) C.hx C.hb dL_law_1256 ?_
  refine z_iconst_ok (pc := 1258) (v := 4) C.hx C.hb dL_law_1258 (by decide) ?_
  refine z_invVq_ok (pc := 1259) C (zm_X7_shopIs X.l C.htr) ⟨rfl, rfl⟩ ⟨by decide, by decide⟩ (by decide) (by decide) zcl_L_57 zw_505 zw_506 zK7 dL_law_1259 ?_
  exact zk_L_law_1262 CC hn hR he273 hJ273 _ _ (by have h0 : (zXc X a d).ce = a := rfl; omega) (by have h0 : (zXc X a d).sl = d := rfl; omega)
def zb_L_law_1228 (J273 : ZP) : ZP := (z_bin (fun x y => x + y) (z_ist 4 (zb_L_law_1562 J273)))
set_option maxRecDepth 20000 in
theorem zk_L_law_1228 {X : ZX} (CC : zCC X) (hn : X.nL = 22) (hR : ZL X 1613 0 z_yes) {m : Nat} {J273 : ZP} (he273 : 0 ≤ m) (hJ273 : ZL X 273 m J273) : ZL X 1228 (m + 0) (zb_L_law_1228 J273) := by
  unfold zb_L_law_1228
  intro a d ha hd
  have C := CC a d (by have h0 : (zXc X a d).ce = a := rfl; omega) (by have h0 : (zXc X a d).sl = d := rfl; omega)
  refine z_iadd_ok (pc := 1228) C.hx C.hb dL_law_1228 ?_
  refine z_istore_ok (pc := 1229) (i := 4) C.hx C.hb dL_law_1229 (zlt hn (by decide)) ?_
  refine z_goto_ok (pc := 1231) (tgt := 1562) C.hx C.hb dL_law_1231 (by decide) ?_
  exact zk_L_law_1562 CC hn hR he273 hJ273 _ _ (by have h0 : (zXc X a d).ce = a := rfl; omega) (by have h0 : (zXc X a d).sl = d := rfl; omega)
def zb_L_law_1215 (J273 : ZP) : ZP := (z_ild 4 (z_ild 14 (z_if (fun x => x ≤ 0) (z_push 0 (zb_L_law_1228 J273)) (z_ild 14 (zb_L_law_1228 J273)))))
set_option maxRecDepth 20000 in
theorem zk_L_law_1215 {X : ZX} (CC : zCC X) (hn : X.nL = 22) (hR : ZL X 1613 0 z_yes) {m : Nat} {J273 : ZP} (he273 : 0 ≤ m) (hJ273 : ZL X 273 m J273) : ZL X 1215 (m + 0) (zb_L_law_1215 J273) := by
  unfold zb_L_law_1215
  intro a d ha hd
  have C := CC a d (by have h0 : (zXc X a d).ce = a := rfl; omega) (by have h0 : (zXc X a d).sl = d := rfl; omega)
  refine z_iload_ok (pc := 1215) (i := 4) C.hx C.hb dL_law_1215 ?_
  refine z_iload_ok (pc := 1217) (i := 14) C.hx C.hb dL_law_1217 ?_
  refine z_if_le_ok (pc := 1219) (tgt := 1227) C.hx C.hb dL_law_1219 (by decide) ?_ ?_
  · refine z_iconst_ok (pc := 1227) (v := 0) C.hx C.hb dL_law_1227 (by decide) ?_
    exact zk_L_law_1228 CC hn hR he273 hJ273 _ _ (by have h0 : (zXc X a d).ce = a := rfl; omega) (by have h0 : (zXc X a d).sl = d := rfl; omega)
  · refine z_iload_ok (pc := 1222) (i := 14) C.hx C.hb dL_law_1222 ?_
    refine z_goto_ok (pc := 1224) (tgt := 1228) C.hx C.hb dL_law_1224 (by decide) ?_
    exact zk_L_law_1228 CC hn hR he273 hJ273 _ _ (by have h0 : (zXc X a d).ce = a := rfl; omega) (by have h0 : (zXc X a d).sl = d := rfl; omega)
def zb_L_law_1194 (J273 : ZP) : ZP := (z_ild 13 (z_ild 11 (z_bin (fun x y => x - y) (z_cmp (fun x y => x = y) (zb_L_law_1215 J273) (fun _ _ _ _ => False)))))
set_option maxRecDepth 20000 in
theorem zk_L_law_1194 {X : ZX} (CC : zCC X) (hn : X.nL = 22) (hR : ZL X 1613 0 z_yes) {m : Nat} {J273 : ZP} (he273 : 0 ≤ m) (hJ273 : ZL X 273 m J273) : ZL X 1194 (m + 0) (zb_L_law_1194 J273) := by
  unfold zb_L_law_1194
  intro a d ha hd
  have C := CC a d (by have h0 : (zXc X a d).ce = a := rfl; omega) (by have h0 : (zXc X a d).sl = d := rfl; omega)
  refine z_iload_ok (pc := 1194) (i := 13) C.hx C.hb dL_law_1194 ?_
  refine z_iload_ok (pc := 1196) (i := 11) C.hx C.hb dL_law_1196 ?_
  refine z_isub_ok (pc := 1198) C.hx C.hb dL_law_1198 ?_
  refine z_icmp_eq_ok (pc := 1199) (tgt := 1215) C.hx C.hb dL_law_1199 (by decide) ?_ ?_
  · exact zk_L_law_1215 CC hn hR he273 hJ273 _ _ (by have h0 : (zXc X a d).ce = a := rfl; omega) (by have h0 : (zXc X a d).sl = d := rfl; omega)
  · refine z_goto_ok (pc := 1202) (tgt := 1213) C.hx C.hb dL_law_1202 (by decide) ?_
    exact fun _ _ _ _ _ _ _ h => h.elim
def zb_L_law_1171 (J273 : ZP) : ZP := (z_ist 14 (z_ild 14 (z_if (fun x => x < 0) (z_ild 14 (z_push (-200) (z_cmp (fun x y => x = y) (zb_L_law_1215 J273) (fun _ _ _ _ => False)))) (z_ild 14 (z_ild 11 (z_push 2 (z_dvn (fun x y => x / y) (z_cmp (fun x y => x < y) (fun _ _ _ _ => False) (z_ald 1 (z_ild 10 (z_push 5 (z_invVq 7 2 sp_X7_goodIs (zb_L_law_1194 J273)))))))))))))
set_option maxRecDepth 20000 in
theorem zk_L_law_1171 {X : ZX} (CC : zCC X) (hn : X.nL = 22) (hR : ZL X 1613 0 z_yes) {m : Nat} {J273 : ZP} (he273 : 0 ≤ m) (hJ273 : ZL X 273 m J273) : ZL X 1171 (m + 0) (zb_L_law_1171 J273) := by
  unfold zb_L_law_1171
  intro a d ha hd
  have C := CC a d (by have h0 : (zXc X a d).ce = a := rfl; omega) (by have h0 : (zXc X a d).sl = d := rfl; omega)
  refine z_istore_ok (pc := 1171) (i := 14) C.hx C.hb dL_law_1171 (zlt hn (by decide)) ?_
  refine z_iload_ok (pc := 1173) (i := 14) C.hx C.hb dL_law_1173 ?_
  refine z_if_lt_ok (pc := 1175) (tgt := 1205) C.hx C.hb dL_law_1175 (by decide) ?_ ?_
  · refine z_iload_ok (pc := 1205) (i := 14) C.hx C.hb dL_law_1205 ?_
    refine z_sipush_ok (pc := 1207) (v := -200) C.hx C.hb dL_law_1207 (by decide) ?_
    refine z_icmp_eq_ok (pc := 1210) (tgt := 1215) C.hx C.hb dL_law_1210 (by decide) ?_ ?_
    · exact zk_L_law_1215 CC hn hR he273 hJ273 _ _ (by have h0 : (zXc X a d).ce = a := rfl; omega) (by have h0 : (zXc X a d).sl = d := rfl; omega)
    · exact fun _ _ _ _ _ _ _ h => h.elim
  · refine z_iload_ok (pc := 1178) (i := 14) C.hx C.hb dL_law_1178 ?_
    refine z_iload_ok (pc := 1180) (i := 11) C.hx C.hb dL_law_1180 ?_
    refine z_iconst_ok (pc := 1182) (v := 2) C.hx C.hb dL_law_1182 (by decide) ?_
    refine z_idiv_ok (pc := 1183) C.hx C.hb dL_law_1183 ?_
    refine z_icmp_lt_ok (pc := 1184) (tgt := 1213) C.hx C.hb dL_law_1184 (by decide) ?_ ?_
    · exact fun _ _ _ _ _ _ _ h => h.elim
    · refine z_aload_n_ok (pc := 1187) (i := 1) C.hx C.hb dL_law_1187 rfl ?_
      refine z_iload_ok (pc := 1188) (i := 10) C.hx C.hb dL_law_1188 ?_
      refine z_iconst_ok (pc := 1190) (v := 5) C.hx C.hb dL_law_1190 (by decide) ?_
      refine z_invVq_ok (pc := 1191) C (zm_X7_goodIs X.l C.htr) ⟨rfl, rfl⟩ ⟨by decide, by decide⟩ (by decide) (by decide) zcl_L_60 zw_277 zw_278 zK7 dL_law_1191 ?_
      exact zk_L_law_1194 CC hn hR he273 hJ273 _ _ (by have h0 : (zXc X a d).ce = a := rfl; omega) (by have h0 : (zXc X a d).sl = d := rfl; omega)
def zb_L_law_1158 (J273 : ZP) : ZP := (z_ist 13 (z_ald 1 (z_push 2 (z_ild 8 (z_ild 10 (z_ild 11 (z_invSq 5 sp_L_tryOne (zb_L_law_1171 J273))))))))
set_option maxRecDepth 20000 in
theorem zk_L_law_1158 {X : ZX} (CC : zCC X) (hn : X.nL = 22) (hR : ZL X 1613 0 z_yes) {m : Nat} {J273 : ZP} (he273 : 0 ≤ m) (hJ273 : ZL X 273 m J273) : ZL X 1158 (m + 1) (zb_L_law_1158 J273) := by
  unfold zb_L_law_1158
  intro a d ha hd
  have C := CC a d (by have h0 : (zXc X a d).ce = a := rfl; omega) (by have h0 : (zXc X a d).sl = d := rfl; omega)
  refine z_istore_ok (pc := 1158) (i := 13) C.hx C.hb dL_law_1158 (zlt hn (by decide)) ?_
  refine z_aload_n_ok (pc := 1160) (i := 1) C.hx C.hb dL_law_1160 rfl ?_
  refine z_iconst_ok (pc := 1161) (v := 2) C.hx C.hb dL_law_1161 (by decide) ?_
  refine z_iload_ok (pc := 1162) (i := 8) C.hx C.hb dL_law_1162 ?_
  refine z_iload_ok (pc := 1164) (i := 10) C.hx C.hb dL_law_1164 ?_
  refine z_iload_ok (pc := 1166) (i := 11) C.hx C.hb dL_law_1166 ?_
  refine z_invSWq_ok (pc := 1168) C (zm_L_tryOne X.l C.htr) ⟨rfl, rfl⟩ ⟨by decide, by decide⟩ (by decide) (by decide) zcl_L_110 zw_694 dL_law_1168 ?_
  exact zk_L_law_1171 CC hn hR he273 hJ273 _ _ (by have h0 : (zXc X a d).ce = a := rfl; omega) (by have h0 : (zXc X a d).sl = d := rfl; omega)
def zb_L_law_1141 (J273 : ZP) : ZP := (zb_L_law_1562 J273)
set_option maxRecDepth 20000 in
theorem zk_L_law_1141 {X : ZX} (CC : zCC X) (hn : X.nL = 22) (hR : ZL X 1613 0 z_yes) {m : Nat} {J273 : ZP} (he273 : 0 ≤ m) (hJ273 : ZL X 273 m J273) : ZL X 1141 (m + 0) (zb_L_law_1141 J273) := by
  unfold zb_L_law_1141
  intro a d ha hd
  have C := CC a d (by have h0 : (zXc X a d).ce = a := rfl; omega) (by have h0 : (zXc X a d).sl = d := rfl; omega)
  refine z_goto_ok (pc := 1141) (tgt := 1562) C.hx C.hb dL_law_1141 (by decide) ?_
  exact zk_L_law_1562 CC hn hR he273 hJ273 _ _ (by have h0 : (zXc X a d).ce = a := rfl; omega) (by have h0 : (zXc X a d).sl = d := rfl; omega)
def zb_L_law_1136 (J273 : ZP) : ZP := (z_if (fun x => x = 0) (zb_L_law_1141 J273) (fun _ _ _ _ => False))
set_option maxRecDepth 20000 in
theorem zk_L_law_1136 {X : ZX} (CC : zCC X) (hn : X.nL = 22) (hR : ZL X 1613 0 z_yes) {m : Nat} {J273 : ZP} (he273 : 0 ≤ m) (hJ273 : ZL X 273 m J273) : ZL X 1136 (m + 0) (zb_L_law_1136 J273) := by
  unfold zb_L_law_1136
  intro a d ha hd
  have C := CC a d (by have h0 : (zXc X a d).ce = a := rfl; omega) (by have h0 : (zXc X a d).sl = d := rfl; omega)
  refine z_if_eq_ok (pc := 1136) (tgt := 1141) C.hx C.hb dL_law_1136 (by decide) ?_ ?_
  · exact zk_L_law_1141 CC hn hR he273 hJ273 _ _ (by have h0 : (zXc X a d).ce = a := rfl; omega) (by have h0 : (zXc X a d).sl = d := rfl; omega)
  · exact fun _ _ _ _ _ _ _ h => h.elim
def zb_L_law_1114 (J273 : ZP) : ZP := (z_if (fun x => x = 0) (z_ild 14 (z_if (fun x => x < 0) (zb_L_law_1141 J273) (z_ild 14 (z_ild 13 (z_cmp (fun x y => x = y) (z_ald 1 (z_ild 8 (z_push 4 (z_invVq 7 2 sp_X7_personIs (zb_L_law_1136 J273))))) (fun _ _ _ _ => False)))))) (zb_L_law_1141 J273))
set_option maxRecDepth 20000 in
theorem zk_L_law_1114 {X : ZX} (CC : zCC X) (hn : X.nL = 22) (hR : ZL X 1613 0 z_yes) {m : Nat} {J273 : ZP} (he273 : 0 ≤ m) (hJ273 : ZL X 273 m J273) : ZL X 1114 (m + 0) (zb_L_law_1114 J273) := by
  unfold zb_L_law_1114
  intro a d ha hd
  have C := CC a d (by have h0 : (zXc X a d).ce = a := rfl; omega) (by have h0 : (zXc X a d).sl = d := rfl; omega)
  refine z_if_ne_ok (pc := 1114) (tgt := 1141) C.hx C.hb dL_law_1114 (by decide) ?_ ?_
  · exact zk_L_law_1141 CC hn hR he273 hJ273 _ _ (by have h0 : (zXc X a d).ce = a := rfl; omega) (by have h0 : (zXc X a d).sl = d := rfl; omega)
  · refine z_iload_ok (pc := 1117) (i := 14) C.hx C.hb dL_law_1117 ?_
    refine z_if_lt_ok (pc := 1119) (tgt := 1141) C.hx C.hb dL_law_1119 (by decide) ?_ ?_
    · exact zk_L_law_1141 CC hn hR he273 hJ273 _ _ (by have h0 : (zXc X a d).ce = a := rfl; omega) (by have h0 : (zXc X a d).sl = d := rfl; omega)
    · refine z_iload_ok (pc := 1122) (i := 14) C.hx C.hb dL_law_1122 ?_
      refine z_iload_ok (pc := 1124) (i := 13) C.hx C.hb dL_law_1124 ?_
      refine z_icmp_ne_ok (pc := 1126) (tgt := 1139) C.hx C.hb dL_law_1126 (by decide) ?_ ?_
      · exact fun _ _ _ _ _ _ _ h => h.elim
      · refine z_aload_n_ok (pc := 1129) (i := 1) C.hx C.hb dL_law_1129 rfl ?_
        refine z_iload_ok (pc := 1130) (i := 8) C.hx C.hb dL_law_1130 ?_
        refine z_iconst_ok (pc := 1132) (v := 4) C.hx C.hb dL_law_1132 (by decide) ?_
        refine z_invVq_ok (pc := 1133) C (zm_X7_personIs X.l C.htr) ⟨rfl, rfl⟩ ⟨by decide, by decide⟩ (by decide) (by decide) zcl_L_48 zw_363 zw_364 zK7 dL_law_1133 ?_
        exact zk_L_law_1136 CC hn hR he273 hJ273 _ _ (by have h0 : (zXc X a d).ce = a := rfl; omega) (by have h0 : (zXc X a d).sl = d := rfl; omega)
def zb_L_law_1106 (J273 : ZP) : ZP := (z_ist 14 (z_ild 6 (z_push 4 (z_invSq 2 sp_L_low (zb_L_law_1114 J273)))))
set_option maxRecDepth 20000 in
theorem zk_L_law_1106 {X : ZX} (CC : zCC X) (hn : X.nL = 22) (hR : ZL X 1613 0 z_yes) {m : Nat} {J273 : ZP} (he273 : 0 ≤ m) (hJ273 : ZL X 273 m J273) : ZL X 1106 (m + 0) (zb_L_law_1106 J273) := by
  unfold zb_L_law_1106
  intro a d ha hd
  have C := CC a d (by have h0 : (zXc X a d).ce = a := rfl; omega) (by have h0 : (zXc X a d).sl = d := rfl; omega)
  refine z_istore_ok (pc := 1106) (i := 14) C.hx C.hb dL_law_1106 (zlt hn (by decide)) ?_
  refine z_iload_ok (pc := 1108) (i := 6) C.hx C.hb dL_law_1108 ?_
  refine z_iconst_ok (pc := 1110) (v := 4) C.hx C.hb dL_law_1110 (by decide) ?_
  refine z_invSq_ok (pc := 1111) C (zm_L_low X.l C.htr) ⟨rfl, rfl⟩ ⟨by decide, by decide⟩ (by decide) (by decide) zcl_L_70 zw_625 dL_law_1111 ?_
  exact zk_L_law_1114 CC hn hR he273 hJ273 _ _ (by have h0 : (zXc X a d).ce = a := rfl; omega) (by have h0 : (zXc X a d).sl = d := rfl; omega)
def zb_L_law_1098 (J273 : ZP) : ZP := (z_ild 8 (z_ild 9 (z_push 0 (z_invSq 5 sp_L_tryOne (zb_L_law_1106 J273)))))
set_option maxRecDepth 20000 in
theorem zk_L_law_1098 {X : ZX} (CC : zCC X) (hn : X.nL = 22) (hR : ZL X 1613 0 z_yes) {m : Nat} {J273 : ZP} (he273 : 0 ≤ m) (hJ273 : ZL X 273 m J273) : ZL X 1098 (m + 1) (zb_L_law_1098 J273) := by
  unfold zb_L_law_1098
  intro a d ha hd
  have C := CC a d (by have h0 : (zXc X a d).ce = a := rfl; omega) (by have h0 : (zXc X a d).sl = d := rfl; omega)
  refine z_iload_ok (pc := 1098) (i := 8) C.hx C.hb dL_law_1098 ?_
  refine z_iload_ok (pc := 1100) (i := 9) C.hx C.hb dL_law_1100 ?_
  refine z_iconst_ok (pc := 1102) (v := 0) C.hx C.hb dL_law_1102 (by decide) ?_
  refine z_invSWq_ok (pc := 1103) C (zm_L_tryOne X.l C.htr) ⟨rfl, rfl⟩ ⟨by decide, by decide⟩ (by decide) (by decide) zcl_L_110 zw_694 dL_law_1103 ?_
  exact zk_L_law_1106 CC hn hR he273 hJ273 _ _ (by have h0 : (zXc X a d).ce = a := rfl; omega) (by have h0 : (zXc X a d).sl = d := rfl; omega)
