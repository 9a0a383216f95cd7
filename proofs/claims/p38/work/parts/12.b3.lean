theorem dX7_month_0 : decode cX7_month 0 = .ok (.aload_n 0, 1) := by decide +kernel
theorem dX7_month_1 : decode cX7_month 1 = .ok (.getfield 69, 3) := by decide +kernel
theorem dX7_month_4 : decode cX7_month 4 = .ok (.sipush 240, 3) := by decide +kernel
theorem dX7_month_7 : decode cX7_month 7 = .ok (.if_icmp .lt 14, 3) := by decide +kernel
theorem dX7_month_10 : decode cX7_month 10 = .ok (.new 165, 3) := by decide +kernel
theorem dX7_month_13 : decode cX7_month 13 = .ok (.dup, 1) := by decide +kernel
theorem dX7_month_14 : decode cX7_month 14 = .ok (.ldc_w 303, 3) := by decide +kernel
theorem dX7_month_17 : decode cX7_month 17 = .ok (.invokespecial 169, 3) := by decide +kernel
theorem dX7_month_20 : decode cX7_month 20 = .ok (.athrow, 1) := by decide +kernel
theorem dX7_month_21 : decode cX7_month 21 = .ok (.aload_n 0, 1) := by decide +kernel
theorem dX7_month_22 : decode cX7_month 22 = .ok (.invokevirtual 305, 3) := by decide +kernel
theorem dX7_month_25 : decode cX7_month 25 = .ok (.aload_n 0, 1) := by decide +kernel
theorem dX7_month_26 : decode cX7_month 26 = .ok (.invokevirtual 308, 3) := by decide +kernel
theorem dX7_month_29 : decode cX7_month 29 = .ok (.aload_n 0, 1) := by decide +kernel
theorem dX7_month_30 : decode cX7_month 30 = .ok (.invokevirtual 311, 3) := by decide +kernel
theorem dX7_month_33 : decode cX7_month 33 = .ok (.aload_n 0, 1) := by decide +kernel
theorem dX7_month_34 : decode cX7_month 34 = .ok (.invokevirtual 314, 3) := by decide +kernel
theorem dX7_month_37 : decode cX7_month 37 = .ok (.aload_n 0, 1) := by decide +kernel
theorem dX7_month_38 : decode cX7_month 38 = .ok (.getfield 69, 3) := by decide +kernel
theorem dX7_month_41 : decode cX7_month 41 = .ok (.ireturn, 1) := by decide +kernel
def zb_X7_month_0 : ZP := (z_ald 0 (z_gf 7 13 (z_push 240 (z_cmp (fun x y => x < y) (z_ald 0 (z_invV 7 0 sp_X7_closeFarms (z_ald 0 (z_invV 7 0 sp_X7_closePeople (z_ald 0 (z_invV 7 0 sp_X7_repriceGoods (z_ald 0 (z_invV 7 0 sp_X7_openNewMonth (z_ald 0 (z_gf 7 13 (z_ret 1))))))))))) (z_throw 3)))))
set_option maxRecDepth 20000 in
theorem zk_X7_month_0 {X : ZX} (C : zCx X cX7_month RX7 (some .int) 6 131 1 6) (hn : X.nL = 1) : ZOK X 0 (zb_X7_month_0) := by
  unfold zb_X7_month_0
  refine z_aload_n_ok (pc := 0) (i := 0) C.hx C.hb dX7_month_0 rfl ?_
  refine z_gf_ok (pc := 1) C zK7 (f := 13) (by decide) zw_121 rfl dX7_month_1 ?_
  refine z_sipush_ok (pc := 4) (v := 240) C.hx C.hb dX7_month_4 (by decide) ?_
  refine z_icmp_lt_ok (pc := 7) (tgt := 21) C.hx C.hb dX7_month_7 (by decide) ?_ ?_
  · refine z_aload_n_ok (pc := 21) (i := 0) C.hx C.hb dX7_month_21 rfl ?_
    refine z_invV_ok (pc := 22) C (by decide +kernel) (zm_X7_closeFarms X.l C.htr) ⟨rfl, rfl⟩ ⟨by decide, by decide⟩ (by decide) (by decide) zcl_X7_305 zw_562 zw_10 zK7 dX7_month_22 ?_
    refine z_aload_n_ok (pc := 25) (i := 0) C.hx C.hb dX7_month_25 rfl ?_
    refine z_invV_ok (pc := 26) C (by decide +kernel) (zm_X7_closePeople X.l C.htr) ⟨rfl, rfl⟩ ⟨by decide, by decide⟩ (by decide) (by decide) zcl_X7_308 zw_566 zw_11 zK7 dX7_month_26 ?_
    refine z_aload_n_ok (pc := 29) (i := 0) C.hx C.hb dX7_month_29 rfl ?_
    refine z_invV_ok (pc := 30) C (by decide +kernel) (zm_X7_repriceGoods X.l C.htr) ⟨rfl, rfl⟩ ⟨by decide, by decide⟩ (by decide) (by decide) zcl_X7_311 zw_578 zw_14 zK7 dX7_month_30 ?_
    refine z_aload_n_ok (pc := 33) (i := 0) C.hx C.hb dX7_month_33 rfl ?_
    refine z_invV_ok (pc := 34) C (by decide +kernel) (zm_X7_openNewMonth X.l C.htr) ⟨rfl, rfl⟩ ⟨by decide, by decide⟩ (by decide) (by decide) zcl_X7_314 zw_586 zw_16 zK7 dX7_month_34 ?_
    refine z_aload_n_ok (pc := 37) (i := 0) C.hx C.hb dX7_month_37 rfl ?_
    refine z_gf_ok (pc := 38) C zK7 (f := 13) (by decide) zw_121 rfl dX7_month_38 ?_
    exact z_iret_ok (pc := 41) C dX7_month_41
  · exact z_throwSW_ok (pc := 10) (text := "the last month does not end") C zth_165_169 (by decide +kernel) dX7_month_10 dX7_month_13 dX7_month_14 dX7_month_17 dX7_month_20 (by decide +kernel) (by decide) (by decide) (by decide) (by decide)
def sp_X7_month : ZSp := fun as S K => as.length ≤ 1 ∧ zsp 1 zb_X7_month_0 as S K
theorem zm_X7_month (l : Launch) (hl : l.stackTraces = false) : zMet l yX7_month cX7_month 1 (some .int) { frames := 6, cells := 1, slots := 6, locals := 131 } 0 0 sp_X7_month := zMet_of hl (by decide +kernel) ⟨rfl, rfl⟩ (fun X C hn _ => zk_X7_month_0 C hn)
theorem dX7_moves_0 : decode cX7_moves 0 = .ok (.aload_n 0, 1) := by decide +kernel
theorem dX7_moves_1 : decode cX7_moves 1 = .ok (.iload_n 1, 1) := by decide +kernel
theorem dX7_moves_2 : decode cX7_moves 2 = .ok (.invokevirtual 130, 3) := by decide +kernel
theorem dX7_moves_5 : decode cX7_moves 5 = .ok (.astore_n 3, 1) := by decide +kernel
theorem dX7_moves_6 : decode cX7_moves 6 = .ok (.aload_n 0, 1) := by decide +kernel
theorem dX7_moves_7 : decode cX7_moves 7 = .ok (.iload_n 2, 1) := by decide +kernel
theorem dX7_moves_8 : decode cX7_moves 8 = .ok (.invokevirtual 119, 3) := by decide +kernel
theorem dX7_moves_11 : decode cX7_moves 11 = .ok (.astore 4, 2) := by decide +kernel
theorem dX7_moves_13 : decode cX7_moves 13 = .ok (.aload_n 3, 1) := by decide +kernel
theorem dX7_moves_14 : decode cX7_moves 14 = .ok (.invokestatic 134, 3) := by decide +kernel
theorem dX7_moves_17 : decode cX7_moves 17 = .ok (.aload_n 3, 1) := by decide +kernel
theorem dX7_moves_18 : decode cX7_moves 18 = .ok (.aload 4, 2) := by decide +kernel
theorem dX7_moves_20 : decode cX7_moves 20 = .ok (.putfield 141, 3) := by decide +kernel
theorem dX7_moves_23 : decode cX7_moves 23 = .ok (.aload_n 3, 1) := by decide +kernel
theorem dX7_moves_24 : decode cX7_moves 24 = .ok (.getfield 145, 3) := by decide +kernel
theorem dX7_moves_27 : decode cX7_moves 27 = .ok (.getfield 148, 3) := by decide +kernel
theorem dX7_moves_30 : decode cX7_moves 30 = .ok (.ireturn, 1) := by decide +kernel
def zb_X7_moves_0 : ZP := (z_ald 0 (z_ild 1 (z_invV 7 1 sp_X7_knownPerson (z_ast 3 (z_ald 0 (z_ild 2 (z_invV 7 1 sp_X7_knownShop (z_ast 4 (z_ald 3 (z_invS 1 sp_X7_requireAlive (z_ald 3 (z_ald 4 (z_pfr 3 (z_ald 3 (z_gf 3 2 (z_gf 6 0 (z_ret 1)))))))))))))))))
set_option maxRecDepth 20000 in
theorem zk_X7_moves_0 {X : ZX} (C : zCx X cX7_moves RX7 (some .int) 7 111 1 6) (hn : X.nL = 5) : ZOK X 0 (zb_X7_moves_0) := by
  unfold zb_X7_moves_0
  refine z_aload_n_ok (pc := 0) (i := 0) C.hx C.hb dX7_moves_0 rfl ?_
  refine z_iload_n_ok (pc := 1) (i := 1) C.hx C.hb dX7_moves_1 rfl ?_
  refine z_invV_ok (pc := 2) C (by decide +kernel) (zm_X7_knownPerson X.l C.htr) ⟨rfl, rfl⟩ ⟨by decide, by decide⟩ (by decide) (by decide) zcl_X7_130 zw_368 zw_4 zK7 dX7_moves_2 ?_
  refine z_astore_n_ok (pc := 5) (i := 3) C.hx C.hb dX7_moves_5 rfl (zlt hn (by decide)) ?_
  refine z_aload_n_ok (pc := 6) (i := 0) C.hx C.hb dX7_moves_6 rfl ?_
  refine z_iload_n_ok (pc := 7) (i := 2) C.hx C.hb dX7_moves_7 rfl ?_
  refine z_invV_ok (pc := 8) C (by decide +kernel) (zm_X7_knownShop X.l C.htr) ⟨rfl, rfl⟩ ⟨by decide, by decide⟩ (by decide) (by decide) zcl_X7_119 zw_290 zw_3 zK7 dX7_moves_8 ?_
  refine z_astore_ok (pc := 11) (i := 4) C.hx C.hb dX7_moves_11 (zlt hn (by decide)) ?_
  refine z_aload_n_ok (pc := 13) (i := 3) C.hx C.hb dX7_moves_13 rfl ?_
  refine z_invS_ok (pc := 14) C (by decide +kernel) (zm_X7_requireAlive X.l C.htr) ⟨rfl, rfl⟩ ⟨by decide, by decide⟩ (by decide) (by decide) zcl_X7_134 zw_640 dX7_moves_14 ?_
  refine z_aload_n_ok (pc := 17) (i := 3) C.hx C.hb dX7_moves_17 rfl ?_
  refine z_aload_ok (pc := 18) (i := 4) C.hx C.hb dX7_moves_18 ?_
  refine z_pfr_ok (pc := 20) C zK3 (f := 3) (by decide) (by decide) zw_324 rfl rfl (by decide +kernel) dX7_moves_20 ?_
  refine z_aload_n_ok (pc := 23) (i := 3) C.hx C.hb dX7_moves_23 rfl ?_
  refine z_gf_ok (pc := 24) C zK3 (f := 2) (by decide) zw_322 rfl dX7_moves_24 ?_
  refine z_gf_ok (pc := 27) C zK6 (f := 0) (by decide) zw_472 rfl dX7_moves_27 ?_
  exact z_iret_ok (pc := 30) C dX7_moves_30
def sp_X7_moves : ZSp := fun as S K => as.length ≤ 5 ∧ zsp 5 zb_X7_moves_0 as S K
theorem zm_X7_moves (l : Launch) (hl : l.stackTraces = false) : zMet l yX7_moves cX7_moves 5 (some .int) { frames := 7, cells := 1, slots := 6, locals := 111 } 0 0 sp_X7_moves := zMet_of hl (by decide +kernel) ⟨rfl, rfl⟩ (fun X C hn _ => zk_X7_moves_0 C hn)
theorem dX7_onPoints_0 : decode cX7_onPoints 0 = .ok (.aload_n 0, 1) := by decide +kernel
theorem dX7_onPoints_1 : decode cX7_onPoints 1 = .ok (.iload_n 1, 1) := by decide +kernel
theorem dX7_onPoints_2 : decode cX7_onPoints 2 = .ok (.invokevirtual 88, 3) := by decide +kernel
theorem dX7_onPoints_5 : decode cX7_onPoints 5 = .ok (.astore_n 3, 1) := by decide +kernel
theorem dX7_onPoints_6 : decode cX7_onPoints 6 = .ok (.iload_n 2, 1) := by decide +kernel
theorem dX7_onPoints_7 : decode cX7_onPoints 7 = .ok (.iconst 1, 1) := by decide +kernel
theorem dX7_onPoints_8 : decode cX7_onPoints 8 = .ok (.bipush 24, 2) := by decide +kernel
theorem dX7_onPoints_10 : decode cX7_onPoints 10 = .ok (.invokestatic 92, 3) := by decide +kernel
theorem dX7_onPoints_13 : decode cX7_onPoints 13 = .ok (.aload_n 3, 1) := by decide +kernel
theorem dX7_onPoints_14 : decode cX7_onPoints 14 = .ok (.iconst 1, 1) := by decide +kernel
theorem dX7_onPoints_15 : decode cX7_onPoints 15 = .ok (.iload_n 2, 1) := by decide +kernel
theorem dX7_onPoints_16 : decode cX7_onPoints 16 = .ok (.invokestatic 96, 3) := by decide +kernel
theorem dX7_onPoints_19 : decode cX7_onPoints 19 = .ok (.ireturn, 1) := by decide +kernel
def zb_X7_onPoints_0 : ZP := (z_ald 0 (z_ild 1 (z_invV 7 1 sp_X7_knownGood (z_ast 3 (z_ild 2 (z_push 1 (z_push 24 (z_invS 3 sp_X7_requireRange (z_ald 3 (z_push 1 (z_ild 2 (z_invS 3 sp_X7_changeGood (z_ret 1)))))))))))))
set_option maxRecDepth 20000 in
theorem zk_X7_onPoints_0 {X : ZX} (C : zCx X cX7_onPoints RX7 (some .int) 7 112 1 6) (hn : X.nL = 4) : ZOK X 0 (zb_X7_onPoints_0) := by
  unfold zb_X7_onPoints_0
  refine z_aload_n_ok (pc := 0) (i := 0) C.hx C.hb dX7_onPoints_0 rfl ?_
  refine z_iload_n_ok (pc := 1) (i := 1) C.hx C.hb dX7_onPoints_1 rfl ?_
  refine z_invV_ok (pc := 2) C (by decide +kernel) (zm_X7_knownGood X.l C.htr) ⟨rfl, rfl⟩ ⟨by decide, by decide⟩ (by decide) (by decide) zcl_X7_88 zw_172 zw_0 zK7 dX7_onPoints_2 ?_
  refine z_astore_n_ok (pc := 5) (i := 3) C.hx C.hb dX7_onPoints_5 rfl (zlt hn (by decide)) ?_
  refine z_iload_n_ok (pc := 6) (i := 2) C.hx C.hb dX7_onPoints_6 rfl ?_
  refine z_iconst_ok (pc := 7) (v := 1) C.hx C.hb dX7_onPoints_7 (by decide) ?_
  refine z_bipush_ok (pc := 8) (v := 24) C.hx C.hb dX7_onPoints_8 (by decide) ?_
  refine z_invS_ok (pc := 10) C (by decide +kernel) (zm_X7_requireRange X.l C.htr) ⟨rfl, rfl⟩ ⟨by decide, by decide⟩ (by decide) (by decide) zcl_X7_92 zw_243 dX7_onPoints_10 ?_
  refine z_aload_n_ok (pc := 13) (i := 3) C.hx C.hb dX7_onPoints_13 rfl ?_
  refine z_iconst_ok (pc := 14) (v := 1) C.hx C.hb dX7_onPoints_14 (by decide) ?_
  refine z_iload_n_ok (pc := 15) (i := 2) C.hx C.hb dX7_onPoints_15 rfl ?_
  refine z_invS_ok (pc := 16) C (by decide +kernel) (zm_X7_changeGood X.l C.htr) ⟨rfl, rfl⟩ ⟨by decide, by decide⟩ (by decide) (by decide) zcl_X7_96 zw_262 dX7_onPoints_16 ?_
  exact z_iret_ok (pc := 19) C dX7_onPoints_19
def sp_X7_onPoints : ZSp := fun as S K => as.length ≤ 4 ∧ zsp 4 zb_X7_onPoints_0 as S K
theorem zm_X7_onPoints (l : Launch) (hl : l.stackTraces = false) : zMet l yX7_onPoints cX7_onPoints 4 (some .int) { frames := 7, cells := 1, slots := 6, locals := 112 } 0 0 sp_X7_onPoints := zMet_of hl (by decide +kernel) ⟨rfl, rfl⟩ (fun X C hn _ => zk_X7_onPoints_0 C hn)
theorem dX7_peopleAlive_0 : decode cX7_peopleAlive 0 = .ok (.iconst 0, 1) := by decide +kernel
theorem dX7_peopleAlive_1 : decode cX7_peopleAlive 1 = .ok (.istore_n 1, 1) := by decide +kernel
theorem dX7_peopleAlive_2 : decode cX7_peopleAlive 2 = .ok (.iconst 0, 1) := by decide +kernel
theorem dX7_peopleAlive_3 : decode cX7_peopleAlive 3 = .ok (.istore_n 2, 1) := by decide +kernel
theorem dX7_peopleAlive_4 : decode cX7_peopleAlive 4 = .ok (.iload_n 2, 1) := by decide +kernel
theorem dX7_peopleAlive_5 : decode cX7_peopleAlive 5 = .ok (.aload_n 0, 1) := by decide +kernel
theorem dX7_peopleAlive_6 : decode cX7_peopleAlive 6 = .ok (.getfield 50, 3) := by decide +kernel
theorem dX7_peopleAlive_9 : decode cX7_peopleAlive 9 = .ok (.if_icmp .ge 24, 3) := by decide +kernel
theorem dX7_peopleAlive_12 : decode cX7_peopleAlive 12 = .ok (.aload_n 0, 1) := by decide +kernel
theorem dX7_peopleAlive_13 : decode cX7_peopleAlive 13 = .ok (.getfield 17, 3) := by decide +kernel
theorem dX7_peopleAlive_16 : decode cX7_peopleAlive 16 = .ok (.iload_n 2, 1) := by decide +kernel
theorem dX7_peopleAlive_17 : decode cX7_peopleAlive 17 = .ok (.aaload, 1) := by decide +kernel
theorem dX7_peopleAlive_18 : decode cX7_peopleAlive 18 = .ok (.invokevirtual 189, 3) := by decide +kernel
theorem dX7_peopleAlive_21 : decode cX7_peopleAlive 21 = .ok (.ifCond .ne 6, 3) := by decide +kernel
theorem dX7_peopleAlive_24 : decode cX7_peopleAlive 24 = .ok (.iinc 1 1, 3) := by decide +kernel
theorem dX7_peopleAlive_27 : decode cX7_peopleAlive 27 = .ok (.iinc 2 1, 3) := by decide +kernel
theorem dX7_peopleAlive_30 : decode cX7_peopleAlive 30 = .ok (.goto (-26), 3) := by decide +kernel
theorem dX7_peopleAlive_33 : decode cX7_peopleAlive 33 = .ok (.iload_n 1, 1) := by decide +kernel
theorem dX7_peopleAlive_34 : decode cX7_peopleAlive 34 = .ok (.ireturn, 1) := by decide +kernel
def zb_X7_peopleAlive_27 (J4 : ZP) : ZP := (z_inc 2 (1) J4)
set_option maxRecDepth 20000 in
theorem zk_X7_peopleAlive_27 {X : ZX} (C : zCx X cX7_peopleAlive RX7 (some .int) 1 20 1 6) (hn : X.nL = 3) {J4 : ZP} (hJ4 : ZOK X 4 J4) : ZOK X 27 (zb_X7_peopleAlive_27 J4) := by
  unfold zb_X7_peopleAlive_27
  refine z_iinc_ok (pc := 27) (i := 2) (v := 1) C.hx C.hb dX7_peopleAlive_27 (by decide) (zlt hn (by decide)) ?_
  refine z_goto_ok (pc := 30) (tgt := 4) C.hx C.hb dX7_peopleAlive_30 (by decide) ?_
  exact hJ4
def zb_X7_peopleAlive_4 (J4 : ZP) : ZP := (z_ild 2 (z_ald 0 (z_gf 7 7 (z_cmp (fun x y => y ≤ x) (z_ild 1 (z_ret 1)) (z_ald 0 (z_gf 7 1 (z_ild 2 (z_aald (z_invV 3 0 sp_X3_isDead (z_if (fun x => x = 0) (z_inc 1 (1) (zb_X7_peopleAlive_27 J4)) (zb_X7_peopleAlive_27 J4)))))))))))
set_option maxRecDepth 20000 in
theorem zk_X7_peopleAlive_4 {X : ZX} (C : zCx X cX7_peopleAlive RX7 (some .int) 1 20 1 6) (hn : X.nL = 3) {J4 : ZP} (hJ4 : ZOK X 4 J4) : ZOK X 4 (zb_X7_peopleAlive_4 J4) := by
  unfold zb_X7_peopleAlive_4
  refine z_iload_n_ok (pc := 4) (i := 2) C.hx C.hb dX7_peopleAlive_4 rfl ?_
  refine z_aload_n_ok (pc := 5) (i := 0) C.hx C.hb dX7_peopleAlive_5 rfl ?_
  refine z_gf_ok (pc := 6) C zK7 (f := 7) (by decide) zw_115 rfl dX7_peopleAlive_6 ?_
  refine z_icmp_ge_ok (pc := 9) (tgt := 33) C.hx C.hb dX7_peopleAlive_9 (by decide) ?_ ?_
  · refine z_iload_n_ok (pc := 33) (i := 1) C.hx C.hb dX7_peopleAlive_33 rfl ?_
    exact z_iret_ok (pc := 34) C dX7_peopleAlive_34
  · refine z_aload_n_ok (pc := 12) (i := 0) C.hx C.hb dX7_peopleAlive_12 rfl ?_
    refine z_gf_ok (pc := 13) C zK7 (f := 1) (by decide) zw_109 rfl dX7_peopleAlive_13 ?_
    refine z_iload_n_ok (pc := 16) (i := 2) C.hx C.hb dX7_peopleAlive_16 rfl ?_
    refine z_aald_ok (pc := 17) C dX7_peopleAlive_17 ?_
    refine z_invV_ok (pc := 18) C (by decide +kernel) (zm_X3_isDead X.l C.htr) ⟨rfl, rfl⟩ ⟨by decide, by decide⟩ (by decide) (by decide) zcl_X7_189 zw_383 zw_384 zK3 dX7_peopleAlive_18 ?_
    refine z_if_ne_ok (pc := 21) (tgt := 27) C.hx C.hb dX7_peopleAlive_21 (by decide) ?_ ?_
    · exact zk_X7_peopleAlive_27 C hn hJ4
    · refine z_iinc_ok (pc := 24) (i := 1) (v := 1) C.hx C.hb dX7_peopleAlive_24 (by decide) (zlt hn (by decide)) ?_
      exact zk_X7_peopleAlive_27 C hn hJ4
def zb_X7_peopleAlive_0 : ZP := (z_push 0 (z_ist 1 (z_push 0 (z_ist 2 (z_loop (fun J4 => zb_X7_peopleAlive_4 J4))))))
set_option maxRecDepth 20000 in
theorem zk_X7_peopleAlive_0 {X : ZX} (C : zCx X cX7_peopleAlive RX7 (some .int) 1 20 1 6) (hn : X.nL = 3) : ZOK X 0 (zb_X7_peopleAlive_0) := by
  unfold zb_X7_peopleAlive_0
  refine z_iconst_ok (pc := 0) (v := 0) C.hx C.hb dX7_peopleAlive_0 (by decide) ?_
  refine z_istore_n_ok (pc := 1) (i := 1) C.hx C.hb dX7_peopleAlive_1 rfl (zlt hn (by decide)) ?_
  refine z_iconst_ok (pc := 2) (v := 0) C.hx C.hb dX7_peopleAlive_2 (by decide) ?_
  refine z_istore_n_ok (pc := 3) (i := 2) C.hx C.hb dX7_peopleAlive_3 rfl (zlt hn (by decide)) ?_
  exact z_loop_ok (fun J4 hJ4 => zk_X7_peopleAlive_4 C hn hJ4)
def sp_X7_peopleAlive : ZSp := fun as S K => as.length ≤ 3 ∧ zsp 3 zb_X7_peopleAlive_0 as S K
theorem zm_X7_peopleAlive (l : Launch) (hl : l.stackTraces = false) : zMet l yX7_peopleAlive cX7_peopleAlive 3 (some .int) { frames := 1, cells := 1, slots := 6, locals := 20 } 0 0 sp_X7_peopleAlive := zMet_of hl (by decide +kernel) ⟨rfl, rfl⟩ (fun X C hn _ => zk_X7_peopleAlive_0 C hn)
theorem dX7_personIs_0 : decode cX7_personIs 0 = .ok (.aload_n 0, 1) := by decide +kernel
theorem dX7_personIs_1 : decode cX7_personIs 1 = .ok (.iload_n 1, 1) := by decide +kernel
theorem dX7_personIs_2 : decode cX7_personIs 2 = .ok (.invokevirtual 130, 3) := by decide +kernel
theorem dX7_personIs_5 : decode cX7_personIs 5 = .ok (.astore_n 3, 1) := by decide +kernel
theorem dX7_personIs_6 : decode cX7_personIs 6 = .ok (.iload_n 2, 1) := by decide +kernel
theorem dX7_personIs_7 : decode cX7_personIs 7 = .ok (.iconst 0, 1) := by decide +kernel
theorem dX7_personIs_8 : decode cX7_personIs 8 = .ok (.bipush 6, 2) := by decide +kernel
theorem dX7_personIs_10 : decode cX7_personIs 10 = .ok (.invokestatic 92, 3) := by decide +kernel
theorem dX7_personIs_13 : decode cX7_personIs 13 = .ok (.iload_n 2, 1) := by decide +kernel
theorem dX7_personIs_14 : decode cX7_personIs 14 = .ok (.tableswitch 72 0 5 #[38, 43, 51, 56, 61, 67], 38) := by decide +kernel
theorem dX7_personIs_52 : decode cX7_personIs 52 = .ok (.aload_n 3, 1) := by decide +kernel
theorem dX7_personIs_53 : decode cX7_personIs 53 = .ok (.getfield 138, 3) := by decide +kernel
theorem dX7_personIs_56 : decode cX7_personIs 56 = .ok (.ireturn, 1) := by decide +kernel
theorem dX7_personIs_57 : decode cX7_personIs 57 = .ok (.aload_n 3, 1) := by decide +kernel
theorem dX7_personIs_58 : decode cX7_personIs 58 = .ok (.getfield 145, 3) := by decide +kernel
theorem dX7_personIs_61 : decode cX7_personIs 61 = .ok (.getfield 148, 3) := by decide +kernel
theorem dX7_personIs_64 : decode cX7_personIs 64 = .ok (.ireturn, 1) := by decide +kernel
theorem dX7_personIs_65 : decode cX7_personIs 65 = .ok (.aload_n 3, 1) := by decide +kernel
theorem dX7_personIs_66 : decode cX7_personIs 66 = .ok (.getfield 180, 3) := by decide +kernel
theorem dX7_personIs_69 : decode cX7_personIs 69 = .ok (.ireturn, 1) := by decide +kernel
theorem dX7_personIs_70 : decode cX7_personIs 70 = .ok (.aload_n 3, 1) := by decide +kernel
theorem dX7_personIs_71 : decode cX7_personIs 71 = .ok (.getfield 183, 3) := by decide +kernel
theorem dX7_personIs_74 : decode cX7_personIs 74 = .ok (.ireturn, 1) := by decide +kernel
theorem dX7_personIs_75 : decode cX7_personIs 75 = .ok (.aload_n 0, 1) := by decide +kernel
theorem dX7_personIs_76 : decode cX7_personIs 76 = .ok (.aload_n 3, 1) := by decide +kernel
theorem dX7_personIs_77 : decode cX7_personIs 77 = .ok (.invokevirtual 161, 3) := by decide +kernel
theorem dX7_personIs_80 : decode cX7_personIs 80 = .ok (.ireturn, 1) := by decide +kernel
theorem dX7_personIs_81 : decode cX7_personIs 81 = .ok (.aload_n 3, 1) := by decide +kernel
theorem dX7_personIs_82 : decode cX7_personIs 82 = .ok (.getfield 186, 3) := by decide +kernel
theorem dX7_personIs_85 : decode cX7_personIs 85 = .ok (.ireturn, 1) := by decide +kernel
theorem dX7_personIs_86 : decode cX7_personIs 86 = .ok (.aload_n 3, 1) := by decide +kernel
theorem dX7_personIs_87 : decode cX7_personIs 87 = .ok (.invokevirtual 189, 3) := by decide +kernel
theorem dX7_personIs_90 : decode cX7_personIs 90 = .ok (.ifCond .eq 7, 3) := by decide +kernel
theorem dX7_personIs_93 : decode cX7_personIs 93 = .ok (.iconst 1, 1) := by decide +kernel
theorem dX7_personIs_94 : decode cX7_personIs 94 = .ok (.goto 4, 3) := by decide +kernel
theorem dX7_personIs_97 : decode cX7_personIs 97 = .ok (.iconst 0, 1) := by decide +kernel
theorem dX7_personIs_98 : decode cX7_personIs 98 = .ok (.ireturn, 1) := by decide +kernel
def zb_X7_personIs_98 : ZP := (z_ret 1)
set_option maxRecDepth 20000 in
theorem zk_X7_personIs_98 {X : ZX} (C : zCx X cX7_personIs RX7 (some .int) 7 112 1 6) (hn : X.nL = 4) : ZOK X 98 (zb_X7_personIs_98) := by
  unfold zb_X7_personIs_98
  exact z_iret_ok (pc := 98) C dX7_personIs_98
def zb_X7_personIs_0 : ZP := (z_ald 0 (z_ild 1 (z_invV 7 1 sp_X7_knownPerson (z_ast 3 (z_ild 2 (z_push 0 (z_push 6 (z_invS 3 sp_X7_requireRange (z_ild 2 (z_sw [(0, (z_ald 3 (z_gf 3 1 (z_ret 1)))), (1, (z_ald 3 (z_gf 3 2 (z_gf 6 0 (z_ret 1))))), (2, (z_ald 3 (z_gf 3 4 (z_ret 1)))), (3, (z_ald 3 (z_gf 3 5 (z_ret 1)))), (4, (z_ald 0 (z_ald 3 (z_invV 7 1 sp_X7_pointsLeft (z_ret 1))))), (5, (z_ald 3 (z_gf 3 9 (z_ret 1))))] (z_ald 3 (z_invV 3 0 sp_X3_isDead (z_if (fun x => x = 0) (z_push 0 zb_X7_personIs_98) (z_push 1 zb_X7_personIs_98))))))))))))))
set_option maxRecDepth 20000 in
theorem zk_X7_personIs_0 {X : ZX} (C : zCx X cX7_personIs RX7 (some .int) 7 112 1 6) (hn : X.nL = 4) : ZOK X 0 (zb_X7_personIs_0) := by
  unfold zb_X7_personIs_0
  refine z_aload_n_ok (pc := 0) (i := 0) C.hx C.hb dX7_personIs_0 rfl ?_
  refine z_iload_n_ok (pc := 1) (i := 1) C.hx C.hb dX7_personIs_1 rfl ?_
  refine z_invV_ok (pc := 2) C (by decide +kernel) (zm_X7_knownPerson X.l C.htr) ⟨rfl, rfl⟩ ⟨by decide, by decide⟩ (by decide) (by decide) zcl_X7_130 zw_368 zw_4 zK7 dX7_personIs_2 ?_
  refine z_astore_n_ok (pc := 5) (i := 3) C.hx C.hb dX7_personIs_5 rfl (zlt hn (by decide)) ?_
  refine z_iload_n_ok (pc := 6) (i := 2) C.hx C.hb dX7_personIs_6 rfl ?_
  refine z_iconst_ok (pc := 7) (v := 0) C.hx C.hb dX7_personIs_7 (by decide) ?_
  refine z_bipush_ok (pc := 8) (v := 6) C.hx C.hb dX7_personIs_8 (by decide) ?_
  refine z_invS_ok (pc := 10) C (by decide +kernel) (zm_X7_requireRange X.l C.htr) ⟨rfl, rfl⟩ ⟨by decide, by decide⟩ (by decide) (by decide) zcl_X7_92 zw_243 dX7_personIs_10 ?_
  refine z_iload_n_ok (pc := 13) (i := 2) C.hx C.hb dX7_personIs_13 rfl ?_
  refine z_sw_ok (pc := 14) (tgt := 86) C.hx C.hb dX7_personIs_14 (by decide) ?_ ⟨⟨by decide, 38, 52, by decide, by decide, ?_⟩, ⟨⟨by decide, 43, 57, by decide, by decide, ?_⟩, ⟨⟨by decide, 51, 65, by decide, by decide, ?_⟩, ⟨⟨by decide, 56, 70, by decide, by decide, ?_⟩, ⟨⟨by decide, 61, 75, by decide, by decide, ?_⟩, ⟨⟨by decide, 67, 81, by decide, by decide, ?_⟩, trivial⟩⟩⟩⟩⟩⟩ (by decide)
  · refine z_aload_n_ok (pc := 86) (i := 3) C.hx C.hb dX7_personIs_86 rfl ?_
    refine z_invV_ok (pc := 87) C (by decide +kernel) (zm_X3_isDead X.l C.htr) ⟨rfl, rfl⟩ ⟨by decide, by decide⟩ (by decide) (by decide) zcl_X7_189 zw_383 zw_384 zK3 dX7_personIs_87 ?_
    refine z_if_eq_ok (pc := 90) (tgt := 97) C.hx C.hb dX7_personIs_90 (by decide) ?_ ?_
    · refine z_iconst_ok (pc := 97) (v := 0) C.hx C.hb dX7_personIs_97 (by decide) ?_
      exact zk_X7_personIs_98 C hn 
    · refine z_iconst_ok (pc := 93) (v := 1) C.hx C.hb dX7_personIs_93 (by decide) ?_
      refine z_goto_ok (pc := 94) (tgt := 98) C.hx C.hb dX7_personIs_94 (by decide) ?_
      exact zk_X7_personIs_98 C hn 
  · refine z_aload_n_ok (pc := 52) (i := 3) C.hx C.hb dX7_personIs_52 rfl ?_
    refine z_gf_ok (pc := 53) C zK3 (f := 1) (by decide) zw_320 rfl dX7_personIs_53 ?_
    exact z_iret_ok (pc := 56) C dX7_personIs_56
  · refine z_aload_n_ok (pc := 57) (i := 3) C.hx C.hb dX7_personIs_57 rfl ?_
    refine z_gf_ok (pc := 58) C zK3 (f := 2) (by decide) zw_322 rfl dX7_personIs_58 ?_
    refine z_gf_ok (pc := 61) C zK6 (f := 0) (by decide) zw_472 rfl dX7_personIs_61 ?_
    exact z_iret_ok (pc := 64) C dX7_personIs_64
  · refine z_aload_n_ok (pc := 65) (i := 3) C.hx C.hb dX7_personIs_65 rfl ?_
    refine z_gf_ok (pc := 66) C zK3 (f := 4) (by decide) zw_326 rfl dX7_personIs_66 ?_
    exact z_iret_ok (pc := 69) C dX7_personIs_69
  · refine z_aload_n_ok (pc := 70) (i := 3) C.hx C.hb dX7_personIs_70 rfl ?_
    refine z_gf_ok (pc := 71) C zK3 (f := 5) (by decide) zw_328 rfl dX7_personIs_71 ?_
    exact z_iret_ok (pc := 74) C dX7_personIs_74
  · refine z_aload_n_ok (pc := 75) (i := 0) C.hx C.hb dX7_personIs_75 rfl ?_
    refine z_aload_n_ok (pc := 76) (i := 3) C.hx C.hb dX7_personIs_76 rfl ?_
    refine z_invV_ok (pc := 77) C (by decide +kernel) (zm_X7_pointsLeft X.l C.htr) ⟨rfl, rfl⟩ ⟨by decide, by decide⟩ (by decide) (by decide) zcl_X7_161 zw_373 zw_5 zK7 dX7_personIs_77 ?_
    exact z_iret_ok (pc := 80) C dX7_personIs_80
  · refine z_aload_n_ok (pc := 81) (i := 3) C.hx C.hb dX7_personIs_81 rfl ?_
    refine z_gf_ok (pc := 82) C zK3 (f := 9) (by decide) zw_336 rfl dX7_personIs_82 ?_
    exact z_iret_ok (pc := 85) C dX7_personIs_85
def sp_X7_personIs : ZSp := fun as S K => as.length ≤ 4 ∧ zsp 4 zb_X7_personIs_0 as S K
theorem zm_X7_personIs (l : Launch) (hl : l.stackTraces = false) : zMet l yX7_personIs cX7_personIs 4 (some .int) { frames := 7, cells := 1, slots := 6, locals := 112 } 0 0 sp_X7_personIs := zMet_of hl (by decide +kernel) ⟨rfl, rfl⟩ (fun X C hn _ => zk_X7_personIs_0 C hn)
theorem dX7_ration_0 : decode cX7_ration 0 = .ok (.aload_n 0, 1) := by decide +kernel
theorem dX7_ration_1 : decode cX7_ration 1 = .ok (.iload_n 1, 1) := by decide +kernel
theorem dX7_ration_2 : decode cX7_ration 2 = .ok (.invokevirtual 88, 3) := by decide +kernel
theorem dX7_ration_5 : decode cX7_ration 5 = .ok (.astore_n 3, 1) := by decide +kernel
theorem dX7_ration_6 : decode cX7_ration 6 = .ok (.iload_n 2, 1) := by decide +kernel
theorem dX7_ration_7 : decode cX7_ration 7 = .ok (.iconst 0, 1) := by decide +kernel
theorem dX7_ration_8 : decode cX7_ration 8 = .ok (.sipush 9999, 3) := by decide +kernel
theorem dX7_ration_11 : decode cX7_ration 11 = .ok (.invokestatic 92, 3) := by decide +kernel
theorem dX7_ration_14 : decode cX7_ration 14 = .ok (.aload_n 3, 1) := by decide +kernel
theorem dX7_ration_15 : decode cX7_ration 15 = .ok (.iconst 0, 1) := by decide +kernel
theorem dX7_ration_16 : decode cX7_ration 16 = .ok (.iload_n 2, 1) := by decide +kernel
theorem dX7_ration_17 : decode cX7_ration 17 = .ok (.invokestatic 96, 3) := by decide +kernel
theorem dX7_ration_20 : decode cX7_ration 20 = .ok (.ireturn, 1) := by decide +kernel
def zb_X7_ration_0 : ZP := (z_ald 0 (z_ild 1 (z_invV 7 1 sp_X7_knownGood (z_ast 3 (z_ild 2 (z_push 0 (z_push 9999 (z_invS 3 sp_X7_requireRange (z_ald 3 (z_push 0 (z_ild 2 (z_invS 3 sp_X7_changeGood (z_ret 1)))))))))))))
set_option maxRecDepth 20000 in
theorem zk_X7_ration_0 {X : ZX} (C : zCx X cX7_ration RX7 (some .int) 7 112 1 6) (hn : X.nL = 4) : ZOK X 0 (zb_X7_ration_0) := by
  unfold zb_X7_ration_0
  refine z_aload_n_ok (pc := 0) (i := 0) C.hx C.hb dX7_ration_0 rfl ?_
  refine z_iload_n_ok (pc := 1) (i := 1) C.hx C.hb dX7_ration_1 rfl ?_
  refine z_invV_ok (pc := 2) C (by decide +kernel) (zm_X7_knownGood X.l C.htr) ⟨rfl, rfl⟩ ⟨by decide, by decide⟩ (by decide) (by decide) zcl_X7_88 zw_172 zw_0 zK7 dX7_ration_2 ?_
  refine z_astore_n_ok (pc := 5) (i := 3) C.hx C.hb dX7_ration_5 rfl (zlt hn (by decide)) ?_
  refine z_iload_n_ok (pc := 6) (i := 2) C.hx C.hb dX7_ration_6 rfl ?_
  refine z_iconst_ok (pc := 7) (v := 0) C.hx C.hb dX7_ration_7 (by decide) ?_
  refine z_sipush_ok (pc := 8) (v := 9999) C.hx C.hb dX7_ration_8 (by decide) ?_
  refine z_invS_ok (pc := 11) C (by decide +kernel) (zm_X7_requireRange X.l C.htr) ⟨rfl, rfl⟩ ⟨by decide, by decide⟩ (by decide) (by decide) zcl_X7_92 zw_243 dX7_ration_11 ?_
  refine z_aload_n_ok (pc := 14) (i := 3) C.hx C.hb dX7_ration_14 rfl ?_
  refine z_iconst_ok (pc := 15) (v := 0) C.hx C.hb dX7_ration_15 (by decide) ?_
  refine z_iload_n_ok (pc := 16) (i := 2) C.hx C.hb dX7_ration_16 rfl ?_
  refine z_invS_ok (pc := 17) C (by decide +kernel) (zm_X7_changeGood X.l C.htr) ⟨rfl, rfl⟩ ⟨by decide, by decide⟩ (by decide) (by decide) zcl_X7_96 zw_262 dX7_ration_17 ?_
  exact z_iret_ok (pc := 20) C dX7_ration_20
def sp_X7_ration : ZSp := fun as S K => as.length ≤ 4 ∧ zsp 4 zb_X7_ration_0 as S K
theorem zm_X7_ration (l : Launch) (hl : l.stackTraces = false) : zMet l yX7_ration cX7_ration 4 (some .int) { frames := 7, cells := 1, slots := 6, locals := 112 } 0 0 sp_X7_ration := zMet_of hl (by decide +kernel) ⟨rfl, rfl⟩ (fun X C hn _ => zk_X7_ration_0 C hn)
theorem dX7_requireRoom_0 : decode cX7_requireRoom 0 = .ok (.iload_n 0, 1) := by decide +kernel
theorem dX7_requireRoom_1 : decode cX7_requireRoom 1 = .ok (.iload_n 1, 1) := by decide +kernel
theorem dX7_requireRoom_2 : decode cX7_requireRoom 2 = .ok (.if_icmp .lt 14, 3) := by decide +kernel
theorem dX7_requireRoom_5 : decode cX7_requireRoom 5 = .ok (.new 165, 3) := by decide +kernel
theorem dX7_requireRoom_8 : decode cX7_requireRoom 8 = .ok (.dup, 1) := by decide +kernel
theorem dX7_requireRoom_9 : decode cX7_requireRoom 9 = .ok (.ldc_w 348, 3) := by decide +kernel
theorem dX7_requireRoom_12 : decode cX7_requireRoom 12 = .ok (.invokespecial 169, 3) := by decide +kernel
theorem dX7_requireRoom_15 : decode cX7_requireRoom 15 = .ok (.athrow, 1) := by decide +kernel
theorem dX7_requireRoom_16 : decode cX7_requireRoom 16 = .ok (.return_, 1) := by decide +kernel
def zb_X7_requireRoom_0 : ZP := (z_ild 0 (z_ild 1 (z_cmp (fun x y => x < y) (z_ret 0) (z_throw 3))))
set_option maxRecDepth 20000 in
theorem zk_X7_requireRoom_0 {X : ZX} (C : zCx X cX7_requireRoom RX7 none 6 90 1 6) (hn : X.nL = 2) : ZOK X 0 (zb_X7_requireRoom_0) := by
  unfold zb_X7_requireRoom_0
  refine z_iload_n_ok (pc := 0) (i := 0) C.hx C.hb dX7_requireRoom_0 rfl ?_
  refine z_iload_n_ok (pc := 1) (i := 1) C.hx C.hb dX7_requireRoom_1 rfl ?_
  refine z_icmp_lt_ok (pc := 2) (tgt := 16) C.hx C.hb dX7_requireRoom_2 (by decide) ?_ ?_
  · exact z_vret_ok (pc := 16) C dX7_requireRoom_16
  · exact z_throwSW_ok (pc := 5) (text := "there are as many as can be") C zth_165_169 (by decide +kernel) dX7_requireRoom_5 dX7_requireRoom_8 dX7_requireRoom_9 dX7_requireRoom_12 dX7_requireRoom_15 (by decide +kernel) (by decide) (by decide) (by decide) (by decide)
def sp_X7_requireRoom : ZSp := fun as S K => as.length ≤ 2 ∧ zsp 2 zb_X7_requireRoom_0 as S K
theorem zm_X7_requireRoom (l : Launch) (hl : l.stackTraces = false) : zMet l yX7_requireRoom cX7_requireRoom 2 none { frames := 6, cells := 1, slots := 6, locals := 90 } 0 0 sp_X7_requireRoom := zMet_of hl (by decide +kernel) ⟨rfl, rfl⟩ (fun X C hn _ => zk_X7_requireRoom_0 C hn)
theorem dX7_settle_0 : decode cX7_settle 0 = .ok (.aload_n 0, 1) := by decide +kernel
theorem dX7_settle_1 : decode cX7_settle 1 = .ok (.iload_n 1, 1) := by decide +kernel
theorem dX7_settle_2 : decode cX7_settle 2 = .ok (.invokevirtual 119, 3) := by decide +kernel
theorem dX7_settle_5 : decode cX7_settle 5 = .ok (.astore_n 3, 1) := by decide +kernel
theorem dX7_settle_6 : decode cX7_settle 6 = .ok (.aload_n 0, 1) := by decide +kernel
theorem dX7_settle_7 : decode cX7_settle 7 = .ok (.iload_n 2, 1) := by decide +kernel
theorem dX7_settle_8 : decode cX7_settle 8 = .ok (.invokevirtual 88, 3) := by decide +kernel
theorem dX7_settle_11 : decode cX7_settle 11 = .ok (.pop, 1) := by decide +kernel
theorem dX7_settle_12 : decode cX7_settle 12 = .ok (.aload_n 3, 1) := by decide +kernel
theorem dX7_settle_13 : decode cX7_settle 13 = .ok (.getfield 231, 3) := by decide +kernel
theorem dX7_settle_16 : decode cX7_settle 16 = .ok (.iload_n 2, 1) := by decide +kernel
theorem dX7_settle_17 : decode cX7_settle 17 = .ok (.aaload, 1) := by decide +kernel
theorem dX7_settle_18 : decode cX7_settle 18 = .ok (.astore 4, 2) := by decide +kernel
theorem dX7_settle_20 : decode cX7_settle 20 = .ok (.aload 4, 2) := by decide +kernel
theorem dX7_settle_22 : decode cX7_settle 22 = .ok (.getfield 251, 3) := by decide +kernel
theorem dX7_settle_25 : decode cX7_settle 25 = .ok (.aload 4, 2) := by decide +kernel
theorem dX7_settle_27 : decode cX7_settle 27 = .ok (.getfield 261, 3) := by decide +kernel
theorem dX7_settle_30 : decode cX7_settle 30 = .ok (.invokestatic 264, 3) := by decide +kernel
theorem dX7_settle_33 : decode cX7_settle 33 = .ok (.istore 5, 2) := by decide +kernel
theorem dX7_settle_35 : decode cX7_settle 35 = .ok (.aload 4, 2) := by decide +kernel
theorem dX7_settle_37 : decode cX7_settle 37 = .ok (.dup, 1) := by decide +kernel
theorem dX7_settle_38 : decode cX7_settle 38 = .ok (.getfield 251, 3) := by decide +kernel
theorem dX7_settle_41 : decode cX7_settle 41 = .ok (.iload 5, 2) := by decide +kernel
theorem dX7_settle_43 : decode cX7_settle 43 = .ok (.isub, 1) := by decide +kernel
theorem dX7_settle_44 : decode cX7_settle 44 = .ok (.putfield 251, 3) := by decide +kernel
theorem dX7_settle_47 : decode cX7_settle 47 = .ok (.aload 4, 2) := by decide +kernel
theorem dX7_settle_49 : decode cX7_settle 49 = .ok (.dup, 1) := by decide +kernel
theorem dX7_settle_50 : decode cX7_settle 50 = .ok (.getfield 261, 3) := by decide +kernel
theorem dX7_settle_53 : decode cX7_settle 53 = .ok (.iload 5, 2) := by decide +kernel
theorem dX7_settle_55 : decode cX7_settle 55 = .ok (.isub, 1) := by decide +kernel
theorem dX7_settle_56 : decode cX7_settle 56 = .ok (.putfield 261, 3) := by decide +kernel
theorem dX7_settle_59 : decode cX7_settle 59 = .ok (.iload 5, 2) := by decide +kernel
theorem dX7_settle_61 : decode cX7_settle 61 = .ok (.ireturn, 1) := by decide +kernel
def zb_X7_settle_0 : ZP := (z_ald 0 (z_ild 1 (z_invV 7 1 sp_X7_knownShop (z_ast 3 (z_ald 0 (z_ild 2 (z_invV 7 1 sp_X7_knownGood (z_pop (z_ald 3 (z_gf 6 2 (z_ild 2 (z_aald (z_ast 4 (z_ald 4 (z_gf 5 1 (z_ald 4 (z_gf 5 2 (z_mm (fun x y => if y < x then y else x) (z_ist 5 (z_ald 4 (z_dup (z_gf 5 1 (z_ild 5 (z_bin (fun x y => x - y) (z_pf 5 1 (z_ald 4 (z_dup (z_gf 5 2 (z_ild 5 (z_bin (fun x y => x - y) (z_pf 5 2 (z_ild 5 (z_ret 1)))))))))))))))))))))))))))))))))
set_option maxRecDepth 20000 in
theorem zk_X7_settle_0 {X : ZX} (C : zCx X cX7_settle RX7 (some .int) 7 111 1 6) (hn : X.nL = 6) : ZOK X 0 (zb_X7_settle_0) := by
  unfold zb_X7_settle_0
  refine z_aload_n_ok (pc := 0) (i := 0) C.hx C.hb dX7_settle_0 rfl ?_
  refine z_iload_n_ok (pc := 1) (i := 1) C.hx C.hb dX7_settle_1 rfl ?_
  refine z_invV_ok (pc := 2) C (by decide +kernel) (zm_X7_knownShop X.l C.htr) ⟨rfl, rfl⟩ ⟨by decide, by decide⟩ (by decide) (by decide) zcl_X7_119 zw_290 zw_3 zK7 dX7_settle_2 ?_
  refine z_astore_n_ok (pc := 5) (i := 3) C.hx C.hb dX7_settle_5 rfl (zlt hn (by decide)) ?_
  refine z_aload_n_ok (pc := 6) (i := 0) C.hx C.hb dX7_settle_6 rfl ?_
  refine z_iload_n_ok (pc := 7) (i := 2) C.hx C.hb dX7_settle_7 rfl ?_
  refine z_invV_ok (pc := 8) C (by decide +kernel) (zm_X7_knownGood X.l C.htr) ⟨rfl, rfl⟩ ⟨by decide, by decide⟩ (by decide) (by decide) zcl_X7_88 zw_172 zw_0 zK7 dX7_settle_8 ?_
  refine z_pop_ok (pc := 11) C.hx C.hb dX7_settle_11 ?_
  refine z_aload_n_ok (pc := 12) (i := 3) C.hx C.hb dX7_settle_12 rfl ?_
  refine z_gf_ok (pc := 13) C zK6 (f := 2) (by decide) zw_476 rfl dX7_settle_13 ?_
  refine z_iload_n_ok (pc := 16) (i := 2) C.hx C.hb dX7_settle_16 rfl ?_
  refine z_aald_ok (pc := 17) C dX7_settle_17 ?_
  refine z_astore_ok (pc := 18) (i := 4) C.hx C.hb dX7_settle_18 (zlt hn (by decide)) ?_
  refine z_aload_ok (pc := 20) (i := 4) C.hx C.hb dX7_settle_20 ?_
  refine z_gf_ok (pc := 22) C zK5 (f := 1) (by decide) zw_449 rfl dX7_settle_22 ?_
  refine z_aload_ok (pc := 25) (i := 4) C.hx C.hb dX7_settle_25 ?_
  refine z_gf_ok (pc := 27) C zK5 (f := 2) (by decide) zw_451 rfl dX7_settle_27 ?_
  refine z_min_ok (pc := 30) C (by decide) (by decide) zw_497 zw_498 zw_40 zw_499 dX7_settle_30 ?_
  refine z_istore_ok (pc := 33) (i := 5) C.hx C.hb dX7_settle_33 (zlt hn (by decide)) ?_
  refine z_aload_ok (pc := 35) (i := 4) C.hx C.hb dX7_settle_35 ?_
  refine z_dup_ok (pc := 37) C.hx C.hb dX7_settle_37 ?_
  refine z_gf_ok (pc := 38) C zK5 (f := 1) (by decide) zw_449 rfl dX7_settle_38 ?_
  refine z_iload_ok (pc := 41) (i := 5) C.hx C.hb dX7_settle_41 ?_
  refine z_isub_ok (pc := 43) C.hx C.hb dX7_settle_43 ?_
  refine z_pf_ok (pc := 44) C zK5 rfl rfl (f := 1) (by decide) zw_449 rfl rfl (by decide +kernel) dX7_settle_44 ?_
  refine z_aload_ok (pc := 47) (i := 4) C.hx C.hb dX7_settle_47 ?_
  refine z_dup_ok (pc := 49) C.hx C.hb dX7_settle_49 ?_
  refine z_gf_ok (pc := 50) C zK5 (f := 2) (by decide) zw_451 rfl dX7_settle_50 ?_
  refine z_iload_ok (pc := 53) (i := 5) C.hx C.hb dX7_settle_53 ?_
  refine z_isub_ok (pc := 55) C.hx C.hb dX7_settle_55 ?_
  refine z_pf_ok (pc := 56) C zK5 rfl rfl (f := 2) (by decide) zw_451 rfl rfl (by decide +kernel) dX7_settle_56 ?_
  refine z_iload_ok (pc := 59) (i := 5) C.hx C.hb dX7_settle_59 ?_
  exact z_iret_ok (pc := 61) C dX7_settle_61
def sp_X7_settle : ZSp := fun as S K => as.length ≤ 6 ∧ zsp 6 zb_X7_settle_0 as S K
theorem zm_X7_settle (l : Launch) (hl : l.stackTraces = false) : zMet l yX7_settle cX7_settle 6 (some .int) { frames := 7, cells := 1, slots := 6, locals := 111 } 0 0 sp_X7_settle := zMet_of hl (by decide +kernel) ⟨rfl, rfl⟩ (fun X C hn _ => zk_X7_settle_0 C hn)
theorem dX7_ship_0 : decode cX7_ship 0 = .ok (.aload_n 0, 1) := by decide +kernel
theorem dX7_ship_1 : decode cX7_ship 1 = .ok (.iload_n 1, 1) := by decide +kernel
theorem dX7_ship_2 : decode cX7_ship 2 = .ok (.invokevirtual 206, 3) := by decide +kernel
theorem dX7_ship_5 : decode cX7_ship 5 = .ok (.astore 4, 2) := by decide +kernel
theorem dX7_ship_7 : decode cX7_ship 7 = .ok (.aload_n 0, 1) := by decide +kernel
theorem dX7_ship_8 : decode cX7_ship 8 = .ok (.iload_n 2, 1) := by decide +kernel
theorem dX7_ship_9 : decode cX7_ship 9 = .ok (.invokevirtual 88, 3) := by decide +kernel
theorem dX7_ship_12 : decode cX7_ship 12 = .ok (.pop, 1) := by decide +kernel
theorem dX7_ship_13 : decode cX7_ship 13 = .ok (.iload_n 3, 1) := by decide +kernel
theorem dX7_ship_14 : decode cX7_ship 14 = .ok (.iconst 1, 1) := by decide +kernel
theorem dX7_ship_15 : decode cX7_ship 15 = .ok (.ldc 214, 2) := by decide +kernel
theorem dX7_ship_17 : decode cX7_ship 17 = .ok (.invokestatic 92, 3) := by decide +kernel
theorem dX7_ship_20 : decode cX7_ship 20 = .ok (.aload_n 0, 1) := by decide +kernel
theorem dX7_ship_21 : decode cX7_ship 21 = .ok (.aload 4, 2) := by decide +kernel
theorem dX7_ship_23 : decode cX7_ship 23 = .ok (.iload_n 2, 1) := by decide +kernel
theorem dX7_ship_24 : decode cX7_ship 24 = .ok (.iload_n 3, 1) := by decide +kernel
theorem dX7_ship_25 : decode cX7_ship 25 = .ok (.invokevirtual 215, 3) := by decide +kernel
theorem dX7_ship_28 : decode cX7_ship 28 = .ok (.aload 4, 2) := by decide +kernel
theorem dX7_ship_30 : decode cX7_ship 30 = .ok (.getfield 219, 3) := by decide +kernel
theorem dX7_ship_33 : decode cX7_ship 33 = .ok (.iload_n 2, 1) := by decide +kernel
theorem dX7_ship_34 : decode cX7_ship 34 = .ok (.iaload, 1) := by decide +kernel
theorem dX7_ship_35 : decode cX7_ship 35 = .ok (.ireturn, 1) := by decide +kernel
def zb_X7_ship_0 : ZP := (z_ald 0 (z_ild 1 (z_invV 7 1 sp_X7_knownDepot (z_ast 4 (z_ald 0 (z_ild 2 (z_invV 7 1 sp_X7_knownGood (z_pop (z_ild 3 (z_push 1 (z_push 99999 (z_invS 3 sp_X7_requireRange (z_ald 0 (z_ald 4 (z_ild 2 (z_ild 3 (z_invV 7 3 sp_X7_bringTo (z_ald 4 (z_gf 0 2 (z_ild 2 (z_iald (z_ret 1))))))))))))))))))))))
set_option maxRecDepth 20000 in
theorem zk_X7_ship_0 {X : ZX} (C : zCx X cX7_ship RX7 (some .int) 7 112 1 6) (hn : X.nL = 5) : ZOK X 0 (zb_X7_ship_0) := by
  unfold zb_X7_ship_0
  refine z_aload_n_ok (pc := 0) (i := 0) C.hx C.hb dX7_ship_0 rfl ?_
  refine z_iload_n_ok (pc := 1) (i := 1) C.hx C.hb dX7_ship_1 rfl ?_
  refine z_invV_ok (pc := 2) C (by decide +kernel) (zm_X7_knownDepot X.l C.htr) ⟨rfl, rfl⟩ ⟨by decide, by decide⟩ (by decide) (by decide) zcl_X7_206 zw_409 zw_7 zK7 dX7_ship_2 ?_
  refine z_astore_ok (pc := 5) (i := 4) C.hx C.hb dX7_ship_5 (zlt hn (by decide)) ?_
  refine z_aload_n_ok (pc := 7) (i := 0) C.hx C.hb dX7_ship_7 rfl ?_
  refine z_iload_n_ok (pc := 8) (i := 2) C.hx C.hb dX7_ship_8 rfl ?_
  refine z_invV_ok (pc := 9) C (by decide +kernel) (zm_X7_knownGood X.l C.htr) ⟨rfl, rfl⟩ ⟨by decide, by decide⟩ (by decide) (by decide) zcl_X7_88 zw_172 zw_0 zK7 dX7_ship_9 ?_
  refine z_pop_ok (pc := 12) C.hx C.hb dX7_ship_12 ?_
  refine z_iload_n_ok (pc := 13) (i := 3) C.hx C.hb dX7_ship_13 rfl ?_
  refine z_iconst_ok (pc := 14) (v := 1) C.hx C.hb dX7_ship_14 (by decide) ?_
  refine z_ldc_ok (pc := 15) C zw_488 dX7_ship_15 ?_
  refine z_invS_ok (pc := 17) C (by decide +kernel) (zm_X7_requireRange X.l C.htr) ⟨rfl, rfl⟩ ⟨by decide, by decide⟩ (by decide) (by decide) zcl_X7_92 zw_243 dX7_ship_17 ?_
  refine z_aload_n_ok (pc := 20) (i := 0) C.hx C.hb dX7_ship_20 rfl ?_
  refine z_aload_ok (pc := 21) (i := 4) C.hx C.hb dX7_ship_21 ?_
  refine z_iload_n_ok (pc := 23) (i := 2) C.hx C.hb dX7_ship_23 rfl ?_
  refine z_iload_n_ok (pc := 24) (i := 3) C.hx C.hb dX7_ship_24 rfl ?_
  refine z_invV_ok (pc := 25) C (by decide +kernel) (zm_X7_bringTo X.l C.htr) ⟨rfl, rfl⟩ ⟨by decide, by decide⟩ (by decide) (by decide) zcl_X7_215 zw_491 zw_8 zK7 dX7_ship_25 ?_
  refine z_aload_ok (pc := 28) (i := 4) C.hx C.hb dX7_ship_28 ?_
  refine z_gf_ok (pc := 30) C zK0 (f := 2) (by decide) zw_422 rfl dX7_ship_30 ?_
  refine z_iload_n_ok (pc := 33) (i := 2) C.hx C.hb dX7_ship_33 rfl ?_
  refine z_iald_ok (pc := 34) C dX7_ship_34 ?_
  exact z_iret_ok (pc := 35) C dX7_ship_35
def sp_X7_ship : ZSp := fun as S K => as.length ≤ 5 ∧ zsp 5 zb_X7_ship_0 as S K
theorem zm_X7_ship (l : Launch) (hl : l.stackTraces = false) : zMet l yX7_ship cX7_ship 5 (some .int) { frames := 7, cells := 1, slots := 6, locals := 112 } 0 0 sp_X7_ship := zMet_of hl (by decide +kernel) ⟨rfl, rfl⟩ (fun X C hn _ => zk_X7_ship_0 C hn)
theorem dX7_shopIs_0 : decode cX7_shopIs 0 = .ok (.aload_n 0, 1) := by decide +kernel
theorem dX7_shopIs_1 : decode cX7_shopIs 1 = .ok (.iload_n 1, 1) := by decide +kernel
theorem dX7_shopIs_2 : decode cX7_shopIs 2 = .ok (.invokevirtual 119, 3) := by decide +kernel
theorem dX7_shopIs_5 : decode cX7_shopIs 5 = .ok (.astore 4, 2) := by decide +kernel
theorem dX7_shopIs_7 : decode cX7_shopIs 7 = .ok (.aload_n 0, 1) := by decide +kernel
theorem dX7_shopIs_8 : decode cX7_shopIs 8 = .ok (.iload_n 2, 1) := by decide +kernel
theorem dX7_shopIs_9 : decode cX7_shopIs 9 = .ok (.invokevirtual 88, 3) := by decide +kernel
theorem dX7_shopIs_12 : decode cX7_shopIs 12 = .ok (.pop, 1) := by decide +kernel
theorem dX7_shopIs_13 : decode cX7_shopIs 13 = .ok (.iload_n 3, 1) := by decide +kernel
theorem dX7_shopIs_14 : decode cX7_shopIs 14 = .ok (.iconst 0, 1) := by decide +kernel
theorem dX7_shopIs_15 : decode cX7_shopIs 15 = .ok (.iconst 4, 1) := by decide +kernel
theorem dX7_shopIs_16 : decode cX7_shopIs 16 = .ok (.invokestatic 92, 3) := by decide +kernel
theorem dX7_shopIs_19 : decode cX7_shopIs 19 = .ok (.aload 4, 2) := by decide +kernel
theorem dX7_shopIs_21 : decode cX7_shopIs 21 = .ok (.getfield 231, 3) := by decide +kernel
theorem dX7_shopIs_24 : decode cX7_shopIs 24 = .ok (.iload_n 2, 1) := by decide +kernel
theorem dX7_shopIs_25 : decode cX7_shopIs 25 = .ok (.aaload, 1) := by decide +kernel
theorem dX7_shopIs_26 : decode cX7_shopIs 26 = .ok (.astore 5, 2) := by decide +kernel
theorem dX7_shopIs_28 : decode cX7_shopIs 28 = .ok (.iload_n 3, 1) := by decide +kernel
theorem dX7_shopIs_29 : decode cX7_shopIs 29 = .ok (.tableswitch 67 0 3 #[31, 37, 43, 49], 31) := by decide +kernel
theorem dX7_shopIs_60 : decode cX7_shopIs 60 = .ok (.aload 5, 2) := by decide +kernel
theorem dX7_shopIs_62 : decode cX7_shopIs 62 = .ok (.getfield 235, 3) := by decide +kernel
theorem dX7_shopIs_65 : decode cX7_shopIs 65 = .ok (.ireturn, 1) := by decide +kernel
theorem dX7_shopIs_66 : decode cX7_shopIs 66 = .ok (.aload 5, 2) := by decide +kernel
theorem dX7_shopIs_68 : decode cX7_shopIs 68 = .ok (.getfield 251, 3) := by decide +kernel
theorem dX7_shopIs_71 : decode cX7_shopIs 71 = .ok (.ireturn, 1) := by decide +kernel
theorem dX7_shopIs_72 : decode cX7_shopIs 72 = .ok (.aload 5, 2) := by decide +kernel
theorem dX7_shopIs_74 : decode cX7_shopIs 74 = .ok (.getfield 261, 3) := by decide +kernel
theorem dX7_shopIs_77 : decode cX7_shopIs 77 = .ok (.ireturn, 1) := by decide +kernel
theorem dX7_shopIs_78 : decode cX7_shopIs 78 = .ok (.aload 5, 2) := by decide +kernel
theorem dX7_shopIs_80 : decode cX7_shopIs 80 = .ok (.getfield 278, 3) := by decide +kernel
theorem dX7_shopIs_83 : decode cX7_shopIs 83 = .ok (.aload 5, 2) := by decide +kernel
theorem dX7_shopIs_85 : decode cX7_shopIs 85 = .ok (.getfield 281, 3) := by decide +kernel
theorem dX7_shopIs_88 : decode cX7_shopIs 88 = .ok (.isub, 1) := by decide +kernel
theorem dX7_shopIs_89 : decode cX7_shopIs 89 = .ok (.aload 5, 2) := by decide +kernel
theorem dX7_shopIs_91 : decode cX7_shopIs 91 = .ok (.getfield 235, 3) := by decide +kernel
theorem dX7_shopIs_94 : decode cX7_shopIs 94 = .ok (.isub, 1) := by decide +kernel
theorem dX7_shopIs_95 : decode cX7_shopIs 95 = .ok (.ireturn, 1) := by decide +kernel
theorem dX7_shopIs_96 : decode cX7_shopIs 96 = .ok (.aload 5, 2) := by decide +kernel
theorem dX7_shopIs_98 : decode cX7_shopIs 98 = .ok (.getfield 282, 3) := by decide +kernel
theorem dX7_shopIs_101 : decode cX7_shopIs 101 = .ok (.ireturn, 1) := by decide +kernel
def zb_X7_shopIs_0 : ZP := (z_ald 0 (z_ild 1 (z_invV 7 1 sp_X7_knownShop (z_ast 4 (z_ald 0 (z_ild 2 (z_invV 7 1 sp_X7_knownGood (z_pop (z_ild 3 (z_push 0 (z_push 4 (z_invS 3 sp_X7_requireRange (z_ald 4 (z_gf 6 2 (z_ild 2 (z_aald (z_ast 5 (z_ild 3 (z_sw [(0, (z_ald 5 (z_gf 5 0 (z_ret 1)))), (1, (z_ald 5 (z_gf 5 1 (z_ret 1)))), (2, (z_ald 5 (z_gf 5 2 (z_ret 1)))), (3, (z_ald 5 (z_gf 5 3 (z_ald 5 (z_gf 5 4 (z_bin (fun x y => x - y) (z_ald 5 (z_gf 5 0 (z_bin (fun x y => x - y) (z_ret 1))))))))))] (z_ald 5 (z_gf 5 5 (z_ret 1))))))))))))))))))))))
set_option maxRecDepth 20000 in
theorem zk_X7_shopIs_0 {X : ZX} (C : zCx X cX7_shopIs RX7 (some .int) 7 112 1 6) (hn : X.nL = 6) : ZOK X 0 (zb_X7_shopIs_0) := by
  unfold zb_X7_shopIs_0
  refine z_aload_n_ok (pc := 0) (i := 0) C.hx C.hb dX7_shopIs_0 rfl ?_
  refine z_iload_n_ok (pc := 1) (i := 1) C.hx C.hb dX7_shopIs_1 rfl ?_
  refine z_invV_ok (pc := 2) C (by decide +kernel) (zm_X7_knownShop X.l C.htr) ⟨rfl, rfl⟩ ⟨by decide, by decide⟩ (by decide) (by decide) zcl_X7_119 zw_290 zw_3 zK7 dX7_shopIs_2 ?_
  refine z_astore_ok (pc := 5) (i := 4) C.hx C.hb dX7_shopIs_5 (zlt hn (by decide)) ?_
  refine z_aload_n_ok (pc := 7) (i := 0) C.hx C.hb dX7_shopIs_7 rfl ?_
  refine z_iload_n_ok (pc := 8) (i := 2) C.hx C.hb dX7_shopIs_8 rfl ?_
  refine z_invV_ok (pc := 9) C (by decide +kernel) (zm_X7_knownGood X.l C.htr) ⟨rfl, rfl⟩ ⟨by decide, by decide⟩ (by decide) (by decide) zcl_X7_88 zw_172 zw_0 zK7 dX7_shopIs_9 ?_
  refine z_pop_ok (pc := 12) C.hx C.hb dX7_shopIs_12 ?_
  refine z_iload_n_ok (pc := 13) (i := 3) C.hx C.hb dX7_shopIs_13 rfl ?_
  refine z_iconst_ok (pc := 14) (v := 0) C.hx C.hb dX7_shopIs_14 (by decide) ?_
  refine z_iconst_ok (pc := 15) (v := 4) C.hx C.hb dX7_shopIs_15 (by decide) ?_
  refine z_invS_ok (pc := 16) C (by decide +kernel) (zm_X7_requireRange X.l C.htr) ⟨rfl, rfl⟩ ⟨by decide, by decide⟩ (by decide) (by decide) zcl_X7_92 zw_243 dX7_shopIs_16 ?_
  refine z_aload_ok (pc := 19) (i := 4) C.hx C.hb dX7_shopIs_19 ?_
  refine z_gf_ok (pc := 21) C zK6 (f := 2) (by decide) zw_476 rfl dX7_shopIs_21 ?_
  refine z_iload_n_ok (pc := 24) (i := 2) C.hx C.hb dX7_shopIs_24 rfl ?_
  refine z_aald_ok (pc := 25) C dX7_shopIs_25 ?_
  refine z_astore_ok (pc := 26) (i := 5) C.hx C.hb dX7_shopIs_26 (zlt hn (by decide)) ?_
  refine z_iload_n_ok (pc := 28) (i := 3) C.hx C.hb dX7_shopIs_28 rfl ?_
  refine z_sw_ok (pc := 29) (tgt := 96) C.hx C.hb dX7_shopIs_29 (by decide) ?_ ⟨⟨by decide, 31, 60, by decide, by decide, ?_⟩, ⟨⟨by decide, 37, 66, by decide, by decide, ?_⟩, ⟨⟨by decide, 43, 72, by decide, by decide, ?_⟩, ⟨⟨by decide, 49, 78, by decide, by decide, ?_⟩, trivial⟩⟩⟩⟩ (by decide)
  · refine z_aload_ok (pc := 96) (i := 5) C.hx C.hb dX7_shopIs_96 ?_
    refine z_gf_ok (pc := 98) C zK5 (f := 5) (by decide) zw_457 rfl dX7_shopIs_98 ?_
    exact z_iret_ok (pc := 101) C dX7_shopIs_101
  · refine z_aload_ok (pc := 60) (i := 5) C.hx C.hb dX7_shopIs_60 ?_
    refine z_gf_ok (pc := 62) C zK5 (f := 0) (by decide) zw_447 rfl dX7_shopIs_62 ?_
    exact z_iret_ok (pc := 65) C dX7_shopIs_65
  · refine z_aload_ok (pc := 66) (i := 5) C.hx C.hb dX7_shopIs_66 ?_
    refine z_gf_ok (pc := 68) C zK5 (f := 1) (by decide) zw_449 rfl dX7_shopIs_68 ?_
    exact z_iret_ok (pc := 71) C dX7_shopIs_71
  · refine z_aload_ok (pc := 72) (i := 5) C.hx C.hb dX7_shopIs_72 ?_
    refine z_gf_ok (pc := 74) C zK5 (f := 2) (by decide) zw_451 rfl dX7_shopIs_74 ?_
    exact z_iret_ok (pc := 77) C dX7_shopIs_77
  · refine z_aload_ok (pc := 78) (i := 5) C.hx C.hb dX7_shopIs_78 ?_
    refine z_gf_ok (pc := 80) C zK5 (f := 3) (by decide) zw_453 rfl dX7_shopIs_80 ?_
    refine z_aload_ok (pc := 83) (i := 5) C.hx C.hb dX7_shopIs_83 ?_
    refine z_gf_ok (pc := 85) C zK5 (f := 4) (by decide) zw_455 rfl dX7_shopIs_85 ?_
    refine z_isub_ok (pc := 88) C.hx C.hb dX7_shopIs_88 ?_
    refine z_aload_ok (pc := 89) (i := 5) C.hx C.hb dX7_shopIs_89 ?_
    refine z_gf_ok (pc := 91) C zK5 (f := 0) (by decide) zw_447 rfl dX7_shopIs_91 ?_
    refine z_isub_ok (pc := 94) C.hx C.hb dX7_shopIs_94 ?_
    exact z_iret_ok (pc := 95) C dX7_shopIs_95
def sp_X7_shopIs : ZSp := fun as S K => as.length ≤ 6 ∧ zsp 6 zb_X7_shopIs_0 as S K
theorem zm_X7_shopIs (l : Launch) (hl : l.stackTraces = false) : zMet l yX7_shopIs cX7_shopIs 6 (some .int) { frames := 7, cells := 1, slots := 6, locals := 112 } 0 0 sp_X7_shopIs := zMet_of hl (by decide +kernel) ⟨rfl, rfl⟩ (fun X C hn _ => zk_X7_shopIs_0 C hn)
theorem dX7_steal_0 : decode cX7_steal 0 = .ok (.aload_n 0, 1) := by decide +kernel
theorem dX7_steal_1 : decode cX7_steal 1 = .ok (.iload_n 1, 1) := by decide +kernel
theorem dX7_steal_2 : decode cX7_steal 2 = .ok (.invokevirtual 119, 3) := by decide +kernel
theorem dX7_steal_5 : decode cX7_steal 5 = .ok (.astore 4, 2) := by decide +kernel
theorem dX7_steal_7 : decode cX7_steal 7 = .ok (.aload_n 0, 1) := by decide +kernel
theorem dX7_steal_8 : decode cX7_steal 8 = .ok (.iload_n 2, 1) := by decide +kernel
theorem dX7_steal_9 : decode cX7_steal 9 = .ok (.invokevirtual 88, 3) := by decide +kernel
theorem dX7_steal_12 : decode cX7_steal 12 = .ok (.astore 5, 2) := by decide +kernel
theorem dX7_steal_14 : decode cX7_steal 14 = .ok (.iload_n 3, 1) := by decide +kernel
theorem dX7_steal_15 : decode cX7_steal 15 = .ok (.iconst 1, 1) := by decide +kernel
theorem dX7_steal_16 : decode cX7_steal 16 = .ok (.sipush 9999, 3) := by decide +kernel
theorem dX7_steal_19 : decode cX7_steal 19 = .ok (.invokestatic 92, 3) := by decide +kernel
theorem dX7_steal_22 : decode cX7_steal 22 = .ok (.aload 4, 2) := by decide +kernel
theorem dX7_steal_24 : decode cX7_steal 24 = .ok (.getfield 231, 3) := by decide +kernel
theorem dX7_steal_27 : decode cX7_steal 27 = .ok (.iload_n 2, 1) := by decide +kernel
theorem dX7_steal_28 : decode cX7_steal 28 = .ok (.aaload, 1) := by decide +kernel
theorem dX7_steal_29 : decode cX7_steal 29 = .ok (.astore 6, 2) := by decide +kernel
theorem dX7_steal_31 : decode cX7_steal 31 = .ok (.aload 6, 2) := by decide +kernel
theorem dX7_steal_33 : decode cX7_steal 33 = .ok (.getfield 235, 3) := by decide +kernel
theorem dX7_steal_36 : decode cX7_steal 36 = .ok (.iload_n 3, 1) := by decide +kernel
theorem dX7_steal_37 : decode cX7_steal 37 = .ok (.invokestatic 222, 3) := by decide +kernel
theorem dX7_steal_40 : decode cX7_steal 40 = .ok (.aload 6, 2) := by decide +kernel
theorem dX7_steal_42 : decode cX7_steal 42 = .ok (.dup, 1) := by decide +kernel
theorem dX7_steal_43 : decode cX7_steal 43 = .ok (.getfield 235, 3) := by decide +kernel
theorem dX7_steal_46 : decode cX7_steal 46 = .ok (.iload_n 3, 1) := by decide +kernel
theorem dX7_steal_47 : decode cX7_steal 47 = .ok (.isub, 1) := by decide +kernel
theorem dX7_steal_48 : decode cX7_steal 48 = .ok (.putfield 235, 3) := by decide +kernel
theorem dX7_steal_51 : decode cX7_steal 51 = .ok (.aload 5, 2) := by decide +kernel
theorem dX7_steal_53 : decode cX7_steal 53 = .ok (.dup, 1) := by decide +kernel
theorem dX7_steal_54 : decode cX7_steal 54 = .ok (.getfield 116, 3) := by decide +kernel
theorem dX7_steal_57 : decode cX7_steal 57 = .ok (.iload_n 3, 1) := by decide +kernel
theorem dX7_steal_58 : decode cX7_steal 58 = .ok (.iadd, 1) := by decide +kernel
theorem dX7_steal_59 : decode cX7_steal 59 = .ok (.putfield 116, 3) := by decide +kernel
theorem dX7_steal_62 : decode cX7_steal 62 = .ok (.aload 5, 2) := by decide +kernel
theorem dX7_steal_64 : decode cX7_steal 64 = .ok (.getfield 116, 3) := by decide +kernel
theorem dX7_steal_67 : decode cX7_steal 67 = .ok (.ireturn, 1) := by decide +kernel
def zb_X7_steal_0 : ZP := (z_ald 0 (z_ild 1 (z_invV 7 1 sp_X7_knownShop (z_ast 4 (z_ald 0 (z_ild 2 (z_invV 7 1 sp_X7_knownGood (z_ast 5 (z_ild 3 (z_push 1 (z_push 9999 (z_invS 3 sp_X7_requireRange (z_ald 4 (z_gf 6 2 (z_ild 2 (z_aald (z_ast 6 (z_ald 6 (z_gf 5 0 (z_ild 3 (z_invS 2 sp_X7_requireEnough (z_ald 6 (z_dup (z_gf 5 0 (z_ild 3 (z_bin (fun x y => x - y) (z_pf 5 0 (z_ald 5 (z_dup (z_gf 2 4 (z_ild 3 (z_bin (fun x y => x + y) (z_pf 2 4 (z_ald 5 (z_gf 2 4 (z_ret 1))))))))))))))))))))))))))))))))))))
set_option maxRecDepth 20000 in
theorem zk_X7_steal_0 {X : ZX} (C : zCx X cX7_steal RX7 (some .int) 7 112 1 6) (hn : X.nL = 7) : ZOK X 0 (zb_X7_steal_0) := by
  unfold zb_X7_steal_0
  refine z_aload_n_ok (pc := 0) (i := 0) C.hx C.hb dX7_steal_0 rfl ?_
  refine z_iload_n_ok (pc := 1) (i := 1) C.hx C.hb dX7_steal_1 rfl ?_
  refine z_invV_ok (pc := 2) C (by decide +kernel) (zm_X7_knownShop X.l C.htr) ⟨rfl, rfl⟩ ⟨by decide, by decide⟩ (by decide) (by decide) zcl_X7_119 zw_290 zw_3 zK7 dX7_steal_2 ?_
  refine z_astore_ok (pc := 5) (i := 4) C.hx C.hb dX7_steal_5 (zlt hn (by decide)) ?_
  refine z_aload_n_ok (pc := 7) (i := 0) C.hx C.hb dX7_steal_7 rfl ?_
  refine z_iload_n_ok (pc := 8) (i := 2) C.hx C.hb dX7_steal_8 rfl ?_
  refine z_invV_ok (pc := 9) C (by decide +kernel) (zm_X7_knownGood X.l C.htr) ⟨rfl, rfl⟩ ⟨by decide, by decide⟩ (by decide) (by decide) zcl_X7_88 zw_172 zw_0 zK7 dX7_steal_9 ?_
  refine z_astore_ok (pc := 12) (i := 5) C.hx C.hb dX7_steal_12 (zlt hn (by decide)) ?_
  refine z_iload_n_ok (pc := 14) (i := 3) C.hx C.hb dX7_steal_14 rfl ?_
  refine z_iconst_ok (pc := 15) (v := 1) C.hx C.hb dX7_steal_15 (by decide) ?_
  refine z_sipush_ok (pc := 16) (v := 9999) C.hx C.hb dX7_steal_16 (by decide) ?_
  refine z_invS_ok (pc := 19) C (by decide +kernel) (zm_X7_requireRange X.l C.htr) ⟨rfl, rfl⟩ ⟨by decide, by decide⟩ (by decide) (by decide) zcl_X7_92 zw_243 dX7_steal_19 ?_
  refine z_aload_ok (pc := 22) (i := 4) C.hx C.hb dX7_steal_22 ?_
  refine z_gf_ok (pc := 24) C zK6 (f := 2) (by decide) zw_476 rfl dX7_steal_24 ?_
  refine z_iload_n_ok (pc := 27) (i := 2) C.hx C.hb dX7_steal_27 rfl ?_
  refine z_aald_ok (pc := 28) C dX7_steal_28 ?_
  refine z_astore_ok (pc := 29) (i := 6) C.hx C.hb dX7_steal_29 (zlt hn (by decide)) ?_
  refine z_aload_ok (pc := 31) (i := 6) C.hx C.hb dX7_steal_31 ?_
  refine z_gf_ok (pc := 33) C zK5 (f := 0) (by decide) zw_447 rfl dX7_steal_33 ?_
  refine z_iload_n_ok (pc := 36) (i := 3) C.hx C.hb dX7_steal_36 rfl ?_
  refine z_invS_ok (pc := 37) C (by decide +kernel) (zm_X7_requireEnough X.l C.htr) ⟨rfl, rfl⟩ ⟨by decide, by decide⟩ (by decide) (by decide) zcl_X7_222 zw_653 dX7_steal_37 ?_
  refine z_aload_ok (pc := 40) (i := 6) C.hx C.hb dX7_steal_40 ?_
  refine z_dup_ok (pc := 42) C.hx C.hb dX7_steal_42 ?_
  refine z_gf_ok (pc := 43) C zK5 (f := 0) (by decide) zw_447 rfl dX7_steal_43 ?_
  refine z_iload_n_ok (pc := 46) (i := 3) C.hx C.hb dX7_steal_46 rfl ?_
  refine z_isub_ok (pc := 47) C.hx C.hb dX7_steal_47 ?_
  refine z_pf_ok (pc := 48) C zK5 rfl rfl (f := 0) (by decide) zw_447 rfl rfl (by decide +kernel) dX7_steal_48 ?_
  refine z_aload_ok (pc := 51) (i := 5) C.hx C.hb dX7_steal_51 ?_
  refine z_dup_ok (pc := 53) C.hx C.hb dX7_steal_53 ?_
  refine z_gf_ok (pc := 54) C zK2 (f := 4) (by decide) zw_96 rfl dX7_steal_54 ?_
  refine z_iload_n_ok (pc := 57) (i := 3) C.hx C.hb dX7_steal_57 rfl ?_
  refine z_iadd_ok (pc := 58) C.hx C.hb dX7_steal_58 ?_
  refine z_pf_ok (pc := 59) C zK2 rfl rfl (f := 4) (by decide) zw_96 rfl rfl (by decide +kernel) dX7_steal_59 ?_
  refine z_aload_ok (pc := 62) (i := 5) C.hx C.hb dX7_steal_62 ?_
  refine z_gf_ok (pc := 64) C zK2 (f := 4) (by decide) zw_96 rfl dX7_steal_64 ?_
  exact z_iret_ok (pc := 67) C dX7_steal_67
def sp_X7_steal : ZSp := fun as S K => as.length ≤ 7 ∧ zsp 7 zb_X7_steal_0 as S K
theorem zm_X7_steal (l : Launch) (hl : l.stackTraces = false) : zMet l yX7_steal cX7_steal 7 (some .int) { frames := 7, cells := 1, slots := 6, locals := 112 } 0 0 sp_X7_steal := zMet_of hl (by decide +kernel) ⟨rfl, rfl⟩ (fun X C hn _ => zk_X7_steal_0 C hn)
theorem dX7_stealBook_0 : decode cX7_stealBook 0 = .ok (.aload_n 0, 1) := by decide +kernel
theorem dX7_stealBook_1 : decode cX7_stealBook 1 = .ok (.iload_n 1, 1) := by decide +kernel
theorem dX7_stealBook_2 : decode cX7_stealBook 2 = .ok (.invokevirtual 130, 3) := by decide +kernel
theorem dX7_stealBook_5 : decode cX7_stealBook 5 = .ok (.astore_n 2, 1) := by decide +kernel
theorem dX7_stealBook_6 : decode cX7_stealBook 6 = .ok (.aload_n 2, 1) := by decide +kernel
theorem dX7_stealBook_7 : decode cX7_stealBook 7 = .ok (.invokestatic 158, 3) := by decide +kernel
theorem dX7_stealBook_10 : decode cX7_stealBook 10 = .ok (.aload_n 0, 1) := by decide +kernel
theorem dX7_stealBook_11 : decode cX7_stealBook 11 = .ok (.aload_n 2, 1) := by decide +kernel
theorem dX7_stealBook_12 : decode cX7_stealBook 12 = .ok (.invokevirtual 161, 3) := by decide +kernel
theorem dX7_stealBook_15 : decode cX7_stealBook 15 = .ok (.istore_n 3, 1) := by decide +kernel
theorem dX7_stealBook_16 : decode cX7_stealBook 16 = .ok (.aload_n 2, 1) := by decide +kernel
theorem dX7_stealBook_17 : decode cX7_stealBook 17 = .ok (.iconst 1, 1) := by decide +kernel
theorem dX7_stealBook_18 : decode cX7_stealBook 18 = .ok (.putfield 176, 3) := by decide +kernel
theorem dX7_stealBook_21 : decode cX7_stealBook 21 = .ok (.iload_n 3, 1) := by decide +kernel
theorem dX7_stealBook_22 : decode cX7_stealBook 22 = .ok (.ireturn, 1) := by decide +kernel
def zb_X7_stealBook_0 : ZP := (z_ald 0 (z_ild 1 (z_invV 7 1 sp_X7_knownPerson (z_ast 2 (z_ald 2 (z_invS 1 sp_X7_requireBook (z_ald 0 (z_ald 2 (z_invV 7 1 sp_X7_pointsLeft (z_ist 3 (z_ald 2 (z_push 1 (z_pfz 3 6 (z_ild 3 (z_ret 1)))))))))))))))
set_option maxRecDepth 20000 in
theorem zk_X7_stealBook_0 {X : ZX} (C : zCx X cX7_stealBook RX7 (some .int) 7 111 1 6) (hn : X.nL = 4) : ZOK X 0 (zb_X7_stealBook_0) := by
  unfold zb_X7_stealBook_0
  refine z_aload_n_ok (pc := 0) (i := 0) C.hx C.hb dX7_stealBook_0 rfl ?_
  refine z_iload_n_ok (pc := 1) (i := 1) C.hx C.hb dX7_stealBook_1 rfl ?_
  refine z_invV_ok (pc := 2) C (by decide +kernel) (zm_X7_knownPerson X.l C.htr) ⟨rfl, rfl⟩ ⟨by decide, by decide⟩ (by decide) (by decide) zcl_X7_130 zw_368 zw_4 zK7 dX7_stealBook_2 ?_
  refine z_astore_n_ok (pc := 5) (i := 2) C.hx C.hb dX7_stealBook_5 rfl (zlt hn (by decide)) ?_
  refine z_aload_n_ok (pc := 6) (i := 2) C.hx C.hb dX7_stealBook_6 rfl ?_
  refine z_invS_ok (pc := 7) C (by decide +kernel) (zm_X7_requireBook X.l C.htr) ⟨rfl, rfl⟩ ⟨by decide, by decide⟩ (by decide) (by decide) zcl_X7_158 zw_702 dX7_stealBook_7 ?_
  refine z_aload_n_ok (pc := 10) (i := 0) C.hx C.hb dX7_stealBook_10 rfl ?_
  refine z_aload_n_ok (pc := 11) (i := 2) C.hx C.hb dX7_stealBook_11 rfl ?_
  refine z_invV_ok (pc := 12) C (by decide +kernel) (zm_X7_pointsLeft X.l C.htr) ⟨rfl, rfl⟩ ⟨by decide, by decide⟩ (by decide) (by decide) zcl_X7_161 zw_373 zw_5 zK7 dX7_stealBook_12 ?_
  refine z_istore_n_ok (pc := 15) (i := 3) C.hx C.hb dX7_stealBook_15 rfl (zlt hn (by decide)) ?_
  refine z_aload_n_ok (pc := 16) (i := 2) C.hx C.hb dX7_stealBook_16 rfl ?_
  refine z_iconst_ok (pc := 17) (v := 1) C.hx C.hb dX7_stealBook_17 (by decide) ?_
  refine z_pfz_ok (pc := 18) C zK3 rfl rfl (f := 6) (by decide) zw_330 rfl rfl (by decide +kernel) dX7_stealBook_18 ?_
  refine z_iload_n_ok (pc := 21) (i := 3) C.hx C.hb dX7_stealBook_21 rfl ?_
  exact z_iret_ok (pc := 22) C dX7_stealBook_22
def sp_X7_stealBook : ZSp := fun as S K => as.length ≤ 4 ∧ zsp 4 zb_X7_stealBook_0 as S K
theorem zm_X7_stealBook (l : Launch) (hl : l.stackTraces = false) : zMet l yX7_stealBook cX7_stealBook 4 (some .int) { frames := 7, cells := 1, slots := 6, locals := 111 } 0 0 sp_X7_stealBook := zMet_of hl (by decide +kernel) ⟨rfl, rfl⟩ (fun X C hn _ => zk_X7_stealBook_0 C hn)
theorem dX7_sum_0 : decode cX7_sum 0 = .ok (.iload_n 1, 1) := by decide +kernel
theorem dX7_sum_1 : decode cX7_sum 1 = .ok (.iconst 0, 1) := by decide +kernel
theorem dX7_sum_2 : decode cX7_sum 2 = .ok (.bipush 8, 2) := by decide +kernel
theorem dX7_sum_4 : decode cX7_sum 4 = .ok (.invokestatic 92, 3) := by decide +kernel
theorem dX7_sum_7 : decode cX7_sum 7 = .ok (.iload_n 1, 1) := by decide +kernel
theorem dX7_sum_8 : decode cX7_sum 8 = .ok (.tableswitch 88 0 7 #[48, 53, 58, 63, 68, 73, 78, 83], 48) := by decide +kernel
theorem dX7_sum_56 : decode cX7_sum 56 = .ok (.aload_n 0, 1) := by decide +kernel
theorem dX7_sum_57 : decode cX7_sum 57 = .ok (.getfield 69, 3) := by decide +kernel
theorem dX7_sum_60 : decode cX7_sum 60 = .ok (.ireturn, 1) := by decide +kernel
theorem dX7_sum_61 : decode cX7_sum 61 = .ok (.aload_n 0, 1) := by decide +kernel
theorem dX7_sum_62 : decode cX7_sum 62 = .ok (.getfield 75, 3) := by decide +kernel
theorem dX7_sum_65 : decode cX7_sum 65 = .ok (.ireturn, 1) := by decide +kernel
theorem dX7_sum_66 : decode cX7_sum 66 = .ok (.aload_n 0, 1) := by decide +kernel
theorem dX7_sum_67 : decode cX7_sum 67 = .ok (.invokevirtual 320, 3) := by decide +kernel
theorem dX7_sum_70 : decode cX7_sum 70 = .ok (.ireturn, 1) := by decide +kernel
theorem dX7_sum_71 : decode cX7_sum 71 = .ok (.aload_n 0, 1) := by decide +kernel
theorem dX7_sum_72 : decode cX7_sum 72 = .ok (.invokevirtual 324, 3) := by decide +kernel
theorem dX7_sum_75 : decode cX7_sum 75 = .ok (.ireturn, 1) := by decide +kernel
theorem dX7_sum_76 : decode cX7_sum 76 = .ok (.aload_n 0, 1) := by decide +kernel
theorem dX7_sum_77 : decode cX7_sum 77 = .ok (.getfield 78, 3) := by decide +kernel
theorem dX7_sum_80 : decode cX7_sum 80 = .ok (.ireturn, 1) := by decide +kernel
theorem dX7_sum_81 : decode cX7_sum 81 = .ok (.aload_n 0, 1) := by decide +kernel
theorem dX7_sum_82 : decode cX7_sum 82 = .ok (.getfield 81, 3) := by decide +kernel
theorem dX7_sum_85 : decode cX7_sum 85 = .ok (.ireturn, 1) := by decide +kernel
theorem dX7_sum_86 : decode cX7_sum 86 = .ok (.aload_n 0, 1) := by decide +kernel
theorem dX7_sum_87 : decode cX7_sum 87 = .ok (.invokevirtual 327, 3) := by decide +kernel
theorem dX7_sum_90 : decode cX7_sum 90 = .ok (.ireturn, 1) := by decide +kernel
theorem dX7_sum_91 : decode cX7_sum 91 = .ok (.aload_n 0, 1) := by decide +kernel
theorem dX7_sum_92 : decode cX7_sum 92 = .ok (.invokevirtual 330, 3) := by decide +kernel
theorem dX7_sum_95 : decode cX7_sum 95 = .ok (.ireturn, 1) := by decide +kernel
theorem dX7_sum_96 : decode cX7_sum 96 = .ok (.aload_n 0, 1) := by decide +kernel
theorem dX7_sum_97 : decode cX7_sum 97 = .ok (.getfield 84, 3) := by decide +kernel
theorem dX7_sum_100 : decode cX7_sum 100 = .ok (.ireturn, 1) := by decide +kernel
def zb_X7_sum_0 : ZP := (z_ild 1 (z_push 0 (z_push 8 (z_invS 3 sp_X7_requireRange (z_ild 1 (z_sw [(0, (z_ald 0 (z_gf 7 13 (z_ret 1)))), (1, (z_ald 0 (z_gf 7 15 (z_ret 1)))), (2, (z_ald 0 (z_invV 7 0 sp_X7_gramsInDepots (z_ret 1)))), (3, (z_ald 0 (z_invV 7 0 sp_X7_gramsInShops (z_ret 1)))), (4, (z_ald 0 (z_gf 7 16 (z_ret 1)))), (5, (z_ald 0 (z_gf 7 17 (z_ret 1)))), (6, (z_ald 0 (z_invV 7 0 sp_X7_gramsOnBlackMarket (z_ret 1)))), (7, (z_ald 0 (z_invV 7 0 sp_X7_peopleAlive (z_ret 1))))] (z_ald 0 (z_gf 7 18 (z_ret 1)))))))))
set_option maxRecDepth 20000 in
theorem zk_X7_sum_0 {X : ZX} (C : zCx X cX7_sum RX7 (some .int) 7 112 1 6) (hn : X.nL = 2) : ZOK X 0 (zb_X7_sum_0) := by
  unfold zb_X7_sum_0
  refine z_iload_n_ok (pc := 0) (i := 1) C.hx C.hb dX7_sum_0 rfl ?_
  refine z_iconst_ok (pc := 1) (v := 0) C.hx C.hb dX7_sum_1 (by decide) ?_
  refine z_bipush_ok (pc := 2) (v := 8) C.hx C.hb dX7_sum_2 (by decide) ?_
  refine z_invS_ok (pc := 4) C (by decide +kernel) (zm_X7_requireRange X.l C.htr) ⟨rfl, rfl⟩ ⟨by decide, by decide⟩ (by decide) (by decide) zcl_X7_92 zw_243 dX7_sum_4 ?_
  refine z_iload_n_ok (pc := 7) (i := 1) C.hx C.hb dX7_sum_7 rfl ?_
  refine z_sw_ok (pc := 8) (tgt := 96) C.hx C.hb dX7_sum_8 (by decide) ?_ ⟨⟨by decide, 48, 56, by decide, by decide, ?_⟩, ⟨⟨by decide, 53, 61, by decide, by decide, ?_⟩, ⟨⟨by decide, 58, 66, by decide, by decide, ?_⟩, ⟨⟨by decide, 63, 71, by decide, by decide, ?_⟩, ⟨⟨by decide, 68, 76, by decide, by decide, ?_⟩, ⟨⟨by decide, 73, 81, by decide, by decide, ?_⟩, ⟨⟨by decide, 78, 86, by decide, by decide, ?_⟩, ⟨⟨by decide, 83, 91, by decide, by decide, ?_⟩, trivial⟩⟩⟩⟩⟩⟩⟩⟩ (by decide)
  · refine z_aload_n_ok (pc := 96) (i := 0) C.hx C.hb dX7_sum_96 rfl ?_
    refine z_gf_ok (pc := 97) C zK7 (f := 18) (by decide) zw_126 rfl dX7_sum_97 ?_
    exact z_iret_ok (pc := 100) C dX7_sum_100
  · refine z_aload_n_ok (pc := 56) (i := 0) C.hx C.hb dX7_sum_56 rfl ?_
    refine z_gf_ok (pc := 57) C zK7 (f := 13) (by decide) zw_121 rfl dX7_sum_57 ?_
    exact z_iret_ok (pc := 60) C dX7_sum_60
  · refine z_aload_n_ok (pc := 61) (i := 0) C.hx C.hb dX7_sum_61 rfl ?_
    refine z_gf_ok (pc := 62) C zK7 (f := 15) (by decide) zw_123 rfl dX7_sum_62 ?_
    exact z_iret_ok (pc := 65) C dX7_sum_65
  · refine z_aload_n_ok (pc := 66) (i := 0) C.hx C.hb dX7_sum_66 rfl ?_
    refine z_invV_ok (pc := 67) C (by decide +kernel) (zm_X7_gramsInDepots X.l C.htr) ⟨rfl, rfl⟩ ⟨by decide, by decide⟩ (by decide) (by decide) zcl_X7_320 zw_606 zw_18 zK7 dX7_sum_67 ?_
    exact z_iret_ok (pc := 70) C dX7_sum_70
  · refine z_aload_n_ok (pc := 71) (i := 0) C.hx C.hb dX7_sum_71 rfl ?_
    refine z_invV_ok (pc := 72) C (by decide +kernel) (zm_X7_gramsInShops X.l C.htr) ⟨rfl, rfl⟩ ⟨by decide, by decide⟩ (by decide) (by decide) zcl_X7_324 zw_610 zw_19 zK7 dX7_sum_72 ?_
    exact z_iret_ok (pc := 75) C dX7_sum_75
  · refine z_aload_n_ok (pc := 76) (i := 0) C.hx C.hb dX7_sum_76 rfl ?_
    refine z_gf_ok (pc := 77) C zK7 (f := 16) (by decide) zw_124 rfl dX7_sum_77 ?_
    exact z_iret_ok (pc := 80) C dX7_sum_80
  · refine z_aload_n_ok (pc := 81) (i := 0) C.hx C.hb dX7_sum_81 rfl ?_
    refine z_gf_ok (pc := 82) C zK7 (f := 17) (by decide) zw_125 rfl dX7_sum_82 ?_
    exact z_iret_ok (pc := 85) C dX7_sum_85
  · refine z_aload_n_ok (pc := 86) (i := 0) C.hx C.hb dX7_sum_86 rfl ?_
    refine z_invV_ok (pc := 87) C (by decide +kernel) (zm_X7_gramsOnBlackMarket X.l C.htr) ⟨rfl, rfl⟩ ⟨by decide, by decide⟩ (by decide) (by decide) zcl_X7_327 zw_614 zw_20 zK7 dX7_sum_87 ?_
    exact z_iret_ok (pc := 90) C dX7_sum_90
  · refine z_aload_n_ok (pc := 91) (i := 0) C.hx C.hb dX7_sum_91 rfl ?_
    refine z_invV_ok (pc := 92) C (by decide +kernel) (zm_X7_peopleAlive X.l C.htr) ⟨rfl, rfl⟩ ⟨by decide, by decide⟩ (by decide) (by decide) zcl_X7_330 zw_618 zw_21 zK7 dX7_sum_92 ?_
    exact z_iret_ok (pc := 95) C dX7_sum_95
def sp_X7_sum : ZSp := fun as S K => as.length ≤ 2 ∧ zsp 2 zb_X7_sum_0 as S K
theorem zm_X7_sum (l : Launch) (hl : l.stackTraces = false) : zMet l yX7_sum cX7_sum 2 (some .int) { frames := 7, cells := 1, slots := 6, locals := 112 } 0 0 sp_X7_sum := zMet_of hl (by decide +kernel) ⟨rfl, rfl⟩ (fun X C hn _ => zk_X7_sum_0 C hn)
