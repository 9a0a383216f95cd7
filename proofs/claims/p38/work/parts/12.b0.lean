theorem dX7_knownShop_0 : decode cX7_knownShop 0 = .ok (.iload_n 1, 1) := by decide +kernel
theorem dX7_knownShop_1 : decode cX7_knownShop 1 = .ok (.ifCond .lt 11, 3) := by decide +kernel
theorem dX7_knownShop_4 : decode cX7_knownShop 4 = .ok (.iload_n 1, 1) := by decide +kernel
theorem dX7_knownShop_5 : decode cX7_knownShop 5 = .ok (.aload_n 0, 1) := by decide +kernel
theorem dX7_knownShop_6 : decode cX7_knownShop 6 = .ok (.getfield 57, 3) := by decide +kernel
theorem dX7_knownShop_9 : decode cX7_knownShop 9 = .ok (.if_icmp .lt 14, 3) := by decide +kernel
theorem dX7_knownShop_12 : decode cX7_knownShop 12 = .ok (.new 333, 3) := by decide +kernel
theorem dX7_knownShop_15 : decode cX7_knownShop 15 = .ok (.dup, 1) := by decide +kernel
theorem dX7_knownShop_16 : decode cX7_knownShop 16 = .ok (.ldc_w 342, 3) := by decide +kernel
theorem dX7_knownShop_19 : decode cX7_knownShop 19 = .ok (.invokespecial 337, 3) := by decide +kernel
theorem dX7_knownShop_22 : decode cX7_knownShop 22 = .ok (.athrow, 1) := by decide +kernel
theorem dX7_knownShop_23 : decode cX7_knownShop 23 = .ok (.aload_n 0, 1) := by decide +kernel
theorem dX7_knownShop_24 : decode cX7_knownShop 24 = .ok (.getfield 29, 3) := by decide +kernel
theorem dX7_knownShop_27 : decode cX7_knownShop 27 = .ok (.iload_n 1, 1) := by decide +kernel
theorem dX7_knownShop_28 : decode cX7_knownShop 28 = .ok (.aaload, 1) := by decide +kernel
theorem dX7_knownShop_29 : decode cX7_knownShop 29 = .ok (.areturn, 1) := by decide +kernel
def zb_X7_knownShop_12 : ZP := (z_throw 1)
set_option maxRecDepth 20000 in
theorem zk_X7_knownShop_12 {X : ZX} (C : zCx X cX7_knownShop RX7 (some (.object "Pointsbook$Shop")) 6 90 1 6) (hn : X.nL = 2) : ZOK X 12 (zb_X7_knownShop_12) := by
  unfold zb_X7_knownShop_12
  exact z_throwSW_ok (pc := 12) (text := "no such shop") C zth_333_337 (by decide +kernel) dX7_knownShop_12 dX7_knownShop_15 dX7_knownShop_16 dX7_knownShop_19 dX7_knownShop_22 (by decide +kernel) (by decide) (by decide) (by decide) (by decide)
def zb_X7_knownShop_0 : ZP := (z_ild 1 (z_if (fun x => x < 0) zb_X7_knownShop_12 (z_ild 1 (z_ald 0 (z_gf 7 9 (z_cmp (fun x y => x < y) (z_ald 0 (z_gf 7 3 (z_ild 1 (z_aald (z_ret 3))))) zb_X7_knownShop_12))))))
set_option maxRecDepth 20000 in
theorem zk_X7_knownShop_0 {X : ZX} (C : zCx X cX7_knownShop RX7 (some (.object "Pointsbook$Shop")) 6 90 1 6) (hn : X.nL = 2) : ZOK X 0 (zb_X7_knownShop_0) := by
  unfold zb_X7_knownShop_0
  refine z_iload_n_ok (pc := 0) (i := 1) C.hx C.hb dX7_knownShop_0 rfl ?_
  refine z_if_lt_ok (pc := 1) (tgt := 12) C.hx C.hb dX7_knownShop_1 (by decide) ?_ ?_
  · exact zk_X7_knownShop_12 C hn 
  · refine z_iload_n_ok (pc := 4) (i := 1) C.hx C.hb dX7_knownShop_4 rfl ?_
    refine z_aload_n_ok (pc := 5) (i := 0) C.hx C.hb dX7_knownShop_5 rfl ?_
    refine z_gf_ok (pc := 6) C zK7 (f := 9) (by decide) zw_117 rfl dX7_knownShop_6 ?_
    refine z_icmp_lt_ok (pc := 9) (tgt := 23) C.hx C.hb dX7_knownShop_9 (by decide) ?_ ?_
    · refine z_aload_n_ok (pc := 23) (i := 0) C.hx C.hb dX7_knownShop_23 rfl ?_
      refine z_gf_ok (pc := 24) C zK7 (f := 3) (by decide) zw_111 rfl dX7_knownShop_24 ?_
      refine z_iload_n_ok (pc := 27) (i := 1) C.hx C.hb dX7_knownShop_27 rfl ?_
      refine z_aald_ok (pc := 28) C dX7_knownShop_28 ?_
      exact z_aret_ok (pc := 29) C dX7_knownShop_29
    · exact zk_X7_knownShop_12 C hn 
def sp_X7_knownShop : ZSp := fun as S K => as.length ≤ 2 ∧ zsp 2 zb_X7_knownShop_0 as S K
theorem zm_X7_knownShop (l : Launch) (hl : l.stackTraces = false) : zMet l yX7_knownShop cX7_knownShop 2 (some (.object "Pointsbook$Shop")) { frames := 6, cells := 1, slots := 6, locals := 90 } 0 0 sp_X7_knownShop := zMet_of hl (by decide +kernel) ⟨rfl, rfl⟩ (fun X C hn _ => zk_X7_knownShop_0 C hn)
theorem dX7_knownGood_0 : decode cX7_knownGood 0 = .ok (.iload_n 1, 1) := by decide +kernel
theorem dX7_knownGood_1 : decode cX7_knownGood 1 = .ok (.ifCond .lt 9, 3) := by decide +kernel
theorem dX7_knownGood_4 : decode cX7_knownGood 4 = .ok (.iload_n 1, 1) := by decide +kernel
theorem dX7_knownGood_5 : decode cX7_knownGood 5 = .ok (.bipush 6, 2) := by decide +kernel
theorem dX7_knownGood_7 : decode cX7_knownGood 7 = .ok (.if_icmp .lt 14, 3) := by decide +kernel
theorem dX7_knownGood_10 : decode cX7_knownGood 10 = .ok (.new 333, 3) := by decide +kernel
theorem dX7_knownGood_13 : decode cX7_knownGood 13 = .ok (.dup, 1) := by decide +kernel
theorem dX7_knownGood_14 : decode cX7_knownGood 14 = .ok (.ldc_w 335, 3) := by decide +kernel
theorem dX7_knownGood_17 : decode cX7_knownGood 17 = .ok (.invokespecial 337, 3) := by decide +kernel
theorem dX7_knownGood_20 : decode cX7_knownGood 20 = .ok (.athrow, 1) := by decide +kernel
theorem dX7_knownGood_21 : decode cX7_knownGood 21 = .ok (.aload_n 0, 1) := by decide +kernel
theorem dX7_knownGood_22 : decode cX7_knownGood 22 = .ok (.getfield 11, 3) := by decide +kernel
theorem dX7_knownGood_25 : decode cX7_knownGood 25 = .ok (.iload_n 1, 1) := by decide +kernel
theorem dX7_knownGood_26 : decode cX7_knownGood 26 = .ok (.aaload, 1) := by decide +kernel
theorem dX7_knownGood_27 : decode cX7_knownGood 27 = .ok (.areturn, 1) := by decide +kernel
def zb_X7_knownGood_10 : ZP := (z_throw 1)
set_option maxRecDepth 20000 in
theorem zk_X7_knownGood_10 {X : ZX} (C : zCx X cX7_knownGood RX7 (some (.object "Pointsbook$Good")) 6 90 1 6) (hn : X.nL = 2) : ZOK X 10 (zb_X7_knownGood_10) := by
  unfold zb_X7_knownGood_10
  exact z_throwSW_ok (pc := 10) (text := "no such good") C zth_333_337 (by decide +kernel) dX7_knownGood_10 dX7_knownGood_13 dX7_knownGood_14 dX7_knownGood_17 dX7_knownGood_20 (by decide +kernel) (by decide) (by decide) (by decide) (by decide)
def zb_X7_knownGood_0 : ZP := (z_ild 1 (z_if (fun x => x < 0) zb_X7_knownGood_10 (z_ild 1 (z_push 6 (z_cmp (fun x y => x < y) (z_ald 0 (z_gf 7 0 (z_ild 1 (z_aald (z_ret 3))))) zb_X7_knownGood_10)))))
set_option maxRecDepth 20000 in
theorem zk_X7_knownGood_0 {X : ZX} (C : zCx X cX7_knownGood RX7 (some (.object "Pointsbook$Good")) 6 90 1 6) (hn : X.nL = 2) : ZOK X 0 (zb_X7_knownGood_0) := by
  unfold zb_X7_knownGood_0
  refine z_iload_n_ok (pc := 0) (i := 1) C.hx C.hb dX7_knownGood_0 rfl ?_
  refine z_if_lt_ok (pc := 1) (tgt := 10) C.hx C.hb dX7_knownGood_1 (by decide) ?_ ?_
  · exact zk_X7_knownGood_10 C hn 
  · refine z_iload_n_ok (pc := 4) (i := 1) C.hx C.hb dX7_knownGood_4 rfl ?_
    refine z_bipush_ok (pc := 5) (v := 6) C.hx C.hb dX7_knownGood_5 (by decide) ?_
    refine z_icmp_lt_ok (pc := 7) (tgt := 21) C.hx C.hb dX7_knownGood_7 (by decide) ?_ ?_
    · refine z_aload_n_ok (pc := 21) (i := 0) C.hx C.hb dX7_knownGood_21 rfl ?_
      refine z_gf_ok (pc := 22) C zK7 (f := 0) (by decide) zw_108 rfl dX7_knownGood_22 ?_
      refine z_iload_n_ok (pc := 25) (i := 1) C.hx C.hb dX7_knownGood_25 rfl ?_
      refine z_aald_ok (pc := 26) C dX7_knownGood_26 ?_
      exact z_aret_ok (pc := 27) C dX7_knownGood_27
    · exact zk_X7_knownGood_10 C hn 
def sp_X7_knownGood : ZSp := fun as S K => as.length ≤ 2 ∧ zsp 2 zb_X7_knownGood_0 as S K
theorem zm_X7_knownGood (l : Launch) (hl : l.stackTraces = false) : zMet l yX7_knownGood cX7_knownGood 2 (some (.object "Pointsbook$Good")) { frames := 6, cells := 1, slots := 6, locals := 90 } 0 0 sp_X7_knownGood := zMet_of hl (by decide +kernel) ⟨rfl, rfl⟩ (fun X C hn _ => zk_X7_knownGood_0 C hn)
theorem dX7_requireRange_0 : decode cX7_requireRange 0 = .ok (.iload_n 0, 1) := by decide +kernel
theorem dX7_requireRange_1 : decode cX7_requireRange 1 = .ok (.iload_n 1, 1) := by decide +kernel
theorem dX7_requireRange_2 : decode cX7_requireRange 2 = .ok (.if_icmp .lt 8, 3) := by decide +kernel
theorem dX7_requireRange_5 : decode cX7_requireRange 5 = .ok (.iload_n 0, 1) := by decide +kernel
theorem dX7_requireRange_6 : decode cX7_requireRange 6 = .ok (.iload_n 2, 1) := by decide +kernel
theorem dX7_requireRange_7 : decode cX7_requireRange 7 = .ok (.if_icmp .le 14, 3) := by decide +kernel
theorem dX7_requireRange_10 : decode cX7_requireRange 10 = .ok (.new 151, 3) := by decide +kernel
theorem dX7_requireRange_13 : decode cX7_requireRange 13 = .ok (.dup, 1) := by decide +kernel
theorem dX7_requireRange_14 : decode cX7_requireRange 14 = .ok (.ldc_w 346, 3) := by decide +kernel
theorem dX7_requireRange_17 : decode cX7_requireRange 17 = .ok (.invokespecial 155, 3) := by decide +kernel
theorem dX7_requireRange_20 : decode cX7_requireRange 20 = .ok (.athrow, 1) := by decide +kernel
theorem dX7_requireRange_21 : decode cX7_requireRange 21 = .ok (.return_, 1) := by decide +kernel
def zb_X7_requireRange_10 : ZP := (z_throw 2)
set_option maxRecDepth 20000 in
theorem zk_X7_requireRange_10 {X : ZX} (C : zCx X cX7_requireRange RX7 none 6 90 1 6) (hn : X.nL = 3) : ZOK X 10 (zb_X7_requireRange_10) := by
  unfold zb_X7_requireRange_10
  exact z_throwSW_ok (pc := 10) (text := "out of range") C zth_151_155 (by decide +kernel) dX7_requireRange_10 dX7_requireRange_13 dX7_requireRange_14 dX7_requireRange_17 dX7_requireRange_20 (by decide +kernel) (by decide) (by decide) (by decide) (by decide)
def zb_X7_requireRange_0 : ZP := (z_ild 0 (z_ild 1 (z_cmp (fun x y => x < y) zb_X7_requireRange_10 (z_ild 0 (z_ild 2 (z_cmp (fun x y => x ≤ y) (z_ret 0) zb_X7_requireRange_10))))))
set_option maxRecDepth 20000 in
theorem zk_X7_requireRange_0 {X : ZX} (C : zCx X cX7_requireRange RX7 none 6 90 1 6) (hn : X.nL = 3) : ZOK X 0 (zb_X7_requireRange_0) := by
  unfold zb_X7_requireRange_0
  refine z_iload_n_ok (pc := 0) (i := 0) C.hx C.hb dX7_requireRange_0 rfl ?_
  refine z_iload_n_ok (pc := 1) (i := 1) C.hx C.hb dX7_requireRange_1 rfl ?_
  refine z_icmp_lt_ok (pc := 2) (tgt := 10) C.hx C.hb dX7_requireRange_2 (by decide) ?_ ?_
  · exact zk_X7_requireRange_10 C hn 
  · refine z_iload_n_ok (pc := 5) (i := 0) C.hx C.hb dX7_requireRange_5 rfl ?_
    refine z_iload_n_ok (pc := 6) (i := 2) C.hx C.hb dX7_requireRange_6 rfl ?_
    refine z_icmp_le_ok (pc := 7) (tgt := 21) C.hx C.hb dX7_requireRange_7 (by decide) ?_ ?_
    · exact z_vret_ok (pc := 21) C dX7_requireRange_21
    · exact zk_X7_requireRange_10 C hn 
def sp_X7_requireRange : ZSp := fun as S K => as.length ≤ 3 ∧ zsp 3 zb_X7_requireRange_0 as S K
theorem zm_X7_requireRange (l : Launch) (hl : l.stackTraces = false) : zMet l yX7_requireRange cX7_requireRange 3 none { frames := 6, cells := 1, slots := 6, locals := 90 } 0 0 sp_X7_requireRange := zMet_of hl (by decide +kernel) ⟨rfl, rfl⟩ (fun X C hn _ => zk_X7_requireRange_0 C hn)
theorem dX7_requireSupply_0 : decode cX7_requireSupply 0 = .ok (.iload_n 2, 1) := by decide +kernel
theorem dX7_requireSupply_1 : decode cX7_requireSupply 1 = .ok (.istore_n 3, 1) := by decide +kernel
theorem dX7_requireSupply_2 : decode cX7_requireSupply 2 = .ok (.aload_n 0, 1) := by decide +kernel
theorem dX7_requireSupply_3 : decode cX7_requireSupply 3 = .ok (.getfield 270, 3) := by decide +kernel
theorem dX7_requireSupply_6 : decode cX7_requireSupply 6 = .ok (.astore 4, 2) := by decide +kernel
theorem dX7_requireSupply_8 : decode cX7_requireSupply 8 = .ok (.aload 4, 2) := by decide +kernel
theorem dX7_requireSupply_10 : decode cX7_requireSupply 10 = .ok (.ifnull 35, 3) := by decide +kernel
theorem dX7_requireSupply_13 : decode cX7_requireSupply 13 = .ok (.aload 4, 2) := by decide +kernel
theorem dX7_requireSupply_15 : decode cX7_requireSupply 15 = .ok (.getfield 219, 3) := by decide +kernel
theorem dX7_requireSupply_18 : decode cX7_requireSupply 18 = .ok (.iload_n 1, 1) := by decide +kernel
theorem dX7_requireSupply_19 : decode cX7_requireSupply 19 = .ok (.iaload, 1) := by decide +kernel
theorem dX7_requireSupply_20 : decode cX7_requireSupply 20 = .ok (.iload_n 3, 1) := by decide +kernel
theorem dX7_requireSupply_21 : decode cX7_requireSupply 21 = .ok (.if_icmp .lt 4, 3) := by decide +kernel
theorem dX7_requireSupply_24 : decode cX7_requireSupply 24 = .ok (.return_, 1) := by decide +kernel
theorem dX7_requireSupply_25 : decode cX7_requireSupply 25 = .ok (.iload_n 3, 1) := by decide +kernel
theorem dX7_requireSupply_26 : decode cX7_requireSupply 26 = .ok (.aload 4, 2) := by decide +kernel
theorem dX7_requireSupply_28 : decode cX7_requireSupply 28 = .ok (.getfield 219, 3) := by decide +kernel
theorem dX7_requireSupply_31 : decode cX7_requireSupply 31 = .ok (.iload_n 1, 1) := by decide +kernel
theorem dX7_requireSupply_32 : decode cX7_requireSupply 32 = .ok (.iaload, 1) := by decide +kernel
theorem dX7_requireSupply_33 : decode cX7_requireSupply 33 = .ok (.isub, 1) := by decide +kernel
theorem dX7_requireSupply_34 : decode cX7_requireSupply 34 = .ok (.istore_n 3, 1) := by decide +kernel
theorem dX7_requireSupply_35 : decode cX7_requireSupply 35 = .ok (.aload 4, 2) := by decide +kernel
theorem dX7_requireSupply_37 : decode cX7_requireSupply 37 = .ok (.getfield 275, 3) := by decide +kernel
theorem dX7_requireSupply_40 : decode cX7_requireSupply 40 = .ok (.astore 4, 2) := by decide +kernel
theorem dX7_requireSupply_42 : decode cX7_requireSupply 42 = .ok (.goto (-34), 3) := by decide +kernel
theorem dX7_requireSupply_45 : decode cX7_requireSupply 45 = .ok (.new 165, 3) := by decide +kernel
theorem dX7_requireSupply_48 : decode cX7_requireSupply 48 = .ok (.dup, 1) := by decide +kernel
theorem dX7_requireSupply_49 : decode cX7_requireSupply 49 = .ok (.ldc_w 365, 3) := by decide +kernel
theorem dX7_requireSupply_52 : decode cX7_requireSupply 52 = .ok (.invokespecial 169, 3) := by decide +kernel
theorem dX7_requireSupply_55 : decode cX7_requireSupply 55 = .ok (.athrow, 1) := by decide +kernel
def zb_X7_requireSupply_8 (J8 : ZP) : ZP := (z_ald 4 (z_ifnull (z_throw 3) (z_ald 4 (z_gf 0 2 (z_ild 1 (z_iald (z_ild 3 (z_cmp (fun x y => x < y) (z_ild 3 (z_ald 4 (z_gf 0 2 (z_ild 1 (z_iald (z_bin (fun x y => x - y) (z_ist 3 (z_ald 4 (z_gfn 0 1 0 (z_ast 4 J8)))))))))) (z_ret 0)))))))))
set_option maxRecDepth 20000 in
theorem zk_X7_requireSupply_8 {X : ZX} (C : zCx X cX7_requireSupply RX7 none 6 90 1 6) (hn : X.nL = 5) {J8 : ZP} (hJ8 : ZOK X 8 J8) : ZOK X 8 (zb_X7_requireSupply_8 J8) := by
  unfold zb_X7_requireSupply_8
  refine z_aload_ok (pc := 8) (i := 4) C.hx C.hb dX7_requireSupply_8 ?_
  refine z_ifnull_ok (pc := 10) (tgt := 45) C.hx C.hb dX7_requireSupply_10 (by decide) ?_ ?_
  · exact z_throwSW_ok (pc := 45) (text := "the depots cannot supply so many") C zth_165_169 (by decide +kernel) dX7_requireSupply_45 dX7_requireSupply_48 dX7_requireSupply_49 dX7_requireSupply_52 dX7_requireSupply_55 (by decide +kernel) (by decide) (by decide) (by decide) (by decide)
  · refine z_aload_ok (pc := 13) (i := 4) C.hx C.hb dX7_requireSupply_13 ?_
    refine z_gf_ok (pc := 15) C zK0 (f := 2) (by decide) zw_422 rfl dX7_requireSupply_15 ?_
    refine z_iload_n_ok (pc := 18) (i := 1) C.hx C.hb dX7_requireSupply_18 rfl ?_
    refine z_iald_ok (pc := 19) C dX7_requireSupply_19 ?_
    refine z_iload_n_ok (pc := 20) (i := 3) C.hx C.hb dX7_requireSupply_20 rfl ?_
    refine z_icmp_lt_ok (pc := 21) (tgt := 25) C.hx C.hb dX7_requireSupply_21 (by decide) ?_ ?_
    · refine z_iload_n_ok (pc := 25) (i := 3) C.hx C.hb dX7_requireSupply_25 rfl ?_
      refine z_aload_ok (pc := 26) (i := 4) C.hx C.hb dX7_requireSupply_26 ?_
      refine z_gf_ok (pc := 28) C zK0 (f := 2) (by decide) zw_422 rfl dX7_requireSupply_28 ?_
      refine z_iload_n_ok (pc := 31) (i := 1) C.hx C.hb dX7_requireSupply_31 rfl ?_
      refine z_iald_ok (pc := 32) C dX7_requireSupply_32 ?_
      refine z_isub_ok (pc := 33) C.hx C.hb dX7_requireSupply_33 ?_
      refine z_istore_n_ok (pc := 34) (i := 3) C.hx C.hb dX7_requireSupply_34 rfl (zlt hn (by decide)) ?_
      refine z_aload_ok (pc := 35) (i := 4) C.hx C.hb dX7_requireSupply_35 ?_
      refine z_gfn_ok (pc := 37) C zK0 rfl (f := 1) (by decide) zw_420 rfl dX7_requireSupply_37 ?_
      refine z_astore_ok (pc := 40) (i := 4) C.hx C.hb dX7_requireSupply_40 (zlt hn (by decide)) ?_
      refine z_goto_ok (pc := 42) (tgt := 8) C.hx C.hb dX7_requireSupply_42 (by decide) ?_
      exact hJ8
    · exact z_vret_ok (pc := 24) C dX7_requireSupply_24
def zb_X7_requireSupply_0 : ZP := (z_ild 2 (z_ist 3 (z_ald 0 (z_gf 6 1 (z_ast 4 (z_loop (fun J8 => zb_X7_requireSupply_8 J8)))))))
set_option maxRecDepth 20000 in
theorem zk_X7_requireSupply_0 {X : ZX} (C : zCx X cX7_requireSupply RX7 none 6 90 1 6) (hn : X.nL = 5) : ZOK X 0 (zb_X7_requireSupply_0) := by
  unfold zb_X7_requireSupply_0
  refine z_iload_n_ok (pc := 0) (i := 2) C.hx C.hb dX7_requireSupply_0 rfl ?_
  refine z_istore_n_ok (pc := 1) (i := 3) C.hx C.hb dX7_requireSupply_1 rfl (zlt hn (by decide)) ?_
  refine z_aload_n_ok (pc := 2) (i := 0) C.hx C.hb dX7_requireSupply_2 rfl ?_
  refine z_gf_ok (pc := 3) C zK6 (f := 1) (by decide) zw_474 rfl dX7_requireSupply_3 ?_
  refine z_astore_ok (pc := 6) (i := 4) C.hx C.hb dX7_requireSupply_6 (zlt hn (by decide)) ?_
  exact z_loop_ok (fun J8 hJ8 => zk_X7_requireSupply_8 C hn hJ8)
def sp_X7_requireSupply : ZSp := fun as S K => as.length ≤ 5 ∧ zsp 5 zb_X7_requireSupply_0 as S K
theorem zm_X7_requireSupply (l : Launch) (hl : l.stackTraces = false) : zMet l yX7_requireSupply cX7_requireSupply 5 none { frames := 6, cells := 1, slots := 6, locals := 90 } 0 0 sp_X7_requireSupply := zMet_of hl (by decide +kernel) ⟨rfl, rfl⟩ (fun X C hn _ => zk_X7_requireSupply_0 C hn)
theorem dX7_supply_0 : decode cX7_supply 0 = .ok (.iload_n 2, 1) := by decide +kernel
theorem dX7_supply_1 : decode cX7_supply 1 = .ok (.istore_n 3, 1) := by decide +kernel
theorem dX7_supply_2 : decode cX7_supply 2 = .ok (.aload_n 0, 1) := by decide +kernel
theorem dX7_supply_3 : decode cX7_supply 3 = .ok (.getfield 270, 3) := by decide +kernel
theorem dX7_supply_6 : decode cX7_supply 6 = .ok (.astore 4, 2) := by decide +kernel
theorem dX7_supply_8 : decode cX7_supply 8 = .ok (.aload 4, 2) := by decide +kernel
theorem dX7_supply_10 : decode cX7_supply 10 = .ok (.ifnull 47, 3) := by decide +kernel
theorem dX7_supply_13 : decode cX7_supply 13 = .ok (.iload_n 3, 1) := by decide +kernel
theorem dX7_supply_14 : decode cX7_supply 14 = .ok (.ifCond .le 43, 3) := by decide +kernel
theorem dX7_supply_17 : decode cX7_supply 17 = .ok (.iload_n 3, 1) := by decide +kernel
theorem dX7_supply_18 : decode cX7_supply 18 = .ok (.aload 4, 2) := by decide +kernel
theorem dX7_supply_20 : decode cX7_supply 20 = .ok (.getfield 219, 3) := by decide +kernel
theorem dX7_supply_23 : decode cX7_supply 23 = .ok (.iload_n 1, 1) := by decide +kernel
theorem dX7_supply_24 : decode cX7_supply 24 = .ok (.iaload, 1) := by decide +kernel
theorem dX7_supply_25 : decode cX7_supply 25 = .ok (.invokestatic 264, 3) := by decide +kernel
theorem dX7_supply_28 : decode cX7_supply 28 = .ok (.istore 5, 2) := by decide +kernel
theorem dX7_supply_30 : decode cX7_supply 30 = .ok (.aload 4, 2) := by decide +kernel
theorem dX7_supply_32 : decode cX7_supply 32 = .ok (.getfield 219, 3) := by decide +kernel
theorem dX7_supply_35 : decode cX7_supply 35 = .ok (.iload_n 1, 1) := by decide +kernel
theorem dX7_supply_36 : decode cX7_supply 36 = .ok (.dup2, 1) := by decide +kernel
theorem dX7_supply_37 : decode cX7_supply 37 = .ok (.iaload, 1) := by decide +kernel
theorem dX7_supply_38 : decode cX7_supply 38 = .ok (.iload 5, 2) := by decide +kernel
theorem dX7_supply_40 : decode cX7_supply 40 = .ok (.isub, 1) := by decide +kernel
theorem dX7_supply_41 : decode cX7_supply 41 = .ok (.iastore, 1) := by decide +kernel
theorem dX7_supply_42 : decode cX7_supply 42 = .ok (.iload_n 3, 1) := by decide +kernel
theorem dX7_supply_43 : decode cX7_supply 43 = .ok (.iload 5, 2) := by decide +kernel
theorem dX7_supply_45 : decode cX7_supply 45 = .ok (.isub, 1) := by decide +kernel
theorem dX7_supply_46 : decode cX7_supply 46 = .ok (.istore_n 3, 1) := by decide +kernel
theorem dX7_supply_47 : decode cX7_supply 47 = .ok (.aload 4, 2) := by decide +kernel
theorem dX7_supply_49 : decode cX7_supply 49 = .ok (.getfield 275, 3) := by decide +kernel
theorem dX7_supply_52 : decode cX7_supply 52 = .ok (.astore 4, 2) := by decide +kernel
theorem dX7_supply_54 : decode cX7_supply 54 = .ok (.goto (-46), 3) := by decide +kernel
theorem dX7_supply_57 : decode cX7_supply 57 = .ok (.aload_n 0, 1) := by decide +kernel
theorem dX7_supply_58 : decode cX7_supply 58 = .ok (.getfield 231, 3) := by decide +kernel
theorem dX7_supply_61 : decode cX7_supply 61 = .ok (.iload_n 1, 1) := by decide +kernel
theorem dX7_supply_62 : decode cX7_supply 62 = .ok (.aaload, 1) := by decide +kernel
theorem dX7_supply_63 : decode cX7_supply 63 = .ok (.astore 4, 2) := by decide +kernel
theorem dX7_supply_65 : decode cX7_supply 65 = .ok (.aload 4, 2) := by decide +kernel
theorem dX7_supply_67 : decode cX7_supply 67 = .ok (.dup, 1) := by decide +kernel
theorem dX7_supply_68 : decode cX7_supply 68 = .ok (.getfield 235, 3) := by decide +kernel
theorem dX7_supply_71 : decode cX7_supply 71 = .ok (.iload_n 2, 1) := by decide +kernel
theorem dX7_supply_72 : decode cX7_supply 72 = .ok (.iadd, 1) := by decide +kernel
theorem dX7_supply_73 : decode cX7_supply 73 = .ok (.putfield 235, 3) := by decide +kernel
theorem dX7_supply_76 : decode cX7_supply 76 = .ok (.aload 4, 2) := by decide +kernel
theorem dX7_supply_78 : decode cX7_supply 78 = .ok (.dup, 1) := by decide +kernel
theorem dX7_supply_79 : decode cX7_supply 79 = .ok (.getfield 278, 3) := by decide +kernel
theorem dX7_supply_82 : decode cX7_supply 82 = .ok (.iload_n 2, 1) := by decide +kernel
theorem dX7_supply_83 : decode cX7_supply 83 = .ok (.iadd, 1) := by decide +kernel
theorem dX7_supply_84 : decode cX7_supply 84 = .ok (.putfield 278, 3) := by decide +kernel
theorem dX7_supply_87 : decode cX7_supply 87 = .ok (.return_, 1) := by decide +kernel
def zb_X7_supply_57 : ZP := (z_ald 0 (z_gf 6 2 (z_ild 1 (z_aald (z_ast 4 (z_ald 4 (z_dup (z_gf 5 0 (z_ild 2 (z_bin (fun x y => x + y) (z_pf 5 0 (z_ald 4 (z_dup (z_gf 5 3 (z_ild 2 (z_bin (fun x y => x + y) (z_pf 5 3 (z_ret 0))))))))))))))))))
set_option maxRecDepth 20000 in
theorem zk_X7_supply_57 {X : ZX} (C : zCx X cX7_supply RX7 none 1 21 1 6) (hn : X.nL = 6) : ZOK X 57 (zb_X7_supply_57) := by
  unfold zb_X7_supply_57
  refine z_aload_n_ok (pc := 57) (i := 0) C.hx C.hb dX7_supply_57 rfl ?_
  refine z_gf_ok (pc := 58) C zK6 (f := 2) (by decide) zw_476 rfl dX7_supply_58 ?_
  refine z_iload_n_ok (pc := 61) (i := 1) C.hx C.hb dX7_supply_61 rfl ?_
  refine z_aald_ok (pc := 62) C dX7_supply_62 ?_
  refine z_astore_ok (pc := 63) (i := 4) C.hx C.hb dX7_supply_63 (zlt hn (by decide)) ?_
  refine z_aload_ok (pc := 65) (i := 4) C.hx C.hb dX7_supply_65 ?_
  refine z_dup_ok (pc := 67) C.hx C.hb dX7_supply_67 ?_
  refine z_gf_ok (pc := 68) C zK5 (f := 0) (by decide) zw_447 rfl dX7_supply_68 ?_
  refine z_iload_n_ok (pc := 71) (i := 2) C.hx C.hb dX7_supply_71 rfl ?_
  refine z_iadd_ok (pc := 72) C.hx C.hb dX7_supply_72 ?_
  refine z_pf_ok (pc := 73) C zK5 rfl rfl (f := 0) (by decide) zw_447 rfl rfl (by decide +kernel) dX7_supply_73 ?_
  refine z_aload_ok (pc := 76) (i := 4) C.hx C.hb dX7_supply_76 ?_
  refine z_dup_ok (pc := 78) C.hx C.hb dX7_supply_78 ?_
  refine z_gf_ok (pc := 79) C zK5 (f := 3) (by decide) zw_453 rfl dX7_supply_79 ?_
  refine z_iload_n_ok (pc := 82) (i := 2) C.hx C.hb dX7_supply_82 rfl ?_
  refine z_iadd_ok (pc := 83) C.hx C.hb dX7_supply_83 ?_
  refine z_pf_ok (pc := 84) C zK5 rfl rfl (f := 3) (by decide) zw_453 rfl rfl (by decide +kernel) dX7_supply_84 ?_
  exact z_vret_ok (pc := 87) C dX7_supply_87
def zb_X7_supply_8 (J8 : ZP) : ZP := (z_ald 4 (z_ifnull zb_X7_supply_57 (z_ild 3 (z_if (fun x => x ≤ 0) zb_X7_supply_57 (z_ild 3 (z_ald 4 (z_gf 0 2 (z_ild 1 (z_iald (z_mm (fun x y => if y < x then y else x) (z_ist 5 (z_ald 4 (z_gf 0 2 (z_ild 1 (z_dup2 (z_iald (z_ild 5 (z_bin (fun x y => x - y) (z_iast (z_ild 3 (z_ild 5 (z_bin (fun x y => x - y) (z_ist 3 (z_ald 4 (z_gfn 0 1 0 (z_ast 4 J8))))))))))))))))))))))))))
set_option maxRecDepth 20000 in
theorem zk_X7_supply_8 {X : ZX} (C : zCx X cX7_supply RX7 none 1 21 1 6) (hn : X.nL = 6) {J8 : ZP} (hJ8 : ZOK X 8 J8) : ZOK X 8 (zb_X7_supply_8 J8) := by
  unfold zb_X7_supply_8
  refine z_aload_ok (pc := 8) (i := 4) C.hx C.hb dX7_supply_8 ?_
  refine z_ifnull_ok (pc := 10) (tgt := 57) C.hx C.hb dX7_supply_10 (by decide) ?_ ?_
  · exact zk_X7_supply_57 C hn 
  · refine z_iload_n_ok (pc := 13) (i := 3) C.hx C.hb dX7_supply_13 rfl ?_
    refine z_if_le_ok (pc := 14) (tgt := 57) C.hx C.hb dX7_supply_14 (by decide) ?_ ?_
    · exact zk_X7_supply_57 C hn 
    · refine z_iload_n_ok (pc := 17) (i := 3) C.hx C.hb dX7_supply_17 rfl ?_
      refine z_aload_ok (pc := 18) (i := 4) C.hx C.hb dX7_supply_18 ?_
      refine z_gf_ok (pc := 20) C zK0 (f := 2) (by decide) zw_422 rfl dX7_supply_20 ?_
      refine z_iload_n_ok (pc := 23) (i := 1) C.hx C.hb dX7_supply_23 rfl ?_
      refine z_iald_ok (pc := 24) C dX7_supply_24 ?_
      refine z_min_ok (pc := 25) C (by decide) (by decide) zw_497 zw_498 zw_40 zw_499 dX7_supply_25 ?_
      refine z_istore_ok (pc := 28) (i := 5) C.hx C.hb dX7_supply_28 (zlt hn (by decide)) ?_
      refine z_aload_ok (pc := 30) (i := 4) C.hx C.hb dX7_supply_30 ?_
      refine z_gf_ok (pc := 32) C zK0 (f := 2) (by decide) zw_422 rfl dX7_supply_32 ?_
      refine z_iload_n_ok (pc := 35) (i := 1) C.hx C.hb dX7_supply_35 rfl ?_
      refine z_dup2_ok (pc := 36) C.hx C.hb dX7_supply_36 ?_
      refine z_iald_ok (pc := 37) C dX7_supply_37 ?_
      refine z_iload_ok (pc := 38) (i := 5) C.hx C.hb dX7_supply_38 ?_
      refine z_isub_ok (pc := 40) C.hx C.hb dX7_supply_40 ?_
      refine z_iast_ok (pc := 41) C dX7_supply_41 ?_
      refine z_iload_n_ok (pc := 42) (i := 3) C.hx C.hb dX7_supply_42 rfl ?_
      refine z_iload_ok (pc := 43) (i := 5) C.hx C.hb dX7_supply_43 ?_
      refine z_isub_ok (pc := 45) C.hx C.hb dX7_supply_45 ?_
      refine z_istore_n_ok (pc := 46) (i := 3) C.hx C.hb dX7_supply_46 rfl (zlt hn (by decide)) ?_
      refine z_aload_ok (pc := 47) (i := 4) C.hx C.hb dX7_supply_47 ?_
      refine z_gfn_ok (pc := 49) C zK0 rfl (f := 1) (by decide) zw_420 rfl dX7_supply_49 ?_
      refine z_astore_ok (pc := 52) (i := 4) C.hx C.hb dX7_supply_52 (zlt hn (by decide)) ?_
      refine z_goto_ok (pc := 54) (tgt := 8) C.hx C.hb dX7_supply_54 (by decide) ?_
      exact hJ8
def zb_X7_supply_0 : ZP := (z_ild 2 (z_ist 3 (z_ald 0 (z_gf 6 1 (z_ast 4 (z_loop (fun J8 => zb_X7_supply_8 J8)))))))
set_option maxRecDepth 20000 in
theorem zk_X7_supply_0 {X : ZX} (C : zCx X cX7_supply RX7 none 1 21 1 6) (hn : X.nL = 6) : ZOK X 0 (zb_X7_supply_0) := by
  unfold zb_X7_supply_0
  refine z_iload_n_ok (pc := 0) (i := 2) C.hx C.hb dX7_supply_0 rfl ?_
  refine z_istore_n_ok (pc := 1) (i := 3) C.hx C.hb dX7_supply_1 rfl (zlt hn (by decide)) ?_
  refine z_aload_n_ok (pc := 2) (i := 0) C.hx C.hb dX7_supply_2 rfl ?_
  refine z_gf_ok (pc := 3) C zK6 (f := 1) (by decide) zw_474 rfl dX7_supply_3 ?_
  refine z_astore_ok (pc := 6) (i := 4) C.hx C.hb dX7_supply_6 (zlt hn (by decide)) ?_
  exact z_loop_ok (fun J8 hJ8 => zk_X7_supply_8 C hn hJ8)
def sp_X7_supply : ZSp := fun as S K => as.length ≤ 6 ∧ zsp 6 zb_X7_supply_0 as S K
theorem zm_X7_supply (l : Launch) (hl : l.stackTraces = false) : zMet l yX7_supply cX7_supply 6 none { frames := 1, cells := 1, slots := 6, locals := 21 } 0 0 sp_X7_supply := zMet_of hl (by decide +kernel) ⟨rfl, rfl⟩ (fun X C hn _ => zk_X7_supply_0 C hn)
theorem dX7_advance_0 : decode cX7_advance 0 = .ok (.aload_n 0, 1) := by decide +kernel
theorem dX7_advance_1 : decode cX7_advance 1 = .ok (.iload_n 1, 1) := by decide +kernel
theorem dX7_advance_2 : decode cX7_advance 2 = .ok (.invokevirtual 119, 3) := by decide +kernel
theorem dX7_advance_5 : decode cX7_advance 5 = .ok (.astore 4, 2) := by decide +kernel
theorem dX7_advance_7 : decode cX7_advance 7 = .ok (.aload_n 0, 1) := by decide +kernel
theorem dX7_advance_8 : decode cX7_advance 8 = .ok (.iload_n 2, 1) := by decide +kernel
theorem dX7_advance_9 : decode cX7_advance 9 = .ok (.invokevirtual 88, 3) := by decide +kernel
theorem dX7_advance_12 : decode cX7_advance 12 = .ok (.pop, 1) := by decide +kernel
theorem dX7_advance_13 : decode cX7_advance 13 = .ok (.iload_n 3, 1) := by decide +kernel
theorem dX7_advance_14 : decode cX7_advance 14 = .ok (.iconst 1, 1) := by decide +kernel
theorem dX7_advance_15 : decode cX7_advance 15 = .ok (.ldc 214, 2) := by decide +kernel
theorem dX7_advance_17 : decode cX7_advance 17 = .ok (.invokestatic 92, 3) := by decide +kernel
theorem dX7_advance_20 : decode cX7_advance 20 = .ok (.aload 4, 2) := by decide +kernel
theorem dX7_advance_22 : decode cX7_advance 22 = .ok (.iload_n 2, 1) := by decide +kernel
theorem dX7_advance_23 : decode cX7_advance 23 = .ok (.iload_n 3, 1) := by decide +kernel
theorem dX7_advance_24 : decode cX7_advance 24 = .ok (.invokestatic 254, 3) := by decide +kernel
theorem dX7_advance_27 : decode cX7_advance 27 = .ok (.aload 4, 2) := by decide +kernel
theorem dX7_advance_29 : decode cX7_advance 29 = .ok (.getfield 231, 3) := by decide +kernel
theorem dX7_advance_32 : decode cX7_advance 32 = .ok (.iload_n 2, 1) := by decide +kernel
theorem dX7_advance_33 : decode cX7_advance 33 = .ok (.aaload, 1) := by decide +kernel
theorem dX7_advance_34 : decode cX7_advance 34 = .ok (.astore 5, 2) := by decide +kernel
theorem dX7_advance_36 : decode cX7_advance 36 = .ok (.aload 5, 2) := by decide +kernel
theorem dX7_advance_38 : decode cX7_advance 38 = .ok (.dup, 1) := by decide +kernel
theorem dX7_advance_39 : decode cX7_advance 39 = .ok (.getfield 261, 3) := by decide +kernel
theorem dX7_advance_42 : decode cX7_advance 42 = .ok (.iload_n 3, 1) := by decide +kernel
theorem dX7_advance_43 : decode cX7_advance 43 = .ok (.iadd, 1) := by decide +kernel
theorem dX7_advance_44 : decode cX7_advance 44 = .ok (.putfield 261, 3) := by decide +kernel
theorem dX7_advance_47 : decode cX7_advance 47 = .ok (.aload 4, 2) := by decide +kernel
theorem dX7_advance_49 : decode cX7_advance 49 = .ok (.iload_n 2, 1) := by decide +kernel
theorem dX7_advance_50 : decode cX7_advance 50 = .ok (.iload_n 3, 1) := by decide +kernel
theorem dX7_advance_51 : decode cX7_advance 51 = .ok (.invokestatic 258, 3) := by decide +kernel
theorem dX7_advance_54 : decode cX7_advance 54 = .ok (.aload 5, 2) := by decide +kernel
theorem dX7_advance_56 : decode cX7_advance 56 = .ok (.getfield 261, 3) := by decide +kernel
theorem dX7_advance_59 : decode cX7_advance 59 = .ok (.ireturn, 1) := by decide +kernel
def zb_X7_advance_0 : ZP := (z_ald 0 (z_ild 1 (z_invV 7 1 sp_X7_knownShop (z_ast 4 (z_ald 0 (z_ild 2 (z_invV 7 1 sp_X7_knownGood (z_pop (z_ild 3 (z_push 1 (z_push 99999 (z_invS 3 sp_X7_requireRange (z_ald 4 (z_ild 2 (z_ild 3 (z_invS 3 sp_X7_requireSupply (z_ald 4 (z_gf 6 2 (z_ild 2 (z_aald (z_ast 5 (z_ald 5 (z_dup (z_gf 5 2 (z_ild 3 (z_bin (fun x y => x + y) (z_pf 5 2 (z_ald 4 (z_ild 2 (z_ild 3 (z_invS 3 sp_X7_supply (z_ald 5 (z_gf 5 2 (z_ret 1))))))))))))))))))))))))))))))))))
set_option maxRecDepth 20000 in
theorem zk_X7_advance_0 {X : ZX} (C : zCx X cX7_advance RX7 (some .int) 7 114 1 6) (hn : X.nL = 6) : ZOK X 0 (zb_X7_advance_0) := by
  unfold zb_X7_advance_0
  refine z_aload_n_ok (pc := 0) (i := 0) C.hx C.hb dX7_advance_0 rfl ?_
  refine z_iload_n_ok (pc := 1) (i := 1) C.hx C.hb dX7_advance_1 rfl ?_
  refine z_invV_ok (pc := 2) C (by decide +kernel) (zm_X7_knownShop X.l C.htr) ⟨rfl, rfl⟩ ⟨by decide, by decide⟩ (by decide) (by decide) zcl_X7_119 zw_290 zw_3 zK7 dX7_advance_2 ?_
  refine z_astore_ok (pc := 5) (i := 4) C.hx C.hb dX7_advance_5 (zlt hn (by decide)) ?_
  refine z_aload_n_ok (pc := 7) (i := 0) C.hx C.hb dX7_advance_7 rfl ?_
  refine z_iload_n_ok (pc := 8) (i := 2) C.hx C.hb dX7_advance_8 rfl ?_
  refine z_invV_ok (pc := 9) C (by decide +kernel) (zm_X7_knownGood X.l C.htr) ⟨rfl, rfl⟩ ⟨by decide, by decide⟩ (by decide) (by decide) zcl_X7_88 zw_172 zw_0 zK7 dX7_advance_9 ?_
  refine z_pop_ok (pc := 12) C.hx C.hb dX7_advance_12 ?_
  refine z_iload_n_ok (pc := 13) (i := 3) C.hx C.hb dX7_advance_13 rfl ?_
  refine z_iconst_ok (pc := 14) (v := 1) C.hx C.hb dX7_advance_14 (by decide) ?_
  refine z_ldc_ok (pc := 15) C zw_488 dX7_advance_15 ?_
  refine z_invS_ok (pc := 17) C (by decide +kernel) (zm_X7_requireRange X.l C.htr) ⟨rfl, rfl⟩ ⟨by decide, by decide⟩ (by decide) (by decide) zcl_X7_92 zw_243 dX7_advance_17 ?_
  refine z_aload_ok (pc := 20) (i := 4) C.hx C.hb dX7_advance_20 ?_
  refine z_iload_n_ok (pc := 22) (i := 2) C.hx C.hb dX7_advance_22 rfl ?_
  refine z_iload_n_ok (pc := 23) (i := 3) C.hx C.hb dX7_advance_23 rfl ?_
  refine z_invS_ok (pc := 24) C (by decide +kernel) (zm_X7_requireSupply X.l C.htr) ⟨rfl, rfl⟩ ⟨by decide, by decide⟩ (by decide) (by decide) zcl_X7_254 zw_679 dX7_advance_24 ?_
  refine z_aload_ok (pc := 27) (i := 4) C.hx C.hb dX7_advance_27 ?_
  refine z_gf_ok (pc := 29) C zK6 (f := 2) (by decide) zw_476 rfl dX7_advance_29 ?_
  refine z_iload_n_ok (pc := 32) (i := 2) C.hx C.hb dX7_advance_32 rfl ?_
  refine z_aald_ok (pc := 33) C dX7_advance_33 ?_
  refine z_astore_ok (pc := 34) (i := 5) C.hx C.hb dX7_advance_34 (zlt hn (by decide)) ?_
  refine z_aload_ok (pc := 36) (i := 5) C.hx C.hb dX7_advance_36 ?_
  refine z_dup_ok (pc := 38) C.hx C.hb dX7_advance_38 ?_
  refine z_gf_ok (pc := 39) C zK5 (f := 2) (by decide) zw_451 rfl dX7_advance_39 ?_
  refine z_iload_n_ok (pc := 42) (i := 3) C.hx C.hb dX7_advance_42 rfl ?_
  refine z_iadd_ok (pc := 43) C.hx C.hb dX7_advance_43 ?_
  refine z_pf_ok (pc := 44) C zK5 rfl rfl (f := 2) (by decide) zw_451 rfl rfl (by decide +kernel) dX7_advance_44 ?_
  refine z_aload_ok (pc := 47) (i := 4) C.hx C.hb dX7_advance_47 ?_
  refine z_iload_n_ok (pc := 49) (i := 2) C.hx C.hb dX7_advance_49 rfl ?_
  refine z_iload_n_ok (pc := 50) (i := 3) C.hx C.hb dX7_advance_50 rfl ?_
  refine z_invS_ok (pc := 51) C (by decide +kernel) (zm_X7_supply X.l C.htr) ⟨rfl, rfl⟩ ⟨by decide, by decide⟩ (by decide) (by decide) zcl_X7_258 zw_683 dX7_advance_51 ?_
  refine z_aload_ok (pc := 54) (i := 5) C.hx C.hb dX7_advance_54 ?_
  refine z_gf_ok (pc := 56) C zK5 (f := 2) (by decide) zw_451 rfl dX7_advance_56 ?_
  exact z_iret_ok (pc := 59) C dX7_advance_59
def sp_X7_advance : ZSp := fun as S K => as.length ≤ 6 ∧ zsp 6 zb_X7_advance_0 as S K
theorem zm_X7_advance (l : Launch) (hl : l.stackTraces = false) : zMet l yX7_advance cX7_advance 6 (some .int) { frames := 7, cells := 1, slots := 6, locals := 114 } 0 0 sp_X7_advance := zMet_of hl (by decide +kernel) ⟨rfl, rfl⟩ (fun X C hn _ => zk_X7_advance_0 C hn)
theorem dX7_knownPerson_0 : decode cX7_knownPerson 0 = .ok (.iload_n 1, 1) := by decide +kernel
theorem dX7_knownPerson_1 : decode cX7_knownPerson 1 = .ok (.ifCond .lt 11, 3) := by decide +kernel
theorem dX7_knownPerson_4 : decode cX7_knownPerson 4 = .ok (.iload_n 1, 1) := by decide +kernel
theorem dX7_knownPerson_5 : decode cX7_knownPerson 5 = .ok (.aload_n 0, 1) := by decide +kernel
theorem dX7_knownPerson_6 : decode cX7_knownPerson 6 = .ok (.getfield 50, 3) := by decide +kernel
theorem dX7_knownPerson_9 : decode cX7_knownPerson 9 = .ok (.if_icmp .lt 14, 3) := by decide +kernel
theorem dX7_knownPerson_12 : decode cX7_knownPerson 12 = .ok (.new 333, 3) := by decide +kernel
theorem dX7_knownPerson_15 : decode cX7_knownPerson 15 = .ok (.dup, 1) := by decide +kernel
theorem dX7_knownPerson_16 : decode cX7_knownPerson 16 = .ok (.ldc_w 338, 3) := by decide +kernel
theorem dX7_knownPerson_19 : decode cX7_knownPerson 19 = .ok (.invokespecial 337, 3) := by decide +kernel
theorem dX7_knownPerson_22 : decode cX7_knownPerson 22 = .ok (.athrow, 1) := by decide +kernel
theorem dX7_knownPerson_23 : decode cX7_knownPerson 23 = .ok (.aload_n 0, 1) := by decide +kernel
theorem dX7_knownPerson_24 : decode cX7_knownPerson 24 = .ok (.getfield 17, 3) := by decide +kernel
theorem dX7_knownPerson_27 : decode cX7_knownPerson 27 = .ok (.iload_n 1, 1) := by decide +kernel
theorem dX7_knownPerson_28 : decode cX7_knownPerson 28 = .ok (.aaload, 1) := by decide +kernel
theorem dX7_knownPerson_29 : decode cX7_knownPerson 29 = .ok (.areturn, 1) := by decide +kernel
def zb_X7_knownPerson_12 : ZP := (z_throw 1)
set_option maxRecDepth 20000 in
theorem zk_X7_knownPerson_12 {X : ZX} (C : zCx X cX7_knownPerson RX7 (some (.object "Pointsbook$Person")) 6 90 1 6) (hn : X.nL = 2) : ZOK X 12 (zb_X7_knownPerson_12) := by
  unfold zb_X7_knownPerson_12
  exact z_throwSW_ok (pc := 12) (text := "no such person") C zth_333_337 (by decide +kernel) dX7_knownPerson_12 dX7_knownPerson_15 dX7_knownPerson_16 dX7_knownPerson_19 dX7_knownPerson_22 (by decide +kernel) (by decide) (by decide) (by decide) (by decide)
def zb_X7_knownPerson_0 : ZP := (z_ild 1 (z_if (fun x => x < 0) zb_X7_knownPerson_12 (z_ild 1 (z_ald 0 (z_gf 7 7 (z_cmp (fun x y => x < y) (z_ald 0 (z_gf 7 1 (z_ild 1 (z_aald (z_ret 3))))) zb_X7_knownPerson_12))))))
set_option maxRecDepth 20000 in
theorem zk_X7_knownPerson_0 {X : ZX} (C : zCx X cX7_knownPerson RX7 (some (.object "Pointsbook$Person")) 6 90 1 6) (hn : X.nL = 2) : ZOK X 0 (zb_X7_knownPerson_0) := by
  unfold zb_X7_knownPerson_0
  refine z_iload_n_ok (pc := 0) (i := 1) C.hx C.hb dX7_knownPerson_0 rfl ?_
  refine z_if_lt_ok (pc := 1) (tgt := 12) C.hx C.hb dX7_knownPerson_1 (by decide) ?_ ?_
  · exact zk_X7_knownPerson_12 C hn 
  · refine z_iload_n_ok (pc := 4) (i := 1) C.hx C.hb dX7_knownPerson_4 rfl ?_
    refine z_aload_n_ok (pc := 5) (i := 0) C.hx C.hb dX7_knownPerson_5 rfl ?_
    refine z_gf_ok (pc := 6) C zK7 (f := 7) (by decide) zw_115 rfl dX7_knownPerson_6 ?_
    refine z_icmp_lt_ok (pc := 9) (tgt := 23) C.hx C.hb dX7_knownPerson_9 (by decide) ?_ ?_
    · refine z_aload_n_ok (pc := 23) (i := 0) C.hx C.hb dX7_knownPerson_23 rfl ?_
      refine z_gf_ok (pc := 24) C zK7 (f := 1) (by decide) zw_109 rfl dX7_knownPerson_24 ?_
      refine z_iload_n_ok (pc := 27) (i := 1) C.hx C.hb dX7_knownPerson_27 rfl ?_
      refine z_aald_ok (pc := 28) C dX7_knownPerson_28 ?_
      exact z_aret_ok (pc := 29) C dX7_knownPerson_29
    · exact zk_X7_knownPerson_12 C hn 
def sp_X7_knownPerson : ZSp := fun as S K => as.length ≤ 2 ∧ zsp 2 zb_X7_knownPerson_0 as S K
theorem zm_X7_knownPerson (l : Launch) (hl : l.stackTraces = false) : zMet l yX7_knownPerson cX7_knownPerson 2 (some (.object "Pointsbook$Person")) { frames := 6, cells := 1, slots := 6, locals := 90 } 0 0 sp_X7_knownPerson := zMet_of hl (by decide +kernel) ⟨rfl, rfl⟩ (fun X C hn _ => zk_X7_knownPerson_0 C hn)
theorem dX7_requireAlive_0 : decode cX7_requireAlive 0 = .ok (.aload_n 0, 1) := by decide +kernel
theorem dX7_requireAlive_1 : decode cX7_requireAlive 1 = .ok (.invokevirtual 189, 3) := by decide +kernel
theorem dX7_requireAlive_4 : decode cX7_requireAlive 4 = .ok (.ifCond .eq 14, 3) := by decide +kernel
theorem dX7_requireAlive_7 : decode cX7_requireAlive 7 = .ok (.new 165, 3) := by decide +kernel
theorem dX7_requireAlive_10 : decode cX7_requireAlive 10 = .ok (.dup, 1) := by decide +kernel
theorem dX7_requireAlive_11 : decode cX7_requireAlive 11 = .ok (.ldc_w 350, 3) := by decide +kernel
theorem dX7_requireAlive_14 : decode cX7_requireAlive 14 = .ok (.invokespecial 169, 3) := by decide +kernel
theorem dX7_requireAlive_17 : decode cX7_requireAlive 17 = .ok (.athrow, 1) := by decide +kernel
theorem dX7_requireAlive_18 : decode cX7_requireAlive 18 = .ok (.return_, 1) := by decide +kernel
def zb_X7_requireAlive_0 : ZP := (z_ald 0 (z_invV 3 0 sp_X3_isDead (z_if (fun x => x = 0) (z_ret 0) (z_throw 3))))
set_option maxRecDepth 20000 in
theorem zk_X7_requireAlive_0 {X : ZX} (C : zCx X cX7_requireAlive RX7 none 6 90 1 6) (hn : X.nL = 1) : ZOK X 0 (zb_X7_requireAlive_0) := by
  unfold zb_X7_requireAlive_0
  refine z_aload_n_ok (pc := 0) (i := 0) C.hx C.hb dX7_requireAlive_0 rfl ?_
  refine z_invV_ok (pc := 1) C (by decide +kernel) (zm_X3_isDead X.l C.htr) ⟨rfl, rfl⟩ ⟨by decide, by decide⟩ (by decide) (by decide) zcl_X7_189 zw_383 zw_384 zK3 dX7_requireAlive_1 ?_
  refine z_if_eq_ok (pc := 4) (tgt := 18) C.hx C.hb dX7_requireAlive_4 (by decide) ?_ ?_
  · exact z_vret_ok (pc := 18) C dX7_requireAlive_18
  · exact z_throwSW_ok (pc := 7) (text := "they are dead") C zth_165_169 (by decide +kernel) dX7_requireAlive_7 dX7_requireAlive_10 dX7_requireAlive_11 dX7_requireAlive_14 dX7_requireAlive_17 (by decide +kernel) (by decide) (by decide) (by decide) (by decide)
def sp_X7_requireAlive : ZSp := fun as S K => as.length ≤ 1 ∧ zsp 1 zb_X7_requireAlive_0 as S K
theorem zm_X7_requireAlive (l : Launch) (hl : l.stackTraces = false) : zMet l yX7_requireAlive cX7_requireAlive 1 none { frames := 6, cells := 1, slots := 6, locals := 90 } 0 0 sp_X7_requireAlive := zMet_of hl (by decide +kernel) ⟨rfl, rfl⟩ (fun X C hn _ => zk_X7_requireAlive_0 C hn)
theorem dX7_requireEnough_0 : decode cX7_requireEnough 0 = .ok (.iload_n 0, 1) := by decide +kernel
theorem dX7_requireEnough_1 : decode cX7_requireEnough 1 = .ok (.iload_n 1, 1) := by decide +kernel
theorem dX7_requireEnough_2 : decode cX7_requireEnough 2 = .ok (.if_icmp .ge 14, 3) := by decide +kernel
theorem dX7_requireEnough_5 : decode cX7_requireEnough 5 = .ok (.new 165, 3) := by decide +kernel
theorem dX7_requireEnough_8 : decode cX7_requireEnough 8 = .ok (.dup, 1) := by decide +kernel
theorem dX7_requireEnough_9 : decode cX7_requireEnough 9 = .ok (.ldc_w 357, 3) := by decide +kernel
theorem dX7_requireEnough_12 : decode cX7_requireEnough 12 = .ok (.invokespecial 169, 3) := by decide +kernel
theorem dX7_requireEnough_15 : decode cX7_requireEnough 15 = .ok (.athrow, 1) := by decide +kernel
theorem dX7_requireEnough_16 : decode cX7_requireEnough 16 = .ok (.return_, 1) := by decide +kernel
def zb_X7_requireEnough_0 : ZP := (z_ild 0 (z_ild 1 (z_cmp (fun x y => y ≤ x) (z_ret 0) (z_throw 3))))
set_option maxRecDepth 20000 in
theorem zk_X7_requireEnough_0 {X : ZX} (C : zCx X cX7_requireEnough RX7 none 6 90 1 6) (hn : X.nL = 2) : ZOK X 0 (zb_X7_requireEnough_0) := by
  unfold zb_X7_requireEnough_0
  refine z_iload_n_ok (pc := 0) (i := 0) C.hx C.hb dX7_requireEnough_0 rfl ?_
  refine z_iload_n_ok (pc := 1) (i := 1) C.hx C.hb dX7_requireEnough_1 rfl ?_
  refine z_icmp_ge_ok (pc := 2) (tgt := 16) C.hx C.hb dX7_requireEnough_2 (by decide) ?_ ?_
  · exact z_vret_ok (pc := 16) C dX7_requireEnough_16
  · exact z_throwSW_ok (pc := 5) (text := "there are fewer") C zth_165_169 (by decide +kernel) dX7_requireEnough_5 dX7_requireEnough_8 dX7_requireEnough_9 dX7_requireEnough_12 dX7_requireEnough_15 (by decide +kernel) (by decide) (by decide) (by decide) (by decide)
def sp_X7_requireEnough : ZSp := fun as S K => as.length ≤ 2 ∧ zsp 2 zb_X7_requireEnough_0 as S K
theorem zm_X7_requireEnough (l : Launch) (hl : l.stackTraces = false) : zMet l yX7_requireEnough cX7_requireEnough 2 none { frames := 6, cells := 1, slots := 6, locals := 90 } 0 0 sp_X7_requireEnough := zMet_of hl (by decide +kernel) ⟨rfl, rfl⟩ (fun X C hn _ => zk_X7_requireEnough_0 C hn)
theorem dX7_eat_0 : decode cX7_eat 0 = .ok (.aload_n 1, 1) := by decide +kernel
theorem dX7_eat_1 : decode cX7_eat 1 = .ok (.dup, 1) := by decide +kernel
theorem dX7_eat_2 : decode cX7_eat 2 = .ok (.getfield 186, 3) := by decide +kernel
theorem dX7_eat_5 : decode cX7_eat 5 = .ok (.iload_n 3, 1) := by decide +kernel
theorem dX7_eat_6 : decode cX7_eat 6 = .ok (.aload_n 2, 1) := by decide +kernel
theorem dX7_eat_7 : decode cX7_eat 7 = .ok (.getfield 100, 3) := by decide +kernel
theorem dX7_eat_10 : decode cX7_eat 10 = .ok (.imul, 1) := by decide +kernel
theorem dX7_eat_11 : decode cX7_eat 11 = .ok (.bipush 100, 2) := by decide +kernel
theorem dX7_eat_13 : decode cX7_eat 13 = .ok (.idiv, 1) := by decide +kernel
theorem dX7_eat_14 : decode cX7_eat 14 = .ok (.iadd, 1) := by decide +kernel
theorem dX7_eat_15 : decode cX7_eat 15 = .ok (.putfield 186, 3) := by decide +kernel
theorem dX7_eat_18 : decode cX7_eat 18 = .ok (.aload_n 0, 1) := by decide +kernel
theorem dX7_eat_19 : decode cX7_eat 19 = .ok (.dup, 1) := by decide +kernel
theorem dX7_eat_20 : decode cX7_eat 20 = .ok (.getfield 78, 3) := by decide +kernel
theorem dX7_eat_23 : decode cX7_eat 23 = .ok (.iload_n 3, 1) := by decide +kernel
theorem dX7_eat_24 : decode cX7_eat 24 = .ok (.iadd, 1) := by decide +kernel
theorem dX7_eat_25 : decode cX7_eat 25 = .ok (.putfield 78, 3) := by decide +kernel
theorem dX7_eat_28 : decode cX7_eat 28 = .ok (.return_, 1) := by decide +kernel
def zb_X7_eat_0 : ZP := (z_ald 1 (z_dup (z_gf 3 9 (z_ild 3 (z_ald 2 (z_gf 2 2 (z_bin (fun x y => x * y) (z_push 100 (z_dvn (fun x y => x / y) (z_bin (fun x y => x + y) (z_pf 3 9 (z_ald 0 (z_dup (z_gf 7 16 (z_ild 3 (z_bin (fun x y => x + y) (z_pf 7 16 (z_ret 0))))))))))))))))))
set_option maxRecDepth 20000 in
theorem zk_X7_eat_0 {X : ZX} (C : zCx X cX7_eat RX7 none 0 0 1 6) (hn : X.nL = 4) : ZOK X 0 (zb_X7_eat_0) := by
  unfold zb_X7_eat_0
  refine z_aload_n_ok (pc := 0) (i := 1) C.hx C.hb dX7_eat_0 rfl ?_
  refine z_dup_ok (pc := 1) C.hx C.hb dX7_eat_1 ?_
  refine z_gf_ok (pc := 2) C zK3 (f := 9) (by decide) zw_336 rfl dX7_eat_2 ?_
  refine z_iload_n_ok (pc := 5) (i := 3) C.hx C.hb dX7_eat_5 rfl ?_
  refine z_aload_n_ok (pc := 6) (i := 2) C.hx C.hb dX7_eat_6 rfl ?_
  refine z_gf_ok (pc := 7) C zK2 (f := 2) (by decide) zw_92 rfl dX7_eat_7 ?_
  refine z_imul_ok (pc := 10) C.hx C.hb dX7_eat_10 ?_
  refine z_bipush_ok (pc := 11) (v := 100) C.hx C.hb dX7_eat_11 (by decide) ?_
  refine z_idiv_ok (pc := 13) C.hx C.hb dX7_eat_13 ?_
  refine z_iadd_ok (pc := 14) C.hx C.hb dX7_eat_14 ?_
  refine z_pf_ok (pc := 15) C zK3 rfl rfl (f := 9) (by decide) zw_336 rfl rfl (by decide +kernel) dX7_eat_15 ?_
  refine z_aload_n_ok (pc := 18) (i := 0) C.hx C.hb dX7_eat_18 rfl ?_
  refine z_dup_ok (pc := 19) C.hx C.hb dX7_eat_19 ?_
  refine z_gf_ok (pc := 20) C zK7 (f := 16) (by decide) zw_124 rfl dX7_eat_20 ?_
  refine z_iload_n_ok (pc := 23) (i := 3) C.hx C.hb dX7_eat_23 rfl ?_
  refine z_iadd_ok (pc := 24) C.hx C.hb dX7_eat_24 ?_
  refine z_pf_ok (pc := 25) C zK7 rfl rfl (f := 16) (by decide) zw_124 rfl rfl (by decide +kernel) dX7_eat_25 ?_
  exact z_vret_ok (pc := 28) C dX7_eat_28
def sp_X7_eat : ZSp := fun as S K => as.length ≤ 4 ∧ zsp 4 zb_X7_eat_0 as S K
theorem zm_X7_eat (l : Launch) (hl : l.stackTraces = false) : zMet l yX7_eat cX7_eat 4 none { frames := 0, cells := 1, slots := 6, locals := 0 } 0 0 sp_X7_eat := zMet_of hl (by decide +kernel) ⟨rfl, rfl⟩ (fun X C hn _ => zk_X7_eat_0 C hn)
theorem dX7_black_0 : decode cX7_black 0 = .ok (.aload_n 0, 1) := by decide +kernel
theorem dX7_black_1 : decode cX7_black 1 = .ok (.iload_n 1, 1) := by decide +kernel
theorem dX7_black_2 : decode cX7_black 2 = .ok (.invokevirtual 130, 3) := by decide +kernel
theorem dX7_black_5 : decode cX7_black 5 = .ok (.astore 4, 2) := by decide +kernel
theorem dX7_black_7 : decode cX7_black 7 = .ok (.aload_n 0, 1) := by decide +kernel
theorem dX7_black_8 : decode cX7_black 8 = .ok (.iload_n 2, 1) := by decide +kernel
theorem dX7_black_9 : decode cX7_black 9 = .ok (.invokevirtual 88, 3) := by decide +kernel
theorem dX7_black_12 : decode cX7_black 12 = .ok (.astore 5, 2) := by decide +kernel
theorem dX7_black_14 : decode cX7_black 14 = .ok (.iload_n 3, 1) := by decide +kernel
theorem dX7_black_15 : decode cX7_black 15 = .ok (.iconst 1, 1) := by decide +kernel
theorem dX7_black_16 : decode cX7_black 16 = .ok (.sipush 9999, 3) := by decide +kernel
theorem dX7_black_19 : decode cX7_black 19 = .ok (.invokestatic 92, 3) := by decide +kernel
theorem dX7_black_22 : decode cX7_black 22 = .ok (.aload 4, 2) := by decide +kernel
theorem dX7_black_24 : decode cX7_black 24 = .ok (.invokestatic 134, 3) := by decide +kernel
theorem dX7_black_27 : decode cX7_black 27 = .ok (.aload 5, 2) := by decide +kernel
theorem dX7_black_29 : decode cX7_black 29 = .ok (.getfield 116, 3) := by decide +kernel
theorem dX7_black_32 : decode cX7_black 32 = .ok (.iload_n 3, 1) := by decide +kernel
theorem dX7_black_33 : decode cX7_black 33 = .ok (.invokestatic 222, 3) := by decide +kernel
theorem dX7_black_36 : decode cX7_black 36 = .ok (.iload_n 3, 1) := by decide +kernel
theorem dX7_black_37 : decode cX7_black 37 = .ok (.bipush 50, 2) := by decide +kernel
theorem dX7_black_39 : decode cX7_black 39 = .ok (.bipush 25, 2) := by decide +kernel
theorem dX7_black_41 : decode cX7_black 41 = .ok (.aload_n 0, 1) := by decide +kernel
theorem dX7_black_42 : decode cX7_black 42 = .ok (.getfield 72, 3) := by decide +kernel
theorem dX7_black_45 : decode cX7_black 45 = .ok (.imul, 1) := by decide +kernel
theorem dX7_black_46 : decode cX7_black 46 = .ok (.iadd, 1) := by decide +kernel
theorem dX7_black_47 : decode cX7_black 47 = .ok (.imul, 1) := by decide +kernel
theorem dX7_black_48 : decode cX7_black 48 = .ok (.bipush 100, 2) := by decide +kernel
theorem dX7_black_50 : decode cX7_black 50 = .ok (.idiv, 1) := by decide +kernel
theorem dX7_black_51 : decode cX7_black 51 = .ok (.istore 6, 2) := by decide +kernel
theorem dX7_black_53 : decode cX7_black 53 = .ok (.aload 5, 2) := by decide +kernel
theorem dX7_black_55 : decode cX7_black 55 = .ok (.dup, 1) := by decide +kernel
theorem dX7_black_56 : decode cX7_black 56 = .ok (.getfield 116, 3) := by decide +kernel
theorem dX7_black_59 : decode cX7_black 59 = .ok (.iload_n 3, 1) := by decide +kernel
theorem dX7_black_60 : decode cX7_black 60 = .ok (.isub, 1) := by decide +kernel
theorem dX7_black_61 : decode cX7_black 61 = .ok (.putfield 116, 3) := by decide +kernel
theorem dX7_black_64 : decode cX7_black 64 = .ok (.aload_n 0, 1) := by decide +kernel
theorem dX7_black_65 : decode cX7_black 65 = .ok (.dup, 1) := by decide +kernel
theorem dX7_black_66 : decode cX7_black 66 = .ok (.getfield 84, 3) := by decide +kernel
theorem dX7_black_69 : decode cX7_black 69 = .ok (.iload 6, 2) := by decide +kernel
theorem dX7_black_71 : decode cX7_black 71 = .ok (.iadd, 1) := by decide +kernel
theorem dX7_black_72 : decode cX7_black 72 = .ok (.putfield 84, 3) := by decide +kernel
theorem dX7_black_75 : decode cX7_black 75 = .ok (.aload_n 0, 1) := by decide +kernel
theorem dX7_black_76 : decode cX7_black 76 = .ok (.aload 4, 2) := by decide +kernel
theorem dX7_black_78 : decode cX7_black 78 = .ok (.aload 5, 2) := by decide +kernel
theorem dX7_black_80 : decode cX7_black 80 = .ok (.iload_n 3, 1) := by decide +kernel
theorem dX7_black_81 : decode cX7_black 81 = .ok (.invokevirtual 243, 3) := by decide +kernel
theorem dX7_black_84 : decode cX7_black 84 = .ok (.iload 6, 2) := by decide +kernel
theorem dX7_black_86 : decode cX7_black 86 = .ok (.ireturn, 1) := by decide +kernel
def zb_X7_black_0 : ZP := (z_ald 0 (z_ild 1 (z_invV 7 1 sp_X7_knownPerson (z_ast 4 (z_ald 0 (z_ild 2 (z_invV 7 1 sp_X7_knownGood (z_ast 5 (z_ild 3 (z_push 1 (z_push 9999 (z_invS 3 sp_X7_requireRange (z_ald 4 (z_invS 1 sp_X7_requireAlive (z_ald 5 (z_gf 2 4 (z_ild 3 (z_invS 2 sp_X7_requireEnough (z_ild 3 (z_push 50 (z_push 25 (z_ald 0 (z_gf 7 14 (z_bin (fun x y => x * y) (z_bin (fun x y => x + y) (z_bin (fun x y => x * y) (z_push 100 (z_dvn (fun x y => x / y) (z_ist 6 (z_ald 5 (z_dup (z_gf 2 4 (z_ild 3 (z_bin (fun x y => x - y) (z_pf 2 4 (z_ald 0 (z_dup (z_gf 7 18 (z_ild 6 (z_bin (fun x y => x + y) (z_pf 7 18 (z_ald 0 (z_ald 4 (z_ald 5 (z_ild 3 (z_invV 7 3 sp_X7_eat (z_ild 6 (z_ret 1))))))))))))))))))))))))))))))))))))))))))))))))
set_option maxRecDepth 20000 in
theorem zk_X7_black_0 {X : ZX} (C : zCx X cX7_black RX7 (some .int) 7 112 1 6) (hn : X.nL = 7) : ZOK X 0 (zb_X7_black_0) := by
  unfold zb_X7_black_0
  refine z_aload_n_ok (pc := 0) (i := 0) C.hx C.hb dX7_black_0 rfl ?_
  refine z_iload_n_ok (pc := 1) (i := 1) C.hx C.hb dX7_black_1 rfl ?_
  refine z_invV_ok (pc := 2) C (by decide +kernel) (zm_X7_knownPerson X.l C.htr) ⟨rfl, rfl⟩ ⟨by decide, by decide⟩ (by decide) (by decide) zcl_X7_130 zw_368 zw_4 zK7 dX7_black_2 ?_
  refine z_astore_ok (pc := 5) (i := 4) C.hx C.hb dX7_black_5 (zlt hn (by decide)) ?_
  refine z_aload_n_ok (pc := 7) (i := 0) C.hx C.hb dX7_black_7 rfl ?_
  refine z_iload_n_ok (pc := 8) (i := 2) C.hx C.hb dX7_black_8 rfl ?_
  refine z_invV_ok (pc := 9) C (by decide +kernel) (zm_X7_knownGood X.l C.htr) ⟨rfl, rfl⟩ ⟨by decide, by decide⟩ (by decide) (by decide) zcl_X7_88 zw_172 zw_0 zK7 dX7_black_9 ?_
  refine z_astore_ok (pc := 12) (i := 5) C.hx C.hb dX7_black_12 (zlt hn (by decide)) ?_
  refine z_iload_n_ok (pc := 14) (i := 3) C.hx C.hb dX7_black_14 rfl ?_
  refine z_iconst_ok (pc := 15) (v := 1) C.hx C.hb dX7_black_15 (by decide) ?_
  refine z_sipush_ok (pc := 16) (v := 9999) C.hx C.hb dX7_black_16 (by decide) ?_
  refine z_invS_ok (pc := 19) C (by decide +kernel) (zm_X7_requireRange X.l C.htr) ⟨rfl, rfl⟩ ⟨by decide, by decide⟩ (by decide) (by decide) zcl_X7_92 zw_243 dX7_black_19 ?_
  refine z_aload_ok (pc := 22) (i := 4) C.hx C.hb dX7_black_22 ?_
  refine z_invS_ok (pc := 24) C (by decide +kernel) (zm_X7_requireAlive X.l C.htr) ⟨rfl, rfl⟩ ⟨by decide, by decide⟩ (by decide) (by decide) zcl_X7_134 zw_640 dX7_black_24 ?_
  refine z_aload_ok (pc := 27) (i := 5) C.hx C.hb dX7_black_27 ?_
  refine z_gf_ok (pc := 29) C zK2 (f := 4) (by decide) zw_96 rfl dX7_black_29 ?_
  refine z_iload_n_ok (pc := 32) (i := 3) C.hx C.hb dX7_black_32 rfl ?_
  refine z_invS_ok (pc := 33) C (by decide +kernel) (zm_X7_requireEnough X.l C.htr) ⟨rfl, rfl⟩ ⟨by decide, by decide⟩ (by decide) (by decide) zcl_X7_222 zw_653 dX7_black_33 ?_
  refine z_iload_n_ok (pc := 36) (i := 3) C.hx C.hb dX7_black_36 rfl ?_
  refine z_bipush_ok (pc := 37) (v := 50) C.hx C.hb dX7_black_37 (by decide) ?_
  refine z_bipush_ok (pc := 39) (v := 25) C.hx C.hb dX7_black_39 (by decide) ?_
  refine z_aload_n_ok (pc := 41) (i := 0) C.hx C.hb dX7_black_41 rfl ?_
  refine z_gf_ok (pc := 42) C zK7 (f := 14) (by decide) zw_122 rfl dX7_black_42 ?_
  refine z_imul_ok (pc := 45) C.hx C.hb dX7_black_45 ?_
  refine z_iadd_ok (pc := 46) C.hx C.hb dX7_black_46 ?_
  refine z_imul_ok (pc := 47) C.hx C.hb dX7_black_47 ?_
  refine z_bipush_ok (pc := 48) (v := 100) C.hx C.hb dX7_black_48 (by decide) ?_
  refine z_idiv_ok (pc := 50) C.hx C.hb dX7_black_50 ?_
  refine z_istore_ok (pc := 51) (i := 6) C.hx C.hb dX7_black_51 (zlt hn (by decide)) ?_
  refine z_aload_ok (pc := 53) (i := 5) C.hx C.hb dX7_black_53 ?_
  refine z_dup_ok (pc := 55) C.hx C.hb dX7_black_55 ?_
  refine z_gf_ok (pc := 56) C zK2 (f := 4) (by decide) zw_96 rfl dX7_black_56 ?_
  refine z_iload_n_ok (pc := 59) (i := 3) C.hx C.hb dX7_black_59 rfl ?_
  refine z_isub_ok (pc := 60) C.hx C.hb dX7_black_60 ?_
  refine z_pf_ok (pc := 61) C zK2 rfl rfl (f := 4) (by decide) zw_96 rfl rfl (by decide +kernel) dX7_black_61 ?_
  refine z_aload_n_ok (pc := 64) (i := 0) C.hx C.hb dX7_black_64 rfl ?_
  refine z_dup_ok (pc := 65) C.hx C.hb dX7_black_65 ?_
  refine z_gf_ok (pc := 66) C zK7 (f := 18) (by decide) zw_126 rfl dX7_black_66 ?_
  refine z_iload_ok (pc := 69) (i := 6) C.hx C.hb dX7_black_69 ?_
  refine z_iadd_ok (pc := 71) C.hx C.hb dX7_black_71 ?_
  refine z_pf_ok (pc := 72) C zK7 rfl rfl (f := 18) (by decide) zw_126 rfl rfl (by decide +kernel) dX7_black_72 ?_
  refine z_aload_n_ok (pc := 75) (i := 0) C.hx C.hb dX7_black_75 rfl ?_
  refine z_aload_ok (pc := 76) (i := 4) C.hx C.hb dX7_black_76 ?_
  refine z_aload_ok (pc := 78) (i := 5) C.hx C.hb dX7_black_78 ?_
  refine z_iload_n_ok (pc := 80) (i := 3) C.hx C.hb dX7_black_80 rfl ?_
  refine z_invV_ok (pc := 81) C (by decide +kernel) (zm_X7_eat X.l C.htr) ⟨rfl, rfl⟩ ⟨by decide, by decide⟩ (by decide) (by decide) zcl_X7_243 zw_661 zw_23 zK7 dX7_black_81 ?_
  refine z_iload_ok (pc := 84) (i := 6) C.hx C.hb dX7_black_84 ?_
  exact z_iret_ok (pc := 86) C dX7_black_86
def sp_X7_black : ZSp := fun as S K => as.length ≤ 7 ∧ zsp 7 zb_X7_black_0 as S K
theorem zm_X7_black (l : Launch) (hl : l.stackTraces = false) : zMet l yX7_black cX7_black 7 (some .int) { frames := 7, cells := 1, slots := 6, locals := 112 } 0 0 sp_X7_black := zMet_of hl (by decide +kernel) ⟨rfl, rfl⟩ (fun X C hn _ => zk_X7_black_0 C hn)
theorem dX7_bringTo_0 : decode cX7_bringTo 0 = .ok (.aload_n 1, 1) := by decide +kernel
theorem dX7_bringTo_1 : decode cX7_bringTo 1 = .ok (.getfield 219, 3) := by decide +kernel
theorem dX7_bringTo_4 : decode cX7_bringTo 4 = .ok (.iload_n 2, 1) := by decide +kernel
theorem dX7_bringTo_5 : decode cX7_bringTo 5 = .ok (.dup2, 1) := by decide +kernel
theorem dX7_bringTo_6 : decode cX7_bringTo 6 = .ok (.iaload, 1) := by decide +kernel
theorem dX7_bringTo_7 : decode cX7_bringTo 7 = .ok (.iload_n 3, 1) := by decide +kernel
theorem dX7_bringTo_8 : decode cX7_bringTo 8 = .ok (.iadd, 1) := by decide +kernel
theorem dX7_bringTo_9 : decode cX7_bringTo 9 = .ok (.iastore, 1) := by decide +kernel
theorem dX7_bringTo_10 : decode cX7_bringTo 10 = .ok (.aload_n 0, 1) := by decide +kernel
theorem dX7_bringTo_11 : decode cX7_bringTo 11 = .ok (.dup, 1) := by decide +kernel
theorem dX7_bringTo_12 : decode cX7_bringTo 12 = .ok (.getfield 75, 3) := by decide +kernel
theorem dX7_bringTo_15 : decode cX7_bringTo 15 = .ok (.iload_n 3, 1) := by decide +kernel
theorem dX7_bringTo_16 : decode cX7_bringTo 16 = .ok (.iadd, 1) := by decide +kernel
theorem dX7_bringTo_17 : decode cX7_bringTo 17 = .ok (.putfield 75, 3) := by decide +kernel
theorem dX7_bringTo_20 : decode cX7_bringTo 20 = .ok (.return_, 1) := by decide +kernel
def zb_X7_bringTo_0 : ZP := (z_ald 1 (z_gf 0 2 (z_ild 2 (z_dup2 (z_iald (z_ild 3 (z_bin (fun x y => x + y) (z_iast (z_ald 0 (z_dup (z_gf 7 15 (z_ild 3 (z_bin (fun x y => x + y) (z_pf 7 15 (z_ret 0)))))))))))))))
set_option maxRecDepth 20000 in
theorem zk_X7_bringTo_0 {X : ZX} (C : zCx X cX7_bringTo RX7 none 0 0 1 6) (hn : X.nL = 4) : ZOK X 0 (zb_X7_bringTo_0) := by
  unfold zb_X7_bringTo_0
  refine z_aload_n_ok (pc := 0) (i := 1) C.hx C.hb dX7_bringTo_0 rfl ?_
  refine z_gf_ok (pc := 1) C zK0 (f := 2) (by decide) zw_422 rfl dX7_bringTo_1 ?_
  refine z_iload_n_ok (pc := 4) (i := 2) C.hx C.hb dX7_bringTo_4 rfl ?_
  refine z_dup2_ok (pc := 5) C.hx C.hb dX7_bringTo_5 ?_
  refine z_iald_ok (pc := 6) C dX7_bringTo_6 ?_
  refine z_iload_n_ok (pc := 7) (i := 3) C.hx C.hb dX7_bringTo_7 rfl ?_
  refine z_iadd_ok (pc := 8) C.hx C.hb dX7_bringTo_8 ?_
  refine z_iast_ok (pc := 9) C dX7_bringTo_9 ?_
  refine z_aload_n_ok (pc := 10) (i := 0) C.hx C.hb dX7_bringTo_10 rfl ?_
  refine z_dup_ok (pc := 11) C.hx C.hb dX7_bringTo_11 ?_
  refine z_gf_ok (pc := 12) C zK7 (f := 15) (by decide) zw_123 rfl dX7_bringTo_12 ?_
  refine z_iload_n_ok (pc := 15) (i := 3) C.hx C.hb dX7_bringTo_15 rfl ?_
  refine z_iadd_ok (pc := 16) C.hx C.hb dX7_bringTo_16 ?_
  refine z_pf_ok (pc := 17) C zK7 rfl rfl (f := 15) (by decide) zw_123 rfl rfl (by decide +kernel) dX7_bringTo_17 ?_
  exact z_vret_ok (pc := 20) C dX7_bringTo_20
def sp_X7_bringTo : ZSp := fun as S K => as.length ≤ 4 ∧ zsp 4 zb_X7_bringTo_0 as S K
theorem zm_X7_bringTo (l : Launch) (hl : l.stackTraces = false) : zMet l yX7_bringTo cX7_bringTo 4 none { frames := 0, cells := 1, slots := 6, locals := 0 } 0 0 sp_X7_bringTo := zMet_of hl (by decide +kernel) ⟨rfl, rfl⟩ (fun X C hn _ => zk_X7_bringTo_0 C hn)
theorem dX7_gramsLeftAfter_0 : decode cX7_gramsLeftAfter 0 = .ok (.aload_n 1, 1) := by decide +kernel
theorem dX7_gramsLeftAfter_1 : decode cX7_gramsLeftAfter 1 = .ok (.getfield 103, 3) := by decide +kernel
theorem dX7_gramsLeftAfter_4 : decode cX7_gramsLeftAfter 4 = .ok (.ifCond .ne 10, 3) := by decide +kernel
theorem dX7_gramsLeftAfter_7 : decode cX7_gramsLeftAfter 7 = .ok (.aload_n 0, 1) := by decide +kernel
theorem dX7_gramsLeftAfter_8 : decode cX7_gramsLeftAfter 8 = .ok (.invokevirtual 352, 3) := by decide +kernel
theorem dX7_gramsLeftAfter_11 : decode cX7_gramsLeftAfter 11 = .ok (.ifCond .eq 5, 3) := by decide +kernel
theorem dX7_gramsLeftAfter_14 : decode cX7_gramsLeftAfter 14 = .ok (.iconst 0, 1) := by decide +kernel
theorem dX7_gramsLeftAfter_15 : decode cX7_gramsLeftAfter 15 = .ok (.ireturn, 1) := by decide +kernel
theorem dX7_gramsLeftAfter_16 : decode cX7_gramsLeftAfter 16 = .ok (.iconst 0, 1) := by decide +kernel
theorem dX7_gramsLeftAfter_17 : decode cX7_gramsLeftAfter 17 = .ok (.aload_n 1, 1) := by decide +kernel
theorem dX7_gramsLeftAfter_18 : decode cX7_gramsLeftAfter 18 = .ok (.getfield 106, 3) := by decide +kernel
theorem dX7_gramsLeftAfter_21 : decode cX7_gramsLeftAfter 21 = .ok (.aload_n 0, 1) := by decide +kernel
theorem dX7_gramsLeftAfter_22 : decode cX7_gramsLeftAfter 22 = .ok (.invokevirtual 373, 3) := by decide +kernel
theorem dX7_gramsLeftAfter_25 : decode cX7_gramsLeftAfter 25 = .ok (.imul, 1) := by decide +kernel
theorem dX7_gramsLeftAfter_26 : decode cX7_gramsLeftAfter 26 = .ok (.iconst 4, 1) := by decide +kernel
theorem dX7_gramsLeftAfter_27 : decode cX7_gramsLeftAfter 27 = .ok (.idiv, 1) := by decide +kernel
theorem dX7_gramsLeftAfter_28 : decode cX7_gramsLeftAfter 28 = .ok (.iload_n 2, 1) := by decide +kernel
theorem dX7_gramsLeftAfter_29 : decode cX7_gramsLeftAfter 29 = .ok (.isub, 1) := by decide +kernel
theorem dX7_gramsLeftAfter_30 : decode cX7_gramsLeftAfter 30 = .ok (.invokestatic 367, 3) := by decide +kernel
theorem dX7_gramsLeftAfter_33 : decode cX7_gramsLeftAfter 33 = .ok (.ireturn, 1) := by decide +kernel
def zb_X7_gramsLeftAfter_14 : ZP := (z_push 0 (z_ret 1))
set_option maxRecDepth 20000 in
theorem zk_X7_gramsLeftAfter_14 {X : ZX} (C : zCx X cX7_gramsLeftAfter RX7 (some .int) 1 21 1 6) (hn : X.nL = 3) : ZOK X 14 (zb_X7_gramsLeftAfter_14) := by
  unfold zb_X7_gramsLeftAfter_14
  refine z_iconst_ok (pc := 14) (v := 0) C.hx C.hb dX7_gramsLeftAfter_14 (by decide) ?_
  exact z_iret_ok (pc := 15) C dX7_gramsLeftAfter_15
def zb_X7_gramsLeftAfter_0 : ZP := (z_ald 1 (z_gf 2 0 (z_if (fun x => x = 0) (z_ald 0 (z_invV 3 0 sp_X3_isWithoutBook (z_if (fun x => x = 0) (z_push 0 (z_ald 1 (z_gf 2 1 (z_ald 0 (z_invV 3 0 sp_X3_quarters (z_bin (fun x y => x * y) (z_push 4 (z_dvn (fun x y => x / y) (z_ild 2 (z_bin (fun x y => x - y) (z_mm (fun x y => if x < y then y else x) (z_ret 1)))))))))))) zb_X7_gramsLeftAfter_14))) zb_X7_gramsLeftAfter_14)))
set_option maxRecDepth 20000 in
theorem zk_X7_gramsLeftAfter_0 {X : ZX} (C : zCx X cX7_gramsLeftAfter RX7 (some .int) 1 21 1 6) (hn : X.nL = 3) : ZOK X 0 (zb_X7_gramsLeftAfter_0) := by
  unfold zb_X7_gramsLeftAfter_0
  refine z_aload_n_ok (pc := 0) (i := 1) C.hx C.hb dX7_gramsLeftAfter_0 rfl ?_
  refine z_gf_ok (pc := 1) C zK2 (f := 0) (by decide) zw_88 rfl dX7_gramsLeftAfter_1 ?_
  refine z_if_ne_ok (pc := 4) (tgt := 14) C.hx C.hb dX7_gramsLeftAfter_4 (by decide) ?_ ?_
  · exact zk_X7_gramsLeftAfter_14 C hn 
  · refine z_aload_n_ok (pc := 7) (i := 0) C.hx C.hb dX7_gramsLeftAfter_7 rfl ?_
    refine z_invV_ok (pc := 8) C (by decide +kernel) (zm_X3_isWithoutBook X.l C.htr) ⟨rfl, rfl⟩ ⟨by decide, by decide⟩ (by decide) (by decide) zcl_X7_352 zw_376 zw_377 zK3 dX7_gramsLeftAfter_8 ?_
    refine z_if_eq_ok (pc := 11) (tgt := 16) C.hx C.hb dX7_gramsLeftAfter_11 (by decide) ?_ ?_
    · refine z_iconst_ok (pc := 16) (v := 0) C.hx C.hb dX7_gramsLeftAfter_16 (by decide) ?_
      refine z_aload_n_ok (pc := 17) (i := 1) C.hx C.hb dX7_gramsLeftAfter_17 rfl ?_
      refine z_gf_ok (pc := 18) C zK2 (f := 1) (by decide) zw_90 rfl dX7_gramsLeftAfter_18 ?_
      refine z_aload_n_ok (pc := 21) (i := 0) C.hx C.hb dX7_gramsLeftAfter_21 rfl ?_
      refine z_invV_ok (pc := 22) C (by decide +kernel) (zm_X3_quarters X.l C.htr) ⟨rfl, rfl⟩ ⟨by decide, by decide⟩ (by decide) (by decide) zcl_X7_373 zw_398 zw_399 zK3 dX7_gramsLeftAfter_22 ?_
      refine z_imul_ok (pc := 25) C.hx C.hb dX7_gramsLeftAfter_25 ?_
      refine z_iconst_ok (pc := 26) (v := 4) C.hx C.hb dX7_gramsLeftAfter_26 (by decide) ?_
      refine z_idiv_ok (pc := 27) C.hx C.hb dX7_gramsLeftAfter_27 ?_
      refine z_iload_n_ok (pc := 28) (i := 2) C.hx C.hb dX7_gramsLeftAfter_28 rfl ?_
      refine z_isub_ok (pc := 29) C.hx C.hb dX7_gramsLeftAfter_29 ?_
      refine z_max_ok (pc := 30) C (by decide) (by decide) zw_379 zw_380 zw_40 zw_381 dX7_gramsLeftAfter_30 ?_
      exact z_iret_ok (pc := 33) C dX7_gramsLeftAfter_33
    · exact zk_X7_gramsLeftAfter_14 C hn 
def sp_X7_gramsLeftAfter : ZSp := fun as S K => as.length ≤ 3 ∧ zsp 3 zb_X7_gramsLeftAfter_0 as S K
theorem zm_X7_gramsLeftAfter (l : Launch) (hl : l.stackTraces = false) : zMet l yX7_gramsLeftAfter cX7_gramsLeftAfter 3 (some .int) { frames := 1, cells := 1, slots := 6, locals := 21 } 0 0 sp_X7_gramsLeftAfter := zMet_of hl (by decide +kernel) ⟨rfl, rfl⟩ (fun X C hn _ => zk_X7_gramsLeftAfter_0 C hn)
theorem dX7_gramsLeft_0 : decode cX7_gramsLeft 0 = .ok (.aload_n 1, 1) := by decide +kernel
theorem dX7_gramsLeft_1 : decode cX7_gramsLeft 1 = .ok (.aload_n 0, 1) := by decide +kernel
theorem dX7_gramsLeft_2 : decode cX7_gramsLeft 2 = .ok (.getfield 11, 3) := by decide +kernel
theorem dX7_gramsLeft_5 : decode cX7_gramsLeft 5 = .ok (.iload_n 2, 1) := by decide +kernel
theorem dX7_gramsLeft_6 : decode cX7_gramsLeft 6 = .ok (.aaload, 1) := by decide +kernel
theorem dX7_gramsLeft_7 : decode cX7_gramsLeft 7 = .ok (.aload_n 1, 1) := by decide +kernel
theorem dX7_gramsLeft_8 : decode cX7_gramsLeft 8 = .ok (.getfield 370, 3) := by decide +kernel
theorem dX7_gramsLeft_11 : decode cX7_gramsLeft 11 = .ok (.iload_n 2, 1) := by decide +kernel
theorem dX7_gramsLeft_12 : decode cX7_gramsLeft 12 = .ok (.iaload, 1) := by decide +kernel
theorem dX7_gramsLeft_13 : decode cX7_gramsLeft 13 = .ok (.invokestatic 202, 3) := by decide +kernel
theorem dX7_gramsLeft_16 : decode cX7_gramsLeft 16 = .ok (.ireturn, 1) := by decide +kernel
def zb_X7_gramsLeft_0 : ZP := (z_ald 1 (z_ald 0 (z_gf 7 0 (z_ild 2 (z_aald (z_ald 1 (z_gf 3 10 (z_ild 2 (z_iald (z_invS 3 sp_X7_gramsLeftAfter (z_ret 1)))))))))))
set_option maxRecDepth 20000 in
theorem zk_X7_gramsLeft_0 {X : ZX} (C : zCx X cX7_gramsLeft RX7 (some .int) 2 43 1 6) (hn : X.nL = 3) : ZOK X 0 (zb_X7_gramsLeft_0) := by
  unfold zb_X7_gramsLeft_0
  refine z_aload_n_ok (pc := 0) (i := 1) C.hx C.hb dX7_gramsLeft_0 rfl ?_
  refine z_aload_n_ok (pc := 1) (i := 0) C.hx C.hb dX7_gramsLeft_1 rfl ?_
  refine z_gf_ok (pc := 2) C zK7 (f := 0) (by decide) zw_108 rfl dX7_gramsLeft_2 ?_
  refine z_iload_n_ok (pc := 5) (i := 2) C.hx C.hb dX7_gramsLeft_5 rfl ?_
  refine z_aald_ok (pc := 6) C dX7_gramsLeft_6 ?_
  refine z_aload_n_ok (pc := 7) (i := 1) C.hx C.hb dX7_gramsLeft_7 rfl ?_
  refine z_gf_ok (pc := 8) C zK3 (f := 10) (by decide) zw_338 rfl dX7_gramsLeft_8 ?_
  refine z_iload_n_ok (pc := 11) (i := 2) C.hx C.hb dX7_gramsLeft_11 rfl ?_
  refine z_iald_ok (pc := 12) C dX7_gramsLeft_12 ?_
  refine z_invS_ok (pc := 13) C (by decide +kernel) (zm_X7_gramsLeftAfter X.l C.htr) ⟨rfl, rfl⟩ ⟨by decide, by decide⟩ (by decide) (by decide) zcl_X7_202 zw_395 dX7_gramsLeft_13 ?_
  exact z_iret_ok (pc := 16) C dX7_gramsLeft_16
def sp_X7_gramsLeft : ZSp := fun as S K => as.length ≤ 3 ∧ zsp 3 zb_X7_gramsLeft_0 as S K
theorem zm_X7_gramsLeft (l : Launch) (hl : l.stackTraces = false) : zMet l yX7_gramsLeft cX7_gramsLeft 3 (some .int) { frames := 2, cells := 1, slots := 6, locals := 43 } 0 0 sp_X7_gramsLeft := zMet_of hl (by decide +kernel) ⟨rfl, rfl⟩ (fun X C hn _ => zk_X7_gramsLeft_0 C hn)
theorem dX7_pointsFor_0 : decode cX7_pointsFor 0 = .ok (.aload_n 0, 1) := by decide +kernel
theorem dX7_pointsFor_1 : decode cX7_pointsFor 1 = .ok (.getfield 106, 3) := by decide +kernel
theorem dX7_pointsFor_4 : decode cX7_pointsFor 4 = .ok (.iload_n 1, 1) := by decide +kernel
theorem dX7_pointsFor_5 : decode cX7_pointsFor 5 = .ok (.bipush 100, 2) := by decide +kernel
theorem dX7_pointsFor_7 : decode cX7_pointsFor 7 = .ok (.idiv, 1) := by decide +kernel
theorem dX7_pointsFor_8 : decode cX7_pointsFor 8 = .ok (.imul, 1) := by decide +kernel
theorem dX7_pointsFor_9 : decode cX7_pointsFor 9 = .ok (.ireturn, 1) := by decide +kernel
def zb_X7_pointsFor_0 : ZP := (z_ald 0 (z_gf 2 1 (z_ild 1 (z_push 100 (z_dvn (fun x y => x / y) (z_bin (fun x y => x * y) (z_ret 1)))))))
set_option maxRecDepth 20000 in
theorem zk_X7_pointsFor_0 {X : ZX} (C : zCx X cX7_pointsFor RX7 (some .int) 0 0 1 6) (hn : X.nL = 2) : ZOK X 0 (zb_X7_pointsFor_0) := by
  unfold zb_X7_pointsFor_0
  refine z_aload_n_ok (pc := 0) (i := 0) C.hx C.hb dX7_pointsFor_0 rfl ?_
  refine z_gf_ok (pc := 1) C zK2 (f := 1) (by decide) zw_90 rfl dX7_pointsFor_1 ?_
  refine z_iload_n_ok (pc := 4) (i := 1) C.hx C.hb dX7_pointsFor_4 rfl ?_
  refine z_bipush_ok (pc := 5) (v := 100) C.hx C.hb dX7_pointsFor_5 (by decide) ?_
  refine z_idiv_ok (pc := 7) C.hx C.hb dX7_pointsFor_7 ?_
  refine z_imul_ok (pc := 8) C.hx C.hb dX7_pointsFor_8 ?_
  exact z_iret_ok (pc := 9) C dX7_pointsFor_9
def sp_X7_pointsFor : ZSp := fun as S K => as.length ≤ 2 ∧ zsp 2 zb_X7_pointsFor_0 as S K
theorem zm_X7_pointsFor (l : Launch) (hl : l.stackTraces = false) : zMet l yX7_pointsFor cX7_pointsFor 2 (some .int) { frames := 0, cells := 1, slots := 6, locals := 0 } 0 0 sp_X7_pointsFor := zMet_of hl (by decide +kernel) ⟨rfl, rfl⟩ (fun X C hn _ => zk_X7_pointsFor_0 C hn)
theorem dX7_pointsLeft_0 : decode cX7_pointsLeft 0 = .ok (.aload_n 1, 1) := by decide +kernel
theorem dX7_pointsLeft_1 : decode cX7_pointsLeft 1 = .ok (.invokevirtual 352, 3) := by decide +kernel
theorem dX7_pointsLeft_4 : decode cX7_pointsLeft 4 = .ok (.ifCond .eq 7, 3) := by decide +kernel
theorem dX7_pointsLeft_7 : decode cX7_pointsLeft 7 = .ok (.iconst 0, 1) := by decide +kernel
theorem dX7_pointsLeft_8 : decode cX7_pointsLeft 8 = .ok (.goto 21, 3) := by decide +kernel
theorem dX7_pointsLeft_11 : decode cX7_pointsLeft 11 = .ok (.iconst 0, 1) := by decide +kernel
theorem dX7_pointsLeft_12 : decode cX7_pointsLeft 12 = .ok (.aload_n 0, 1) := by decide +kernel
theorem dX7_pointsLeft_13 : decode cX7_pointsLeft 13 = .ok (.getfield 63, 3) := by decide +kernel
theorem dX7_pointsLeft_16 : decode cX7_pointsLeft 16 = .ok (.aload_n 1, 1) := by decide +kernel
theorem dX7_pointsLeft_17 : decode cX7_pointsLeft 17 = .ok (.getfield 173, 3) := by decide +kernel
theorem dX7_pointsLeft_20 : decode cX7_pointsLeft 20 = .ok (.iadd, 1) := by decide +kernel
theorem dX7_pointsLeft_21 : decode cX7_pointsLeft 21 = .ok (.aload_n 1, 1) := by decide +kernel
theorem dX7_pointsLeft_22 : decode cX7_pointsLeft 22 = .ok (.getfield 170, 3) := by decide +kernel
theorem dX7_pointsLeft_25 : decode cX7_pointsLeft 25 = .ok (.isub, 1) := by decide +kernel
theorem dX7_pointsLeft_26 : decode cX7_pointsLeft 26 = .ok (.invokestatic 367, 3) := by decide +kernel
theorem dX7_pointsLeft_29 : decode cX7_pointsLeft 29 = .ok (.ireturn, 1) := by decide +kernel
def zb_X7_pointsLeft_29 : ZP := (z_ret 1)
set_option maxRecDepth 20000 in
theorem zk_X7_pointsLeft_29 {X : ZX} (C : zCx X cX7_pointsLeft RX7 (some .int) 1 21 1 6) (hn : X.nL = 2) : ZOK X 29 (zb_X7_pointsLeft_29) := by
  unfold zb_X7_pointsLeft_29
  exact z_iret_ok (pc := 29) C dX7_pointsLeft_29
def zb_X7_pointsLeft_0 : ZP := (z_ald 1 (z_invV 3 0 sp_X3_isWithoutBook (z_if (fun x => x = 0) (z_push 0 (z_ald 0 (z_gf 7 11 (z_ald 1 (z_gf 3 7 (z_bin (fun x y => x + y) (z_ald 1 (z_gf 3 8 (z_bin (fun x y => x - y) (z_mm (fun x y => if x < y then y else x) zb_X7_pointsLeft_29)))))))))) (z_push 0 zb_X7_pointsLeft_29))))
set_option maxRecDepth 20000 in
theorem zk_X7_pointsLeft_0 {X : ZX} (C : zCx X cX7_pointsLeft RX7 (some .int) 1 21 1 6) (hn : X.nL = 2) : ZOK X 0 (zb_X7_pointsLeft_0) := by
  unfold zb_X7_pointsLeft_0
  refine z_aload_n_ok (pc := 0) (i := 1) C.hx C.hb dX7_pointsLeft_0 rfl ?_
  refine z_invV_ok (pc := 1) C (by decide +kernel) (zm_X3_isWithoutBook X.l C.htr) ⟨rfl, rfl⟩ ⟨by decide, by decide⟩ (by decide) (by decide) zcl_X7_352 zw_376 zw_377 zK3 dX7_pointsLeft_1 ?_
  refine z_if_eq_ok (pc := 4) (tgt := 11) C.hx C.hb dX7_pointsLeft_4 (by decide) ?_ ?_
  · refine z_iconst_ok (pc := 11) (v := 0) C.hx C.hb dX7_pointsLeft_11 (by decide) ?_
    refine z_aload_n_ok (pc := 12) (i := 0) C.hx C.hb dX7_pointsLeft_12 rfl ?_
    refine z_gf_ok (pc := 13) C zK7 (f := 11) (by decide) zw_119 rfl dX7_pointsLeft_13 ?_
    refine z_aload_n_ok (pc := 16) (i := 1) C.hx C.hb dX7_pointsLeft_16 rfl ?_
    refine z_gf_ok (pc := 17) C zK3 (f := 7) (by decide) zw_332 rfl dX7_pointsLeft_17 ?_
    refine z_iadd_ok (pc := 20) C.hx C.hb dX7_pointsLeft_20 ?_
    refine z_aload_n_ok (pc := 21) (i := 1) C.hx C.hb dX7_pointsLeft_21 rfl ?_
    refine z_gf_ok (pc := 22) C zK3 (f := 8) (by decide) zw_334 rfl dX7_pointsLeft_22 ?_
    refine z_isub_ok (pc := 25) C.hx C.hb dX7_pointsLeft_25 ?_
    refine z_max_ok (pc := 26) C (by decide) (by decide) zw_379 zw_380 zw_40 zw_381 dX7_pointsLeft_26 ?_
    exact zk_X7_pointsLeft_29 C hn 
  · refine z_iconst_ok (pc := 7) (v := 0) C.hx C.hb dX7_pointsLeft_7 (by decide) ?_
    refine z_goto_ok (pc := 8) (tgt := 29) C.hx C.hb dX7_pointsLeft_8 (by decide) ?_
    exact zk_X7_pointsLeft_29 C hn 
def sp_X7_pointsLeft : ZSp := fun as S K => as.length ≤ 2 ∧ zsp 2 zb_X7_pointsLeft_0 as S K
theorem zm_X7_pointsLeft (l : Launch) (hl : l.stackTraces = false) : zMet l yX7_pointsLeft cX7_pointsLeft 2 (some .int) { frames := 1, cells := 1, slots := 6, locals := 21 } 0 0 sp_X7_pointsLeft := zMet_of hl (by decide +kernel) ⟨rfl, rfl⟩ (fun X C hn _ => zk_X7_pointsLeft_0 C hn)
