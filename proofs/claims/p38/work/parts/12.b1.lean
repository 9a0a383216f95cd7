theorem dX7_requireAllowed_0 : decode cX7_requireAllowed 0 = .ok (.aload_n 0, 1) := by decide +kernel
theorem dX7_requireAllowed_1 : decode cX7_requireAllowed 1 = .ok (.getfield 11, 3) := by decide +kernel
theorem dX7_requireAllowed_4 : decode cX7_requireAllowed 4 = .ok (.iload_n 3, 1) := by decide +kernel
theorem dX7_requireAllowed_5 : decode cX7_requireAllowed 5 = .ok (.aaload, 1) := by decide +kernel
theorem dX7_requireAllowed_6 : decode cX7_requireAllowed 6 = .ok (.astore 5, 2) := by decide +kernel
theorem dX7_requireAllowed_8 : decode cX7_requireAllowed 8 = .ok (.aload 5, 2) := by decide +kernel
theorem dX7_requireAllowed_10 : decode cX7_requireAllowed 10 = .ok (.getfield 103, 3) := by decide +kernel
theorem dX7_requireAllowed_13 : decode cX7_requireAllowed 13 = .ok (.ifCond .ne 33, 3) := by decide +kernel
theorem dX7_requireAllowed_16 : decode cX7_requireAllowed 16 = .ok (.aload_n 1, 1) := by decide +kernel
theorem dX7_requireAllowed_17 : decode cX7_requireAllowed 17 = .ok (.getfield 145, 3) := by decide +kernel
theorem dX7_requireAllowed_20 : decode cX7_requireAllowed 20 = .ok (.aload_n 2, 1) := by decide +kernel
theorem dX7_requireAllowed_21 : decode cX7_requireAllowed 21 = .ok (.if_acmp .ne 14, 3) := by decide +kernel
theorem dX7_requireAllowed_24 : decode cX7_requireAllowed 24 = .ok (.iload 4, 2) := by decide +kernel
theorem dX7_requireAllowed_26 : decode cX7_requireAllowed 26 = .ok (.aload_n 0, 1) := by decide +kernel
theorem dX7_requireAllowed_27 : decode cX7_requireAllowed 27 = .ok (.aload_n 1, 1) := by decide +kernel
theorem dX7_requireAllowed_28 : decode cX7_requireAllowed 28 = .ok (.iload_n 3, 1) := by decide +kernel
theorem dX7_requireAllowed_29 : decode cX7_requireAllowed 29 = .ok (.invokevirtual 193, 3) := by decide +kernel
theorem dX7_requireAllowed_32 : decode cX7_requireAllowed 32 = .ok (.if_icmp .le 14, 3) := by decide +kernel
theorem dX7_requireAllowed_35 : decode cX7_requireAllowed 35 = .ok (.new 165, 3) := by decide +kernel
theorem dX7_requireAllowed_38 : decode cX7_requireAllowed 38 = .ok (.dup, 1) := by decide +kernel
theorem dX7_requireAllowed_39 : decode cX7_requireAllowed 39 = .ok (.ldc_w 359, 3) := by decide +kernel
theorem dX7_requireAllowed_42 : decode cX7_requireAllowed 42 = .ok (.invokespecial 169, 3) := by decide +kernel
theorem dX7_requireAllowed_45 : decode cX7_requireAllowed 45 = .ok (.athrow, 1) := by decide +kernel
theorem dX7_requireAllowed_46 : decode cX7_requireAllowed 46 = .ok (.aload 5, 2) := by decide +kernel
theorem dX7_requireAllowed_48 : decode cX7_requireAllowed 48 = .ok (.getfield 103, 3) := by decide +kernel
theorem dX7_requireAllowed_51 : decode cX7_requireAllowed 51 = .ok (.iconst 1, 1) := by decide +kernel
theorem dX7_requireAllowed_52 : decode cX7_requireAllowed 52 = .ok (.if_icmp .ne 28, 3) := by decide +kernel
theorem dX7_requireAllowed_55 : decode cX7_requireAllowed 55 = .ok (.aload 5, 2) := by decide +kernel
theorem dX7_requireAllowed_57 : decode cX7_requireAllowed 57 = .ok (.iload 4, 2) := by decide +kernel
theorem dX7_requireAllowed_59 : decode cX7_requireAllowed 59 = .ok (.invokestatic 361, 3) := by decide +kernel
theorem dX7_requireAllowed_62 : decode cX7_requireAllowed 62 = .ok (.aload_n 0, 1) := by decide +kernel
theorem dX7_requireAllowed_63 : decode cX7_requireAllowed 63 = .ok (.aload_n 1, 1) := by decide +kernel
theorem dX7_requireAllowed_64 : decode cX7_requireAllowed 64 = .ok (.invokevirtual 161, 3) := by decide +kernel
theorem dX7_requireAllowed_67 : decode cX7_requireAllowed 67 = .ok (.if_icmp .le 13, 3) := by decide +kernel
theorem dX7_requireAllowed_70 : decode cX7_requireAllowed 70 = .ok (.new 165, 3) := by decide +kernel
theorem dX7_requireAllowed_73 : decode cX7_requireAllowed 73 = .ok (.dup, 1) := by decide +kernel
theorem dX7_requireAllowed_74 : decode cX7_requireAllowed 74 = .ok (.ldc 167, 2) := by decide +kernel
theorem dX7_requireAllowed_76 : decode cX7_requireAllowed 76 = .ok (.invokespecial 169, 3) := by decide +kernel
theorem dX7_requireAllowed_79 : decode cX7_requireAllowed 79 = .ok (.athrow, 1) := by decide +kernel
theorem dX7_requireAllowed_80 : decode cX7_requireAllowed 80 = .ok (.return_, 1) := by decide +kernel
def zb_X7_requireAllowed_80 : ZP := (z_ret 0)
set_option maxRecDepth 20000 in
theorem zk_X7_requireAllowed_80 {X : ZX} (C : zCx X cX7_requireAllowed RX7 none 6 90 1 6) (hn : X.nL = 6) : ZOK X 80 (zb_X7_requireAllowed_80) := by
  unfold zb_X7_requireAllowed_80
  exact z_vret_ok (pc := 80) C dX7_requireAllowed_80
def zb_X7_requireAllowed_46 : ZP := (z_ald 5 (z_gf 2 0 (z_push 1 (z_cmp (fun x y => x = y) (z_ald 5 (z_ild 4 (z_invS 2 sp_X7_pointsFor (z_ald 0 (z_ald 1 (z_invV 7 1 sp_X7_pointsLeft (z_cmp (fun x y => x ≤ y) zb_X7_requireAllowed_80 (z_throw 3)))))))) zb_X7_requireAllowed_80))))
set_option maxRecDepth 20000 in
theorem zk_X7_requireAllowed_46 {X : ZX} (C : zCx X cX7_requireAllowed RX7 none 6 90 1 6) (hn : X.nL = 6) : ZOK X 46 (zb_X7_requireAllowed_46) := by
  unfold zb_X7_requireAllowed_46
  refine z_aload_ok (pc := 46) (i := 5) C.hx C.hb dX7_requireAllowed_46 ?_
  refine z_gf_ok (pc := 48) C zK2 (f := 0) (by decide) zw_88 rfl dX7_requireAllowed_48 ?_
  refine z_iconst_ok (pc := 51) (v := 1) C.hx C.hb dX7_requireAllowed_51 (by decide) ?_
  refine z_icmp_ne_ok (pc := 52) (tgt := 80) C.hx C.hb dX7_requireAllowed_52 (by decide) ?_ ?_
  · exact zk_X7_requireAllowed_80 C hn 
  · refine z_aload_ok (pc := 55) (i := 5) C.hx C.hb dX7_requireAllowed_55 ?_
    refine z_iload_ok (pc := 57) (i := 4) C.hx C.hb dX7_requireAllowed_57 ?_
    refine z_invS_ok (pc := 59) C (by decide +kernel) (zm_X7_pointsFor X.l C.htr) ⟨rfl, rfl⟩ ⟨by decide, by decide⟩ (by decide) (by decide) zcl_X7_361 zw_649 dX7_requireAllowed_59 ?_
    refine z_aload_n_ok (pc := 62) (i := 0) C.hx C.hb dX7_requireAllowed_62 rfl ?_
    refine z_aload_n_ok (pc := 63) (i := 1) C.hx C.hb dX7_requireAllowed_63 rfl ?_
    refine z_invV_ok (pc := 64) C (by decide +kernel) (zm_X7_pointsLeft X.l C.htr) ⟨rfl, rfl⟩ ⟨by decide, by decide⟩ (by decide) (by decide) zcl_X7_161 zw_373 zw_5 zK7 dX7_requireAllowed_64 ?_
    refine z_icmp_le_ok (pc := 67) (tgt := 80) C.hx C.hb dX7_requireAllowed_67 (by decide) ?_ ?_
    · exact zk_X7_requireAllowed_80 C hn 
    · exact z_throwS_ok (pc := 70) (text := "fewer points are left") C zth_165_169 (by decide +kernel) dX7_requireAllowed_70 dX7_requireAllowed_73 dX7_requireAllowed_74 dX7_requireAllowed_76 dX7_requireAllowed_79 (by decide +kernel) (by decide) (by decide) (by decide) (by decide)
def zb_X7_requireAllowed_35 : ZP := (z_throw 3)
set_option maxRecDepth 20000 in
theorem zk_X7_requireAllowed_35 {X : ZX} (C : zCx X cX7_requireAllowed RX7 none 6 90 1 6) (hn : X.nL = 6) : ZOK X 35 (zb_X7_requireAllowed_35) := by
  unfold zb_X7_requireAllowed_35
  exact z_throwSW_ok (pc := 35) (text := "they may not buy so many grams there") C zth_165_169 (by decide +kernel) dX7_requireAllowed_35 dX7_requireAllowed_38 dX7_requireAllowed_39 dX7_requireAllowed_42 dX7_requireAllowed_45 (by decide +kernel) (by decide) (by decide) (by decide) (by decide)
def zb_X7_requireAllowed_0 : ZP := (z_ald 0 (z_gf 7 0 (z_ild 3 (z_aald (z_ast 5 (z_ald 5 (z_gf 2 0 (z_if (fun x => x = 0) (z_ald 1 (z_gf 3 2 (z_ald 2 (z_acn zb_X7_requireAllowed_35 (z_ild 4 (z_ald 0 (z_ald 1 (z_ild 3 (z_invV 7 2 sp_X7_gramsLeft (z_cmp (fun x y => x ≤ y) zb_X7_requireAllowed_46 zb_X7_requireAllowed_35)))))))))) zb_X7_requireAllowed_46))))))))
set_option maxRecDepth 20000 in
theorem zk_X7_requireAllowed_0 {X : ZX} (C : zCx X cX7_requireAllowed RX7 none 6 90 1 6) (hn : X.nL = 6) : ZOK X 0 (zb_X7_requireAllowed_0) := by
  unfold zb_X7_requireAllowed_0
  refine z_aload_n_ok (pc := 0) (i := 0) C.hx C.hb dX7_requireAllowed_0 rfl ?_
  refine z_gf_ok (pc := 1) C zK7 (f := 0) (by decide) zw_108 rfl dX7_requireAllowed_1 ?_
  refine z_iload_n_ok (pc := 4) (i := 3) C.hx C.hb dX7_requireAllowed_4 rfl ?_
  refine z_aald_ok (pc := 5) C dX7_requireAllowed_5 ?_
  refine z_astore_ok (pc := 6) (i := 5) C.hx C.hb dX7_requireAllowed_6 (zlt hn (by decide)) ?_
  refine z_aload_ok (pc := 8) (i := 5) C.hx C.hb dX7_requireAllowed_8 ?_
  refine z_gf_ok (pc := 10) C zK2 (f := 0) (by decide) zw_88 rfl dX7_requireAllowed_10 ?_
  refine z_if_ne_ok (pc := 13) (tgt := 46) C.hx C.hb dX7_requireAllowed_13 (by decide) ?_ ?_
  · exact zk_X7_requireAllowed_46 C hn 
  · refine z_aload_n_ok (pc := 16) (i := 1) C.hx C.hb dX7_requireAllowed_16 rfl ?_
    refine z_gf_ok (pc := 17) C zK3 (f := 2) (by decide) zw_322 rfl dX7_requireAllowed_17 ?_
    refine z_aload_n_ok (pc := 20) (i := 2) C.hx C.hb dX7_requireAllowed_20 rfl ?_
    refine z_acn_ok (pc := 21) (tgt := 35) C.hx C.hb dX7_requireAllowed_21 (by decide) ?_ ?_
    · exact zk_X7_requireAllowed_35 C hn 
    · refine z_iload_ok (pc := 24) (i := 4) C.hx C.hb dX7_requireAllowed_24 ?_
      refine z_aload_n_ok (pc := 26) (i := 0) C.hx C.hb dX7_requireAllowed_26 rfl ?_
      refine z_aload_n_ok (pc := 27) (i := 1) C.hx C.hb dX7_requireAllowed_27 rfl ?_
      refine z_iload_n_ok (pc := 28) (i := 3) C.hx C.hb dX7_requireAllowed_28 rfl ?_
      refine z_invV_ok (pc := 29) C (by decide +kernel) (zm_X7_gramsLeft X.l C.htr) ⟨rfl, rfl⟩ ⟨by decide, by decide⟩ (by decide) (by decide) zcl_X7_193 zw_392 zw_6 zK7 dX7_requireAllowed_29 ?_
      refine z_icmp_le_ok (pc := 32) (tgt := 46) C.hx C.hb dX7_requireAllowed_32 (by decide) ?_ ?_
      · exact zk_X7_requireAllowed_46 C hn 
      · exact zk_X7_requireAllowed_35 C hn 
def sp_X7_requireAllowed : ZSp := fun as S K => as.length ≤ 6 ∧ zsp 6 zb_X7_requireAllowed_0 as S K
theorem zm_X7_requireAllowed (l : Launch) (hl : l.stackTraces = false) : zMet l yX7_requireAllowed cX7_requireAllowed 6 none { frames := 6, cells := 1, slots := 6, locals := 90 } 0 0 sp_X7_requireAllowed := zMet_of hl (by decide +kernel) ⟨rfl, rfl⟩ (fun X C hn _ => zk_X7_requireAllowed_0 C hn)
theorem dX7_handOver_0 : decode cX7_handOver 0 = .ok (.aload_n 0, 1) := by decide +kernel
theorem dX7_handOver_1 : decode cX7_handOver 1 = .ok (.dup, 1) := by decide +kernel
theorem dX7_handOver_2 : decode cX7_handOver 2 = .ok (.getfield 235, 3) := by decide +kernel
theorem dX7_handOver_5 : decode cX7_handOver 5 = .ok (.iload_n 2, 1) := by decide +kernel
theorem dX7_handOver_6 : decode cX7_handOver 6 = .ok (.isub, 1) := by decide +kernel
theorem dX7_handOver_7 : decode cX7_handOver 7 = .ok (.putfield 235, 3) := by decide +kernel
theorem dX7_handOver_10 : decode cX7_handOver 10 = .ok (.aload_n 0, 1) := by decide +kernel
theorem dX7_handOver_11 : decode cX7_handOver 11 = .ok (.dup, 1) := by decide +kernel
theorem dX7_handOver_12 : decode cX7_handOver 12 = .ok (.getfield 281, 3) := by decide +kernel
theorem dX7_handOver_15 : decode cX7_handOver 15 = .ok (.iload_n 2, 1) := by decide +kernel
theorem dX7_handOver_16 : decode cX7_handOver 16 = .ok (.iadd, 1) := by decide +kernel
theorem dX7_handOver_17 : decode cX7_handOver 17 = .ok (.putfield 281, 3) := by decide +kernel
theorem dX7_handOver_20 : decode cX7_handOver 20 = .ok (.aload_n 1, 1) := by decide +kernel
theorem dX7_handOver_21 : decode cX7_handOver 21 = .ok (.dup, 1) := by decide +kernel
theorem dX7_handOver_22 : decode cX7_handOver 22 = .ok (.getfield 109, 3) := by decide +kernel
theorem dX7_handOver_25 : decode cX7_handOver 25 = .ok (.iload_n 2, 1) := by decide +kernel
theorem dX7_handOver_26 : decode cX7_handOver 26 = .ok (.iadd, 1) := by decide +kernel
theorem dX7_handOver_27 : decode cX7_handOver 27 = .ok (.putfield 109, 3) := by decide +kernel
theorem dX7_handOver_30 : decode cX7_handOver 30 = .ok (.aload_n 1, 1) := by decide +kernel
theorem dX7_handOver_31 : decode cX7_handOver 31 = .ok (.getfield 103, 3) := by decide +kernel
theorem dX7_handOver_34 : decode cX7_handOver 34 = .ok (.iconst 2, 1) := by decide +kernel
theorem dX7_handOver_35 : decode cX7_handOver 35 = .ok (.if_icmp .eq 13, 3) := by decide +kernel
theorem dX7_handOver_38 : decode cX7_handOver 38 = .ok (.aload_n 0, 1) := by decide +kernel
theorem dX7_handOver_39 : decode cX7_handOver 39 = .ok (.dup, 1) := by decide +kernel
theorem dX7_handOver_40 : decode cX7_handOver 40 = .ok (.getfield 251, 3) := by decide +kernel
theorem dX7_handOver_43 : decode cX7_handOver 43 = .ok (.iload_n 2, 1) := by decide +kernel
theorem dX7_handOver_44 : decode cX7_handOver 44 = .ok (.iadd, 1) := by decide +kernel
theorem dX7_handOver_45 : decode cX7_handOver 45 = .ok (.putfield 251, 3) := by decide +kernel
theorem dX7_handOver_48 : decode cX7_handOver 48 = .ok (.return_, 1) := by decide +kernel
def zb_X7_handOver_48 : ZP := (z_ret 0)
set_option maxRecDepth 20000 in
theorem zk_X7_handOver_48 {X : ZX} (C : zCx X cX7_handOver RX7 none 0 0 1 6) (hn : X.nL = 3) : ZOK X 48 (zb_X7_handOver_48) := by
  unfold zb_X7_handOver_48
  exact z_vret_ok (pc := 48) C dX7_handOver_48
def zb_X7_handOver_0 : ZP := (z_ald 0 (z_dup (z_gf 5 0 (z_ild 2 (z_bin (fun x y => x - y) (z_pf 5 0 (z_ald 0 (z_dup (z_gf 5 4 (z_ild 2 (z_bin (fun x y => x + y) (z_pf 5 4 (z_ald 1 (z_dup (z_gf 2 3 (z_ild 2 (z_bin (fun x y => x + y) (z_pf 2 3 (z_ald 1 (z_gf 2 0 (z_push 2 (z_cmp (fun x y => x = y) zb_X7_handOver_48 (z_ald 0 (z_dup (z_gf 5 1 (z_ild 2 (z_bin (fun x y => x + y) (z_pf 5 1 zb_X7_handOver_48))))))))))))))))))))))))))))
set_option maxRecDepth 20000 in
theorem zk_X7_handOver_0 {X : ZX} (C : zCx X cX7_handOver RX7 none 0 0 1 6) (hn : X.nL = 3) : ZOK X 0 (zb_X7_handOver_0) := by
  unfold zb_X7_handOver_0
  refine z_aload_n_ok (pc := 0) (i := 0) C.hx C.hb dX7_handOver_0 rfl ?_
  refine z_dup_ok (pc := 1) C.hx C.hb dX7_handOver_1 ?_
  refine z_gf_ok (pc := 2) C zK5 (f := 0) (by decide) zw_447 rfl dX7_handOver_2 ?_
  refine z_iload_n_ok (pc := 5) (i := 2) C.hx C.hb dX7_handOver_5 rfl ?_
  refine z_isub_ok (pc := 6) C.hx C.hb dX7_handOver_6 ?_
  refine z_pf_ok (pc := 7) C zK5 rfl rfl (f := 0) (by decide) zw_447 rfl rfl (by decide +kernel) dX7_handOver_7 ?_
  refine z_aload_n_ok (pc := 10) (i := 0) C.hx C.hb dX7_handOver_10 rfl ?_
  refine z_dup_ok (pc := 11) C.hx C.hb dX7_handOver_11 ?_
  refine z_gf_ok (pc := 12) C zK5 (f := 4) (by decide) zw_455 rfl dX7_handOver_12 ?_
  refine z_iload_n_ok (pc := 15) (i := 2) C.hx C.hb dX7_handOver_15 rfl ?_
  refine z_iadd_ok (pc := 16) C.hx C.hb dX7_handOver_16 ?_
  refine z_pf_ok (pc := 17) C zK5 rfl rfl (f := 4) (by decide) zw_455 rfl rfl (by decide +kernel) dX7_handOver_17 ?_
  refine z_aload_n_ok (pc := 20) (i := 1) C.hx C.hb dX7_handOver_20 rfl ?_
  refine z_dup_ok (pc := 21) C.hx C.hb dX7_handOver_21 ?_
  refine z_gf_ok (pc := 22) C zK2 (f := 3) (by decide) zw_94 rfl dX7_handOver_22 ?_
  refine z_iload_n_ok (pc := 25) (i := 2) C.hx C.hb dX7_handOver_25 rfl ?_
  refine z_iadd_ok (pc := 26) C.hx C.hb dX7_handOver_26 ?_
  refine z_pf_ok (pc := 27) C zK2 rfl rfl (f := 3) (by decide) zw_94 rfl rfl (by decide +kernel) dX7_handOver_27 ?_
  refine z_aload_n_ok (pc := 30) (i := 1) C.hx C.hb dX7_handOver_30 rfl ?_
  refine z_gf_ok (pc := 31) C zK2 (f := 0) (by decide) zw_88 rfl dX7_handOver_31 ?_
  refine z_iconst_ok (pc := 34) (v := 2) C.hx C.hb dX7_handOver_34 (by decide) ?_
  refine z_icmp_eq_ok (pc := 35) (tgt := 48) C.hx C.hb dX7_handOver_35 (by decide) ?_ ?_
  · exact zk_X7_handOver_48 C hn 
  · refine z_aload_n_ok (pc := 38) (i := 0) C.hx C.hb dX7_handOver_38 rfl ?_
    refine z_dup_ok (pc := 39) C.hx C.hb dX7_handOver_39 ?_
    refine z_gf_ok (pc := 40) C zK5 (f := 1) (by decide) zw_449 rfl dX7_handOver_40 ?_
    refine z_iload_n_ok (pc := 43) (i := 2) C.hx C.hb dX7_handOver_43 rfl ?_
    refine z_iadd_ok (pc := 44) C.hx C.hb dX7_handOver_44 ?_
    refine z_pf_ok (pc := 45) C zK5 rfl rfl (f := 1) (by decide) zw_449 rfl rfl (by decide +kernel) dX7_handOver_45 ?_
    exact zk_X7_handOver_48 C hn 
def sp_X7_handOver : ZSp := fun as S K => as.length ≤ 3 ∧ zsp 3 zb_X7_handOver_0 as S K
theorem zm_X7_handOver (l : Launch) (hl : l.stackTraces = false) : zMet l yX7_handOver cX7_handOver 3 none { frames := 0, cells := 1, slots := 6, locals := 0 } 0 0 sp_X7_handOver := zMet_of hl (by decide +kernel) ⟨rfl, rfl⟩ (fun X C hn _ => zk_X7_handOver_0 C hn)
theorem dX7_markInBook_0 : decode cX7_markInBook 0 = .ok (.aload_n 0, 1) := by decide +kernel
theorem dX7_markInBook_1 : decode cX7_markInBook 1 = .ok (.getfield 11, 3) := by decide +kernel
theorem dX7_markInBook_4 : decode cX7_markInBook 4 = .ok (.iload_n 2, 1) := by decide +kernel
theorem dX7_markInBook_5 : decode cX7_markInBook 5 = .ok (.aaload, 1) := by decide +kernel
theorem dX7_markInBook_6 : decode cX7_markInBook 6 = .ok (.astore 4, 2) := by decide +kernel
theorem dX7_markInBook_8 : decode cX7_markInBook 8 = .ok (.aload 4, 2) := by decide +kernel
theorem dX7_markInBook_10 : decode cX7_markInBook 10 = .ok (.getfield 103, 3) := by decide +kernel
theorem dX7_markInBook_13 : decode cX7_markInBook 13 = .ok (.ifCond .ne 37, 3) := by decide +kernel
theorem dX7_markInBook_16 : decode cX7_markInBook 16 = .ok (.aload_n 1, 1) := by decide +kernel
theorem dX7_markInBook_17 : decode cX7_markInBook 17 = .ok (.getfield 370, 3) := by decide +kernel
theorem dX7_markInBook_20 : decode cX7_markInBook 20 = .ok (.iload_n 2, 1) := by decide +kernel
theorem dX7_markInBook_21 : decode cX7_markInBook 21 = .ok (.dup2, 1) := by decide +kernel
theorem dX7_markInBook_22 : decode cX7_markInBook 22 = .ok (.iaload, 1) := by decide +kernel
theorem dX7_markInBook_23 : decode cX7_markInBook 23 = .ok (.iload_n 3, 1) := by decide +kernel
theorem dX7_markInBook_24 : decode cX7_markInBook 24 = .ok (.iadd, 1) := by decide +kernel
theorem dX7_markInBook_25 : decode cX7_markInBook 25 = .ok (.iastore, 1) := by decide +kernel
theorem dX7_markInBook_26 : decode cX7_markInBook 26 = .ok (.aload_n 0, 1) := by decide +kernel
theorem dX7_markInBook_27 : decode cX7_markInBook 27 = .ok (.getfield 42, 3) := by decide +kernel
theorem dX7_markInBook_30 : decode cX7_markInBook 30 = .ok (.aload_n 0, 1) := by decide +kernel
theorem dX7_markInBook_31 : decode cX7_markInBook 31 = .ok (.getfield 69, 3) := by decide +kernel
theorem dX7_markInBook_34 : decode cX7_markInBook 34 = .ok (.aload_n 1, 1) := by decide +kernel
theorem dX7_markInBook_35 : decode cX7_markInBook 35 = .ok (.getfield 197, 3) := by decide +kernel
theorem dX7_markInBook_38 : decode cX7_markInBook 38 = .ok (.iload_n 2, 1) := by decide +kernel
theorem dX7_markInBook_39 : decode cX7_markInBook 39 = .ok (.iload_n 3, 1) := by decide +kernel
theorem dX7_markInBook_40 : decode cX7_markInBook 40 = .ok (.invokevirtual 376, 3) := by decide +kernel
theorem dX7_markInBook_43 : decode cX7_markInBook 43 = .ok (.aload_n 0, 1) := by decide +kernel
theorem dX7_markInBook_44 : decode cX7_markInBook 44 = .ok (.aload_n 1, 1) := by decide +kernel
theorem dX7_markInBook_45 : decode cX7_markInBook 45 = .ok (.iload_n 2, 1) := by decide +kernel
theorem dX7_markInBook_46 : decode cX7_markInBook 46 = .ok (.invokevirtual 193, 3) := by decide +kernel
theorem dX7_markInBook_49 : decode cX7_markInBook 49 = .ok (.ireturn, 1) := by decide +kernel
theorem dX7_markInBook_50 : decode cX7_markInBook 50 = .ok (.aload 4, 2) := by decide +kernel
theorem dX7_markInBook_52 : decode cX7_markInBook 52 = .ok (.getfield 103, 3) := by decide +kernel
theorem dX7_markInBook_55 : decode cX7_markInBook 55 = .ok (.iconst 1, 1) := by decide +kernel
theorem dX7_markInBook_56 : decode cX7_markInBook 56 = .ok (.if_icmp .ne 24, 3) := by decide +kernel
theorem dX7_markInBook_59 : decode cX7_markInBook 59 = .ok (.aload_n 1, 1) := by decide +kernel
theorem dX7_markInBook_60 : decode cX7_markInBook 60 = .ok (.dup, 1) := by decide +kernel
theorem dX7_markInBook_61 : decode cX7_markInBook 61 = .ok (.getfield 170, 3) := by decide +kernel
theorem dX7_markInBook_64 : decode cX7_markInBook 64 = .ok (.aload 4, 2) := by decide +kernel
theorem dX7_markInBook_66 : decode cX7_markInBook 66 = .ok (.iload_n 3, 1) := by decide +kernel
theorem dX7_markInBook_67 : decode cX7_markInBook 67 = .ok (.invokestatic 361, 3) := by decide +kernel
theorem dX7_markInBook_70 : decode cX7_markInBook 70 = .ok (.iadd, 1) := by decide +kernel
theorem dX7_markInBook_71 : decode cX7_markInBook 71 = .ok (.putfield 170, 3) := by decide +kernel
theorem dX7_markInBook_74 : decode cX7_markInBook 74 = .ok (.aload_n 0, 1) := by decide +kernel
theorem dX7_markInBook_75 : decode cX7_markInBook 75 = .ok (.aload_n 1, 1) := by decide +kernel
theorem dX7_markInBook_76 : decode cX7_markInBook 76 = .ok (.invokevirtual 161, 3) := by decide +kernel
theorem dX7_markInBook_79 : decode cX7_markInBook 79 = .ok (.ireturn, 1) := by decide +kernel
theorem dX7_markInBook_80 : decode cX7_markInBook 80 = .ok (.iconst (-1), 1) := by decide +kernel
theorem dX7_markInBook_81 : decode cX7_markInBook 81 = .ok (.ireturn, 1) := by decide +kernel
def zb_X7_markInBook_0 : ZP := (z_ald 0 (z_gf 7 0 (z_ild 2 (z_aald (z_ast 4 (z_ald 4 (z_gf 2 0 (z_if (fun x => x = 0) (z_ald 1 (z_gf 3 10 (z_ild 2 (z_dup2 (z_iald (z_ild 3 (z_bin (fun x y => x + y) (z_iast (z_ald 0 (z_gf 7 5 (z_ald 0 (z_gf 7 13 (z_ald 1 (z_gf 3 0 (z_ild 2 (z_ild 3 (z_invV 4 4 sp_X4_note (z_ald 0 (z_ald 1 (z_ild 2 (z_invV 7 2 sp_X7_gramsLeft (z_ret 1)))))))))))))))))))))) (z_ald 4 (z_gf 2 0 (z_push 1 (z_cmp (fun x y => x = y) (z_ald 1 (z_dup (z_gf 3 8 (z_ald 4 (z_ild 3 (z_invS 2 sp_X7_pointsFor (z_bin (fun x y => x + y) (z_pf 3 8 (z_ald 0 (z_ald 1 (z_invV 7 1 sp_X7_pointsLeft (z_ret 1)))))))))))) (z_push (-1) (z_ret 1))))))))))))))
set_option maxRecDepth 20000 in
theorem zk_X7_markInBook_0 {X : ZX} (C : zCx X cX7_markInBook RX7 (some .int) 3 65 1 6) (hn : X.nL = 5) : ZOK X 0 (zb_X7_markInBook_0) := by
  unfold zb_X7_markInBook_0
  refine z_aload_n_ok (pc := 0) (i := 0) C.hx C.hb dX7_markInBook_0 rfl ?_
  refine z_gf_ok (pc := 1) C zK7 (f := 0) (by decide) zw_108 rfl dX7_markInBook_1 ?_
  refine z_iload_n_ok (pc := 4) (i := 2) C.hx C.hb dX7_markInBook_4 rfl ?_
  refine z_aald_ok (pc := 5) C dX7_markInBook_5 ?_
  refine z_astore_ok (pc := 6) (i := 4) C.hx C.hb dX7_markInBook_6 (zlt hn (by decide)) ?_
  refine z_aload_ok (pc := 8) (i := 4) C.hx C.hb dX7_markInBook_8 ?_
  refine z_gf_ok (pc := 10) C zK2 (f := 0) (by decide) zw_88 rfl dX7_markInBook_10 ?_
  refine z_if_ne_ok (pc := 13) (tgt := 50) C.hx C.hb dX7_markInBook_13 (by decide) ?_ ?_
  · refine z_aload_ok (pc := 50) (i := 4) C.hx C.hb dX7_markInBook_50 ?_
    refine z_gf_ok (pc := 52) C zK2 (f := 0) (by decide) zw_88 rfl dX7_markInBook_52 ?_
    refine z_iconst_ok (pc := 55) (v := 1) C.hx C.hb dX7_markInBook_55 (by decide) ?_
    refine z_icmp_ne_ok (pc := 56) (tgt := 80) C.hx C.hb dX7_markInBook_56 (by decide) ?_ ?_
    · refine z_iconst_ok (pc := 80) (v := -1) C.hx C.hb dX7_markInBook_80 (by decide) ?_
      exact z_iret_ok (pc := 81) C dX7_markInBook_81
    · refine z_aload_n_ok (pc := 59) (i := 1) C.hx C.hb dX7_markInBook_59 rfl ?_
      refine z_dup_ok (pc := 60) C.hx C.hb dX7_markInBook_60 ?_
      refine z_gf_ok (pc := 61) C zK3 (f := 8) (by decide) zw_334 rfl dX7_markInBook_61 ?_
      refine z_aload_ok (pc := 64) (i := 4) C.hx C.hb dX7_markInBook_64 ?_
      refine z_iload_n_ok (pc := 66) (i := 3) C.hx C.hb dX7_markInBook_66 rfl ?_
      refine z_invS_ok (pc := 67) C (by decide +kernel) (zm_X7_pointsFor X.l C.htr) ⟨rfl, rfl⟩ ⟨by decide, by decide⟩ (by decide) (by decide) zcl_X7_361 zw_649 dX7_markInBook_67 ?_
      refine z_iadd_ok (pc := 70) C.hx C.hb dX7_markInBook_70 ?_
      refine z_pf_ok (pc := 71) C zK3 rfl rfl (f := 8) (by decide) zw_334 rfl rfl (by decide +kernel) dX7_markInBook_71 ?_
      refine z_aload_n_ok (pc := 74) (i := 0) C.hx C.hb dX7_markInBook_74 rfl ?_
      refine z_aload_n_ok (pc := 75) (i := 1) C.hx C.hb dX7_markInBook_75 rfl ?_
      refine z_invV_ok (pc := 76) C (by decide +kernel) (zm_X7_pointsLeft X.l C.htr) ⟨rfl, rfl⟩ ⟨by decide, by decide⟩ (by decide) (by decide) zcl_X7_161 zw_373 zw_5 zK7 dX7_markInBook_76 ?_
      exact z_iret_ok (pc := 79) C dX7_markInBook_79
  · refine z_aload_n_ok (pc := 16) (i := 1) C.hx C.hb dX7_markInBook_16 rfl ?_
    refine z_gf_ok (pc := 17) C zK3 (f := 10) (by decide) zw_338 rfl dX7_markInBook_17 ?_
    refine z_iload_n_ok (pc := 20) (i := 2) C.hx C.hb dX7_markInBook_20 rfl ?_
    refine z_dup2_ok (pc := 21) C.hx C.hb dX7_markInBook_21 ?_
    refine z_iald_ok (pc := 22) C dX7_markInBook_22 ?_
    refine z_iload_n_ok (pc := 23) (i := 3) C.hx C.hb dX7_markInBook_23 rfl ?_
    refine z_iadd_ok (pc := 24) C.hx C.hb dX7_markInBook_24 ?_
    refine z_iast_ok (pc := 25) C dX7_markInBook_25 ?_
    refine z_aload_n_ok (pc := 26) (i := 0) C.hx C.hb dX7_markInBook_26 rfl ?_
    refine z_gf_ok (pc := 27) C zK7 (f := 5) (by decide) zw_113 rfl dX7_markInBook_27 ?_
    refine z_aload_n_ok (pc := 30) (i := 0) C.hx C.hb dX7_markInBook_30 rfl ?_
    refine z_gf_ok (pc := 31) C zK7 (f := 13) (by decide) zw_121 rfl dX7_markInBook_31 ?_
    refine z_aload_n_ok (pc := 34) (i := 1) C.hx C.hb dX7_markInBook_34 rfl ?_
    refine z_gf_ok (pc := 35) C zK3 (f := 0) (by decide) zw_318 rfl dX7_markInBook_35 ?_
    refine z_iload_n_ok (pc := 38) (i := 2) C.hx C.hb dX7_markInBook_38 rfl ?_
    refine z_iload_n_ok (pc := 39) (i := 3) C.hx C.hb dX7_markInBook_39 rfl ?_
    refine z_invV_ok (pc := 40) C (by decide +kernel) (zm_X4_note X.l C.htr) ⟨rfl, rfl⟩ ⟨by decide, by decide⟩ (by decide) (by decide) zcl_X7_376 zw_668 zw_669 zK4 dX7_markInBook_40 ?_
    refine z_aload_n_ok (pc := 43) (i := 0) C.hx C.hb dX7_markInBook_43 rfl ?_
    refine z_aload_n_ok (pc := 44) (i := 1) C.hx C.hb dX7_markInBook_44 rfl ?_
    refine z_iload_n_ok (pc := 45) (i := 2) C.hx C.hb dX7_markInBook_45 rfl ?_
    refine z_invV_ok (pc := 46) C (by decide +kernel) (zm_X7_gramsLeft X.l C.htr) ⟨rfl, rfl⟩ ⟨by decide, by decide⟩ (by decide) (by decide) zcl_X7_193 zw_392 zw_6 zK7 dX7_markInBook_46 ?_
    exact z_iret_ok (pc := 49) C dX7_markInBook_49
def sp_X7_markInBook : ZSp := fun as S K => as.length ≤ 5 ∧ zsp 5 zb_X7_markInBook_0 as S K
theorem zm_X7_markInBook (l : Launch) (hl : l.stackTraces = false) : zMet l yX7_markInBook cX7_markInBook 5 (some .int) { frames := 3, cells := 1, slots := 6, locals := 65 } 0 0 sp_X7_markInBook := zMet_of hl (by decide +kernel) ⟨rfl, rfl⟩ (fun X C hn _ => zk_X7_markInBook_0 C hn)
theorem dX7_buy_0 : decode cX7_buy 0 = .ok (.aload_n 0, 1) := by decide +kernel
theorem dX7_buy_1 : decode cX7_buy 1 = .ok (.iload_n 1, 1) := by decide +kernel
theorem dX7_buy_2 : decode cX7_buy 2 = .ok (.invokevirtual 130, 3) := by decide +kernel
theorem dX7_buy_5 : decode cX7_buy 5 = .ok (.astore 5, 2) := by decide +kernel
theorem dX7_buy_7 : decode cX7_buy 7 = .ok (.aload_n 0, 1) := by decide +kernel
theorem dX7_buy_8 : decode cX7_buy 8 = .ok (.iload_n 2, 1) := by decide +kernel
theorem dX7_buy_9 : decode cX7_buy 9 = .ok (.invokevirtual 119, 3) := by decide +kernel
theorem dX7_buy_12 : decode cX7_buy 12 = .ok (.astore 6, 2) := by decide +kernel
theorem dX7_buy_14 : decode cX7_buy 14 = .ok (.aload_n 0, 1) := by decide +kernel
theorem dX7_buy_15 : decode cX7_buy 15 = .ok (.iload_n 3, 1) := by decide +kernel
theorem dX7_buy_16 : decode cX7_buy 16 = .ok (.invokevirtual 88, 3) := by decide +kernel
theorem dX7_buy_19 : decode cX7_buy 19 = .ok (.astore 7, 2) := by decide +kernel
theorem dX7_buy_21 : decode cX7_buy 21 = .ok (.iload 4, 2) := by decide +kernel
theorem dX7_buy_23 : decode cX7_buy 23 = .ok (.iconst 1, 1) := by decide +kernel
theorem dX7_buy_24 : decode cX7_buy 24 = .ok (.sipush 9999, 3) := by decide +kernel
theorem dX7_buy_27 : decode cX7_buy 27 = .ok (.invokestatic 92, 3) := by decide +kernel
theorem dX7_buy_30 : decode cX7_buy 30 = .ok (.aload 7, 2) := by decide +kernel
theorem dX7_buy_32 : decode cX7_buy 32 = .ok (.getfield 103, 3) := by decide +kernel
theorem dX7_buy_35 : decode cX7_buy 35 = .ok (.iconst 1, 1) := by decide +kernel
theorem dX7_buy_36 : decode cX7_buy 36 = .ok (.if_icmp .ne 21, 3) := by decide +kernel
theorem dX7_buy_39 : decode cX7_buy 39 = .ok (.iload 4, 2) := by decide +kernel
theorem dX7_buy_41 : decode cX7_buy 41 = .ok (.bipush 100, 2) := by decide +kernel
theorem dX7_buy_43 : decode cX7_buy 43 = .ok (.irem, 1) := by decide +kernel
theorem dX7_buy_44 : decode cX7_buy 44 = .ok (.ifCond .eq 13, 3) := by decide +kernel
theorem dX7_buy_47 : decode cX7_buy 47 = .ok (.new 151, 3) := by decide +kernel
theorem dX7_buy_50 : decode cX7_buy 50 = .ok (.dup, 1) := by decide +kernel
theorem dX7_buy_51 : decode cX7_buy 51 = .ok (.ldc 225, 2) := by decide +kernel
theorem dX7_buy_53 : decode cX7_buy 53 = .ok (.invokespecial 155, 3) := by decide +kernel
theorem dX7_buy_56 : decode cX7_buy 56 = .ok (.athrow, 1) := by decide +kernel
theorem dX7_buy_57 : decode cX7_buy 57 = .ok (.aload 5, 2) := by decide +kernel
theorem dX7_buy_59 : decode cX7_buy 59 = .ok (.invokestatic 134, 3) := by decide +kernel
theorem dX7_buy_62 : decode cX7_buy 62 = .ok (.aload_n 0, 1) := by decide +kernel
theorem dX7_buy_63 : decode cX7_buy 63 = .ok (.aload 5, 2) := by decide +kernel
theorem dX7_buy_65 : decode cX7_buy 65 = .ok (.aload 6, 2) := by decide +kernel
theorem dX7_buy_67 : decode cX7_buy 67 = .ok (.iload_n 3, 1) := by decide +kernel
theorem dX7_buy_68 : decode cX7_buy 68 = .ok (.iload 4, 2) := by decide +kernel
theorem dX7_buy_70 : decode cX7_buy 70 = .ok (.invokevirtual 227, 3) := by decide +kernel
theorem dX7_buy_73 : decode cX7_buy 73 = .ok (.aload 6, 2) := by decide +kernel
theorem dX7_buy_75 : decode cX7_buy 75 = .ok (.getfield 231, 3) := by decide +kernel
theorem dX7_buy_78 : decode cX7_buy 78 = .ok (.iload_n 3, 1) := by decide +kernel
theorem dX7_buy_79 : decode cX7_buy 79 = .ok (.aaload, 1) := by decide +kernel
theorem dX7_buy_80 : decode cX7_buy 80 = .ok (.getfield 235, 3) := by decide +kernel
theorem dX7_buy_83 : decode cX7_buy 83 = .ok (.iload 4, 2) := by decide +kernel
theorem dX7_buy_85 : decode cX7_buy 85 = .ok (.invokestatic 222, 3) := by decide +kernel
theorem dX7_buy_88 : decode cX7_buy 88 = .ok (.aload 6, 2) := by decide +kernel
theorem dX7_buy_90 : decode cX7_buy 90 = .ok (.getfield 231, 3) := by decide +kernel
theorem dX7_buy_93 : decode cX7_buy 93 = .ok (.iload_n 3, 1) := by decide +kernel
theorem dX7_buy_94 : decode cX7_buy 94 = .ok (.aaload, 1) := by decide +kernel
theorem dX7_buy_95 : decode cX7_buy 95 = .ok (.aload 7, 2) := by decide +kernel
theorem dX7_buy_97 : decode cX7_buy 97 = .ok (.iload 4, 2) := by decide +kernel
theorem dX7_buy_99 : decode cX7_buy 99 = .ok (.invokestatic 239, 3) := by decide +kernel
theorem dX7_buy_102 : decode cX7_buy 102 = .ok (.aload_n 0, 1) := by decide +kernel
theorem dX7_buy_103 : decode cX7_buy 103 = .ok (.aload 5, 2) := by decide +kernel
theorem dX7_buy_105 : decode cX7_buy 105 = .ok (.aload 7, 2) := by decide +kernel
theorem dX7_buy_107 : decode cX7_buy 107 = .ok (.iload 4, 2) := by decide +kernel
theorem dX7_buy_109 : decode cX7_buy 109 = .ok (.invokevirtual 243, 3) := by decide +kernel
theorem dX7_buy_112 : decode cX7_buy 112 = .ok (.aload_n 0, 1) := by decide +kernel
theorem dX7_buy_113 : decode cX7_buy 113 = .ok (.aload 5, 2) := by decide +kernel
theorem dX7_buy_115 : decode cX7_buy 115 = .ok (.iload_n 3, 1) := by decide +kernel
theorem dX7_buy_116 : decode cX7_buy 116 = .ok (.iload 4, 2) := by decide +kernel
theorem dX7_buy_118 : decode cX7_buy 118 = .ok (.invokevirtual 247, 3) := by decide +kernel
theorem dX7_buy_121 : decode cX7_buy 121 = .ok (.ireturn, 1) := by decide +kernel
def zb_X7_buy_57 : ZP := (z_ald 5 (z_invS 1 sp_X7_requireAlive (z_ald 0 (z_ald 5 (z_ald 6 (z_ild 3 (z_ild 4 (z_invV 7 4 sp_X7_requireAllowed (z_ald 6 (z_gf 6 2 (z_ild 3 (z_aald (z_gf 5 0 (z_ild 4 (z_invS 2 sp_X7_requireEnough (z_ald 6 (z_gf 6 2 (z_ild 3 (z_aald (z_ald 7 (z_ild 4 (z_invS 3 sp_X7_handOver (z_ald 0 (z_ald 5 (z_ald 7 (z_ild 4 (z_invV 7 3 sp_X7_eat (z_ald 0 (z_ald 5 (z_ild 3 (z_ild 4 (z_invV 7 3 sp_X7_markInBook (z_ret 1)))))))))))))))))))))))))))))))))
set_option maxRecDepth 20000 in
theorem zk_X7_buy_57 {X : ZX} (C : zCx X cX7_buy RX7 (some .int) 7 115 1 6) (hn : X.nL = 8) : ZOK X 57 (zb_X7_buy_57) := by
  unfold zb_X7_buy_57
  refine z_aload_ok (pc := 57) (i := 5) C.hx C.hb dX7_buy_57 ?_
  refine z_invS_ok (pc := 59) C (by decide +kernel) (zm_X7_requireAlive X.l C.htr) ⟨rfl, rfl⟩ ⟨by decide, by decide⟩ (by decide) (by decide) zcl_X7_134 zw_640 dX7_buy_59 ?_
  refine z_aload_n_ok (pc := 62) (i := 0) C.hx C.hb dX7_buy_62 rfl ?_
  refine z_aload_ok (pc := 63) (i := 5) C.hx C.hb dX7_buy_63 ?_
  refine z_aload_ok (pc := 65) (i := 6) C.hx C.hb dX7_buy_65 ?_
  refine z_iload_n_ok (pc := 67) (i := 3) C.hx C.hb dX7_buy_67 rfl ?_
  refine z_iload_ok (pc := 68) (i := 4) C.hx C.hb dX7_buy_68 ?_
  refine z_invV_ok (pc := 70) C (by decide +kernel) (zm_X7_requireAllowed X.l C.htr) ⟨rfl, rfl⟩ ⟨by decide, by decide⟩ (by decide) (by decide) zcl_X7_227 zw_645 zw_22 zK7 dX7_buy_70 ?_
  refine z_aload_ok (pc := 73) (i := 6) C.hx C.hb dX7_buy_73 ?_
  refine z_gf_ok (pc := 75) C zK6 (f := 2) (by decide) zw_476 rfl dX7_buy_75 ?_
  refine z_iload_n_ok (pc := 78) (i := 3) C.hx C.hb dX7_buy_78 rfl ?_
  refine z_aald_ok (pc := 79) C dX7_buy_79 ?_
  refine z_gf_ok (pc := 80) C zK5 (f := 0) (by decide) zw_447 rfl dX7_buy_80 ?_
  refine z_iload_ok (pc := 83) (i := 4) C.hx C.hb dX7_buy_83 ?_
  refine z_invS_ok (pc := 85) C (by decide +kernel) (zm_X7_requireEnough X.l C.htr) ⟨rfl, rfl⟩ ⟨by decide, by decide⟩ (by decide) (by decide) zcl_X7_222 zw_653 dX7_buy_85 ?_
  refine z_aload_ok (pc := 88) (i := 6) C.hx C.hb dX7_buy_88 ?_
  refine z_gf_ok (pc := 90) C zK6 (f := 2) (by decide) zw_476 rfl dX7_buy_90 ?_
  refine z_iload_n_ok (pc := 93) (i := 3) C.hx C.hb dX7_buy_93 rfl ?_
  refine z_aald_ok (pc := 94) C dX7_buy_94 ?_
  refine z_aload_ok (pc := 95) (i := 7) C.hx C.hb dX7_buy_95 ?_
  refine z_iload_ok (pc := 97) (i := 4) C.hx C.hb dX7_buy_97 ?_
  refine z_invS_ok (pc := 99) C (by decide +kernel) (zm_X7_handOver X.l C.htr) ⟨rfl, rfl⟩ ⟨by decide, by decide⟩ (by decide) (by decide) zcl_X7_239 zw_657 dX7_buy_99 ?_
  refine z_aload_n_ok (pc := 102) (i := 0) C.hx C.hb dX7_buy_102 rfl ?_
  refine z_aload_ok (pc := 103) (i := 5) C.hx C.hb dX7_buy_103 ?_
  refine z_aload_ok (pc := 105) (i := 7) C.hx C.hb dX7_buy_105 ?_
  refine z_iload_ok (pc := 107) (i := 4) C.hx C.hb dX7_buy_107 ?_
  refine z_invV_ok (pc := 109) C (by decide +kernel) (zm_X7_eat X.l C.htr) ⟨rfl, rfl⟩ ⟨by decide, by decide⟩ (by decide) (by decide) zcl_X7_243 zw_661 zw_23 zK7 dX7_buy_109 ?_
  refine z_aload_n_ok (pc := 112) (i := 0) C.hx C.hb dX7_buy_112 rfl ?_
  refine z_aload_ok (pc := 113) (i := 5) C.hx C.hb dX7_buy_113 ?_
  refine z_iload_n_ok (pc := 115) (i := 3) C.hx C.hb dX7_buy_115 rfl ?_
  refine z_iload_ok (pc := 116) (i := 4) C.hx C.hb dX7_buy_116 ?_
  refine z_invV_ok (pc := 118) C (by decide +kernel) (zm_X7_markInBook X.l C.htr) ⟨rfl, rfl⟩ ⟨by decide, by decide⟩ (by decide) (by decide) zcl_X7_247 zw_665 zw_24 zK7 dX7_buy_118 ?_
  exact z_iret_ok (pc := 121) C dX7_buy_121
def zb_X7_buy_0 : ZP := (z_ald 0 (z_ild 1 (z_invV 7 1 sp_X7_knownPerson (z_ast 5 (z_ald 0 (z_ild 2 (z_invV 7 1 sp_X7_knownShop (z_ast 6 (z_ald 0 (z_ild 3 (z_invV 7 1 sp_X7_knownGood (z_ast 7 (z_ild 4 (z_push 1 (z_push 9999 (z_invS 3 sp_X7_requireRange (z_ald 7 (z_gf 2 0 (z_push 1 (z_cmp (fun x y => x = y) (z_ild 4 (z_push 100 (z_dvn (fun x y => x - x / y * y) (z_if (fun x => x = 0) zb_X7_buy_57 (z_throw 2))))) zb_X7_buy_57))))))))))))))))))))
set_option maxRecDepth 20000 in
theorem zk_X7_buy_0 {X : ZX} (C : zCx X cX7_buy RX7 (some .int) 7 115 1 6) (hn : X.nL = 8) : ZOK X 0 (zb_X7_buy_0) := by
  unfold zb_X7_buy_0
  refine z_aload_n_ok (pc := 0) (i := 0) C.hx C.hb dX7_buy_0 rfl ?_
  refine z_iload_n_ok (pc := 1) (i := 1) C.hx C.hb dX7_buy_1 rfl ?_
  refine z_invV_ok (pc := 2) C (by decide +kernel) (zm_X7_knownPerson X.l C.htr) ⟨rfl, rfl⟩ ⟨by decide, by decide⟩ (by decide) (by decide) zcl_X7_130 zw_368 zw_4 zK7 dX7_buy_2 ?_
  refine z_astore_ok (pc := 5) (i := 5) C.hx C.hb dX7_buy_5 (zlt hn (by decide)) ?_
  refine z_aload_n_ok (pc := 7) (i := 0) C.hx C.hb dX7_buy_7 rfl ?_
  refine z_iload_n_ok (pc := 8) (i := 2) C.hx C.hb dX7_buy_8 rfl ?_
  refine z_invV_ok (pc := 9) C (by decide +kernel) (zm_X7_knownShop X.l C.htr) ⟨rfl, rfl⟩ ⟨by decide, by decide⟩ (by decide) (by decide) zcl_X7_119 zw_290 zw_3 zK7 dX7_buy_9 ?_
  refine z_astore_ok (pc := 12) (i := 6) C.hx C.hb dX7_buy_12 (zlt hn (by decide)) ?_
  refine z_aload_n_ok (pc := 14) (i := 0) C.hx C.hb dX7_buy_14 rfl ?_
  refine z_iload_n_ok (pc := 15) (i := 3) C.hx C.hb dX7_buy_15 rfl ?_
  refine z_invV_ok (pc := 16) C (by decide +kernel) (zm_X7_knownGood X.l C.htr) ⟨rfl, rfl⟩ ⟨by decide, by decide⟩ (by decide) (by decide) zcl_X7_88 zw_172 zw_0 zK7 dX7_buy_16 ?_
  refine z_astore_ok (pc := 19) (i := 7) C.hx C.hb dX7_buy_19 (zlt hn (by decide)) ?_
  refine z_iload_ok (pc := 21) (i := 4) C.hx C.hb dX7_buy_21 ?_
  refine z_iconst_ok (pc := 23) (v := 1) C.hx C.hb dX7_buy_23 (by decide) ?_
  refine z_sipush_ok (pc := 24) (v := 9999) C.hx C.hb dX7_buy_24 (by decide) ?_
  refine z_invS_ok (pc := 27) C (by decide +kernel) (zm_X7_requireRange X.l C.htr) ⟨rfl, rfl⟩ ⟨by decide, by decide⟩ (by decide) (by decide) zcl_X7_92 zw_243 dX7_buy_27 ?_
  refine z_aload_ok (pc := 30) (i := 7) C.hx C.hb dX7_buy_30 ?_
  refine z_gf_ok (pc := 32) C zK2 (f := 0) (by decide) zw_88 rfl dX7_buy_32 ?_
  refine z_iconst_ok (pc := 35) (v := 1) C.hx C.hb dX7_buy_35 (by decide) ?_
  refine z_icmp_ne_ok (pc := 36) (tgt := 57) C.hx C.hb dX7_buy_36 (by decide) ?_ ?_
  · exact zk_X7_buy_57 C hn 
  · refine z_iload_ok (pc := 39) (i := 4) C.hx C.hb dX7_buy_39 ?_
    refine z_bipush_ok (pc := 41) (v := 100) C.hx C.hb dX7_buy_41 (by decide) ?_
    refine z_irem_ok (pc := 43) C.hx C.hb dX7_buy_43 ?_
    refine z_if_eq_ok (pc := 44) (tgt := 57) C.hx C.hb dX7_buy_44 (by decide) ?_ ?_
    · exact zk_X7_buy_57 C hn 
    · exact z_throwS_ok (pc := 47) (text := "on points only whole hundreds of grams are sold") C zth_151_155 (by decide +kernel) dX7_buy_47 dX7_buy_50 dX7_buy_51 dX7_buy_53 dX7_buy_56 (by decide +kernel) (by decide) (by decide) (by decide) (by decide)
def sp_X7_buy : ZSp := fun as S K => as.length ≤ 8 ∧ zsp 8 zb_X7_buy_0 as S K
theorem zm_X7_buy (l : Launch) (hl : l.stackTraces = false) : zMet l yX7_buy cX7_buy 8 (some .int) { frames := 7, cells := 1, slots := 6, locals := 115 } 0 0 sp_X7_buy := zMet_of hl (by decide +kernel) ⟨rfl, rfl⟩ (fun X C hn _ => zk_X7_buy_0 C hn)
theorem dX7_changeGood_0 : decode cX7_changeGood 0 = .ok (.aload_n 0, 1) := by decide +kernel
theorem dX7_changeGood_1 : decode cX7_changeGood 1 = .ok (.getfield 103, 3) := by decide +kernel
theorem dX7_changeGood_4 : decode cX7_changeGood 4 = .ok (.istore_n 3, 1) := by decide +kernel
theorem dX7_changeGood_5 : decode cX7_changeGood 5 = .ok (.aload_n 0, 1) := by decide +kernel
theorem dX7_changeGood_6 : decode cX7_changeGood 6 = .ok (.iload_n 1, 1) := by decide +kernel
theorem dX7_changeGood_7 : decode cX7_changeGood 7 = .ok (.putfield 103, 3) := by decide +kernel
theorem dX7_changeGood_10 : decode cX7_changeGood 10 = .ok (.aload_n 0, 1) := by decide +kernel
theorem dX7_changeGood_11 : decode cX7_changeGood 11 = .ok (.iload_n 2, 1) := by decide +kernel
theorem dX7_changeGood_12 : decode cX7_changeGood 12 = .ok (.putfield 106, 3) := by decide +kernel
theorem dX7_changeGood_15 : decode cX7_changeGood 15 = .ok (.iload_n 3, 1) := by decide +kernel
theorem dX7_changeGood_16 : decode cX7_changeGood 16 = .ok (.ireturn, 1) := by decide +kernel
def zb_X7_changeGood_0 : ZP := (z_ald 0 (z_gf 2 0 (z_ist 3 (z_ald 0 (z_ild 1 (z_pf 2 0 (z_ald 0 (z_ild 2 (z_pf 2 1 (z_ild 3 (z_ret 1)))))))))))
set_option maxRecDepth 20000 in
theorem zk_X7_changeGood_0 {X : ZX} (C : zCx X cX7_changeGood RX7 (some .int) 0 0 1 6) (hn : X.nL = 4) : ZOK X 0 (zb_X7_changeGood_0) := by
  unfold zb_X7_changeGood_0
  refine z_aload_n_ok (pc := 0) (i := 0) C.hx C.hb dX7_changeGood_0 rfl ?_
  refine z_gf_ok (pc := 1) C zK2 (f := 0) (by decide) zw_88 rfl dX7_changeGood_1 ?_
  refine z_istore_n_ok (pc := 4) (i := 3) C.hx C.hb dX7_changeGood_4 rfl (zlt hn (by decide)) ?_
  refine z_aload_n_ok (pc := 5) (i := 0) C.hx C.hb dX7_changeGood_5 rfl ?_
  refine z_iload_n_ok (pc := 6) (i := 1) C.hx C.hb dX7_changeGood_6 rfl ?_
  refine z_pf_ok (pc := 7) C zK2 rfl rfl (f := 0) (by decide) zw_88 rfl rfl (by decide +kernel) dX7_changeGood_7 ?_
  refine z_aload_n_ok (pc := 10) (i := 0) C.hx C.hb dX7_changeGood_10 rfl ?_
  refine z_iload_n_ok (pc := 11) (i := 2) C.hx C.hb dX7_changeGood_11 rfl ?_
  refine z_pf_ok (pc := 12) C zK2 rfl rfl (f := 1) (by decide) zw_90 rfl rfl (by decide +kernel) dX7_changeGood_12 ?_
  refine z_iload_n_ok (pc := 15) (i := 3) C.hx C.hb dX7_changeGood_15 rfl ?_
  exact z_iret_ok (pc := 16) C dX7_changeGood_16
def sp_X7_changeGood : ZSp := fun as S K => as.length ≤ 4 ∧ zsp 4 zb_X7_changeGood_0 as S K
theorem zm_X7_changeGood (l : Launch) (hl : l.stackTraces = false) : zMet l yX7_changeGood cX7_changeGood 4 (some .int) { frames := 0, cells := 1, slots := 6, locals := 0 } 0 0 sp_X7_changeGood := zMet_of hl (by decide +kernel) ⟨rfl, rfl⟩ (fun X C hn _ => zk_X7_changeGood_0 C hn)
theorem dX7_claim_0 : decode cX7_claim 0 = .ok (.aload_n 0, 1) := by decide +kernel
theorem dX7_claim_1 : decode cX7_claim 1 = .ok (.iload_n 1, 1) := by decide +kernel
theorem dX7_claim_2 : decode cX7_claim 2 = .ok (.invokevirtual 119, 3) := by decide +kernel
theorem dX7_claim_5 : decode cX7_claim 5 = .ok (.astore 4, 2) := by decide +kernel
theorem dX7_claim_7 : decode cX7_claim 7 = .ok (.aload_n 0, 1) := by decide +kernel
theorem dX7_claim_8 : decode cX7_claim 8 = .ok (.iload_n 2, 1) := by decide +kernel
theorem dX7_claim_9 : decode cX7_claim 9 = .ok (.invokevirtual 88, 3) := by decide +kernel
theorem dX7_claim_12 : decode cX7_claim 12 = .ok (.pop, 1) := by decide +kernel
theorem dX7_claim_13 : decode cX7_claim 13 = .ok (.iload_n 3, 1) := by decide +kernel
theorem dX7_claim_14 : decode cX7_claim 14 = .ok (.iconst 1, 1) := by decide +kernel
theorem dX7_claim_15 : decode cX7_claim 15 = .ok (.ldc 214, 2) := by decide +kernel
theorem dX7_claim_17 : decode cX7_claim 17 = .ok (.invokestatic 92, 3) := by decide +kernel
theorem dX7_claim_20 : decode cX7_claim 20 = .ok (.aload 4, 2) := by decide +kernel
theorem dX7_claim_22 : decode cX7_claim 22 = .ok (.getfield 231, 3) := by decide +kernel
theorem dX7_claim_25 : decode cX7_claim 25 = .ok (.iload_n 2, 1) := by decide +kernel
theorem dX7_claim_26 : decode cX7_claim 26 = .ok (.aaload, 1) := by decide +kernel
theorem dX7_claim_27 : decode cX7_claim 27 = .ok (.astore 5, 2) := by decide +kernel
theorem dX7_claim_29 : decode cX7_claim 29 = .ok (.aload 5, 2) := by decide +kernel
theorem dX7_claim_31 : decode cX7_claim 31 = .ok (.getfield 251, 3) := by decide +kernel
theorem dX7_claim_34 : decode cX7_claim 34 = .ok (.iload_n 3, 1) := by decide +kernel
theorem dX7_claim_35 : decode cX7_claim 35 = .ok (.invokestatic 222, 3) := by decide +kernel
theorem dX7_claim_38 : decode cX7_claim 38 = .ok (.aload 4, 2) := by decide +kernel
theorem dX7_claim_40 : decode cX7_claim 40 = .ok (.iload_n 2, 1) := by decide +kernel
theorem dX7_claim_41 : decode cX7_claim 41 = .ok (.iload_n 3, 1) := by decide +kernel
theorem dX7_claim_42 : decode cX7_claim 42 = .ok (.invokestatic 254, 3) := by decide +kernel
theorem dX7_claim_45 : decode cX7_claim 45 = .ok (.aload 5, 2) := by decide +kernel
theorem dX7_claim_47 : decode cX7_claim 47 = .ok (.dup, 1) := by decide +kernel
theorem dX7_claim_48 : decode cX7_claim 48 = .ok (.getfield 251, 3) := by decide +kernel
theorem dX7_claim_51 : decode cX7_claim 51 = .ok (.iload_n 3, 1) := by decide +kernel
theorem dX7_claim_52 : decode cX7_claim 52 = .ok (.isub, 1) := by decide +kernel
theorem dX7_claim_53 : decode cX7_claim 53 = .ok (.putfield 251, 3) := by decide +kernel
theorem dX7_claim_56 : decode cX7_claim 56 = .ok (.aload 4, 2) := by decide +kernel
theorem dX7_claim_58 : decode cX7_claim 58 = .ok (.iload_n 2, 1) := by decide +kernel
theorem dX7_claim_59 : decode cX7_claim 59 = .ok (.iload_n 3, 1) := by decide +kernel
theorem dX7_claim_60 : decode cX7_claim 60 = .ok (.invokestatic 258, 3) := by decide +kernel
theorem dX7_claim_63 : decode cX7_claim 63 = .ok (.aload 5, 2) := by decide +kernel
theorem dX7_claim_65 : decode cX7_claim 65 = .ok (.getfield 235, 3) := by decide +kernel
theorem dX7_claim_68 : decode cX7_claim 68 = .ok (.ireturn, 1) := by decide +kernel
def zb_X7_claim_0 : ZP := (z_ald 0 (z_ild 1 (z_invV 7 1 sp_X7_knownShop (z_ast 4 (z_ald 0 (z_ild 2 (z_invV 7 1 sp_X7_knownGood (z_pop (z_ild 3 (z_push 1 (z_push 99999 (z_invS 3 sp_X7_requireRange (z_ald 4 (z_gf 6 2 (z_ild 2 (z_aald (z_ast 5 (z_ald 5 (z_gf 5 1 (z_ild 3 (z_invS 2 sp_X7_requireEnough (z_ald 4 (z_ild 2 (z_ild 3 (z_invS 3 sp_X7_requireSupply (z_ald 5 (z_dup (z_gf 5 1 (z_ild 3 (z_bin (fun x y => x - y) (z_pf 5 1 (z_ald 4 (z_ild 2 (z_ild 3 (z_invS 3 sp_X7_supply (z_ald 5 (z_gf 5 0 (z_ret 1))))))))))))))))))))))))))))))))))))))
set_option maxRecDepth 20000 in
theorem zk_X7_claim_0 {X : ZX} (C : zCx X cX7_claim RX7 (some .int) 7 114 1 6) (hn : X.nL = 6) : ZOK X 0 (zb_X7_claim_0) := by
  unfold zb_X7_claim_0
  refine z_aload_n_ok (pc := 0) (i := 0) C.hx C.hb dX7_claim_0 rfl ?_
  refine z_iload_n_ok (pc := 1) (i := 1) C.hx C.hb dX7_claim_1 rfl ?_
  refine z_invV_ok (pc := 2) C (by decide +kernel) (zm_X7_knownShop X.l C.htr) ⟨rfl, rfl⟩ ⟨by decide, by decide⟩ (by decide) (by decide) zcl_X7_119 zw_290 zw_3 zK7 dX7_claim_2 ?_
  refine z_astore_ok (pc := 5) (i := 4) C.hx C.hb dX7_claim_5 (zlt hn (by decide)) ?_
  refine z_aload_n_ok (pc := 7) (i := 0) C.hx C.hb dX7_claim_7 rfl ?_
  refine z_iload_n_ok (pc := 8) (i := 2) C.hx C.hb dX7_claim_8 rfl ?_
  refine z_invV_ok (pc := 9) C (by decide +kernel) (zm_X7_knownGood X.l C.htr) ⟨rfl, rfl⟩ ⟨by decide, by decide⟩ (by decide) (by decide) zcl_X7_88 zw_172 zw_0 zK7 dX7_claim_9 ?_
  refine z_pop_ok (pc := 12) C.hx C.hb dX7_claim_12 ?_
  refine z_iload_n_ok (pc := 13) (i := 3) C.hx C.hb dX7_claim_13 rfl ?_
  refine z_iconst_ok (pc := 14) (v := 1) C.hx C.hb dX7_claim_14 (by decide) ?_
  refine z_ldc_ok (pc := 15) C zw_488 dX7_claim_15 ?_
  refine z_invS_ok (pc := 17) C (by decide +kernel) (zm_X7_requireRange X.l C.htr) ⟨rfl, rfl⟩ ⟨by decide, by decide⟩ (by decide) (by decide) zcl_X7_92 zw_243 dX7_claim_17 ?_
  refine z_aload_ok (pc := 20) (i := 4) C.hx C.hb dX7_claim_20 ?_
  refine z_gf_ok (pc := 22) C zK6 (f := 2) (by decide) zw_476 rfl dX7_claim_22 ?_
  refine z_iload_n_ok (pc := 25) (i := 2) C.hx C.hb dX7_claim_25 rfl ?_
  refine z_aald_ok (pc := 26) C dX7_claim_26 ?_
  refine z_astore_ok (pc := 27) (i := 5) C.hx C.hb dX7_claim_27 (zlt hn (by decide)) ?_
  refine z_aload_ok (pc := 29) (i := 5) C.hx C.hb dX7_claim_29 ?_
  refine z_gf_ok (pc := 31) C zK5 (f := 1) (by decide) zw_449 rfl dX7_claim_31 ?_
  refine z_iload_n_ok (pc := 34) (i := 3) C.hx C.hb dX7_claim_34 rfl ?_
  refine z_invS_ok (pc := 35) C (by decide +kernel) (zm_X7_requireEnough X.l C.htr) ⟨rfl, rfl⟩ ⟨by decide, by decide⟩ (by decide) (by decide) zcl_X7_222 zw_653 dX7_claim_35 ?_
  refine z_aload_ok (pc := 38) (i := 4) C.hx C.hb dX7_claim_38 ?_
  refine z_iload_n_ok (pc := 40) (i := 2) C.hx C.hb dX7_claim_40 rfl ?_
  refine z_iload_n_ok (pc := 41) (i := 3) C.hx C.hb dX7_claim_41 rfl ?_
  refine z_invS_ok (pc := 42) C (by decide +kernel) (zm_X7_requireSupply X.l C.htr) ⟨rfl, rfl⟩ ⟨by decide, by decide⟩ (by decide) (by decide) zcl_X7_254 zw_679 dX7_claim_42 ?_
  refine z_aload_ok (pc := 45) (i := 5) C.hx C.hb dX7_claim_45 ?_
  refine z_dup_ok (pc := 47) C.hx C.hb dX7_claim_47 ?_
  refine z_gf_ok (pc := 48) C zK5 (f := 1) (by decide) zw_449 rfl dX7_claim_48 ?_
  refine z_iload_n_ok (pc := 51) (i := 3) C.hx C.hb dX7_claim_51 rfl ?_
  refine z_isub_ok (pc := 52) C.hx C.hb dX7_claim_52 ?_
  refine z_pf_ok (pc := 53) C zK5 rfl rfl (f := 1) (by decide) zw_449 rfl rfl (by decide +kernel) dX7_claim_53 ?_
  refine z_aload_ok (pc := 56) (i := 4) C.hx C.hb dX7_claim_56 ?_
  refine z_iload_n_ok (pc := 58) (i := 2) C.hx C.hb dX7_claim_58 rfl ?_
  refine z_iload_n_ok (pc := 59) (i := 3) C.hx C.hb dX7_claim_59 rfl ?_
  refine z_invS_ok (pc := 60) C (by decide +kernel) (zm_X7_supply X.l C.htr) ⟨rfl, rfl⟩ ⟨by decide, by decide⟩ (by decide) (by decide) zcl_X7_258 zw_683 dX7_claim_60 ?_
  refine z_aload_ok (pc := 63) (i := 5) C.hx C.hb dX7_claim_63 ?_
  refine z_gf_ok (pc := 65) C zK5 (f := 0) (by decide) zw_447 rfl dX7_claim_65 ?_
  exact z_iret_ok (pc := 68) C dX7_claim_68
def sp_X7_claim : ZSp := fun as S K => as.length ≤ 6 ∧ zsp 6 zb_X7_claim_0 as S K
theorem zm_X7_claim (l : Launch) (hl : l.stackTraces = false) : zMet l yX7_claim cX7_claim 6 (some .int) { frames := 7, cells := 1, slots := 6, locals := 114 } 0 0 sp_X7_claim := zMet_of hl (by decide +kernel) ⟨rfl, rfl⟩ (fun X C hn _ => zk_X7_claim_0 C hn)
theorem dX7_closeFarms_0 : decode cX7_closeFarms 0 = .ok (.iconst 0, 1) := by decide +kernel
theorem dX7_closeFarms_1 : decode cX7_closeFarms 1 = .ok (.istore_n 1, 1) := by decide +kernel
theorem dX7_closeFarms_2 : decode cX7_closeFarms 2 = .ok (.iload_n 1, 1) := by decide +kernel
theorem dX7_closeFarms_3 : decode cX7_closeFarms 3 = .ok (.aload_n 0, 1) := by decide +kernel
theorem dX7_closeFarms_4 : decode cX7_closeFarms 4 = .ok (.getfield 60, 3) := by decide +kernel
theorem dX7_closeFarms_7 : decode cX7_closeFarms 7 = .ok (.if_icmp .ge 42, 3) := by decide +kernel
theorem dX7_closeFarms_10 : decode cX7_closeFarms 10 = .ok (.aload_n 0, 1) := by decide +kernel
theorem dX7_closeFarms_11 : decode cX7_closeFarms 11 = .ok (.getfield 35, 3) := by decide +kernel
theorem dX7_closeFarms_14 : decode cX7_closeFarms 14 = .ok (.iload_n 1, 1) := by decide +kernel
theorem dX7_closeFarms_15 : decode cX7_closeFarms 15 = .ok (.aaload, 1) := by decide +kernel
theorem dX7_closeFarms_16 : decode cX7_closeFarms 16 = .ok (.astore_n 2, 1) := by decide +kernel
theorem dX7_closeFarms_17 : decode cX7_closeFarms 17 = .ok (.aload_n 2, 1) := by decide +kernel
theorem dX7_closeFarms_18 : decode cX7_closeFarms 18 = .ok (.getfield 291, 3) := by decide +kernel
theorem dX7_closeFarms_21 : decode cX7_closeFarms 21 = .ok (.aload_n 2, 1) := by decide +kernel
theorem dX7_closeFarms_22 : decode cX7_closeFarms 22 = .ok (.getfield 380, 3) := by decide +kernel
theorem dX7_closeFarms_25 : decode cX7_closeFarms 25 = .ok (.if_icmp .ge 13, 3) := by decide +kernel
theorem dX7_closeFarms_28 : decode cX7_closeFarms 28 = .ok (.aload_n 2, 1) := by decide +kernel
theorem dX7_closeFarms_29 : decode cX7_closeFarms 29 = .ok (.dup, 1) := by decide +kernel
theorem dX7_closeFarms_30 : decode cX7_closeFarms 30 = .ok (.getfield 300, 3) := by decide +kernel
theorem dX7_closeFarms_33 : decode cX7_closeFarms 33 = .ok (.iconst 1, 1) := by decide +kernel
theorem dX7_closeFarms_34 : decode cX7_closeFarms 34 = .ok (.iadd, 1) := by decide +kernel
theorem dX7_closeFarms_35 : decode cX7_closeFarms 35 = .ok (.putfield 300, 3) := by decide +kernel
theorem dX7_closeFarms_38 : decode cX7_closeFarms 38 = .ok (.aload_n 2, 1) := by decide +kernel
theorem dX7_closeFarms_39 : decode cX7_closeFarms 39 = .ok (.iconst 0, 1) := by decide +kernel
theorem dX7_closeFarms_40 : decode cX7_closeFarms 40 = .ok (.putfield 291, 3) := by decide +kernel
theorem dX7_closeFarms_43 : decode cX7_closeFarms 43 = .ok (.iinc 1 1, 3) := by decide +kernel
theorem dX7_closeFarms_46 : decode cX7_closeFarms 46 = .ok (.goto (-44), 3) := by decide +kernel
theorem dX7_closeFarms_49 : decode cX7_closeFarms 49 = .ok (.return_, 1) := by decide +kernel
def zb_X7_closeFarms_38 (J2 : ZP) : ZP := (z_ald 2 (z_push 0 (z_pf 1 3 (z_inc 1 (1) J2))))
set_option maxRecDepth 20000 in
theorem zk_X7_closeFarms_38 {X : ZX} (C : zCx X cX7_closeFarms RX7 none 0 0 1 6) (hn : X.nL = 3) {J2 : ZP} (hJ2 : ZOK X 2 J2) : ZOK X 38 (zb_X7_closeFarms_38 J2) := by
  unfold zb_X7_closeFarms_38
  refine z_aload_n_ok (pc := 38) (i := 2) C.hx C.hb dX7_closeFarms_38 rfl ?_
  refine z_iconst_ok (pc := 39) (v := 0) C.hx C.hb dX7_closeFarms_39 (by decide) ?_
  refine z_pf_ok (pc := 40) C zK1 rfl rfl (f := 3) (by decide) zw_532 rfl rfl (by decide +kernel) dX7_closeFarms_40 ?_
  refine z_iinc_ok (pc := 43) (i := 1) (v := 1) C.hx C.hb dX7_closeFarms_43 (by decide) (zlt hn (by decide)) ?_
  refine z_goto_ok (pc := 46) (tgt := 2) C.hx C.hb dX7_closeFarms_46 (by decide) ?_
  exact hJ2
def zb_X7_closeFarms_2 (J2 : ZP) : ZP := (z_ild 1 (z_ald 0 (z_gf 7 10 (z_cmp (fun x y => y ≤ x) (z_ret 0) (z_ald 0 (z_gf 7 4 (z_ild 1 (z_aald (z_ast 2 (z_ald 2 (z_gf 1 3 (z_ald 2 (z_gf 1 2 (z_cmp (fun x y => y ≤ x) (zb_X7_closeFarms_38 J2) (z_ald 2 (z_dup (z_gf 1 4 (z_push 1 (z_bin (fun x y => x + y) (z_pf 1 4 (zb_X7_closeFarms_38 J2)))))))))))))))))))))
set_option maxRecDepth 20000 in
theorem zk_X7_closeFarms_2 {X : ZX} (C : zCx X cX7_closeFarms RX7 none 0 0 1 6) (hn : X.nL = 3) {J2 : ZP} (hJ2 : ZOK X 2 J2) : ZOK X 2 (zb_X7_closeFarms_2 J2) := by
  unfold zb_X7_closeFarms_2
  refine z_iload_n_ok (pc := 2) (i := 1) C.hx C.hb dX7_closeFarms_2 rfl ?_
  refine z_aload_n_ok (pc := 3) (i := 0) C.hx C.hb dX7_closeFarms_3 rfl ?_
  refine z_gf_ok (pc := 4) C zK7 (f := 10) (by decide) zw_118 rfl dX7_closeFarms_4 ?_
  refine z_icmp_ge_ok (pc := 7) (tgt := 49) C.hx C.hb dX7_closeFarms_7 (by decide) ?_ ?_
  · exact z_vret_ok (pc := 49) C dX7_closeFarms_49
  · refine z_aload_n_ok (pc := 10) (i := 0) C.hx C.hb dX7_closeFarms_10 rfl ?_
    refine z_gf_ok (pc := 11) C zK7 (f := 4) (by decide) zw_112 rfl dX7_closeFarms_11 ?_
    refine z_iload_n_ok (pc := 14) (i := 1) C.hx C.hb dX7_closeFarms_14 rfl ?_
    refine z_aald_ok (pc := 15) C dX7_closeFarms_15 ?_
    refine z_astore_n_ok (pc := 16) (i := 2) C.hx C.hb dX7_closeFarms_16 rfl (zlt hn (by decide)) ?_
    refine z_aload_n_ok (pc := 17) (i := 2) C.hx C.hb dX7_closeFarms_17 rfl ?_
    refine z_gf_ok (pc := 18) C zK1 (f := 3) (by decide) zw_532 rfl dX7_closeFarms_18 ?_
    refine z_aload_n_ok (pc := 21) (i := 2) C.hx C.hb dX7_closeFarms_21 rfl ?_
    refine z_gf_ok (pc := 22) C zK1 (f := 2) (by decide) zw_530 rfl dX7_closeFarms_22 ?_
    refine z_icmp_ge_ok (pc := 25) (tgt := 38) C.hx C.hb dX7_closeFarms_25 (by decide) ?_ ?_
    · exact zk_X7_closeFarms_38 C hn hJ2
    · refine z_aload_n_ok (pc := 28) (i := 2) C.hx C.hb dX7_closeFarms_28 rfl ?_
      refine z_dup_ok (pc := 29) C.hx C.hb dX7_closeFarms_29 ?_
      refine z_gf_ok (pc := 30) C zK1 (f := 4) (by decide) zw_534 rfl dX7_closeFarms_30 ?_
      refine z_iconst_ok (pc := 33) (v := 1) C.hx C.hb dX7_closeFarms_33 (by decide) ?_
      refine z_iadd_ok (pc := 34) C.hx C.hb dX7_closeFarms_34 ?_
      refine z_pf_ok (pc := 35) C zK1 rfl rfl (f := 4) (by decide) zw_534 rfl rfl (by decide +kernel) dX7_closeFarms_35 ?_
      exact zk_X7_closeFarms_38 C hn hJ2
def zb_X7_closeFarms_0 : ZP := (z_push 0 (z_ist 1 (z_loop (fun J2 => zb_X7_closeFarms_2 J2))))
set_option maxRecDepth 20000 in
theorem zk_X7_closeFarms_0 {X : ZX} (C : zCx X cX7_closeFarms RX7 none 0 0 1 6) (hn : X.nL = 3) : ZOK X 0 (zb_X7_closeFarms_0) := by
  unfold zb_X7_closeFarms_0
  refine z_iconst_ok (pc := 0) (v := 0) C.hx C.hb dX7_closeFarms_0 (by decide) ?_
  refine z_istore_n_ok (pc := 1) (i := 1) C.hx C.hb dX7_closeFarms_1 rfl (zlt hn (by decide)) ?_
  exact z_loop_ok (fun J2 hJ2 => zk_X7_closeFarms_2 C hn hJ2)
def sp_X7_closeFarms : ZSp := fun as S K => as.length ≤ 3 ∧ zsp 3 zb_X7_closeFarms_0 as S K
theorem zm_X7_closeFarms (l : Launch) (hl : l.stackTraces = false) : zMet l yX7_closeFarms cX7_closeFarms 3 none { frames := 0, cells := 1, slots := 6, locals := 0 } 0 0 sp_X7_closeFarms := zMet_of hl (by decide +kernel) ⟨rfl, rfl⟩ (fun X C hn _ => zk_X7_closeFarms_0 C hn)
theorem dX7_nameOfFall_0 : decode cX7_nameOfFall 0 = .ok (.aload_n 1, 1) := by decide +kernel
theorem dX7_nameOfFall_1 : decode cX7_nameOfFall 1 = .ok (.getfield 176, 3) := by decide +kernel
theorem dX7_nameOfFall_4 : decode cX7_nameOfFall 4 = .ok (.ifCond .eq 5, 3) := by decide +kernel
theorem dX7_nameOfFall_7 : decode cX7_nameOfFall 7 = .ok (.iconst 0, 1) := by decide +kernel
theorem dX7_nameOfFall_8 : decode cX7_nameOfFall 8 = .ok (.ireturn, 1) := by decide +kernel
theorem dX7_nameOfFall_9 : decode cX7_nameOfFall 9 = .ok (.iconst 0, 1) := by decide +kernel
theorem dX7_nameOfFall_10 : decode cX7_nameOfFall 10 = .ok (.istore_n 2, 1) := by decide +kernel
theorem dX7_nameOfFall_11 : decode cX7_nameOfFall 11 = .ok (.iload_n 2, 1) := by decide +kernel
theorem dX7_nameOfFall_12 : decode cX7_nameOfFall 12 = .ok (.bipush 6, 2) := by decide +kernel
theorem dX7_nameOfFall_14 : decode cX7_nameOfFall 14 = .ok (.if_icmp .ge 32, 3) := by decide +kernel
theorem dX7_nameOfFall_17 : decode cX7_nameOfFall 17 = .ok (.aload_n 0, 1) := by decide +kernel
theorem dX7_nameOfFall_18 : decode cX7_nameOfFall 18 = .ok (.aload_n 1, 1) := by decide +kernel
theorem dX7_nameOfFall_19 : decode cX7_nameOfFall 19 = .ok (.iload_n 2, 1) := by decide +kernel
theorem dX7_nameOfFall_20 : decode cX7_nameOfFall 20 = .ok (.invokevirtual 193, 3) := by decide +kernel
theorem dX7_nameOfFall_23 : decode cX7_nameOfFall 23 = .ok (.aload_n 1, 1) := by decide +kernel
theorem dX7_nameOfFall_24 : decode cX7_nameOfFall 24 = .ok (.getfield 145, 3) := by decide +kernel
theorem dX7_nameOfFall_27 : decode cX7_nameOfFall 27 = .ok (.getfield 231, 3) := by decide +kernel
theorem dX7_nameOfFall_30 : decode cX7_nameOfFall 30 = .ok (.iload_n 2, 1) := by decide +kernel
theorem dX7_nameOfFall_31 : decode cX7_nameOfFall 31 = .ok (.aaload, 1) := by decide +kernel
theorem dX7_nameOfFall_32 : decode cX7_nameOfFall 32 = .ok (.getfield 235, 3) := by decide +kernel
theorem dX7_nameOfFall_35 : decode cX7_nameOfFall 35 = .ok (.if_icmp .le 5, 3) := by decide +kernel
theorem dX7_nameOfFall_38 : decode cX7_nameOfFall 38 = .ok (.iconst 1, 1) := by decide +kernel
theorem dX7_nameOfFall_39 : decode cX7_nameOfFall 39 = .ok (.ireturn, 1) := by decide +kernel
theorem dX7_nameOfFall_40 : decode cX7_nameOfFall 40 = .ok (.iinc 2 1, 3) := by decide +kernel
theorem dX7_nameOfFall_43 : decode cX7_nameOfFall 43 = .ok (.goto (-32), 3) := by decide +kernel
theorem dX7_nameOfFall_46 : decode cX7_nameOfFall 46 = .ok (.iconst 2, 1) := by decide +kernel
theorem dX7_nameOfFall_47 : decode cX7_nameOfFall 47 = .ok (.ireturn, 1) := by decide +kernel
def zb_X7_nameOfFall_11 (J11 : ZP) : ZP := (z_ild 2 (z_push 6 (z_cmp (fun x y => y ≤ x) (z_push 2 (z_ret 1)) (z_ald 0 (z_ald 1 (z_ild 2 (z_invV 7 2 sp_X7_gramsLeft (z_ald 1 (z_gf 3 2 (z_gf 6 2 (z_ild 2 (z_aald (z_gf 5 0 (z_cmp (fun x y => x ≤ y) (z_inc 2 (1) J11) (z_push 1 (z_ret 1))))))))))))))))
set_option maxRecDepth 20000 in
theorem zk_X7_nameOfFall_11 {X : ZX} (C : zCx X cX7_nameOfFall RX7 (some .int) 3 65 1 6) (hn : X.nL = 3) {J11 : ZP} (hJ11 : ZOK X 11 J11) : ZOK X 11 (zb_X7_nameOfFall_11 J11) := by
  unfold zb_X7_nameOfFall_11
  refine z_iload_n_ok (pc := 11) (i := 2) C.hx C.hb dX7_nameOfFall_11 rfl ?_
  refine z_bipush_ok (pc := 12) (v := 6) C.hx C.hb dX7_nameOfFall_12 (by decide) ?_
  refine z_icmp_ge_ok (pc := 14) (tgt := 46) C.hx C.hb dX7_nameOfFall_14 (by decide) ?_ ?_
  · refine z_iconst_ok (pc := 46) (v := 2) C.hx C.hb dX7_nameOfFall_46 (by decide) ?_
    exact z_iret_ok (pc := 47) C dX7_nameOfFall_47
  · refine z_aload_n_ok (pc := 17) (i := 0) C.hx C.hb dX7_nameOfFall_17 rfl ?_
    refine z_aload_n_ok (pc := 18) (i := 1) C.hx C.hb dX7_nameOfFall_18 rfl ?_
    refine z_iload_n_ok (pc := 19) (i := 2) C.hx C.hb dX7_nameOfFall_19 rfl ?_
    refine z_invV_ok (pc := 20) C (by decide +kernel) (zm_X7_gramsLeft X.l C.htr) ⟨rfl, rfl⟩ ⟨by decide, by decide⟩ (by decide) (by decide) zcl_X7_193 zw_392 zw_6 zK7 dX7_nameOfFall_20 ?_
    refine z_aload_n_ok (pc := 23) (i := 1) C.hx C.hb dX7_nameOfFall_23 rfl ?_
    refine z_gf_ok (pc := 24) C zK3 (f := 2) (by decide) zw_322 rfl dX7_nameOfFall_24 ?_
    refine z_gf_ok (pc := 27) C zK6 (f := 2) (by decide) zw_476 rfl dX7_nameOfFall_27 ?_
    refine z_iload_n_ok (pc := 30) (i := 2) C.hx C.hb dX7_nameOfFall_30 rfl ?_
    refine z_aald_ok (pc := 31) C dX7_nameOfFall_31 ?_
    refine z_gf_ok (pc := 32) C zK5 (f := 0) (by decide) zw_447 rfl dX7_nameOfFall_32 ?_
    refine z_icmp_le_ok (pc := 35) (tgt := 40) C.hx C.hb dX7_nameOfFall_35 (by decide) ?_ ?_
    · refine z_iinc_ok (pc := 40) (i := 2) (v := 1) C.hx C.hb dX7_nameOfFall_40 (by decide) (zlt hn (by decide)) ?_
      refine z_goto_ok (pc := 43) (tgt := 11) C.hx C.hb dX7_nameOfFall_43 (by decide) ?_
      exact hJ11
    · refine z_iconst_ok (pc := 38) (v := 1) C.hx C.hb dX7_nameOfFall_38 (by decide) ?_
      exact z_iret_ok (pc := 39) C dX7_nameOfFall_39
def zb_X7_nameOfFall_0 : ZP := (z_ald 1 (z_gf 3 6 (z_if (fun x => x = 0) (z_push 0 (z_ist 2 (z_loop (fun J11 => zb_X7_nameOfFall_11 J11)))) (z_push 0 (z_ret 1)))))
set_option maxRecDepth 20000 in
theorem zk_X7_nameOfFall_0 {X : ZX} (C : zCx X cX7_nameOfFall RX7 (some .int) 3 65 1 6) (hn : X.nL = 3) : ZOK X 0 (zb_X7_nameOfFall_0) := by
  unfold zb_X7_nameOfFall_0
  refine z_aload_n_ok (pc := 0) (i := 1) C.hx C.hb dX7_nameOfFall_0 rfl ?_
  refine z_gf_ok (pc := 1) C zK3 (f := 6) (by decide) zw_330 rfl dX7_nameOfFall_1 ?_
  refine z_if_eq_ok (pc := 4) (tgt := 9) C.hx C.hb dX7_nameOfFall_4 (by decide) ?_ ?_
  · refine z_iconst_ok (pc := 9) (v := 0) C.hx C.hb dX7_nameOfFall_9 (by decide) ?_
    refine z_istore_n_ok (pc := 10) (i := 2) C.hx C.hb dX7_nameOfFall_10 rfl (zlt hn (by decide)) ?_
    exact z_loop_ok (fun J11 hJ11 => zk_X7_nameOfFall_11 C hn hJ11)
  · refine z_iconst_ok (pc := 7) (v := 0) C.hx C.hb dX7_nameOfFall_7 (by decide) ?_
    exact z_iret_ok (pc := 8) C dX7_nameOfFall_8
def sp_X7_nameOfFall : ZSp := fun as S K => as.length ≤ 3 ∧ zsp 3 zb_X7_nameOfFall_0 as S K
theorem zm_X7_nameOfFall (l : Launch) (hl : l.stackTraces = false) : zMet l yX7_nameOfFall cX7_nameOfFall 3 (some .int) { frames := 3, cells := 1, slots := 6, locals := 65 } 0 0 sp_X7_nameOfFall := zMet_of hl (by decide +kernel) ⟨rfl, rfl⟩ (fun X C hn _ => zk_X7_nameOfFall_0 C hn)
theorem dX7_closePerson_0 : decode cX7_closePerson 0 = .ok (.sipush 400, 3) := by decide +kernel
theorem dX7_closePerson_3 : decode cX7_closePerson 3 = .ok (.aload_n 1, 1) := by decide +kernel
theorem dX7_closePerson_4 : decode cX7_closePerson 4 = .ok (.invokevirtual 373, 3) := by decide +kernel
theorem dX7_closePerson_7 : decode cX7_closePerson 7 = .ok (.imul, 1) := by decide +kernel
theorem dX7_closePerson_8 : decode cX7_closePerson 8 = .ok (.istore_n 2, 1) := by decide +kernel
theorem dX7_closePerson_9 : decode cX7_closePerson 9 = .ok (.aload_n 1, 1) := by decide +kernel
theorem dX7_closePerson_10 : decode cX7_closePerson 10 = .ok (.getfield 186, 3) := by decide +kernel
theorem dX7_closePerson_13 : decode cX7_closePerson 13 = .ok (.iload_n 2, 1) := by decide +kernel
theorem dX7_closePerson_14 : decode cX7_closePerson 14 = .ok (.if_icmp .lt 24, 3) := by decide +kernel
theorem dX7_closePerson_17 : decode cX7_closePerson 17 = .ok (.aload_n 1, 1) := by decide +kernel
theorem dX7_closePerson_18 : decode cX7_closePerson 18 = .ok (.bipush 100, 2) := by decide +kernel
theorem dX7_closePerson_20 : decode cX7_closePerson 20 = .ok (.aload_n 1, 1) := by decide +kernel
theorem dX7_closePerson_21 : decode cX7_closePerson 21 = .ok (.getfield 180, 3) := by decide +kernel
theorem dX7_closePerson_24 : decode cX7_closePerson 24 = .ok (.iconst 3, 1) := by decide +kernel
theorem dX7_closePerson_25 : decode cX7_closePerson 25 = .ok (.iadd, 1) := by decide +kernel
theorem dX7_closePerson_26 : decode cX7_closePerson 26 = .ok (.invokestatic 264, 3) := by decide +kernel
theorem dX7_closePerson_29 : decode cX7_closePerson 29 = .ok (.putfield 180, 3) := by decide +kernel
theorem dX7_closePerson_32 : decode cX7_closePerson 32 = .ok (.aload_n 1, 1) := by decide +kernel
theorem dX7_closePerson_33 : decode cX7_closePerson 33 = .ok (.iconst (-1), 1) := by decide +kernel
theorem dX7_closePerson_34 : decode cX7_closePerson 34 = .ok (.putfield 183, 3) := by decide +kernel
theorem dX7_closePerson_37 : decode cX7_closePerson 37 = .ok (.return_, 1) := by decide +kernel
theorem dX7_closePerson_38 : decode cX7_closePerson 38 = .ok (.aload_n 1, 1) := by decide +kernel
theorem dX7_closePerson_39 : decode cX7_closePerson 39 = .ok (.aload_n 0, 1) := by decide +kernel
theorem dX7_closePerson_40 : decode cX7_closePerson 40 = .ok (.aload_n 1, 1) := by decide +kernel
theorem dX7_closePerson_41 : decode cX7_closePerson 41 = .ok (.invokevirtual 386, 3) := by decide +kernel
theorem dX7_closePerson_44 : decode cX7_closePerson 44 = .ok (.putfield 183, 3) := by decide +kernel
theorem dX7_closePerson_47 : decode cX7_closePerson 47 = .ok (.iconst 2, 1) := by decide +kernel
theorem dX7_closePerson_48 : decode cX7_closePerson 48 = .ok (.aload_n 1, 1) := by decide +kernel
theorem dX7_closePerson_49 : decode cX7_closePerson 49 = .ok (.getfield 186, 3) := by decide +kernel
theorem dX7_closePerson_52 : decode cX7_closePerson 52 = .ok (.imul, 1) := by decide +kernel
theorem dX7_closePerson_53 : decode cX7_closePerson 53 = .ok (.iload_n 2, 1) := by decide +kernel
theorem dX7_closePerson_54 : decode cX7_closePerson 54 = .ok (.if_icmp .ge 8, 3) := by decide +kernel
theorem dX7_closePerson_57 : decode cX7_closePerson 57 = .ok (.bipush 20, 2) := by decide +kernel
theorem dX7_closePerson_59 : decode cX7_closePerson 59 = .ok (.goto 4, 3) := by decide +kernel
theorem dX7_closePerson_62 : decode cX7_closePerson 62 = .ok (.iconst 5, 1) := by decide +kernel
theorem dX7_closePerson_63 : decode cX7_closePerson 63 = .ok (.istore_n 3, 1) := by decide +kernel
theorem dX7_closePerson_64 : decode cX7_closePerson 64 = .ok (.aload_n 1, 1) := by decide +kernel
theorem dX7_closePerson_65 : decode cX7_closePerson 65 = .ok (.iconst 0, 1) := by decide +kernel
theorem dX7_closePerson_66 : decode cX7_closePerson 66 = .ok (.aload_n 1, 1) := by decide +kernel
theorem dX7_closePerson_67 : decode cX7_closePerson 67 = .ok (.getfield 180, 3) := by decide +kernel
theorem dX7_closePerson_70 : decode cX7_closePerson 70 = .ok (.iload_n 3, 1) := by decide +kernel
theorem dX7_closePerson_71 : decode cX7_closePerson 71 = .ok (.isub, 1) := by decide +kernel
theorem dX7_closePerson_72 : decode cX7_closePerson 72 = .ok (.invokestatic 367, 3) := by decide +kernel
theorem dX7_closePerson_75 : decode cX7_closePerson 75 = .ok (.putfield 180, 3) := by decide +kernel
theorem dX7_closePerson_78 : decode cX7_closePerson 78 = .ok (.return_, 1) := by decide +kernel
def zb_X7_closePerson_63 : ZP := (z_ist 3 (z_ald 1 (z_push 0 (z_ald 1 (z_gf 3 4 (z_ild 3 (z_bin (fun x y => x - y) (z_mm (fun x y => if x < y then y else x) (z_pf 3 4 (z_ret 0))))))))))
set_option maxRecDepth 20000 in
theorem zk_X7_closePerson_63 {X : ZX} (C : zCx X cX7_closePerson RX7 none 4 87 1 6) (hn : X.nL = 4) : ZOK X 63 (zb_X7_closePerson_63) := by
  unfold zb_X7_closePerson_63
  refine z_istore_n_ok (pc := 63) (i := 3) C.hx C.hb dX7_closePerson_63 rfl (zlt hn (by decide)) ?_
  refine z_aload_n_ok (pc := 64) (i := 1) C.hx C.hb dX7_closePerson_64 rfl ?_
  refine z_iconst_ok (pc := 65) (v := 0) C.hx C.hb dX7_closePerson_65 (by decide) ?_
  refine z_aload_n_ok (pc := 66) (i := 1) C.hx C.hb dX7_closePerson_66 rfl ?_
  refine z_gf_ok (pc := 67) C zK3 (f := 4) (by decide) zw_326 rfl dX7_closePerson_67 ?_
  refine z_iload_n_ok (pc := 70) (i := 3) C.hx C.hb dX7_closePerson_70 rfl ?_
  refine z_isub_ok (pc := 71) C.hx C.hb dX7_closePerson_71 ?_
  refine z_max_ok (pc := 72) C (by decide) (by decide) zw_379 zw_380 zw_40 zw_381 dX7_closePerson_72 ?_
  refine z_pf_ok (pc := 75) C zK3 rfl rfl (f := 4) (by decide) zw_326 rfl rfl (by decide +kernel) dX7_closePerson_75 ?_
  exact z_vret_ok (pc := 78) C dX7_closePerson_78
def zb_X7_closePerson_0 : ZP := (z_push 400 (z_ald 1 (z_invV 3 0 sp_X3_quarters (z_bin (fun x y => x * y) (z_ist 2 (z_ald 1 (z_gf 3 9 (z_ild 2 (z_cmp (fun x y => x < y) (z_ald 1 (z_ald 0 (z_ald 1 (z_invV 7 1 sp_X7_nameOfFall (z_pf 3 5 (z_push 2 (z_ald 1 (z_gf 3 9 (z_bin (fun x y => x * y) (z_ild 2 (z_cmp (fun x y => y ≤ x) (z_push 5 zb_X7_closePerson_63) (z_push 20 zb_X7_closePerson_63)))))))))))) (z_ald 1 (z_push 100 (z_ald 1 (z_gf 3 4 (z_push 3 (z_bin (fun x y => x + y) (z_mm (fun x y => if y < x then y else x) (z_pf 3 4 (z_ald 1 (z_push (-1) (z_pf 3 5 (z_ret 0)))))))))))))))))))))
set_option maxRecDepth 20000 in
theorem zk_X7_closePerson_0 {X : ZX} (C : zCx X cX7_closePerson RX7 none 4 87 1 6) (hn : X.nL = 4) : ZOK X 0 (zb_X7_closePerson_0) := by
  unfold zb_X7_closePerson_0
  refine z_sipush_ok (pc := 0) (v := 400) C.hx C.hb dX7_closePerson_0 (by decide) ?_
  refine z_aload_n_ok (pc := 3) (i := 1) C.hx C.hb dX7_closePerson_3 rfl ?_
  refine z_invV_ok (pc := 4) C (by decide +kernel) (zm_X3_quarters X.l C.htr) ⟨rfl, rfl⟩ ⟨by decide, by decide⟩ (by decide) (by decide) zcl_X7_373 zw_398 zw_399 zK3 dX7_closePerson_4 ?_
  refine z_imul_ok (pc := 7) C.hx C.hb dX7_closePerson_7 ?_
  refine z_istore_n_ok (pc := 8) (i := 2) C.hx C.hb dX7_closePerson_8 rfl (zlt hn (by decide)) ?_
  refine z_aload_n_ok (pc := 9) (i := 1) C.hx C.hb dX7_closePerson_9 rfl ?_
  refine z_gf_ok (pc := 10) C zK3 (f := 9) (by decide) zw_336 rfl dX7_closePerson_10 ?_
  refine z_iload_n_ok (pc := 13) (i := 2) C.hx C.hb dX7_closePerson_13 rfl ?_
  refine z_icmp_lt_ok (pc := 14) (tgt := 38) C.hx C.hb dX7_closePerson_14 (by decide) ?_ ?_
  · refine z_aload_n_ok (pc := 38) (i := 1) C.hx C.hb dX7_closePerson_38 rfl ?_
    refine z_aload_n_ok (pc := 39) (i := 0) C.hx C.hb dX7_closePerson_39 rfl ?_
    refine z_aload_n_ok (pc := 40) (i := 1) C.hx C.hb dX7_closePerson_40 rfl ?_
    refine z_invV_ok (pc := 41) C (by decide +kernel) (zm_X7_nameOfFall X.l C.htr) ⟨rfl, rfl⟩ ⟨by decide, by decide⟩ (by decide) (by decide) zcl_X7_386 zw_574 zw_13 zK7 dX7_closePerson_41 ?_
    refine z_pf_ok (pc := 44) C zK3 rfl rfl (f := 5) (by decide) zw_328 rfl rfl (by decide +kernel) dX7_closePerson_44 ?_
    refine z_iconst_ok (pc := 47) (v := 2) C.hx C.hb dX7_closePerson_47 (by decide) ?_
    refine z_aload_n_ok (pc := 48) (i := 1) C.hx C.hb dX7_closePerson_48 rfl ?_
    refine z_gf_ok (pc := 49) C zK3 (f := 9) (by decide) zw_336 rfl dX7_closePerson_49 ?_
    refine z_imul_ok (pc := 52) C.hx C.hb dX7_closePerson_52 ?_
    refine z_iload_n_ok (pc := 53) (i := 2) C.hx C.hb dX7_closePerson_53 rfl ?_
    refine z_icmp_ge_ok (pc := 54) (tgt := 62) C.hx C.hb dX7_closePerson_54 (by decide) ?_ ?_
    · refine z_iconst_ok (pc := 62) (v := 5) C.hx C.hb dX7_closePerson_62 (by decide) ?_
      exact zk_X7_closePerson_63 C hn 
    · refine z_bipush_ok (pc := 57) (v := 20) C.hx C.hb dX7_closePerson_57 (by decide) ?_
      refine z_goto_ok (pc := 59) (tgt := 63) C.hx C.hb dX7_closePerson_59 (by decide) ?_
      exact zk_X7_closePerson_63 C hn 
  · refine z_aload_n_ok (pc := 17) (i := 1) C.hx C.hb dX7_closePerson_17 rfl ?_
    refine z_bipush_ok (pc := 18) (v := 100) C.hx C.hb dX7_closePerson_18 (by decide) ?_
    refine z_aload_n_ok (pc := 20) (i := 1) C.hx C.hb dX7_closePerson_20 rfl ?_
    refine z_gf_ok (pc := 21) C zK3 (f := 4) (by decide) zw_326 rfl dX7_closePerson_21 ?_
    refine z_iconst_ok (pc := 24) (v := 3) C.hx C.hb dX7_closePerson_24 (by decide) ?_
    refine z_iadd_ok (pc := 25) C.hx C.hb dX7_closePerson_25 ?_
    refine z_min_ok (pc := 26) C (by decide) (by decide) zw_497 zw_498 zw_40 zw_499 dX7_closePerson_26 ?_
    refine z_pf_ok (pc := 29) C zK3 rfl rfl (f := 4) (by decide) zw_326 rfl rfl (by decide +kernel) dX7_closePerson_29 ?_
    refine z_aload_n_ok (pc := 32) (i := 1) C.hx C.hb dX7_closePerson_32 rfl ?_
    refine z_iconst_ok (pc := 33) (v := -1) C.hx C.hb dX7_closePerson_33 (by decide) ?_
    refine z_pf_ok (pc := 34) C zK3 rfl rfl (f := 5) (by decide) zw_328 rfl rfl (by decide +kernel) dX7_closePerson_34 ?_
    exact z_vret_ok (pc := 37) C dX7_closePerson_37
def sp_X7_closePerson : ZSp := fun as S K => as.length ≤ 4 ∧ zsp 4 zb_X7_closePerson_0 as S K
theorem zm_X7_closePerson (l : Launch) (hl : l.stackTraces = false) : zMet l yX7_closePerson cX7_closePerson 4 none { frames := 4, cells := 1, slots := 6, locals := 87 } 0 0 sp_X7_closePerson := zMet_of hl (by decide +kernel) ⟨rfl, rfl⟩ (fun X C hn _ => zk_X7_closePerson_0 C hn)
theorem dX7_closePeople_0 : decode cX7_closePeople 0 = .ok (.iconst 0, 1) := by decide +kernel
theorem dX7_closePeople_1 : decode cX7_closePeople 1 = .ok (.istore_n 1, 1) := by decide +kernel
theorem dX7_closePeople_2 : decode cX7_closePeople 2 = .ok (.iload_n 1, 1) := by decide +kernel
theorem dX7_closePeople_3 : decode cX7_closePeople 3 = .ok (.aload_n 0, 1) := by decide +kernel
theorem dX7_closePeople_4 : decode cX7_closePeople 4 = .ok (.getfield 50, 3) := by decide +kernel
theorem dX7_closePeople_7 : decode cX7_closePeople 7 = .ok (.if_icmp .ge 31, 3) := by decide +kernel
theorem dX7_closePeople_10 : decode cX7_closePeople 10 = .ok (.aload_n 0, 1) := by decide +kernel
theorem dX7_closePeople_11 : decode cX7_closePeople 11 = .ok (.getfield 17, 3) := by decide +kernel
theorem dX7_closePeople_14 : decode cX7_closePeople 14 = .ok (.iload_n 1, 1) := by decide +kernel
theorem dX7_closePeople_15 : decode cX7_closePeople 15 = .ok (.aaload, 1) := by decide +kernel
theorem dX7_closePeople_16 : decode cX7_closePeople 16 = .ok (.invokevirtual 189, 3) := by decide +kernel
theorem dX7_closePeople_19 : decode cX7_closePeople 19 = .ok (.ifCond .ne 13, 3) := by decide +kernel
theorem dX7_closePeople_22 : decode cX7_closePeople 22 = .ok (.aload_n 0, 1) := by decide +kernel
theorem dX7_closePeople_23 : decode cX7_closePeople 23 = .ok (.aload_n 0, 1) := by decide +kernel
theorem dX7_closePeople_24 : decode cX7_closePeople 24 = .ok (.getfield 17, 3) := by decide +kernel
theorem dX7_closePeople_27 : decode cX7_closePeople 27 = .ok (.iload_n 1, 1) := by decide +kernel
theorem dX7_closePeople_28 : decode cX7_closePeople 28 = .ok (.aaload, 1) := by decide +kernel
theorem dX7_closePeople_29 : decode cX7_closePeople 29 = .ok (.invokevirtual 383, 3) := by decide +kernel
theorem dX7_closePeople_32 : decode cX7_closePeople 32 = .ok (.iinc 1 1, 3) := by decide +kernel
theorem dX7_closePeople_35 : decode cX7_closePeople 35 = .ok (.goto (-33), 3) := by decide +kernel
theorem dX7_closePeople_38 : decode cX7_closePeople 38 = .ok (.return_, 1) := by decide +kernel
def zb_X7_closePeople_32 (J2 : ZP) : ZP := (z_inc 1 (1) J2)
set_option maxRecDepth 20000 in
theorem zk_X7_closePeople_32 {X : ZX} (C : zCx X cX7_closePeople RX7 none 5 110 1 6) (hn : X.nL = 2) {J2 : ZP} (hJ2 : ZOK X 2 J2) : ZOK X 32 (zb_X7_closePeople_32 J2) := by
  unfold zb_X7_closePeople_32
  refine z_iinc_ok (pc := 32) (i := 1) (v := 1) C.hx C.hb dX7_closePeople_32 (by decide) (zlt hn (by decide)) ?_
  refine z_goto_ok (pc := 35) (tgt := 2) C.hx C.hb dX7_closePeople_35 (by decide) ?_
  exact hJ2
def zb_X7_closePeople_2 (J2 : ZP) : ZP := (z_ild 1 (z_ald 0 (z_gf 7 7 (z_cmp (fun x y => y ≤ x) (z_ret 0) (z_ald 0 (z_gf 7 1 (z_ild 1 (z_aald (z_invV 3 0 sp_X3_isDead (z_if (fun x => x = 0) (z_ald 0 (z_ald 0 (z_gf 7 1 (z_ild 1 (z_aald (z_invV 7 1 sp_X7_closePerson (zb_X7_closePeople_32 J2))))))) (zb_X7_closePeople_32 J2)))))))))))
set_option maxRecDepth 20000 in
theorem zk_X7_closePeople_2 {X : ZX} (C : zCx X cX7_closePeople RX7 none 5 110 1 6) (hn : X.nL = 2) {J2 : ZP} (hJ2 : ZOK X 2 J2) : ZOK X 2 (zb_X7_closePeople_2 J2) := by
  unfold zb_X7_closePeople_2
  refine z_iload_n_ok (pc := 2) (i := 1) C.hx C.hb dX7_closePeople_2 rfl ?_
  refine z_aload_n_ok (pc := 3) (i := 0) C.hx C.hb dX7_closePeople_3 rfl ?_
  refine z_gf_ok (pc := 4) C zK7 (f := 7) (by decide) zw_115 rfl dX7_closePeople_4 ?_
  refine z_icmp_ge_ok (pc := 7) (tgt := 38) C.hx C.hb dX7_closePeople_7 (by decide) ?_ ?_
  · exact z_vret_ok (pc := 38) C dX7_closePeople_38
  · refine z_aload_n_ok (pc := 10) (i := 0) C.hx C.hb dX7_closePeople_10 rfl ?_
    refine z_gf_ok (pc := 11) C zK7 (f := 1) (by decide) zw_109 rfl dX7_closePeople_11 ?_
    refine z_iload_n_ok (pc := 14) (i := 1) C.hx C.hb dX7_closePeople_14 rfl ?_
    refine z_aald_ok (pc := 15) C dX7_closePeople_15 ?_
    refine z_invV_ok (pc := 16) C (by decide +kernel) (zm_X3_isDead X.l C.htr) ⟨rfl, rfl⟩ ⟨by decide, by decide⟩ (by decide) (by decide) zcl_X7_189 zw_383 zw_384 zK3 dX7_closePeople_16 ?_
    refine z_if_ne_ok (pc := 19) (tgt := 32) C.hx C.hb dX7_closePeople_19 (by decide) ?_ ?_
    · exact zk_X7_closePeople_32 C hn hJ2
    · refine z_aload_n_ok (pc := 22) (i := 0) C.hx C.hb dX7_closePeople_22 rfl ?_
      refine z_aload_n_ok (pc := 23) (i := 0) C.hx C.hb dX7_closePeople_23 rfl ?_
      refine z_gf_ok (pc := 24) C zK7 (f := 1) (by decide) zw_109 rfl dX7_closePeople_24 ?_
      refine z_iload_n_ok (pc := 27) (i := 1) C.hx C.hb dX7_closePeople_27 rfl ?_
      refine z_aald_ok (pc := 28) C dX7_closePeople_28 ?_
      refine z_invV_ok (pc := 29) C (by decide +kernel) (zm_X7_closePerson X.l C.htr) ⟨rfl, rfl⟩ ⟨by decide, by decide⟩ (by decide) (by decide) zcl_X7_383 zw_570 zw_12 zK7 dX7_closePeople_29 ?_
      exact zk_X7_closePeople_32 C hn hJ2
def zb_X7_closePeople_0 : ZP := (z_push 0 (z_ist 1 (z_loop (fun J2 => zb_X7_closePeople_2 J2))))
set_option maxRecDepth 20000 in
theorem zk_X7_closePeople_0 {X : ZX} (C : zCx X cX7_closePeople RX7 none 5 110 1 6) (hn : X.nL = 2) : ZOK X 0 (zb_X7_closePeople_0) := by
  unfold zb_X7_closePeople_0
  refine z_iconst_ok (pc := 0) (v := 0) C.hx C.hb dX7_closePeople_0 (by decide) ?_
  refine z_istore_n_ok (pc := 1) (i := 1) C.hx C.hb dX7_closePeople_1 rfl (zlt hn (by decide)) ?_
  exact z_loop_ok (fun J2 hJ2 => zk_X7_closePeople_2 C hn hJ2)
def sp_X7_closePeople : ZSp := fun as S K => as.length ≤ 2 ∧ zsp 2 zb_X7_closePeople_0 as S K
theorem zm_X7_closePeople (l : Launch) (hl : l.stackTraces = false) : zMet l yX7_closePeople cX7_closePeople 2 none { frames := 5, cells := 1, slots := 6, locals := 110 } 0 0 sp_X7_closePeople := zMet_of hl (by decide +kernel) ⟨rfl, rfl⟩ (fun X C hn _ => zk_X7_closePeople_0 C hn)
theorem dX7_knownFarm_0 : decode cX7_knownFarm 0 = .ok (.iload_n 1, 1) := by decide +kernel
theorem dX7_knownFarm_1 : decode cX7_knownFarm 1 = .ok (.ifCond .lt 11, 3) := by decide +kernel
theorem dX7_knownFarm_4 : decode cX7_knownFarm 4 = .ok (.iload_n 1, 1) := by decide +kernel
theorem dX7_knownFarm_5 : decode cX7_knownFarm 5 = .ok (.aload_n 0, 1) := by decide +kernel
theorem dX7_knownFarm_6 : decode cX7_knownFarm 6 = .ok (.getfield 60, 3) := by decide +kernel
theorem dX7_knownFarm_9 : decode cX7_knownFarm 9 = .ok (.if_icmp .lt 14, 3) := by decide +kernel
theorem dX7_knownFarm_12 : decode cX7_knownFarm 12 = .ok (.new 333, 3) := by decide +kernel
theorem dX7_knownFarm_15 : decode cX7_knownFarm 15 = .ok (.dup, 1) := by decide +kernel
theorem dX7_knownFarm_16 : decode cX7_knownFarm 16 = .ok (.ldc_w 344, 3) := by decide +kernel
theorem dX7_knownFarm_19 : decode cX7_knownFarm 19 = .ok (.invokespecial 337, 3) := by decide +kernel
theorem dX7_knownFarm_22 : decode cX7_knownFarm 22 = .ok (.athrow, 1) := by decide +kernel
theorem dX7_knownFarm_23 : decode cX7_knownFarm 23 = .ok (.aload_n 0, 1) := by decide +kernel
theorem dX7_knownFarm_24 : decode cX7_knownFarm 24 = .ok (.getfield 35, 3) := by decide +kernel
theorem dX7_knownFarm_27 : decode cX7_knownFarm 27 = .ok (.iload_n 1, 1) := by decide +kernel
theorem dX7_knownFarm_28 : decode cX7_knownFarm 28 = .ok (.aaload, 1) := by decide +kernel
theorem dX7_knownFarm_29 : decode cX7_knownFarm 29 = .ok (.areturn, 1) := by decide +kernel
def zb_X7_knownFarm_12 : ZP := (z_throw 1)
set_option maxRecDepth 20000 in
theorem zk_X7_knownFarm_12 {X : ZX} (C : zCx X cX7_knownFarm RX7 (some (.object "Pointsbook$Farm")) 6 90 1 6) (hn : X.nL = 2) : ZOK X 12 (zb_X7_knownFarm_12) := by
  unfold zb_X7_knownFarm_12
  exact z_throwSW_ok (pc := 12) (text := "no such farm") C zth_333_337 (by decide +kernel) dX7_knownFarm_12 dX7_knownFarm_15 dX7_knownFarm_16 dX7_knownFarm_19 dX7_knownFarm_22 (by decide +kernel) (by decide) (by decide) (by decide) (by decide)
def zb_X7_knownFarm_0 : ZP := (z_ild 1 (z_if (fun x => x < 0) zb_X7_knownFarm_12 (z_ild 1 (z_ald 0 (z_gf 7 10 (z_cmp (fun x y => x < y) (z_ald 0 (z_gf 7 4 (z_ild 1 (z_aald (z_ret 3))))) zb_X7_knownFarm_12))))))
set_option maxRecDepth 20000 in
theorem zk_X7_knownFarm_0 {X : ZX} (C : zCx X cX7_knownFarm RX7 (some (.object "Pointsbook$Farm")) 6 90 1 6) (hn : X.nL = 2) : ZOK X 0 (zb_X7_knownFarm_0) := by
  unfold zb_X7_knownFarm_0
  refine z_iload_n_ok (pc := 0) (i := 1) C.hx C.hb dX7_knownFarm_0 rfl ?_
  refine z_if_lt_ok (pc := 1) (tgt := 12) C.hx C.hb dX7_knownFarm_1 (by decide) ?_ ?_
  · exact zk_X7_knownFarm_12 C hn 
  · refine z_iload_n_ok (pc := 4) (i := 1) C.hx C.hb dX7_knownFarm_4 rfl ?_
    refine z_aload_n_ok (pc := 5) (i := 0) C.hx C.hb dX7_knownFarm_5 rfl ?_
    refine z_gf_ok (pc := 6) C zK7 (f := 10) (by decide) zw_118 rfl dX7_knownFarm_6 ?_
    refine z_icmp_lt_ok (pc := 9) (tgt := 23) C.hx C.hb dX7_knownFarm_9 (by decide) ?_ ?_
    · refine z_aload_n_ok (pc := 23) (i := 0) C.hx C.hb dX7_knownFarm_23 rfl ?_
      refine z_gf_ok (pc := 24) C zK7 (f := 4) (by decide) zw_112 rfl dX7_knownFarm_24 ?_
      refine z_iload_n_ok (pc := 27) (i := 1) C.hx C.hb dX7_knownFarm_27 rfl ?_
      refine z_aald_ok (pc := 28) C dX7_knownFarm_28 ?_
      exact z_aret_ok (pc := 29) C dX7_knownFarm_29
    · exact zk_X7_knownFarm_12 C hn 
def sp_X7_knownFarm : ZSp := fun as S K => as.length ≤ 2 ∧ zsp 2 zb_X7_knownFarm_0 as S K
theorem zm_X7_knownFarm (l : Launch) (hl : l.stackTraces = false) : zMet l yX7_knownFarm cX7_knownFarm 2 (some (.object "Pointsbook$Farm")) { frames := 6, cells := 1, slots := 6, locals := 90 } 0 0 sp_X7_knownFarm := zMet_of hl (by decide +kernel) ⟨rfl, rfl⟩ (fun X C hn _ => zk_X7_knownFarm_0 C hn)
theorem dX7_deliver_0 : decode cX7_deliver 0 = .ok (.aload_n 0, 1) := by decide +kernel
theorem dX7_deliver_1 : decode cX7_deliver 1 = .ok (.iload_n 1, 1) := by decide +kernel
theorem dX7_deliver_2 : decode cX7_deliver 2 = .ok (.invokevirtual 287, 3) := by decide +kernel
theorem dX7_deliver_5 : decode cX7_deliver 5 = .ok (.astore_n 3, 1) := by decide +kernel
theorem dX7_deliver_6 : decode cX7_deliver 6 = .ok (.iload_n 2, 1) := by decide +kernel
theorem dX7_deliver_7 : decode cX7_deliver 7 = .ok (.iconst 1, 1) := by decide +kernel
theorem dX7_deliver_8 : decode cX7_deliver 8 = .ok (.ldc 214, 2) := by decide +kernel
theorem dX7_deliver_10 : decode cX7_deliver 10 = .ok (.invokestatic 92, 3) := by decide +kernel
theorem dX7_deliver_13 : decode cX7_deliver 13 = .ok (.aload_n 3, 1) := by decide +kernel
theorem dX7_deliver_14 : decode cX7_deliver 14 = .ok (.dup, 1) := by decide +kernel
theorem dX7_deliver_15 : decode cX7_deliver 15 = .ok (.getfield 291, 3) := by decide +kernel
theorem dX7_deliver_18 : decode cX7_deliver 18 = .ok (.iload_n 2, 1) := by decide +kernel
theorem dX7_deliver_19 : decode cX7_deliver 19 = .ok (.iadd, 1) := by decide +kernel
theorem dX7_deliver_20 : decode cX7_deliver 20 = .ok (.putfield 291, 3) := by decide +kernel
theorem dX7_deliver_23 : decode cX7_deliver 23 = .ok (.aload_n 0, 1) := by decide +kernel
theorem dX7_deliver_24 : decode cX7_deliver 24 = .ok (.aload_n 3, 1) := by decide +kernel
theorem dX7_deliver_25 : decode cX7_deliver 25 = .ok (.getfield 294, 3) := by decide +kernel
theorem dX7_deliver_28 : decode cX7_deliver 28 = .ok (.aload_n 3, 1) := by decide +kernel
theorem dX7_deliver_29 : decode cX7_deliver 29 = .ok (.getfield 297, 3) := by decide +kernel
theorem dX7_deliver_32 : decode cX7_deliver 32 = .ok (.iload_n 2, 1) := by decide +kernel
theorem dX7_deliver_33 : decode cX7_deliver 33 = .ok (.invokevirtual 215, 3) := by decide +kernel
theorem dX7_deliver_36 : decode cX7_deliver 36 = .ok (.aload_n 3, 1) := by decide +kernel
theorem dX7_deliver_37 : decode cX7_deliver 37 = .ok (.getfield 291, 3) := by decide +kernel
theorem dX7_deliver_40 : decode cX7_deliver 40 = .ok (.ireturn, 1) := by decide +kernel
def zb_X7_deliver_0 : ZP := (z_ald 0 (z_ild 1 (z_invV 7 1 sp_X7_knownFarm (z_ast 3 (z_ild 2 (z_push 1 (z_push 99999 (z_invS 3 sp_X7_requireRange (z_ald 3 (z_dup (z_gf 1 3 (z_ild 2 (z_bin (fun x y => x + y) (z_pf 1 3 (z_ald 0 (z_ald 3 (z_gf 1 0 (z_ald 3 (z_gf 1 1 (z_ild 2 (z_invV 7 3 sp_X7_bringTo (z_ald 3 (z_gf 1 3 (z_ret 1))))))))))))))))))))))))
set_option maxRecDepth 20000 in
theorem zk_X7_deliver_0 {X : ZX} (C : zCx X cX7_deliver RX7 (some .int) 7 112 1 6) (hn : X.nL = 4) : ZOK X 0 (zb_X7_deliver_0) := by
  unfold zb_X7_deliver_0
  refine z_aload_n_ok (pc := 0) (i := 0) C.hx C.hb dX7_deliver_0 rfl ?_
  refine z_iload_n_ok (pc := 1) (i := 1) C.hx C.hb dX7_deliver_1 rfl ?_
  refine z_invV_ok (pc := 2) C (by decide +kernel) (zm_X7_knownFarm X.l C.htr) ⟨rfl, rfl⟩ ⟨by decide, by decide⟩ (by decide) (by decide) zcl_X7_287 zw_552 zw_9 zK7 dX7_deliver_2 ?_
  refine z_astore_n_ok (pc := 5) (i := 3) C.hx C.hb dX7_deliver_5 rfl (zlt hn (by decide)) ?_
  refine z_iload_n_ok (pc := 6) (i := 2) C.hx C.hb dX7_deliver_6 rfl ?_
  refine z_iconst_ok (pc := 7) (v := 1) C.hx C.hb dX7_deliver_7 (by decide) ?_
  refine z_ldc_ok (pc := 8) C zw_488 dX7_deliver_8 ?_
  refine z_invS_ok (pc := 10) C (by decide +kernel) (zm_X7_requireRange X.l C.htr) ⟨rfl, rfl⟩ ⟨by decide, by decide⟩ (by decide) (by decide) zcl_X7_92 zw_243 dX7_deliver_10 ?_
  refine z_aload_n_ok (pc := 13) (i := 3) C.hx C.hb dX7_deliver_13 rfl ?_
  refine z_dup_ok (pc := 14) C.hx C.hb dX7_deliver_14 ?_
  refine z_gf_ok (pc := 15) C zK1 (f := 3) (by decide) zw_532 rfl dX7_deliver_15 ?_
  refine z_iload_n_ok (pc := 18) (i := 2) C.hx C.hb dX7_deliver_18 rfl ?_
  refine z_iadd_ok (pc := 19) C.hx C.hb dX7_deliver_19 ?_
  refine z_pf_ok (pc := 20) C zK1 rfl rfl (f := 3) (by decide) zw_532 rfl rfl (by decide +kernel) dX7_deliver_20 ?_
  refine z_aload_n_ok (pc := 23) (i := 0) C.hx C.hb dX7_deliver_23 rfl ?_
  refine z_aload_n_ok (pc := 24) (i := 3) C.hx C.hb dX7_deliver_24 rfl ?_
  refine z_gf_ok (pc := 25) C zK1 (f := 0) (by decide) zw_526 rfl dX7_deliver_25 ?_
  refine z_aload_n_ok (pc := 28) (i := 3) C.hx C.hb dX7_deliver_28 rfl ?_
  refine z_gf_ok (pc := 29) C zK1 (f := 1) (by decide) zw_528 rfl dX7_deliver_29 ?_
  refine z_iload_n_ok (pc := 32) (i := 2) C.hx C.hb dX7_deliver_32 rfl ?_
  refine z_invV_ok (pc := 33) C (by decide +kernel) (zm_X7_bringTo X.l C.htr) ⟨rfl, rfl⟩ ⟨by decide, by decide⟩ (by decide) (by decide) zcl_X7_215 zw_491 zw_8 zK7 dX7_deliver_33 ?_
  refine z_aload_n_ok (pc := 36) (i := 3) C.hx C.hb dX7_deliver_36 rfl ?_
  refine z_gf_ok (pc := 37) C zK1 (f := 3) (by decide) zw_532 rfl dX7_deliver_37 ?_
  exact z_iret_ok (pc := 40) C dX7_deliver_40
def sp_X7_deliver : ZSp := fun as S K => as.length ≤ 4 ∧ zsp 4 zb_X7_deliver_0 as S K
theorem zm_X7_deliver (l : Launch) (hl : l.stackTraces = false) : zMet l yX7_deliver cX7_deliver 4 (some .int) { frames := 7, cells := 1, slots := 6, locals := 112 } 0 0 sp_X7_deliver := zMet_of hl (by decide +kernel) ⟨rfl, rfl⟩ (fun X C hn _ => zk_X7_deliver_0 C hn)
theorem dX7_leastFor_0 : decode cX7_leastFor 0 = .ok (.iconst (-1), 1) := by decide +kernel
theorem dX7_leastFor_1 : decode cX7_leastFor 1 = .ok (.istore_n 2, 1) := by decide +kernel
theorem dX7_leastFor_2 : decode cX7_leastFor 2 = .ok (.iconst 0, 1) := by decide +kernel
theorem dX7_leastFor_3 : decode cX7_leastFor 3 = .ok (.istore_n 3, 1) := by decide +kernel
theorem dX7_leastFor_4 : decode cX7_leastFor 4 = .ok (.iload_n 3, 1) := by decide +kernel
theorem dX7_leastFor_5 : decode cX7_leastFor 5 = .ok (.bipush 6, 2) := by decide +kernel
theorem dX7_leastFor_7 : decode cX7_leastFor 7 = .ok (.if_icmp .ge 79, 3) := by decide +kernel
theorem dX7_leastFor_10 : decode cX7_leastFor 10 = .ok (.aload_n 0, 1) := by decide +kernel
theorem dX7_leastFor_11 : decode cX7_leastFor 11 = .ok (.getfield 11, 3) := by decide +kernel
theorem dX7_leastFor_14 : decode cX7_leastFor 14 = .ok (.iload_n 3, 1) := by decide +kernel
theorem dX7_leastFor_15 : decode cX7_leastFor 15 = .ok (.aaload, 1) := by decide +kernel
theorem dX7_leastFor_16 : decode cX7_leastFor 16 = .ok (.astore 4, 2) := by decide +kernel
theorem dX7_leastFor_18 : decode cX7_leastFor 18 = .ok (.aload 4, 2) := by decide +kernel
theorem dX7_leastFor_20 : decode cX7_leastFor 20 = .ok (.getfield 103, 3) := by decide +kernel
theorem dX7_leastFor_23 : decode cX7_leastFor 23 = .ok (.iconst 1, 1) := by decide +kernel
theorem dX7_leastFor_24 : decode cX7_leastFor 24 = .ok (.if_icmp .ne 56, 3) := by decide +kernel
theorem dX7_leastFor_27 : decode cX7_leastFor 27 = .ok (.aload 4, 2) := by decide +kernel
theorem dX7_leastFor_29 : decode cX7_leastFor 29 = .ok (.getfield 100, 3) := by decide +kernel
theorem dX7_leastFor_32 : decode cX7_leastFor 32 = .ok (.ifCond .le 48, 3) := by decide +kernel
theorem dX7_leastFor_35 : decode cX7_leastFor 35 = .ok (.iconst 0, 1) := by decide +kernel
theorem dX7_leastFor_36 : decode cX7_leastFor 36 = .ok (.iload_n 1, 1) := by decide +kernel
theorem dX7_leastFor_37 : decode cX7_leastFor 37 = .ok (.aload 4, 2) := by decide +kernel
theorem dX7_leastFor_39 : decode cX7_leastFor 39 = .ok (.getfield 100, 3) := by decide +kernel
theorem dX7_leastFor_42 : decode cX7_leastFor 42 = .ok (.isub, 1) := by decide +kernel
theorem dX7_leastFor_43 : decode cX7_leastFor 43 = .ok (.invokestatic 367, 3) := by decide +kernel
theorem dX7_leastFor_46 : decode cX7_leastFor 46 = .ok (.istore 5, 2) := by decide +kernel
theorem dX7_leastFor_48 : decode cX7_leastFor 48 = .ok (.aload 4, 2) := by decide +kernel
theorem dX7_leastFor_50 : decode cX7_leastFor 50 = .ok (.getfield 106, 3) := by decide +kernel
theorem dX7_leastFor_53 : decode cX7_leastFor 53 = .ok (.aload_n 0, 1) := by decide +kernel
theorem dX7_leastFor_54 : decode cX7_leastFor 54 = .ok (.getfield 46, 3) := by decide +kernel
theorem dX7_leastFor_57 : decode cX7_leastFor 57 = .ok (.iload 5, 2) := by decide +kernel
theorem dX7_leastFor_59 : decode cX7_leastFor 59 = .ok (.iaload, 1) := by decide +kernel
theorem dX7_leastFor_60 : decode cX7_leastFor 60 = .ok (.iadd, 1) := by decide +kernel
theorem dX7_leastFor_61 : decode cX7_leastFor 61 = .ok (.istore 6, 2) := by decide +kernel
theorem dX7_leastFor_63 : decode cX7_leastFor 63 = .ok (.iload_n 2, 1) := by decide +kernel
theorem dX7_leastFor_64 : decode cX7_leastFor 64 = .ok (.iconst (-1), 1) := by decide +kernel
theorem dX7_leastFor_65 : decode cX7_leastFor 65 = .ok (.if_icmp .ne 8, 3) := by decide +kernel
theorem dX7_leastFor_68 : decode cX7_leastFor 68 = .ok (.iload 6, 2) := by decide +kernel
theorem dX7_leastFor_70 : decode cX7_leastFor 70 = .ok (.goto 9, 3) := by decide +kernel
theorem dX7_leastFor_73 : decode cX7_leastFor 73 = .ok (.iload_n 2, 1) := by decide +kernel
theorem dX7_leastFor_74 : decode cX7_leastFor 74 = .ok (.iload 6, 2) := by decide +kernel
theorem dX7_leastFor_76 : decode cX7_leastFor 76 = .ok (.invokestatic 264, 3) := by decide +kernel
theorem dX7_leastFor_79 : decode cX7_leastFor 79 = .ok (.istore_n 2, 1) := by decide +kernel
theorem dX7_leastFor_80 : decode cX7_leastFor 80 = .ok (.iinc 3 1, 3) := by decide +kernel
theorem dX7_leastFor_83 : decode cX7_leastFor 83 = .ok (.goto (-79), 3) := by decide +kernel
theorem dX7_leastFor_86 : decode cX7_leastFor 86 = .ok (.iload_n 2, 1) := by decide +kernel
theorem dX7_leastFor_87 : decode cX7_leastFor 87 = .ok (.ireturn, 1) := by decide +kernel
def zb_X7_leastFor_80 (J4 : ZP) : ZP := (z_inc 3 (1) J4)
set_option maxRecDepth 20000 in
theorem zk_X7_leastFor_80 {X : ZX} (C : zCx X cX7_leastFor RX7 (some .int) 1 21 1 6) (hn : X.nL = 7) {J4 : ZP} (hJ4 : ZOK X 4 J4) : ZOK X 80 (zb_X7_leastFor_80 J4) := by
  unfold zb_X7_leastFor_80
  refine z_iinc_ok (pc := 80) (i := 3) (v := 1) C.hx C.hb dX7_leastFor_80 (by decide) (zlt hn (by decide)) ?_
  refine z_goto_ok (pc := 83) (tgt := 4) C.hx C.hb dX7_leastFor_83 (by decide) ?_
  exact hJ4
def zb_X7_leastFor_79 (J4 : ZP) : ZP := (z_ist 2 (zb_X7_leastFor_80 J4))
set_option maxRecDepth 20000 in
theorem zk_X7_leastFor_79 {X : ZX} (C : zCx X cX7_leastFor RX7 (some .int) 1 21 1 6) (hn : X.nL = 7) {J4 : ZP} (hJ4 : ZOK X 4 J4) : ZOK X 79 (zb_X7_leastFor_79 J4) := by
  unfold zb_X7_leastFor_79
  refine z_istore_n_ok (pc := 79) (i := 2) C.hx C.hb dX7_leastFor_79 rfl (zlt hn (by decide)) ?_
  exact zk_X7_leastFor_80 C hn hJ4
def zb_X7_leastFor_4 (J4 : ZP) : ZP := (z_ild 3 (z_push 6 (z_cmp (fun x y => y ≤ x) (z_ild 2 (z_ret 1)) (z_ald 0 (z_gf 7 0 (z_ild 3 (z_aald (z_ast 4 (z_ald 4 (z_gf 2 0 (z_push 1 (z_cmp (fun x y => x = y) (z_ald 4 (z_gf 2 2 (z_if (fun x => x ≤ 0) (zb_X7_leastFor_80 J4) (z_push 0 (z_ild 1 (z_ald 4 (z_gf 2 2 (z_bin (fun x y => x - y) (z_mm (fun x y => if x < y then y else x) (z_ist 5 (z_ald 4 (z_gf 2 1 (z_ald 0 (z_gf 7 6 (z_ild 5 (z_iald (z_bin (fun x y => x + y) (z_ist 6 (z_ild 2 (z_push (-1) (z_cmp (fun x y => x = y) (z_ild 6 (zb_X7_leastFor_79 J4)) (z_ild 2 (z_ild 6 (z_mm (fun x y => if y < x then y else x) (zb_X7_leastFor_79 J4))))))))))))))))))))))))) (zb_X7_leastFor_80 J4)))))))))))))
set_option maxRecDepth 20000 in
theorem zk_X7_leastFor_4 {X : ZX} (C : zCx X cX7_leastFor RX7 (some .int) 1 21 1 6) (hn : X.nL = 7) {J4 : ZP} (hJ4 : ZOK X 4 J4) : ZOK X 4 (zb_X7_leastFor_4 J4) := by
  unfold zb_X7_leastFor_4
  refine z_iload_n_ok (pc := 4) (i := 3) C.hx C.hb dX7_leastFor_4 rfl ?_
  refine z_bipush_ok (pc := 5) (v := 6) C.hx C.hb dX7_leastFor_5 (by decide) ?_
  refine z_icmp_ge_ok (pc := 7) (tgt := 86) C.hx C.hb dX7_leastFor_7 (by decide) ?_ ?_
  · refine z_iload_n_ok (pc := 86) (i := 2) C.hx C.hb dX7_leastFor_86 rfl ?_
    exact z_iret_ok (pc := 87) C dX7_leastFor_87
  · refine z_aload_n_ok (pc := 10) (i := 0) C.hx C.hb dX7_leastFor_10 rfl ?_
    refine z_gf_ok (pc := 11) C zK7 (f := 0) (by decide) zw_108 rfl dX7_leastFor_11 ?_
    refine z_iload_n_ok (pc := 14) (i := 3) C.hx C.hb dX7_leastFor_14 rfl ?_
    refine z_aald_ok (pc := 15) C dX7_leastFor_15 ?_
    refine z_astore_ok (pc := 16) (i := 4) C.hx C.hb dX7_leastFor_16 (zlt hn (by decide)) ?_
    refine z_aload_ok (pc := 18) (i := 4) C.hx C.hb dX7_leastFor_18 ?_
    refine z_gf_ok (pc := 20) C zK2 (f := 0) (by decide) zw_88 rfl dX7_leastFor_20 ?_
    refine z_iconst_ok (pc := 23) (v := 1) C.hx C.hb dX7_leastFor_23 (by decide) ?_
    refine z_icmp_ne_ok (pc := 24) (tgt := 80) C.hx C.hb dX7_leastFor_24 (by decide) ?_ ?_
    · exact zk_X7_leastFor_80 C hn hJ4
    · refine z_aload_ok (pc := 27) (i := 4) C.hx C.hb dX7_leastFor_27 ?_
      refine z_gf_ok (pc := 29) C zK2 (f := 2) (by decide) zw_92 rfl dX7_leastFor_29 ?_
      refine z_if_le_ok (pc := 32) (tgt := 80) C.hx C.hb dX7_leastFor_32 (by decide) ?_ ?_
      · exact zk_X7_leastFor_80 C hn hJ4
      · refine z_iconst_ok (pc := 35) (v := 0) C.hx C.hb dX7_leastFor_35 (by decide) ?_
        refine z_iload_n_ok (pc := 36) (i := 1) C.hx C.hb dX7_leastFor_36 rfl ?_
        refine z_aload_ok (pc := 37) (i := 4) C.hx C.hb dX7_leastFor_37 ?_
        refine z_gf_ok (pc := 39) C zK2 (f := 2) (by decide) zw_92 rfl dX7_leastFor_39 ?_
        refine z_isub_ok (pc := 42) C.hx C.hb dX7_leastFor_42 ?_
        refine z_max_ok (pc := 43) C (by decide) (by decide) zw_379 zw_380 zw_40 zw_381 dX7_leastFor_43 ?_
        refine z_istore_ok (pc := 46) (i := 5) C.hx C.hb dX7_leastFor_46 (zlt hn (by decide)) ?_
        refine z_aload_ok (pc := 48) (i := 4) C.hx C.hb dX7_leastFor_48 ?_
        refine z_gf_ok (pc := 50) C zK2 (f := 1) (by decide) zw_90 rfl dX7_leastFor_50 ?_
        refine z_aload_n_ok (pc := 53) (i := 0) C.hx C.hb dX7_leastFor_53 rfl ?_
        refine z_gf_ok (pc := 54) C zK7 (f := 6) (by decide) zw_114 rfl dX7_leastFor_54 ?_
        refine z_iload_ok (pc := 57) (i := 5) C.hx C.hb dX7_leastFor_57 ?_
        refine z_iald_ok (pc := 59) C dX7_leastFor_59 ?_
        refine z_iadd_ok (pc := 60) C.hx C.hb dX7_leastFor_60 ?_
        refine z_istore_ok (pc := 61) (i := 6) C.hx C.hb dX7_leastFor_61 (zlt hn (by decide)) ?_
        refine z_iload_n_ok (pc := 63) (i := 2) C.hx C.hb dX7_leastFor_63 rfl ?_
        refine z_iconst_ok (pc := 64) (v := -1) C.hx C.hb dX7_leastFor_64 (by decide) ?_
        refine z_icmp_ne_ok (pc := 65) (tgt := 73) C.hx C.hb dX7_leastFor_65 (by decide) ?_ ?_
        · refine z_iload_n_ok (pc := 73) (i := 2) C.hx C.hb dX7_leastFor_73 rfl ?_
          refine z_iload_ok (pc := 74) (i := 6) C.hx C.hb dX7_leastFor_74 ?_
          refine z_min_ok (pc := 76) C (by decide) (by decide) zw_497 zw_498 zw_40 zw_499 dX7_leastFor_76 ?_
          exact zk_X7_leastFor_79 C hn hJ4
        · refine z_iload_ok (pc := 68) (i := 6) C.hx C.hb dX7_leastFor_68 ?_
          refine z_goto_ok (pc := 70) (tgt := 79) C.hx C.hb dX7_leastFor_70 (by decide) ?_
          exact zk_X7_leastFor_79 C hn hJ4
def zb_X7_leastFor_0 : ZP := (z_push (-1) (z_ist 2 (z_push 0 (z_ist 3 (z_loop (fun J4 => zb_X7_leastFor_4 J4))))))
set_option maxRecDepth 20000 in
theorem zk_X7_leastFor_0 {X : ZX} (C : zCx X cX7_leastFor RX7 (some .int) 1 21 1 6) (hn : X.nL = 7) : ZOK X 0 (zb_X7_leastFor_0) := by
  unfold zb_X7_leastFor_0
  refine z_iconst_ok (pc := 0) (v := -1) C.hx C.hb dX7_leastFor_0 (by decide) ?_
  refine z_istore_n_ok (pc := 1) (i := 2) C.hx C.hb dX7_leastFor_1 rfl (zlt hn (by decide)) ?_
  refine z_iconst_ok (pc := 2) (v := 0) C.hx C.hb dX7_leastFor_2 (by decide) ?_
  refine z_istore_n_ok (pc := 3) (i := 3) C.hx C.hb dX7_leastFor_3 rfl (zlt hn (by decide)) ?_
  exact z_loop_ok (fun J4 hJ4 => zk_X7_leastFor_4 C hn hJ4)
def sp_X7_leastFor : ZSp := fun as S K => as.length ≤ 7 ∧ zsp 7 zb_X7_leastFor_0 as S K
theorem zm_X7_leastFor (l : Launch) (hl : l.stackTraces = false) : zMet l yX7_leastFor cX7_leastFor 7 (some .int) { frames := 1, cells := 1, slots := 6, locals := 21 } 0 0 sp_X7_leastFor := zMet_of hl (by decide +kernel) ⟨rfl, rfl⟩ (fun X C hn _ => zk_X7_leastFor_0 C hn)
theorem dX7_diet_0 : decode cX7_diet 0 = .ok (.iload_n 1, 1) := by decide +kernel
theorem dX7_diet_1 : decode cX7_diet 1 = .ok (.iconst 1, 1) := by decide +kernel
theorem dX7_diet_2 : decode cX7_diet 2 = .ok (.sipush 3000, 3) := by decide +kernel
theorem dX7_diet_5 : decode cX7_diet 5 = .ok (.invokestatic 92, 3) := by decide +kernel
theorem dX7_diet_8 : decode cX7_diet 8 = .ok (.aload_n 0, 1) := by decide +kernel
theorem dX7_diet_9 : decode cX7_diet 9 = .ok (.getfield 46, 3) := by decide +kernel
theorem dX7_diet_12 : decode cX7_diet 12 = .ok (.iconst 0, 1) := by decide +kernel
theorem dX7_diet_13 : decode cX7_diet 13 = .ok (.iconst 0, 1) := by decide +kernel
theorem dX7_diet_14 : decode cX7_diet 14 = .ok (.iastore, 1) := by decide +kernel
theorem dX7_diet_15 : decode cX7_diet 15 = .ok (.iconst 1, 1) := by decide +kernel
theorem dX7_diet_16 : decode cX7_diet 16 = .ok (.istore_n 2, 1) := by decide +kernel
theorem dX7_diet_17 : decode cX7_diet 17 = .ok (.iload_n 2, 1) := by decide +kernel
theorem dX7_diet_18 : decode cX7_diet 18 = .ok (.iload_n 1, 1) := by decide +kernel
theorem dX7_diet_19 : decode cX7_diet 19 = .ok (.if_icmp .gt 20, 3) := by decide +kernel
theorem dX7_diet_22 : decode cX7_diet 22 = .ok (.aload_n 0, 1) := by decide +kernel
theorem dX7_diet_23 : decode cX7_diet 23 = .ok (.getfield 46, 3) := by decide +kernel
theorem dX7_diet_26 : decode cX7_diet 26 = .ok (.iload_n 2, 1) := by decide +kernel
theorem dX7_diet_27 : decode cX7_diet 27 = .ok (.aload_n 0, 1) := by decide +kernel
theorem dX7_diet_28 : decode cX7_diet 28 = .ok (.iload_n 2, 1) := by decide +kernel
theorem dX7_diet_29 : decode cX7_diet 29 = .ok (.invokevirtual 317, 3) := by decide +kernel
theorem dX7_diet_32 : decode cX7_diet 32 = .ok (.iastore, 1) := by decide +kernel
theorem dX7_diet_33 : decode cX7_diet 33 = .ok (.iinc 2 1, 3) := by decide +kernel
theorem dX7_diet_36 : decode cX7_diet 36 = .ok (.goto (-19), 3) := by decide +kernel
theorem dX7_diet_39 : decode cX7_diet 39 = .ok (.aload_n 0, 1) := by decide +kernel
theorem dX7_diet_40 : decode cX7_diet 40 = .ok (.getfield 46, 3) := by decide +kernel
theorem dX7_diet_43 : decode cX7_diet 43 = .ok (.iload_n 1, 1) := by decide +kernel
theorem dX7_diet_44 : decode cX7_diet 44 = .ok (.iaload, 1) := by decide +kernel
theorem dX7_diet_45 : decode cX7_diet 45 = .ok (.ireturn, 1) := by decide +kernel
def zb_X7_diet_17 (J17 : ZP) : ZP := (z_ild 2 (z_ild 1 (z_cmp (fun x y => y < x) (z_ald 0 (z_gf 7 6 (z_ild 1 (z_iald (z_ret 1))))) (z_ald 0 (z_gf 7 6 (z_ild 2 (z_ald 0 (z_ild 2 (z_invV 7 1 sp_X7_leastFor (z_iast (z_inc 2 (1) J17)))))))))))
set_option maxRecDepth 20000 in
theorem zk_X7_diet_17 {X : ZX} (C : zCx X cX7_diet RX7 (some .int) 7 112 1 6) (hn : X.nL = 3) {J17 : ZP} (hJ17 : ZOK X 17 J17) : ZOK X 17 (zb_X7_diet_17 J17) := by
  unfold zb_X7_diet_17
  refine z_iload_n_ok (pc := 17) (i := 2) C.hx C.hb dX7_diet_17 rfl ?_
  refine z_iload_n_ok (pc := 18) (i := 1) C.hx C.hb dX7_diet_18 rfl ?_
  refine z_icmp_gt_ok (pc := 19) (tgt := 39) C.hx C.hb dX7_diet_19 (by decide) ?_ ?_
  · refine z_aload_n_ok (pc := 39) (i := 0) C.hx C.hb dX7_diet_39 rfl ?_
    refine z_gf_ok (pc := 40) C zK7 (f := 6) (by decide) zw_114 rfl dX7_diet_40 ?_
    refine z_iload_n_ok (pc := 43) (i := 1) C.hx C.hb dX7_diet_43 rfl ?_
    refine z_iald_ok (pc := 44) C dX7_diet_44 ?_
    exact z_iret_ok (pc := 45) C dX7_diet_45
  · refine z_aload_n_ok (pc := 22) (i := 0) C.hx C.hb dX7_diet_22 rfl ?_
    refine z_gf_ok (pc := 23) C zK7 (f := 6) (by decide) zw_114 rfl dX7_diet_23 ?_
    refine z_iload_n_ok (pc := 26) (i := 2) C.hx C.hb dX7_diet_26 rfl ?_
    refine z_aload_n_ok (pc := 27) (i := 0) C.hx C.hb dX7_diet_27 rfl ?_
    refine z_iload_n_ok (pc := 28) (i := 2) C.hx C.hb dX7_diet_28 rfl ?_
    refine z_invV_ok (pc := 29) C (by decide +kernel) (zm_X7_leastFor X.l C.htr) ⟨rfl, rfl⟩ ⟨by decide, by decide⟩ (by decide) (by decide) zcl_X7_317 zw_598 zw_17 zK7 dX7_diet_29 ?_
    refine z_iast_ok (pc := 32) C dX7_diet_32 ?_
    refine z_iinc_ok (pc := 33) (i := 2) (v := 1) C.hx C.hb dX7_diet_33 (by decide) (zlt hn (by decide)) ?_
    refine z_goto_ok (pc := 36) (tgt := 17) C.hx C.hb dX7_diet_36 (by decide) ?_
    exact hJ17
def zb_X7_diet_0 : ZP := (z_ild 1 (z_push 1 (z_push 3000 (z_invS 3 sp_X7_requireRange (z_ald 0 (z_gf 7 6 (z_push 0 (z_push 0 (z_iast (z_push 1 (z_ist 2 (z_loop (fun J17 => zb_X7_diet_17 J17)))))))))))))
set_option maxRecDepth 20000 in
theorem zk_X7_diet_0 {X : ZX} (C : zCx X cX7_diet RX7 (some .int) 7 112 1 6) (hn : X.nL = 3) : ZOK X 0 (zb_X7_diet_0) := by
  unfold zb_X7_diet_0
  refine z_iload_n_ok (pc := 0) (i := 1) C.hx C.hb dX7_diet_0 rfl ?_
  refine z_iconst_ok (pc := 1) (v := 1) C.hx C.hb dX7_diet_1 (by decide) ?_
  refine z_sipush_ok (pc := 2) (v := 3000) C.hx C.hb dX7_diet_2 (by decide) ?_
  refine z_invS_ok (pc := 5) C (by decide +kernel) (zm_X7_requireRange X.l C.htr) ⟨rfl, rfl⟩ ⟨by decide, by decide⟩ (by decide) (by decide) zcl_X7_92 zw_243 dX7_diet_5 ?_
  refine z_aload_n_ok (pc := 8) (i := 0) C.hx C.hb dX7_diet_8 rfl ?_
  refine z_gf_ok (pc := 9) C zK7 (f := 6) (by decide) zw_114 rfl dX7_diet_9 ?_
  refine z_iconst_ok (pc := 12) (v := 0) C.hx C.hb dX7_diet_12 (by decide) ?_
  refine z_iconst_ok (pc := 13) (v := 0) C.hx C.hb dX7_diet_13 (by decide) ?_
  refine z_iast_ok (pc := 14) C dX7_diet_14 ?_
  refine z_iconst_ok (pc := 15) (v := 1) C.hx C.hb dX7_diet_15 (by decide) ?_
  refine z_istore_n_ok (pc := 16) (i := 2) C.hx C.hb dX7_diet_16 rfl (zlt hn (by decide)) ?_
  exact z_loop_ok (fun J17 hJ17 => zk_X7_diet_17 C hn hJ17)
def sp_X7_diet : ZSp := fun as S K => as.length ≤ 3 ∧ zsp 3 zb_X7_diet_0 as S K
theorem zm_X7_diet (l : Launch) (hl : l.stackTraces = false) : zMet l yX7_diet cX7_diet 3 (some .int) { frames := 7, cells := 1, slots := 6, locals := 112 } 0 0 sp_X7_diet := zMet_of hl (by decide +kernel) ⟨rfl, rfl⟩ (fun X C hn _ => zk_X7_diet_0 C hn)
theorem dX7_energy_0 : decode cX7_energy 0 = .ok (.aload_n 0, 1) := by decide +kernel
theorem dX7_energy_1 : decode cX7_energy 1 = .ok (.iload_n 1, 1) := by decide +kernel
theorem dX7_energy_2 : decode cX7_energy 2 = .ok (.invokevirtual 88, 3) := by decide +kernel
theorem dX7_energy_5 : decode cX7_energy 5 = .ok (.astore_n 3, 1) := by decide +kernel
theorem dX7_energy_6 : decode cX7_energy 6 = .ok (.iload_n 2, 1) := by decide +kernel
theorem dX7_energy_7 : decode cX7_energy 7 = .ok (.iconst 0, 1) := by decide +kernel
theorem dX7_energy_8 : decode cX7_energy 8 = .ok (.sipush 900, 3) := by decide +kernel
theorem dX7_energy_11 : decode cX7_energy 11 = .ok (.invokestatic 92, 3) := by decide +kernel
theorem dX7_energy_14 : decode cX7_energy 14 = .ok (.aload_n 3, 1) := by decide +kernel
theorem dX7_energy_15 : decode cX7_energy 15 = .ok (.getfield 100, 3) := by decide +kernel
theorem dX7_energy_18 : decode cX7_energy 18 = .ok (.istore 4, 2) := by decide +kernel
theorem dX7_energy_20 : decode cX7_energy 20 = .ok (.aload_n 3, 1) := by decide +kernel
theorem dX7_energy_21 : decode cX7_energy 21 = .ok (.iload_n 2, 1) := by decide +kernel
theorem dX7_energy_22 : decode cX7_energy 22 = .ok (.putfield 100, 3) := by decide +kernel
theorem dX7_energy_25 : decode cX7_energy 25 = .ok (.iload 4, 2) := by decide +kernel
theorem dX7_energy_27 : decode cX7_energy 27 = .ok (.ireturn, 1) := by decide +kernel
def zb_X7_energy_0 : ZP := (z_ald 0 (z_ild 1 (z_invV 7 1 sp_X7_knownGood (z_ast 3 (z_ild 2 (z_push 0 (z_push 900 (z_invS 3 sp_X7_requireRange (z_ald 3 (z_gf 2 2 (z_ist 4 (z_ald 3 (z_ild 2 (z_pf 2 2 (z_ild 4 (z_ret 1))))))))))))))))
set_option maxRecDepth 20000 in
theorem zk_X7_energy_0 {X : ZX} (C : zCx X cX7_energy RX7 (some .int) 7 112 1 6) (hn : X.nL = 5) : ZOK X 0 (zb_X7_energy_0) := by
  unfold zb_X7_energy_0
  refine z_aload_n_ok (pc := 0) (i := 0) C.hx C.hb dX7_energy_0 rfl ?_
  refine z_iload_n_ok (pc := 1) (i := 1) C.hx C.hb dX7_energy_1 rfl ?_
  refine z_invV_ok (pc := 2) C (by decide +kernel) (zm_X7_knownGood X.l C.htr) ⟨rfl, rfl⟩ ⟨by decide, by decide⟩ (by decide) (by decide) zcl_X7_88 zw_172 zw_0 zK7 dX7_energy_2 ?_
  refine z_astore_n_ok (pc := 5) (i := 3) C.hx C.hb dX7_energy_5 rfl (zlt hn (by decide)) ?_
  refine z_iload_n_ok (pc := 6) (i := 2) C.hx C.hb dX7_energy_6 rfl ?_
  refine z_iconst_ok (pc := 7) (v := 0) C.hx C.hb dX7_energy_7 (by decide) ?_
  refine z_sipush_ok (pc := 8) (v := 900) C.hx C.hb dX7_energy_8 (by decide) ?_
  refine z_invS_ok (pc := 11) C (by decide +kernel) (zm_X7_requireRange X.l C.htr) ⟨rfl, rfl⟩ ⟨by decide, by decide⟩ (by decide) (by decide) zcl_X7_92 zw_243 dX7_energy_11 ?_
  refine z_aload_n_ok (pc := 14) (i := 3) C.hx C.hb dX7_energy_14 rfl ?_
  refine z_gf_ok (pc := 15) C zK2 (f := 2) (by decide) zw_92 rfl dX7_energy_15 ?_
  refine z_istore_ok (pc := 18) (i := 4) C.hx C.hb dX7_energy_18 (zlt hn (by decide)) ?_
  refine z_aload_n_ok (pc := 20) (i := 3) C.hx C.hb dX7_energy_20 rfl ?_
  refine z_iload_n_ok (pc := 21) (i := 2) C.hx C.hb dX7_energy_21 rfl ?_
  refine z_pf_ok (pc := 22) C zK2 rfl rfl (f := 2) (by decide) zw_92 rfl rfl (by decide +kernel) dX7_energy_22 ?_
  refine z_iload_ok (pc := 25) (i := 4) C.hx C.hb dX7_energy_25 ?_
  exact z_iret_ok (pc := 27) C dX7_energy_27
def sp_X7_energy : ZSp := fun as S K => as.length ≤ 5 ∧ zsp 5 zb_X7_energy_0 as S K
theorem zm_X7_energy (l : Launch) (hl : l.stackTraces = false) : zMet l yX7_energy cX7_energy 5 (some .int) { frames := 7, cells := 1, slots := 6, locals := 112 } 0 0 sp_X7_energy := zMet_of hl (by decide +kernel) ⟨rfl, rfl⟩ (fun X C hn _ => zk_X7_energy_0 C hn)
theorem dX7_forge_0 : decode cX7_forge 0 = .ok (.aload_n 0, 1) := by decide +kernel
theorem dX7_forge_1 : decode cX7_forge 1 = .ok (.iload_n 1, 1) := by decide +kernel
theorem dX7_forge_2 : decode cX7_forge 2 = .ok (.invokevirtual 119, 3) := by decide +kernel
theorem dX7_forge_5 : decode cX7_forge 5 = .ok (.astore 4, 2) := by decide +kernel
theorem dX7_forge_7 : decode cX7_forge 7 = .ok (.aload_n 0, 1) := by decide +kernel
theorem dX7_forge_8 : decode cX7_forge 8 = .ok (.iload_n 2, 1) := by decide +kernel
theorem dX7_forge_9 : decode cX7_forge 9 = .ok (.invokevirtual 88, 3) := by decide +kernel
theorem dX7_forge_12 : decode cX7_forge 12 = .ok (.pop, 1) := by decide +kernel
theorem dX7_forge_13 : decode cX7_forge 13 = .ok (.iload_n 3, 1) := by decide +kernel
theorem dX7_forge_14 : decode cX7_forge 14 = .ok (.iconst 1, 1) := by decide +kernel
theorem dX7_forge_15 : decode cX7_forge 15 = .ok (.sipush 9999, 3) := by decide +kernel
theorem dX7_forge_18 : decode cX7_forge 18 = .ok (.invokestatic 92, 3) := by decide +kernel
theorem dX7_forge_21 : decode cX7_forge 21 = .ok (.aload 4, 2) := by decide +kernel
theorem dX7_forge_23 : decode cX7_forge 23 = .ok (.getfield 231, 3) := by decide +kernel
theorem dX7_forge_26 : decode cX7_forge 26 = .ok (.iload_n 2, 1) := by decide +kernel
theorem dX7_forge_27 : decode cX7_forge 27 = .ok (.aaload, 1) := by decide +kernel
theorem dX7_forge_28 : decode cX7_forge 28 = .ok (.astore 5, 2) := by decide +kernel
theorem dX7_forge_30 : decode cX7_forge 30 = .ok (.aload 5, 2) := by decide +kernel
theorem dX7_forge_32 : decode cX7_forge 32 = .ok (.dup, 1) := by decide +kernel
theorem dX7_forge_33 : decode cX7_forge 33 = .ok (.getfield 251, 3) := by decide +kernel
theorem dX7_forge_36 : decode cX7_forge 36 = .ok (.iload_n 3, 1) := by decide +kernel
theorem dX7_forge_37 : decode cX7_forge 37 = .ok (.iadd, 1) := by decide +kernel
theorem dX7_forge_38 : decode cX7_forge 38 = .ok (.putfield 251, 3) := by decide +kernel
theorem dX7_forge_41 : decode cX7_forge 41 = .ok (.aload 5, 2) := by decide +kernel
theorem dX7_forge_43 : decode cX7_forge 43 = .ok (.dup, 1) := by decide +kernel
theorem dX7_forge_44 : decode cX7_forge 44 = .ok (.getfield 282, 3) := by decide +kernel
theorem dX7_forge_47 : decode cX7_forge 47 = .ok (.iload_n 3, 1) := by decide +kernel
theorem dX7_forge_48 : decode cX7_forge 48 = .ok (.iadd, 1) := by decide +kernel
theorem dX7_forge_49 : decode cX7_forge 49 = .ok (.putfield 282, 3) := by decide +kernel
theorem dX7_forge_52 : decode cX7_forge 52 = .ok (.aload 5, 2) := by decide +kernel
theorem dX7_forge_54 : decode cX7_forge 54 = .ok (.getfield 251, 3) := by decide +kernel
theorem dX7_forge_57 : decode cX7_forge 57 = .ok (.ireturn, 1) := by decide +kernel
def zb_X7_forge_0 : ZP := (z_ald 0 (z_ild 1 (z_invV 7 1 sp_X7_knownShop (z_ast 4 (z_ald 0 (z_ild 2 (z_invV 7 1 sp_X7_knownGood (z_pop (z_ild 3 (z_push 1 (z_push 9999 (z_invS 3 sp_X7_requireRange (z_ald 4 (z_gf 6 2 (z_ild 2 (z_aald (z_ast 5 (z_ald 5 (z_dup (z_gf 5 1 (z_ild 3 (z_bin (fun x y => x + y) (z_pf 5 1 (z_ald 5 (z_dup (z_gf 5 5 (z_ild 3 (z_bin (fun x y => x + y) (z_pf 5 5 (z_ald 5 (z_gf 5 1 (z_ret 1))))))))))))))))))))))))))))))))
set_option maxRecDepth 20000 in
theorem zk_X7_forge_0 {X : ZX} (C : zCx X cX7_forge RX7 (some .int) 7 112 1 6) (hn : X.nL = 6) : ZOK X 0 (zb_X7_forge_0) := by
  unfold zb_X7_forge_0
  refine z_aload_n_ok (pc := 0) (i := 0) C.hx C.hb dX7_forge_0 rfl ?_
  refine z_iload_n_ok (pc := 1) (i := 1) C.hx C.hb dX7_forge_1 rfl ?_
  refine z_invV_ok (pc := 2) C (by decide +kernel) (zm_X7_knownShop X.l C.htr) ⟨rfl, rfl⟩ ⟨by decide, by decide⟩ (by decide) (by decide) zcl_X7_119 zw_290 zw_3 zK7 dX7_forge_2 ?_
  refine z_astore_ok (pc := 5) (i := 4) C.hx C.hb dX7_forge_5 (zlt hn (by decide)) ?_
  refine z_aload_n_ok (pc := 7) (i := 0) C.hx C.hb dX7_forge_7 rfl ?_
  refine z_iload_n_ok (pc := 8) (i := 2) C.hx C.hb dX7_forge_8 rfl ?_
  refine z_invV_ok (pc := 9) C (by decide +kernel) (zm_X7_knownGood X.l C.htr) ⟨rfl, rfl⟩ ⟨by decide, by decide⟩ (by decide) (by decide) zcl_X7_88 zw_172 zw_0 zK7 dX7_forge_9 ?_
  refine z_pop_ok (pc := 12) C.hx C.hb dX7_forge_12 ?_
  refine z_iload_n_ok (pc := 13) (i := 3) C.hx C.hb dX7_forge_13 rfl ?_
  refine z_iconst_ok (pc := 14) (v := 1) C.hx C.hb dX7_forge_14 (by decide) ?_
  refine z_sipush_ok (pc := 15) (v := 9999) C.hx C.hb dX7_forge_15 (by decide) ?_
  refine z_invS_ok (pc := 18) C (by decide +kernel) (zm_X7_requireRange X.l C.htr) ⟨rfl, rfl⟩ ⟨by decide, by decide⟩ (by decide) (by decide) zcl_X7_92 zw_243 dX7_forge_18 ?_
  refine z_aload_ok (pc := 21) (i := 4) C.hx C.hb dX7_forge_21 ?_
  refine z_gf_ok (pc := 23) C zK6 (f := 2) (by decide) zw_476 rfl dX7_forge_23 ?_
  refine z_iload_n_ok (pc := 26) (i := 2) C.hx C.hb dX7_forge_26 rfl ?_
  refine z_aald_ok (pc := 27) C dX7_forge_27 ?_
  refine z_astore_ok (pc := 28) (i := 5) C.hx C.hb dX7_forge_28 (zlt hn (by decide)) ?_
  refine z_aload_ok (pc := 30) (i := 5) C.hx C.hb dX7_forge_30 ?_
  refine z_dup_ok (pc := 32) C.hx C.hb dX7_forge_32 ?_
  refine z_gf_ok (pc := 33) C zK5 (f := 1) (by decide) zw_449 rfl dX7_forge_33 ?_
  refine z_iload_n_ok (pc := 36) (i := 3) C.hx C.hb dX7_forge_36 rfl ?_
  refine z_iadd_ok (pc := 37) C.hx C.hb dX7_forge_37 ?_
  refine z_pf_ok (pc := 38) C zK5 rfl rfl (f := 1) (by decide) zw_449 rfl rfl (by decide +kernel) dX7_forge_38 ?_
  refine z_aload_ok (pc := 41) (i := 5) C.hx C.hb dX7_forge_41 ?_
  refine z_dup_ok (pc := 43) C.hx C.hb dX7_forge_43 ?_
  refine z_gf_ok (pc := 44) C zK5 (f := 5) (by decide) zw_457 rfl dX7_forge_44 ?_
  refine z_iload_n_ok (pc := 47) (i := 3) C.hx C.hb dX7_forge_47 rfl ?_
  refine z_iadd_ok (pc := 48) C.hx C.hb dX7_forge_48 ?_
  refine z_pf_ok (pc := 49) C zK5 rfl rfl (f := 5) (by decide) zw_457 rfl rfl (by decide +kernel) dX7_forge_49 ?_
  refine z_aload_ok (pc := 52) (i := 5) C.hx C.hb dX7_forge_52 ?_
  refine z_gf_ok (pc := 54) C zK5 (f := 1) (by decide) zw_449 rfl dX7_forge_54 ?_
  exact z_iret_ok (pc := 57) C dX7_forge_57
def sp_X7_forge : ZSp := fun as S K => as.length ≤ 6 ∧ zsp 6 zb_X7_forge_0 as S K
theorem zm_X7_forge (l : Launch) (hl : l.stackTraces = false) : zMet l yX7_forge cX7_forge 6 (some .int) { frames := 7, cells := 1, slots := 6, locals := 112 } 0 0 sp_X7_forge := zMet_of hl (by decide +kernel) ⟨rfl, rfl⟩ (fun X C hn _ => zk_X7_forge_0 C hn)
