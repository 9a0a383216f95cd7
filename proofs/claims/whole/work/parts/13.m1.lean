theorem dX8_isOne_0 : decode cX8_isOne 0 = .ok (.iload_n 1, 1) := by decide +kernel
theorem dX8_isOne_1 : decode cX8_isOne 1 = .ok (.iconst 0, 1) := by decide +kernel
theorem dX8_isOne_2 : decode cX8_isOne 2 = .ok (.aload_n 0, 1) := by decide +kernel
theorem dX8_isOne_3 : decode cX8_isOne 3 = .ok (.getfield 124, 3) := by decide +kernel
theorem dX8_isOne_6 : decode cX8_isOne 6 = .ok (.iconst 1, 1) := by decide +kernel
theorem dX8_isOne_7 : decode cX8_isOne 7 = .ok (.isub, 1) := by decide +kernel
theorem dX8_isOne_8 : decode cX8_isOne 8 = .ok (.invokestatic 120, 3) := by decide +kernel
theorem dX8_isOne_11 : decode cX8_isOne 11 = .ok (.ireturn, 1) := by decide +kernel
def zb_X8_isOne_0 : ZP := (z_ild 1 (z_push 0 (z_ald 0 (z_gf 8 10 (z_push 1 (z_bin (fun x y => x - y) (z_invS 3 sp_X8_in (z_ret 2))))))))
set_option maxRecDepth 20000 in
theorem zk_X8_isOne_0 {X : ZX} (C : zCx X cX8_isOne RX8 (some .boolean) 1 22 1 6) (hn : X.nL = 2) : ZOK X 0 (zb_X8_isOne_0) := by
  unfold zb_X8_isOne_0
  refine z_iload_n_ok (pc := 0) (i := 1) C.hx C.hb dX8_isOne_0 rfl ?_
  refine z_iconst_ok (pc := 1) (v := 0) C.hx C.hb dX8_isOne_1 (by decide) ?_
  refine z_aload_n_ok (pc := 2) (i := 0) C.hx C.hb dX8_isOne_2 rfl ?_
  refine z_gf_ok (pc := 3) C zK8 (f := 10) (by decide) zw_867 rfl dX8_isOne_3 ?_
  refine z_iconst_ok (pc := 6) (v := 1) C.hx C.hb dX8_isOne_6 (by decide) ?_
  refine z_isub_ok (pc := 7) C.hx C.hb dX8_isOne_7 ?_
  refine z_invS_ok (pc := 8) C (by decide +kernel) (zm_X8_in X.l C.htr) ⟨rfl, rfl⟩ ⟨by decide, by decide⟩ (by decide) (by decide) zcl_X8_120 zw_1012 dX8_isOne_8 ?_
  exact z_zret_ok (pc := 11) C dX8_isOne_11
def sp_X8_isOne : ZSp := fun as S K => as.length ≤ 2 ∧ zsp 2 zb_X8_isOne_0 as S K
theorem zm_X8_isOne (l : Launch) (hl : l.stackTraces = false) : zMet l yX8_isOne cX8_isOne 2 (some .boolean) { frames := 1, cells := 1, slots := 6, locals := 22 } 0 0 sp_X8_isOne := zMet_of hl (by decide +kernel) ⟨rfl, rfl⟩ (fun X C hn _ => zk_X8_isOne_0 C hn)
theorem dX8_becomes_0 : decode cX8_becomes 0 = .ok (.aload_n 0, 1) := by decide +kernel
theorem dX8_becomes_1 : decode cX8_becomes 1 = .ok (.aload_n 0, 1) := by decide +kernel
theorem dX8_becomes_2 : decode cX8_becomes 2 = .ok (.iload_n 1, 1) := by decide +kernel
theorem dX8_becomes_3 : decode cX8_becomes 3 = .ok (.invokevirtual 148, 3) := by decide +kernel
theorem dX8_becomes_6 : decode cX8_becomes 6 = .ok (.iconst 1, 1) := by decide +kernel
theorem dX8_becomes_7 : decode cX8_becomes 7 = .ok (.invokevirtual 137, 3) := by decide +kernel
theorem dX8_becomes_10 : decode cX8_becomes 10 = .ok (.ifCond .eq 5, 3) := by decide +kernel
theorem dX8_becomes_13 : decode cX8_becomes 13 = .ok (.iconst 0, 1) := by decide +kernel
theorem dX8_becomes_14 : decode cX8_becomes 14 = .ok (.ireturn, 1) := by decide +kernel
theorem dX8_becomes_15 : decode cX8_becomes 15 = .ok (.aload_n 0, 1) := by decide +kernel
theorem dX8_becomes_16 : decode cX8_becomes 16 = .ok (.iload_n 2, 1) := by decide +kernel
theorem dX8_becomes_17 : decode cX8_becomes 17 = .ok (.iconst 0, 1) := by decide +kernel
theorem dX8_becomes_18 : decode cX8_becomes 18 = .ok (.iconst 3, 1) := by decide +kernel
theorem dX8_becomes_19 : decode cX8_becomes 19 = .ok (.invokestatic 120, 3) := by decide +kernel
theorem dX8_becomes_22 : decode cX8_becomes 22 = .ok (.iconst 2, 1) := by decide +kernel
theorem dX8_becomes_23 : decode cX8_becomes 23 = .ok (.invokevirtual 137, 3) := by decide +kernel
theorem dX8_becomes_26 : decode cX8_becomes 26 = .ok (.ifCond .eq 5, 3) := by decide +kernel
theorem dX8_becomes_29 : decode cX8_becomes 29 = .ok (.iconst 0, 1) := by decide +kernel
theorem dX8_becomes_30 : decode cX8_becomes 30 = .ok (.ireturn, 1) := by decide +kernel
theorem dX8_becomes_31 : decode cX8_becomes 31 = .ok (.aload_n 0, 1) := by decide +kernel
theorem dX8_becomes_32 : decode cX8_becomes 32 = .ok (.aload_n 0, 1) := by decide +kernel
theorem dX8_becomes_33 : decode cX8_becomes 33 = .ok (.iload_n 1, 1) := by decide +kernel
theorem dX8_becomes_34 : decode cX8_becomes 34 = .ok (.invokevirtual 151, 3) := by decide +kernel
theorem dX8_becomes_37 : decode cX8_becomes 37 = .ok (.ifCond .ne 7, 3) := by decide +kernel
theorem dX8_becomes_40 : decode cX8_becomes 40 = .ok (.iconst 1, 1) := by decide +kernel
theorem dX8_becomes_41 : decode cX8_becomes 41 = .ok (.goto 4, 3) := by decide +kernel
theorem dX8_becomes_44 : decode cX8_becomes 44 = .ok (.iconst 0, 1) := by decide +kernel
theorem dX8_becomes_45 : decode cX8_becomes 45 = .ok (.iconst 3, 1) := by decide +kernel
theorem dX8_becomes_46 : decode cX8_becomes 46 = .ok (.invokevirtual 137, 3) := by decide +kernel
theorem dX8_becomes_49 : decode cX8_becomes 49 = .ok (.ifCond .eq 5, 3) := by decide +kernel
theorem dX8_becomes_52 : decode cX8_becomes 52 = .ok (.iconst 0, 1) := by decide +kernel
theorem dX8_becomes_53 : decode cX8_becomes 53 = .ok (.ireturn, 1) := by decide +kernel
theorem dX8_becomes_54 : decode cX8_becomes 54 = .ok (.aload_n 0, 1) := by decide +kernel
theorem dX8_becomes_55 : decode cX8_becomes 55 = .ok (.getfield 35, 3) := by decide +kernel
theorem dX8_becomes_58 : decode cX8_becomes 58 = .ok (.iload_n 1, 1) := by decide +kernel
theorem dX8_becomes_59 : decode cX8_becomes 59 = .ok (.iaload, 1) := by decide +kernel
theorem dX8_becomes_60 : decode cX8_becomes 60 = .ok (.istore_n 3, 1) := by decide +kernel
theorem dX8_becomes_61 : decode cX8_becomes 61 = .ok (.aload_n 0, 1) := by decide +kernel
theorem dX8_becomes_62 : decode cX8_becomes 62 = .ok (.getfield 35, 3) := by decide +kernel
theorem dX8_becomes_65 : decode cX8_becomes 65 = .ok (.iload_n 1, 1) := by decide +kernel
theorem dX8_becomes_66 : decode cX8_becomes 66 = .ok (.iload_n 2, 1) := by decide +kernel
theorem dX8_becomes_67 : decode cX8_becomes 67 = .ok (.iastore, 1) := by decide +kernel
theorem dX8_becomes_68 : decode cX8_becomes 68 = .ok (.iload_n 3, 1) := by decide +kernel
theorem dX8_becomes_69 : decode cX8_becomes 69 = .ok (.ireturn, 1) := by decide +kernel
def zb_X8_becomes_45 : ZP := (z_push 3 (z_invV 8 2 sp_X8_fails (z_if (fun x => x = 0) (z_ald 0 (z_gf 8 11 (z_ild 1 (z_iald (z_ist 3 (z_ald 0 (z_gf 8 11 (z_ild 1 (z_ild 2 (z_iast (z_ild 3 (z_ret 1)))))))))))) (z_push 0 (z_ret 1)))))
set_option maxRecDepth 20000 in
theorem zk_X8_becomes_45 {X : ZX} (C : zCx X cX8_becomes RX8 (some .int) 2 43 1 6) (hn : X.nL = 4) : ZOK X 45 (zb_X8_becomes_45) := by
  unfold zb_X8_becomes_45
  refine z_iconst_ok (pc := 45) (v := 3) C.hx C.hb dX8_becomes_45 (by decide) ?_
  refine z_invV_ok (pc := 46) C (by decide +kernel) (zm_X8_fails X.l C.htr) ⟨rfl, rfl⟩ ⟨by decide, by decide⟩ (by decide) (by decide) zcl_X8_137 zw_1016 zw_25 zK8 dX8_becomes_46 ?_
  refine z_if_eq_ok (pc := 49) (tgt := 54) C.hx C.hb dX8_becomes_49 (by decide) ?_ ?_
  · refine z_aload_n_ok (pc := 54) (i := 0) C.hx C.hb dX8_becomes_54 rfl ?_
    refine z_gf_ok (pc := 55) C zK8 (f := 11) (by decide) zw_868 rfl dX8_becomes_55 ?_
    refine z_iload_n_ok (pc := 58) (i := 1) C.hx C.hb dX8_becomes_58 rfl ?_
    refine z_iald_ok (pc := 59) C dX8_becomes_59 ?_
    refine z_istore_n_ok (pc := 60) (i := 3) C.hx C.hb dX8_becomes_60 rfl (zlt hn (by decide)) ?_
    refine z_aload_n_ok (pc := 61) (i := 0) C.hx C.hb dX8_becomes_61 rfl ?_
    refine z_gf_ok (pc := 62) C zK8 (f := 11) (by decide) zw_868 rfl dX8_becomes_62 ?_
    refine z_iload_n_ok (pc := 65) (i := 1) C.hx C.hb dX8_becomes_65 rfl ?_
    refine z_iload_n_ok (pc := 66) (i := 2) C.hx C.hb dX8_becomes_66 rfl ?_
    refine z_iast_ok (pc := 67) C dX8_becomes_67 ?_
    refine z_iload_n_ok (pc := 68) (i := 3) C.hx C.hb dX8_becomes_68 rfl ?_
    exact z_iret_ok (pc := 69) C dX8_becomes_69
  · refine z_iconst_ok (pc := 52) (v := 0) C.hx C.hb dX8_becomes_52 (by decide) ?_
    exact z_iret_ok (pc := 53) C dX8_becomes_53
def zb_X8_becomes_0 : ZP := (z_ald 0 (z_ald 0 (z_ild 1 (z_invV 8 1 sp_X8_isOne (z_push 1 (z_invV 8 2 sp_X8_fails (z_if (fun x => x = 0) (z_ald 0 (z_ild 2 (z_push 0 (z_push 3 (z_invS 3 sp_X8_in (z_push 2 (z_invV 8 2 sp_X8_fails (z_if (fun x => x = 0) (z_ald 0 (z_ald 0 (z_ild 1 (z_invV 8 1 sp_X8_isDead (z_if (fun x => x = 0) (z_push 1 zb_X8_becomes_45) (z_push 0 zb_X8_becomes_45)))))) (z_push 0 (z_ret 1)))))))))) (z_push 0 (z_ret 1)))))))))
set_option maxRecDepth 20000 in
theorem zk_X8_becomes_0 {X : ZX} (C : zCx X cX8_becomes RX8 (some .int) 2 43 1 6) (hn : X.nL = 4) : ZOK X 0 (zb_X8_becomes_0) := by
  unfold zb_X8_becomes_0
  refine z_aload_n_ok (pc := 0) (i := 0) C.hx C.hb dX8_becomes_0 rfl ?_
  refine z_aload_n_ok (pc := 1) (i := 0) C.hx C.hb dX8_becomes_1 rfl ?_
  refine z_iload_n_ok (pc := 2) (i := 1) C.hx C.hb dX8_becomes_2 rfl ?_
  refine z_invV_ok (pc := 3) C (by decide +kernel) (zm_X8_isOne X.l C.htr) ⟨rfl, rfl⟩ ⟨by decide, by decide⟩ (by decide) (by decide) zcl_X8_148 zw_1056 zw_28 zK8 dX8_becomes_3 ?_
  refine z_iconst_ok (pc := 6) (v := 1) C.hx C.hb dX8_becomes_6 (by decide) ?_
  refine z_invV_ok (pc := 7) C (by decide +kernel) (zm_X8_fails X.l C.htr) ⟨rfl, rfl⟩ ⟨by decide, by decide⟩ (by decide) (by decide) zcl_X8_137 zw_1016 zw_25 zK8 dX8_becomes_7 ?_
  refine z_if_eq_ok (pc := 10) (tgt := 15) C.hx C.hb dX8_becomes_10 (by decide) ?_ ?_
  · refine z_aload_n_ok (pc := 15) (i := 0) C.hx C.hb dX8_becomes_15 rfl ?_
    refine z_iload_n_ok (pc := 16) (i := 2) C.hx C.hb dX8_becomes_16 rfl ?_
    refine z_iconst_ok (pc := 17) (v := 0) C.hx C.hb dX8_becomes_17 (by decide) ?_
    refine z_iconst_ok (pc := 18) (v := 3) C.hx C.hb dX8_becomes_18 (by decide) ?_
    refine z_invS_ok (pc := 19) C (by decide +kernel) (zm_X8_in X.l C.htr) ⟨rfl, rfl⟩ ⟨by decide, by decide⟩ (by decide) (by decide) zcl_X8_120 zw_1012 dX8_becomes_19 ?_
    refine z_iconst_ok (pc := 22) (v := 2) C.hx C.hb dX8_becomes_22 (by decide) ?_
    refine z_invV_ok (pc := 23) C (by decide +kernel) (zm_X8_fails X.l C.htr) ⟨rfl, rfl⟩ ⟨by decide, by decide⟩ (by decide) (by decide) zcl_X8_137 zw_1016 zw_25 zK8 dX8_becomes_23 ?_
    refine z_if_eq_ok (pc := 26) (tgt := 31) C.hx C.hb dX8_becomes_26 (by decide) ?_ ?_
    · refine z_aload_n_ok (pc := 31) (i := 0) C.hx C.hb dX8_becomes_31 rfl ?_
      refine z_aload_n_ok (pc := 32) (i := 0) C.hx C.hb dX8_becomes_32 rfl ?_
      refine z_iload_n_ok (pc := 33) (i := 1) C.hx C.hb dX8_becomes_33 rfl ?_
      refine z_invV_ok (pc := 34) C (by decide +kernel) (zm_X8_isDead X.l C.htr) ⟨rfl, rfl⟩ ⟨by decide, by decide⟩ (by decide) (by decide) zcl_X8_151 zw_1060 zw_29 zK8 dX8_becomes_34 ?_
      refine z_if_ne_ok (pc := 37) (tgt := 44) C.hx C.hb dX8_becomes_37 (by decide) ?_ ?_
      · refine z_iconst_ok (pc := 44) (v := 0) C.hx C.hb dX8_becomes_44 (by decide) ?_
        exact zk_X8_becomes_45 C hn 
      · refine z_iconst_ok (pc := 40) (v := 1) C.hx C.hb dX8_becomes_40 (by decide) ?_
        refine z_goto_ok (pc := 41) (tgt := 45) C.hx C.hb dX8_becomes_41 (by decide) ?_
        exact zk_X8_becomes_45 C hn 
    · refine z_iconst_ok (pc := 29) (v := 0) C.hx C.hb dX8_becomes_29 (by decide) ?_
      exact z_iret_ok (pc := 30) C dX8_becomes_30
  · refine z_iconst_ok (pc := 13) (v := 0) C.hx C.hb dX8_becomes_13 (by decide) ?_
    exact z_iret_ok (pc := 14) C dX8_becomes_14
def sp_X8_becomes : ZSp := fun as S K => as.length ≤ 4 ∧ zsp 4 zb_X8_becomes_0 as S K
theorem zm_X8_becomes (l : Launch) (hl : l.stackTraces = false) : zMet l yX8_becomes cX8_becomes 4 (some .int) { frames := 2, cells := 1, slots := 6, locals := 43 } 0 0 sp_X8_becomes := zMet_of hl (by decide +kernel) ⟨rfl, rfl⟩ (fun X C hn _ => zk_X8_becomes_0 C hn)
theorem dX8_eat_0 : decode cX8_eat 0 = .ok (.aload_n 0, 1) := by decide +kernel
theorem dX8_eat_1 : decode cX8_eat 1 = .ok (.getfield 56, 3) := by decide +kernel
theorem dX8_eat_4 : decode cX8_eat 4 = .ok (.iload_n 1, 1) := by decide +kernel
theorem dX8_eat_5 : decode cX8_eat 5 = .ok (.dup2, 1) := by decide +kernel
theorem dX8_eat_6 : decode cX8_eat 6 = .ok (.iaload, 1) := by decide +kernel
theorem dX8_eat_7 : decode cX8_eat 7 = .ok (.iload_n 3, 1) := by decide +kernel
theorem dX8_eat_8 : decode cX8_eat 8 = .ok (.aload_n 0, 1) := by decide +kernel
theorem dX8_eat_9 : decode cX8_eat 9 = .ok (.getfield 26, 3) := by decide +kernel
theorem dX8_eat_12 : decode cX8_eat 12 = .ok (.iload_n 2, 1) := by decide +kernel
theorem dX8_eat_13 : decode cX8_eat 13 = .ok (.iaload, 1) := by decide +kernel
theorem dX8_eat_14 : decode cX8_eat 14 = .ok (.imul, 1) := by decide +kernel
theorem dX8_eat_15 : decode cX8_eat 15 = .ok (.bipush 100, 2) := by decide +kernel
theorem dX8_eat_17 : decode cX8_eat 17 = .ok (.idiv, 1) := by decide +kernel
theorem dX8_eat_18 : decode cX8_eat 18 = .ok (.iadd, 1) := by decide +kernel
theorem dX8_eat_19 : decode cX8_eat 19 = .ok (.iastore, 1) := by decide +kernel
theorem dX8_eat_20 : decode cX8_eat 20 = .ok (.aload_n 0, 1) := by decide +kernel
theorem dX8_eat_21 : decode cX8_eat 21 = .ok (.dup, 1) := by decide +kernel
theorem dX8_eat_22 : decode cX8_eat 22 = .ok (.getfield 183, 3) := by decide +kernel
theorem dX8_eat_25 : decode cX8_eat 25 = .ok (.iload_n 3, 1) := by decide +kernel
theorem dX8_eat_26 : decode cX8_eat 26 = .ok (.iadd, 1) := by decide +kernel
theorem dX8_eat_27 : decode cX8_eat 27 = .ok (.putfield 183, 3) := by decide +kernel
theorem dX8_eat_30 : decode cX8_eat 30 = .ok (.return_, 1) := by decide +kernel
def zb_X8_eat_0 : ZP := (z_ald 0 (z_gf 8 18 (z_ild 1 (z_dup2 (z_iald (z_ild 3 (z_ald 0 (z_gf 8 7 (z_ild 2 (z_iald (z_bin (fun x y => x * y) (z_push 100 (z_dvn (fun x y => x / y) (z_bin (fun x y => x + y) (z_iast (z_ald 0 (z_dup (z_gf 8 42 (z_ild 3 (z_bin (fun x y => x + y) (z_pf 8 42 (z_ret 0))))))))))))))))))))))
set_option maxRecDepth 20000 in
theorem zk_X8_eat_0 {X : ZX} (C : zCx X cX8_eat RX8 none 0 0 1 6) (hn : X.nL = 4) : ZOK X 0 (zb_X8_eat_0) := by
  unfold zb_X8_eat_0
  refine z_aload_n_ok (pc := 0) (i := 0) C.hx C.hb dX8_eat_0 rfl ?_
  refine z_gf_ok (pc := 1) C zK8 (f := 18) (by decide) zw_875 rfl dX8_eat_1 ?_
  refine z_iload_n_ok (pc := 4) (i := 1) C.hx C.hb dX8_eat_4 rfl ?_
  refine z_dup2_ok (pc := 5) C.hx C.hb dX8_eat_5 ?_
  refine z_iald_ok (pc := 6) C dX8_eat_6 ?_
  refine z_iload_n_ok (pc := 7) (i := 3) C.hx C.hb dX8_eat_7 rfl ?_
  refine z_aload_n_ok (pc := 8) (i := 0) C.hx C.hb dX8_eat_8 rfl ?_
  refine z_gf_ok (pc := 9) C zK8 (f := 7) (by decide) zw_864 rfl dX8_eat_9 ?_
  refine z_iload_n_ok (pc := 12) (i := 2) C.hx C.hb dX8_eat_12 rfl ?_
  refine z_iald_ok (pc := 13) C dX8_eat_13 ?_
  refine z_imul_ok (pc := 14) C.hx C.hb dX8_eat_14 ?_
  refine z_bipush_ok (pc := 15) (v := 100) C.hx C.hb dX8_eat_15 (by decide) ?_
  refine z_idiv_ok (pc := 17) C.hx C.hb dX8_eat_17 ?_
  refine z_iadd_ok (pc := 18) C.hx C.hb dX8_eat_18 ?_
  refine z_iast_ok (pc := 19) C dX8_eat_19 ?_
  refine z_aload_n_ok (pc := 20) (i := 0) C.hx C.hb dX8_eat_20 rfl ?_
  refine z_dup_ok (pc := 21) C.hx C.hb dX8_eat_21 ?_
  refine z_gf_ok (pc := 22) C zK8 (f := 42) (by decide) zw_899 rfl dX8_eat_22 ?_
  refine z_iload_n_ok (pc := 25) (i := 3) C.hx C.hb dX8_eat_25 rfl ?_
  refine z_iadd_ok (pc := 26) C.hx C.hb dX8_eat_26 ?_
  refine z_pf_ok (pc := 27) C zK8 rfl rfl (f := 42) (by decide) zw_899 rfl rfl (by decide +kernel) dX8_eat_27 ?_
  exact z_vret_ok (pc := 30) C dX8_eat_30
def sp_X8_eat : ZSp := fun as S K => as.length ≤ 4 ∧ zsp 4 zb_X8_eat_0 as S K
theorem zm_X8_eat (l : Launch) (hl : l.stackTraces = false) : zMet l yX8_eat cX8_eat 4 none { frames := 0, cells := 1, slots := 6, locals := 0 } 0 0 sp_X8_eat := zMet_of hl (by decide +kernel) ⟨rfl, rfl⟩ (fun X C hn _ => zk_X8_eat_0 C hn)
theorem dX8_black_0 : decode cX8_black 0 = .ok (.aload_n 0, 1) := by decide +kernel
theorem dX8_black_1 : decode cX8_black 1 = .ok (.aload_n 0, 1) := by decide +kernel
theorem dX8_black_2 : decode cX8_black 2 = .ok (.iload_n 1, 1) := by decide +kernel
theorem dX8_black_3 : decode cX8_black 3 = .ok (.invokevirtual 148, 3) := by decide +kernel
theorem dX8_black_6 : decode cX8_black 6 = .ok (.ifCond .eq 14, 3) := by decide +kernel
theorem dX8_black_9 : decode cX8_black 9 = .ok (.iload_n 2, 1) := by decide +kernel
theorem dX8_black_10 : decode cX8_black 10 = .ok (.invokestatic 133, 3) := by decide +kernel
theorem dX8_black_13 : decode cX8_black 13 = .ok (.ifCond .eq 7, 3) := by decide +kernel
theorem dX8_black_16 : decode cX8_black 16 = .ok (.iconst 1, 1) := by decide +kernel
theorem dX8_black_17 : decode cX8_black 17 = .ok (.goto 4, 3) := by decide +kernel
theorem dX8_black_20 : decode cX8_black 20 = .ok (.iconst 0, 1) := by decide +kernel
theorem dX8_black_21 : decode cX8_black 21 = .ok (.iconst 1, 1) := by decide +kernel
theorem dX8_black_22 : decode cX8_black 22 = .ok (.invokevirtual 137, 3) := by decide +kernel
theorem dX8_black_25 : decode cX8_black 25 = .ok (.ifCond .eq 5, 3) := by decide +kernel
theorem dX8_black_28 : decode cX8_black 28 = .ok (.iconst 0, 1) := by decide +kernel
theorem dX8_black_29 : decode cX8_black 29 = .ok (.ireturn, 1) := by decide +kernel
theorem dX8_black_30 : decode cX8_black 30 = .ok (.aload_n 0, 1) := by decide +kernel
theorem dX8_black_31 : decode cX8_black 31 = .ok (.iload_n 3, 1) := by decide +kernel
theorem dX8_black_32 : decode cX8_black 32 = .ok (.iconst 1, 1) := by decide +kernel
theorem dX8_black_33 : decode cX8_black 33 = .ok (.sipush 9999, 3) := by decide +kernel
theorem dX8_black_36 : decode cX8_black 36 = .ok (.invokestatic 120, 3) := by decide +kernel
theorem dX8_black_39 : decode cX8_black 39 = .ok (.iconst 2, 1) := by decide +kernel
theorem dX8_black_40 : decode cX8_black 40 = .ok (.invokevirtual 137, 3) := by decide +kernel
theorem dX8_black_43 : decode cX8_black 43 = .ok (.ifCond .eq 5, 3) := by decide +kernel
theorem dX8_black_46 : decode cX8_black 46 = .ok (.iconst 0, 1) := by decide +kernel
theorem dX8_black_47 : decode cX8_black 47 = .ok (.ireturn, 1) := by decide +kernel
theorem dX8_black_48 : decode cX8_black 48 = .ok (.aload_n 0, 1) := by decide +kernel
theorem dX8_black_49 : decode cX8_black 49 = .ok (.aload_n 0, 1) := by decide +kernel
theorem dX8_black_50 : decode cX8_black 50 = .ok (.iload_n 1, 1) := by decide +kernel
theorem dX8_black_51 : decode cX8_black 51 = .ok (.invokevirtual 151, 3) := by decide +kernel
theorem dX8_black_54 : decode cX8_black 54 = .ok (.ifCond .ne 17, 3) := by decide +kernel
theorem dX8_black_57 : decode cX8_black 57 = .ok (.aload_n 0, 1) := by decide +kernel
theorem dX8_black_58 : decode cX8_black 58 = .ok (.getfield 32, 3) := by decide +kernel
theorem dX8_black_61 : decode cX8_black 61 = .ok (.iload_n 2, 1) := by decide +kernel
theorem dX8_black_62 : decode cX8_black 62 = .ok (.iaload, 1) := by decide +kernel
theorem dX8_black_63 : decode cX8_black 63 = .ok (.iload_n 3, 1) := by decide +kernel
theorem dX8_black_64 : decode cX8_black 64 = .ok (.if_icmp .lt 7, 3) := by decide +kernel
theorem dX8_black_67 : decode cX8_black 67 = .ok (.iconst 1, 1) := by decide +kernel
theorem dX8_black_68 : decode cX8_black 68 = .ok (.goto 4, 3) := by decide +kernel
theorem dX8_black_71 : decode cX8_black 71 = .ok (.iconst 0, 1) := by decide +kernel
theorem dX8_black_72 : decode cX8_black 72 = .ok (.iconst 3, 1) := by decide +kernel
theorem dX8_black_73 : decode cX8_black 73 = .ok (.invokevirtual 137, 3) := by decide +kernel
theorem dX8_black_76 : decode cX8_black 76 = .ok (.ifCond .eq 5, 3) := by decide +kernel
theorem dX8_black_79 : decode cX8_black 79 = .ok (.iconst 0, 1) := by decide +kernel
theorem dX8_black_80 : decode cX8_black 80 = .ok (.ireturn, 1) := by decide +kernel
theorem dX8_black_81 : decode cX8_black 81 = .ok (.iload_n 3, 1) := by decide +kernel
theorem dX8_black_82 : decode cX8_black 82 = .ok (.bipush 50, 2) := by decide +kernel
theorem dX8_black_84 : decode cX8_black 84 = .ok (.bipush 25, 2) := by decide +kernel
theorem dX8_black_86 : decode cX8_black 86 = .ok (.aload_n 0, 1) := by decide +kernel
theorem dX8_black_87 : decode cX8_black 87 = .ok (.getfield 200, 3) := by decide +kernel
theorem dX8_black_90 : decode cX8_black 90 = .ok (.imul, 1) := by decide +kernel
theorem dX8_black_91 : decode cX8_black 91 = .ok (.iadd, 1) := by decide +kernel
theorem dX8_black_92 : decode cX8_black 92 = .ok (.imul, 1) := by decide +kernel
theorem dX8_black_93 : decode cX8_black 93 = .ok (.bipush 100, 2) := by decide +kernel
theorem dX8_black_95 : decode cX8_black 95 = .ok (.idiv, 1) := by decide +kernel
theorem dX8_black_96 : decode cX8_black 96 = .ok (.istore 4, 2) := by decide +kernel
theorem dX8_black_98 : decode cX8_black 98 = .ok (.aload_n 0, 1) := by decide +kernel
theorem dX8_black_99 : decode cX8_black 99 = .ok (.getfield 32, 3) := by decide +kernel
theorem dX8_black_102 : decode cX8_black 102 = .ok (.iload_n 2, 1) := by decide +kernel
theorem dX8_black_103 : decode cX8_black 103 = .ok (.dup2, 1) := by decide +kernel
theorem dX8_black_104 : decode cX8_black 104 = .ok (.iaload, 1) := by decide +kernel
theorem dX8_black_105 : decode cX8_black 105 = .ok (.iload_n 3, 1) := by decide +kernel
theorem dX8_black_106 : decode cX8_black 106 = .ok (.isub, 1) := by decide +kernel
theorem dX8_black_107 : decode cX8_black 107 = .ok (.iastore, 1) := by decide +kernel
theorem dX8_black_108 : decode cX8_black 108 = .ok (.aload_n 0, 1) := by decide +kernel
theorem dX8_black_109 : decode cX8_black 109 = .ok (.dup, 1) := by decide +kernel
theorem dX8_black_110 : decode cX8_black 110 = .ok (.getfield 203, 3) := by decide +kernel
theorem dX8_black_113 : decode cX8_black 113 = .ok (.iload 4, 2) := by decide +kernel
theorem dX8_black_115 : decode cX8_black 115 = .ok (.iadd, 1) := by decide +kernel
theorem dX8_black_116 : decode cX8_black 116 = .ok (.putfield 203, 3) := by decide +kernel
theorem dX8_black_119 : decode cX8_black 119 = .ok (.aload_n 0, 1) := by decide +kernel
theorem dX8_black_120 : decode cX8_black 120 = .ok (.iload_n 1, 1) := by decide +kernel
theorem dX8_black_121 : decode cX8_black 121 = .ok (.iload_n 2, 1) := by decide +kernel
theorem dX8_black_122 : decode cX8_black 122 = .ok (.iload_n 3, 1) := by decide +kernel
theorem dX8_black_123 : decode cX8_black 123 = .ok (.invokevirtual 186, 3) := by decide +kernel
theorem dX8_black_126 : decode cX8_black 126 = .ok (.iload 4, 2) := by decide +kernel
theorem dX8_black_128 : decode cX8_black 128 = .ok (.ireturn, 1) := by decide +kernel
def zb_X8_black_72 : ZP := (z_push 3 (z_invV 8 2 sp_X8_fails (z_if (fun x => x = 0) (z_ild 3 (z_push 50 (z_push 25 (z_ald 0 (z_gf 8 3 (z_bin (fun x y => x * y) (z_bin (fun x y => x + y) (z_bin (fun x y => x * y) (z_push 100 (z_dvn (fun x y => x / y) (z_ist 4 (z_ald 0 (z_gf 8 9 (z_ild 2 (z_dup2 (z_iald (z_ild 3 (z_bin (fun x y => x - y) (z_iast (z_ald 0 (z_dup (z_gf 8 44 (z_ild 4 (z_bin (fun x y => x + y) (z_pf 8 44 (z_ald 0 (z_ild 1 (z_ild 2 (z_ild 3 (z_invV 8 3 sp_X8_eat (z_ild 4 (z_ret 1)))))))))))))))))))))))))))))))) (z_push 0 (z_ret 1)))))
set_option maxRecDepth 20000 in
theorem zk_X8_black_72 {X : ZX} (C : zCx X cX8_black RX8 (some .int) 2 43 1 6) (hn : X.nL = 5) : ZOK X 72 (zb_X8_black_72) := by
  unfold zb_X8_black_72
  refine z_iconst_ok (pc := 72) (v := 3) C.hx C.hb dX8_black_72 (by decide) ?_
  refine z_invV_ok (pc := 73) C (by decide +kernel) (zm_X8_fails X.l C.htr) ⟨rfl, rfl⟩ ⟨by decide, by decide⟩ (by decide) (by decide) zcl_X8_137 zw_1016 zw_25 zK8 dX8_black_73 ?_
  refine z_if_eq_ok (pc := 76) (tgt := 81) C.hx C.hb dX8_black_76 (by decide) ?_ ?_
  · refine z_iload_n_ok (pc := 81) (i := 3) C.hx C.hb dX8_black_81 rfl ?_
    refine z_bipush_ok (pc := 82) (v := 50) C.hx C.hb dX8_black_82 (by decide) ?_
    refine z_bipush_ok (pc := 84) (v := 25) C.hx C.hb dX8_black_84 (by decide) ?_
    refine z_aload_n_ok (pc := 86) (i := 0) C.hx C.hb dX8_black_86 rfl ?_
    refine z_gf_ok (pc := 87) C zK8 (f := 3) (by decide) zw_860 rfl dX8_black_87 ?_
    refine z_imul_ok (pc := 90) C.hx C.hb dX8_black_90 ?_
    refine z_iadd_ok (pc := 91) C.hx C.hb dX8_black_91 ?_
    refine z_imul_ok (pc := 92) C.hx C.hb dX8_black_92 ?_
    refine z_bipush_ok (pc := 93) (v := 100) C.hx C.hb dX8_black_93 (by decide) ?_
    refine z_idiv_ok (pc := 95) C.hx C.hb dX8_black_95 ?_
    refine z_istore_ok (pc := 96) (i := 4) C.hx C.hb dX8_black_96 (zlt hn (by decide)) ?_
    refine z_aload_n_ok (pc := 98) (i := 0) C.hx C.hb dX8_black_98 rfl ?_
    refine z_gf_ok (pc := 99) C zK8 (f := 9) (by decide) zw_866 rfl dX8_black_99 ?_
    refine z_iload_n_ok (pc := 102) (i := 2) C.hx C.hb dX8_black_102 rfl ?_
    refine z_dup2_ok (pc := 103) C.hx C.hb dX8_black_103 ?_
    refine z_iald_ok (pc := 104) C dX8_black_104 ?_
    refine z_iload_n_ok (pc := 105) (i := 3) C.hx C.hb dX8_black_105 rfl ?_
    refine z_isub_ok (pc := 106) C.hx C.hb dX8_black_106 ?_
    refine z_iast_ok (pc := 107) C dX8_black_107 ?_
    refine z_aload_n_ok (pc := 108) (i := 0) C.hx C.hb dX8_black_108 rfl ?_
    refine z_dup_ok (pc := 109) C.hx C.hb dX8_black_109 ?_
    refine z_gf_ok (pc := 110) C zK8 (f := 44) (by decide) zw_901 rfl dX8_black_110 ?_
    refine z_iload_ok (pc := 113) (i := 4) C.hx C.hb dX8_black_113 ?_
    refine z_iadd_ok (pc := 115) C.hx C.hb dX8_black_115 ?_
    refine z_pf_ok (pc := 116) C zK8 rfl rfl (f := 44) (by decide) zw_901 rfl rfl (by decide +kernel) dX8_black_116 ?_
    refine z_aload_n_ok (pc := 119) (i := 0) C.hx C.hb dX8_black_119 rfl ?_
    refine z_iload_n_ok (pc := 120) (i := 1) C.hx C.hb dX8_black_120 rfl ?_
    refine z_iload_n_ok (pc := 121) (i := 2) C.hx C.hb dX8_black_121 rfl ?_
    refine z_iload_n_ok (pc := 122) (i := 3) C.hx C.hb dX8_black_122 rfl ?_
    refine z_invV_ok (pc := 123) C (by decide +kernel) (zm_X8_eat X.l C.htr) ⟨rfl, rfl⟩ ⟨by decide, by decide⟩ (by decide) (by decide) zcl_X8_186 zw_1136 zw_35 zK8 dX8_black_123 ?_
    refine z_iload_ok (pc := 126) (i := 4) C.hx C.hb dX8_black_126 ?_
    exact z_iret_ok (pc := 128) C dX8_black_128
  · refine z_iconst_ok (pc := 79) (v := 0) C.hx C.hb dX8_black_79 (by decide) ?_
    exact z_iret_ok (pc := 80) C dX8_black_80
def zb_X8_black_71 : ZP := (z_push 0 zb_X8_black_72)
set_option maxRecDepth 20000 in
theorem zk_X8_black_71 {X : ZX} (C : zCx X cX8_black RX8 (some .int) 2 43 1 6) (hn : X.nL = 5) : ZOK X 71 (zb_X8_black_71) := by
  unfold zb_X8_black_71
  refine z_iconst_ok (pc := 71) (v := 0) C.hx C.hb dX8_black_71 (by decide) ?_
  exact zk_X8_black_72 C hn 
def zb_X8_black_21 : ZP := (z_push 1 (z_invV 8 2 sp_X8_fails (z_if (fun x => x = 0) (z_ald 0 (z_ild 3 (z_push 1 (z_push 9999 (z_invS 3 sp_X8_in (z_push 2 (z_invV 8 2 sp_X8_fails (z_if (fun x => x = 0) (z_ald 0 (z_ald 0 (z_ild 1 (z_invV 8 1 sp_X8_isDead (z_if (fun x => x = 0) (z_ald 0 (z_gf 8 9 (z_ild 2 (z_iald (z_ild 3 (z_cmp (fun x y => x < y) zb_X8_black_71 (z_push 1 zb_X8_black_72))))))) zb_X8_black_71))))) (z_push 0 (z_ret 1)))))))))) (z_push 0 (z_ret 1)))))
set_option maxRecDepth 20000 in
theorem zk_X8_black_21 {X : ZX} (C : zCx X cX8_black RX8 (some .int) 2 43 1 6) (hn : X.nL = 5) : ZOK X 21 (zb_X8_black_21) := by
  unfold zb_X8_black_21
  refine z_iconst_ok (pc := 21) (v := 1) C.hx C.hb dX8_black_21 (by decide) ?_
  refine z_invV_ok (pc := 22) C (by decide +kernel) (zm_X8_fails X.l C.htr) ⟨rfl, rfl⟩ ⟨by decide, by decide⟩ (by decide) (by decide) zcl_X8_137 zw_1016 zw_25 zK8 dX8_black_22 ?_
  refine z_if_eq_ok (pc := 25) (tgt := 30) C.hx C.hb dX8_black_25 (by decide) ?_ ?_
  · refine z_aload_n_ok (pc := 30) (i := 0) C.hx C.hb dX8_black_30 rfl ?_
    refine z_iload_n_ok (pc := 31) (i := 3) C.hx C.hb dX8_black_31 rfl ?_
    refine z_iconst_ok (pc := 32) (v := 1) C.hx C.hb dX8_black_32 (by decide) ?_
    refine z_sipush_ok (pc := 33) (v := 9999) C.hx C.hb dX8_black_33 (by decide) ?_
    refine z_invS_ok (pc := 36) C (by decide +kernel) (zm_X8_in X.l C.htr) ⟨rfl, rfl⟩ ⟨by decide, by decide⟩ (by decide) (by decide) zcl_X8_120 zw_1012 dX8_black_36 ?_
    refine z_iconst_ok (pc := 39) (v := 2) C.hx C.hb dX8_black_39 (by decide) ?_
    refine z_invV_ok (pc := 40) C (by decide +kernel) (zm_X8_fails X.l C.htr) ⟨rfl, rfl⟩ ⟨by decide, by decide⟩ (by decide) (by decide) zcl_X8_137 zw_1016 zw_25 zK8 dX8_black_40 ?_
    refine z_if_eq_ok (pc := 43) (tgt := 48) C.hx C.hb dX8_black_43 (by decide) ?_ ?_
    · refine z_aload_n_ok (pc := 48) (i := 0) C.hx C.hb dX8_black_48 rfl ?_
      refine z_aload_n_ok (pc := 49) (i := 0) C.hx C.hb dX8_black_49 rfl ?_
      refine z_iload_n_ok (pc := 50) (i := 1) C.hx C.hb dX8_black_50 rfl ?_
      refine z_invV_ok (pc := 51) C (by decide +kernel) (zm_X8_isDead X.l C.htr) ⟨rfl, rfl⟩ ⟨by decide, by decide⟩ (by decide) (by decide) zcl_X8_151 zw_1060 zw_29 zK8 dX8_black_51 ?_
      refine z_if_ne_ok (pc := 54) (tgt := 71) C.hx C.hb dX8_black_54 (by decide) ?_ ?_
      · exact zk_X8_black_71 C hn 
      · refine z_aload_n_ok (pc := 57) (i := 0) C.hx C.hb dX8_black_57 rfl ?_
        refine z_gf_ok (pc := 58) C zK8 (f := 9) (by decide) zw_866 rfl dX8_black_58 ?_
        refine z_iload_n_ok (pc := 61) (i := 2) C.hx C.hb dX8_black_61 rfl ?_
        refine z_iald_ok (pc := 62) C dX8_black_62 ?_
        refine z_iload_n_ok (pc := 63) (i := 3) C.hx C.hb dX8_black_63 rfl ?_
        refine z_icmp_lt_ok (pc := 64) (tgt := 71) C.hx C.hb dX8_black_64 (by decide) ?_ ?_
        · exact zk_X8_black_71 C hn 
        · refine z_iconst_ok (pc := 67) (v := 1) C.hx C.hb dX8_black_67 (by decide) ?_
          refine z_goto_ok (pc := 68) (tgt := 72) C.hx C.hb dX8_black_68 (by decide) ?_
          exact zk_X8_black_72 C hn 
    · refine z_iconst_ok (pc := 46) (v := 0) C.hx C.hb dX8_black_46 (by decide) ?_
      exact z_iret_ok (pc := 47) C dX8_black_47
  · refine z_iconst_ok (pc := 28) (v := 0) C.hx C.hb dX8_black_28 (by decide) ?_
    exact z_iret_ok (pc := 29) C dX8_black_29
def zb_X8_black_20 : ZP := (z_push 0 zb_X8_black_21)
set_option maxRecDepth 20000 in
theorem zk_X8_black_20 {X : ZX} (C : zCx X cX8_black RX8 (some .int) 2 43 1 6) (hn : X.nL = 5) : ZOK X 20 (zb_X8_black_20) := by
  unfold zb_X8_black_20
  refine z_iconst_ok (pc := 20) (v := 0) C.hx C.hb dX8_black_20 (by decide) ?_
  exact zk_X8_black_21 C hn 
def zb_X8_black_0 : ZP := (z_ald 0 (z_ald 0 (z_ild 1 (z_invV 8 1 sp_X8_isOne (z_if (fun x => x = 0) zb_X8_black_20 (z_ild 2 (z_invS 1 sp_X8_isGood (z_if (fun x => x = 0) zb_X8_black_20 (z_push 1 zb_X8_black_21)))))))))
set_option maxRecDepth 20000 in
theorem zk_X8_black_0 {X : ZX} (C : zCx X cX8_black RX8 (some .int) 2 43 1 6) (hn : X.nL = 5) : ZOK X 0 (zb_X8_black_0) := by
  unfold zb_X8_black_0
  refine z_aload_n_ok (pc := 0) (i := 0) C.hx C.hb dX8_black_0 rfl ?_
  refine z_aload_n_ok (pc := 1) (i := 0) C.hx C.hb dX8_black_1 rfl ?_
  refine z_iload_n_ok (pc := 2) (i := 1) C.hx C.hb dX8_black_2 rfl ?_
  refine z_invV_ok (pc := 3) C (by decide +kernel) (zm_X8_isOne X.l C.htr) ⟨rfl, rfl⟩ ⟨by decide, by decide⟩ (by decide) (by decide) zcl_X8_148 zw_1056 zw_28 zK8 dX8_black_3 ?_
  refine z_if_eq_ok (pc := 6) (tgt := 20) C.hx C.hb dX8_black_6 (by decide) ?_ ?_
  · exact zk_X8_black_20 C hn 
  · refine z_iload_n_ok (pc := 9) (i := 2) C.hx C.hb dX8_black_9 rfl ?_
    refine z_invS_ok (pc := 10) C (by decide +kernel) (zm_X8_isGood X.l C.htr) ⟨rfl, rfl⟩ ⟨by decide, by decide⟩ (by decide) (by decide) zcl_X8_133 zw_1009 dX8_black_10 ?_
    refine z_if_eq_ok (pc := 13) (tgt := 20) C.hx C.hb dX8_black_13 (by decide) ?_ ?_
    · exact zk_X8_black_20 C hn 
    · refine z_iconst_ok (pc := 16) (v := 1) C.hx C.hb dX8_black_16 (by decide) ?_
      refine z_goto_ok (pc := 17) (tgt := 21) C.hx C.hb dX8_black_17 (by decide) ?_
      exact zk_X8_black_21 C hn 
def sp_X8_black : ZSp := fun as S K => as.length ≤ 5 ∧ zsp 5 zb_X8_black_0 as S K
theorem zm_X8_black (l : Launch) (hl : l.stackTraces = false) : zMet l yX8_black cX8_black 5 (some .int) { frames := 2, cells := 1, slots := 6, locals := 43 } 0 0 sp_X8_black := zMet_of hl (by decide +kernel) ⟨rfl, rfl⟩ (fun X C hn _ => zk_X8_black_0 C hn)
theorem dX8_pointsOf_0 : decode cX8_pointsOf 0 = .ok (.aload_n 0, 1) := by decide +kernel
theorem dX8_pointsOf_1 : decode cX8_pointsOf 1 = .ok (.getfield 7, 3) := by decide +kernel
theorem dX8_pointsOf_4 : decode cX8_pointsOf 4 = .ok (.aload_n 0, 1) := by decide +kernel
theorem dX8_pointsOf_5 : decode cX8_pointsOf 5 = .ok (.getfield 50, 3) := by decide +kernel
theorem dX8_pointsOf_8 : decode cX8_pointsOf 8 = .ok (.iload_n 1, 1) := by decide +kernel
theorem dX8_pointsOf_9 : decode cX8_pointsOf 9 = .ok (.iaload, 1) := by decide +kernel
theorem dX8_pointsOf_10 : decode cX8_pointsOf 10 = .ok (.iadd, 1) := by decide +kernel
theorem dX8_pointsOf_11 : decode cX8_pointsOf 11 = .ok (.aload_n 0, 1) := by decide +kernel
theorem dX8_pointsOf_12 : decode cX8_pointsOf 12 = .ok (.getfield 53, 3) := by decide +kernel
theorem dX8_pointsOf_15 : decode cX8_pointsOf 15 = .ok (.iload_n 1, 1) := by decide +kernel
theorem dX8_pointsOf_16 : decode cX8_pointsOf 16 = .ok (.iaload, 1) := by decide +kernel
theorem dX8_pointsOf_17 : decode cX8_pointsOf 17 = .ok (.isub, 1) := by decide +kernel
theorem dX8_pointsOf_18 : decode cX8_pointsOf 18 = .ok (.istore_n 2, 1) := by decide +kernel
theorem dX8_pointsOf_19 : decode cX8_pointsOf 19 = .ok (.aload_n 0, 1) := by decide +kernel
theorem dX8_pointsOf_20 : decode cX8_pointsOf 20 = .ok (.iload_n 1, 1) := by decide +kernel
theorem dX8_pointsOf_21 : decode cX8_pointsOf 21 = .ok (.invokevirtual 154, 3) := by decide +kernel
theorem dX8_pointsOf_24 : decode cX8_pointsOf 24 = .ok (.ifCond .eq 7, 3) := by decide +kernel
theorem dX8_pointsOf_27 : decode cX8_pointsOf 27 = .ok (.iload_n 2, 1) := by decide +kernel
theorem dX8_pointsOf_28 : decode cX8_pointsOf 28 = .ok (.ifCond .ge 7, 3) := by decide +kernel
theorem dX8_pointsOf_31 : decode cX8_pointsOf 31 = .ok (.iconst 0, 1) := by decide +kernel
theorem dX8_pointsOf_32 : decode cX8_pointsOf 32 = .ok (.goto 4, 3) := by decide +kernel
theorem dX8_pointsOf_35 : decode cX8_pointsOf 35 = .ok (.iload_n 2, 1) := by decide +kernel
theorem dX8_pointsOf_36 : decode cX8_pointsOf 36 = .ok (.ireturn, 1) := by decide +kernel
def zb_X8_pointsOf_36 : ZP := (z_ret 1)
set_option maxRecDepth 20000 in
theorem zk_X8_pointsOf_36 {X : ZX} (C : zCx X cX8_pointsOf RX8 (some .int) 2 42 1 6) (hn : X.nL = 3) : ZOK X 36 (zb_X8_pointsOf_36) := by
  unfold zb_X8_pointsOf_36
  exact z_iret_ok (pc := 36) C dX8_pointsOf_36
def zb_X8_pointsOf_31 : ZP := (z_push 0 zb_X8_pointsOf_36)
set_option maxRecDepth 20000 in
theorem zk_X8_pointsOf_31 {X : ZX} (C : zCx X cX8_pointsOf RX8 (some .int) 2 42 1 6) (hn : X.nL = 3) : ZOK X 31 (zb_X8_pointsOf_31) := by
  unfold zb_X8_pointsOf_31
  refine z_iconst_ok (pc := 31) (v := 0) C.hx C.hb dX8_pointsOf_31 (by decide) ?_
  refine z_goto_ok (pc := 32) (tgt := 36) C.hx C.hb dX8_pointsOf_32 (by decide) ?_
  exact zk_X8_pointsOf_36 C hn 
def zb_X8_pointsOf_0 : ZP := (z_ald 0 (z_gf 8 1 (z_ald 0 (z_gf 8 16 (z_ild 1 (z_iald (z_bin (fun x y => x + y) (z_ald 0 (z_gf 8 17 (z_ild 1 (z_iald (z_bin (fun x y => x - y) (z_ist 2 (z_ald 0 (z_ild 1 (z_invV 8 1 sp_X8_hasBook (z_if (fun x => x = 0) zb_X8_pointsOf_31 (z_ild 2 (z_if (fun x => 0 ≤ x) (z_ild 2 zb_X8_pointsOf_36) zb_X8_pointsOf_31)))))))))))))))))))
set_option maxRecDepth 20000 in
theorem zk_X8_pointsOf_0 {X : ZX} (C : zCx X cX8_pointsOf RX8 (some .int) 2 42 1 6) (hn : X.nL = 3) : ZOK X 0 (zb_X8_pointsOf_0) := by
  unfold zb_X8_pointsOf_0
  refine z_aload_n_ok (pc := 0) (i := 0) C.hx C.hb dX8_pointsOf_0 rfl ?_
  refine z_gf_ok (pc := 1) C zK8 (f := 1) (by decide) zw_858 rfl dX8_pointsOf_1 ?_
  refine z_aload_n_ok (pc := 4) (i := 0) C.hx C.hb dX8_pointsOf_4 rfl ?_
  refine z_gf_ok (pc := 5) C zK8 (f := 16) (by decide) zw_873 rfl dX8_pointsOf_5 ?_
  refine z_iload_n_ok (pc := 8) (i := 1) C.hx C.hb dX8_pointsOf_8 rfl ?_
  refine z_iald_ok (pc := 9) C dX8_pointsOf_9 ?_
  refine z_iadd_ok (pc := 10) C.hx C.hb dX8_pointsOf_10 ?_
  refine z_aload_n_ok (pc := 11) (i := 0) C.hx C.hb dX8_pointsOf_11 rfl ?_
  refine z_gf_ok (pc := 12) C zK8 (f := 17) (by decide) zw_874 rfl dX8_pointsOf_12 ?_
  refine z_iload_n_ok (pc := 15) (i := 1) C.hx C.hb dX8_pointsOf_15 rfl ?_
  refine z_iald_ok (pc := 16) C dX8_pointsOf_16 ?_
  refine z_isub_ok (pc := 17) C.hx C.hb dX8_pointsOf_17 ?_
  refine z_istore_n_ok (pc := 18) (i := 2) C.hx C.hb dX8_pointsOf_18 rfl (zlt hn (by decide)) ?_
  refine z_aload_n_ok (pc := 19) (i := 0) C.hx C.hb dX8_pointsOf_19 rfl ?_
  refine z_iload_n_ok (pc := 20) (i := 1) C.hx C.hb dX8_pointsOf_20 rfl ?_
  refine z_invV_ok (pc := 21) C (by decide +kernel) (zm_X8_hasBook X.l C.htr) ⟨rfl, rfl⟩ ⟨by decide, by decide⟩ (by decide) (by decide) zcl_X8_154 zw_1072 zw_30 zK8 dX8_pointsOf_21 ?_
  refine z_if_eq_ok (pc := 24) (tgt := 31) C.hx C.hb dX8_pointsOf_24 (by decide) ?_ ?_
  · exact zk_X8_pointsOf_31 C hn 
  · refine z_iload_n_ok (pc := 27) (i := 2) C.hx C.hb dX8_pointsOf_27 rfl ?_
    refine z_if_ge_ok (pc := 28) (tgt := 35) C.hx C.hb dX8_pointsOf_28 (by decide) ?_ ?_
    · refine z_iload_n_ok (pc := 35) (i := 2) C.hx C.hb dX8_pointsOf_35 rfl ?_
      exact zk_X8_pointsOf_36 C hn 
    · exact zk_X8_pointsOf_31 C hn 
def sp_X8_pointsOf : ZSp := fun as S K => as.length ≤ 3 ∧ zsp 3 zb_X8_pointsOf_0 as S K
theorem zm_X8_pointsOf (l : Launch) (hl : l.stackTraces = false) : zMet l yX8_pointsOf cX8_pointsOf 3 (some .int) { frames := 2, cells := 1, slots := 6, locals := 42 } 0 0 sp_X8_pointsOf := zMet_of hl (by decide +kernel) ⟨rfl, rfl⟩ (fun X C hn _ => zk_X8_pointsOf_0 C hn)
theorem dX8_buy_0 : decode cX8_buy 0 = .ok (.aload_n 0, 1) := by decide +kernel
theorem dX8_buy_1 : decode cX8_buy 1 = .ok (.aload_n 0, 1) := by decide +kernel
theorem dX8_buy_2 : decode cX8_buy 2 = .ok (.iload_n 1, 1) := by decide +kernel
theorem dX8_buy_3 : decode cX8_buy 3 = .ok (.invokevirtual 148, 3) := by decide +kernel
theorem dX8_buy_6 : decode cX8_buy 6 = .ok (.ifCond .eq 22, 3) := by decide +kernel
theorem dX8_buy_9 : decode cX8_buy 9 = .ok (.aload_n 0, 1) := by decide +kernel
theorem dX8_buy_10 : decode cX8_buy 10 = .ok (.iload_n 2, 1) := by decide +kernel
theorem dX8_buy_11 : decode cX8_buy 11 = .ok (.invokevirtual 145, 3) := by decide +kernel
theorem dX8_buy_14 : decode cX8_buy 14 = .ok (.ifCond .eq 14, 3) := by decide +kernel
theorem dX8_buy_17 : decode cX8_buy 17 = .ok (.iload_n 3, 1) := by decide +kernel
theorem dX8_buy_18 : decode cX8_buy 18 = .ok (.invokestatic 133, 3) := by decide +kernel
theorem dX8_buy_21 : decode cX8_buy 21 = .ok (.ifCond .eq 7, 3) := by decide +kernel
theorem dX8_buy_24 : decode cX8_buy 24 = .ok (.iconst 1, 1) := by decide +kernel
theorem dX8_buy_25 : decode cX8_buy 25 = .ok (.goto 4, 3) := by decide +kernel
theorem dX8_buy_28 : decode cX8_buy 28 = .ok (.iconst 0, 1) := by decide +kernel
theorem dX8_buy_29 : decode cX8_buy 29 = .ok (.iconst 1, 1) := by decide +kernel
theorem dX8_buy_30 : decode cX8_buy 30 = .ok (.invokevirtual 137, 3) := by decide +kernel
theorem dX8_buy_33 : decode cX8_buy 33 = .ok (.ifCond .eq 5, 3) := by decide +kernel
theorem dX8_buy_36 : decode cX8_buy 36 = .ok (.iconst 0, 1) := by decide +kernel
theorem dX8_buy_37 : decode cX8_buy 37 = .ok (.ireturn, 1) := by decide +kernel
theorem dX8_buy_38 : decode cX8_buy 38 = .ok (.aload_n 0, 1) := by decide +kernel
theorem dX8_buy_39 : decode cX8_buy 39 = .ok (.iload 4, 2) := by decide +kernel
theorem dX8_buy_41 : decode cX8_buy 41 = .ok (.iconst 1, 1) := by decide +kernel
theorem dX8_buy_42 : decode cX8_buy 42 = .ok (.sipush 9999, 3) := by decide +kernel
theorem dX8_buy_45 : decode cX8_buy 45 = .ok (.invokestatic 120, 3) := by decide +kernel
theorem dX8_buy_48 : decode cX8_buy 48 = .ok (.ifCond .eq 25, 3) := by decide +kernel
theorem dX8_buy_51 : decode cX8_buy 51 = .ok (.aload_n 0, 1) := by decide +kernel
theorem dX8_buy_52 : decode cX8_buy 52 = .ok (.getfield 16, 3) := by decide +kernel
theorem dX8_buy_55 : decode cX8_buy 55 = .ok (.iload_n 3, 1) := by decide +kernel
theorem dX8_buy_56 : decode cX8_buy 56 = .ok (.iaload, 1) := by decide +kernel
theorem dX8_buy_57 : decode cX8_buy 57 = .ok (.iconst 1, 1) := by decide +kernel
theorem dX8_buy_58 : decode cX8_buy 58 = .ok (.if_icmp .ne 11, 3) := by decide +kernel
theorem dX8_buy_61 : decode cX8_buy 61 = .ok (.iload 4, 2) := by decide +kernel
theorem dX8_buy_63 : decode cX8_buy 63 = .ok (.bipush 100, 2) := by decide +kernel
theorem dX8_buy_65 : decode cX8_buy 65 = .ok (.irem, 1) := by decide +kernel
theorem dX8_buy_66 : decode cX8_buy 66 = .ok (.ifCond .ne 7, 3) := by decide +kernel
theorem dX8_buy_69 : decode cX8_buy 69 = .ok (.iconst 1, 1) := by decide +kernel
theorem dX8_buy_70 : decode cX8_buy 70 = .ok (.goto 4, 3) := by decide +kernel
theorem dX8_buy_73 : decode cX8_buy 73 = .ok (.iconst 0, 1) := by decide +kernel
theorem dX8_buy_74 : decode cX8_buy 74 = .ok (.iconst 2, 1) := by decide +kernel
theorem dX8_buy_75 : decode cX8_buy 75 = .ok (.invokevirtual 137, 3) := by decide +kernel
theorem dX8_buy_78 : decode cX8_buy 78 = .ok (.ifCond .eq 5, 3) := by decide +kernel
theorem dX8_buy_81 : decode cX8_buy 81 = .ok (.iconst 0, 1) := by decide +kernel
theorem dX8_buy_82 : decode cX8_buy 82 = .ok (.ireturn, 1) := by decide +kernel
theorem dX8_buy_83 : decode cX8_buy 83 = .ok (.aload_n 0, 1) := by decide +kernel
theorem dX8_buy_84 : decode cX8_buy 84 = .ok (.getfield 16, 3) := by decide +kernel
theorem dX8_buy_87 : decode cX8_buy 87 = .ok (.iload_n 3, 1) := by decide +kernel
theorem dX8_buy_88 : decode cX8_buy 88 = .ok (.iaload, 1) := by decide +kernel
theorem dX8_buy_89 : decode cX8_buy 89 = .ok (.iconst 1, 1) := by decide +kernel
theorem dX8_buy_90 : decode cX8_buy 90 = .ok (.if_icmp .ne 18, 3) := by decide +kernel
theorem dX8_buy_93 : decode cX8_buy 93 = .ok (.aload_n 0, 1) := by decide +kernel
theorem dX8_buy_94 : decode cX8_buy 94 = .ok (.getfield 23, 3) := by decide +kernel
theorem dX8_buy_97 : decode cX8_buy 97 = .ok (.iload_n 3, 1) := by decide +kernel
theorem dX8_buy_98 : decode cX8_buy 98 = .ok (.iaload, 1) := by decide +kernel
theorem dX8_buy_99 : decode cX8_buy 99 = .ok (.iload 4, 2) := by decide +kernel
theorem dX8_buy_101 : decode cX8_buy 101 = .ok (.imul, 1) := by decide +kernel
theorem dX8_buy_102 : decode cX8_buy 102 = .ok (.bipush 100, 2) := by decide +kernel
theorem dX8_buy_104 : decode cX8_buy 104 = .ok (.idiv, 1) := by decide +kernel
theorem dX8_buy_105 : decode cX8_buy 105 = .ok (.goto 4, 3) := by decide +kernel
theorem dX8_buy_108 : decode cX8_buy 108 = .ok (.iconst 0, 1) := by decide +kernel
theorem dX8_buy_109 : decode cX8_buy 109 = .ok (.istore 5, 2) := by decide +kernel
theorem dX8_buy_111 : decode cX8_buy 111 = .ok (.aload_n 0, 1) := by decide +kernel
theorem dX8_buy_112 : decode cX8_buy 112 = .ok (.getfield 16, 3) := by decide +kernel
theorem dX8_buy_115 : decode cX8_buy 115 = .ok (.iload_n 3, 1) := by decide +kernel
theorem dX8_buy_116 : decode cX8_buy 116 = .ok (.iaload, 1) := by decide +kernel
theorem dX8_buy_117 : decode cX8_buy 117 = .ok (.ifCond .ne 32, 3) := by decide +kernel
theorem dX8_buy_120 : decode cX8_buy 120 = .ok (.iload_n 2, 1) := by decide +kernel
theorem dX8_buy_121 : decode cX8_buy 121 = .ok (.aload_n 0, 1) := by decide +kernel
theorem dX8_buy_122 : decode cX8_buy 122 = .ok (.getfield 38, 3) := by decide +kernel
theorem dX8_buy_125 : decode cX8_buy 125 = .ok (.iload_n 1, 1) := by decide +kernel
theorem dX8_buy_126 : decode cX8_buy 126 = .ok (.iaload, 1) := by decide +kernel
theorem dX8_buy_127 : decode cX8_buy 127 = .ok (.if_icmp .ne 18, 3) := by decide +kernel
theorem dX8_buy_130 : decode cX8_buy 130 = .ok (.iload 4, 2) := by decide +kernel
theorem dX8_buy_132 : decode cX8_buy 132 = .ok (.aload_n 0, 1) := by decide +kernel
theorem dX8_buy_133 : decode cX8_buy 133 = .ok (.iload_n 1, 1) := by decide +kernel
theorem dX8_buy_134 : decode cX8_buy 134 = .ok (.iload_n 3, 1) := by decide +kernel
theorem dX8_buy_135 : decode cX8_buy 135 = .ok (.invokevirtual 167, 3) := by decide +kernel
theorem dX8_buy_138 : decode cX8_buy 138 = .ok (.if_icmp .gt 7, 3) := by decide +kernel
theorem dX8_buy_141 : decode cX8_buy 141 = .ok (.iconst 1, 1) := by decide +kernel
theorem dX8_buy_142 : decode cX8_buy 142 = .ok (.goto 22, 3) := by decide +kernel
theorem dX8_buy_145 : decode cX8_buy 145 = .ok (.iconst 0, 1) := by decide +kernel
theorem dX8_buy_146 : decode cX8_buy 146 = .ok (.goto 18, 3) := by decide +kernel
theorem dX8_buy_149 : decode cX8_buy 149 = .ok (.iload 5, 2) := by decide +kernel
theorem dX8_buy_151 : decode cX8_buy 151 = .ok (.aload_n 0, 1) := by decide +kernel
theorem dX8_buy_152 : decode cX8_buy 152 = .ok (.iload_n 1, 1) := by decide +kernel
theorem dX8_buy_153 : decode cX8_buy 153 = .ok (.invokevirtual 164, 3) := by decide +kernel
theorem dX8_buy_156 : decode cX8_buy 156 = .ok (.if_icmp .gt 7, 3) := by decide +kernel
theorem dX8_buy_159 : decode cX8_buy 159 = .ok (.iconst 1, 1) := by decide +kernel
theorem dX8_buy_160 : decode cX8_buy 160 = .ok (.goto 4, 3) := by decide +kernel
theorem dX8_buy_163 : decode cX8_buy 163 = .ok (.iconst 0, 1) := by decide +kernel
theorem dX8_buy_164 : decode cX8_buy 164 = .ok (.istore 6, 2) := by decide +kernel
theorem dX8_buy_166 : decode cX8_buy 166 = .ok (.aload_n 0, 1) := by decide +kernel
theorem dX8_buy_167 : decode cX8_buy 167 = .ok (.aload_n 0, 1) := by decide +kernel
theorem dX8_buy_168 : decode cX8_buy 168 = .ok (.iload_n 1, 1) := by decide +kernel
theorem dX8_buy_169 : decode cX8_buy 169 = .ok (.invokevirtual 151, 3) := by decide +kernel
theorem dX8_buy_172 : decode cX8_buy 172 = .ok (.ifCond .ne 28, 3) := by decide +kernel
theorem dX8_buy_175 : decode cX8_buy 175 = .ok (.iload 6, 2) := by decide +kernel
theorem dX8_buy_177 : decode cX8_buy 177 = .ok (.ifCond .eq 23, 3) := by decide +kernel
theorem dX8_buy_180 : decode cX8_buy 180 = .ok (.aload_n 0, 1) := by decide +kernel
theorem dX8_buy_181 : decode cX8_buy 181 = .ok (.getfield 84, 3) := by decide +kernel
theorem dX8_buy_184 : decode cX8_buy 184 = .ok (.bipush 6, 2) := by decide +kernel
theorem dX8_buy_186 : decode cX8_buy 186 = .ok (.iload_n 2, 1) := by decide +kernel
theorem dX8_buy_187 : decode cX8_buy 187 = .ok (.imul, 1) := by decide +kernel
theorem dX8_buy_188 : decode cX8_buy 188 = .ok (.iload_n 3, 1) := by decide +kernel
theorem dX8_buy_189 : decode cX8_buy 189 = .ok (.iadd, 1) := by decide +kernel
theorem dX8_buy_190 : decode cX8_buy 190 = .ok (.iaload, 1) := by decide +kernel
theorem dX8_buy_191 : decode cX8_buy 191 = .ok (.iload 4, 2) := by decide +kernel
theorem dX8_buy_193 : decode cX8_buy 193 = .ok (.if_icmp .lt 7, 3) := by decide +kernel
theorem dX8_buy_196 : decode cX8_buy 196 = .ok (.iconst 1, 1) := by decide +kernel
theorem dX8_buy_197 : decode cX8_buy 197 = .ok (.goto 4, 3) := by decide +kernel
theorem dX8_buy_200 : decode cX8_buy 200 = .ok (.iconst 0, 1) := by decide +kernel
theorem dX8_buy_201 : decode cX8_buy 201 = .ok (.iconst 3, 1) := by decide +kernel
theorem dX8_buy_202 : decode cX8_buy 202 = .ok (.invokevirtual 137, 3) := by decide +kernel
theorem dX8_buy_205 : decode cX8_buy 205 = .ok (.ifCond .eq 5, 3) := by decide +kernel
theorem dX8_buy_208 : decode cX8_buy 208 = .ok (.iconst 0, 1) := by decide +kernel
theorem dX8_buy_209 : decode cX8_buy 209 = .ok (.ireturn, 1) := by decide +kernel
theorem dX8_buy_210 : decode cX8_buy 210 = .ok (.aload_n 0, 1) := by decide +kernel
theorem dX8_buy_211 : decode cX8_buy 211 = .ok (.getfield 84, 3) := by decide +kernel
theorem dX8_buy_214 : decode cX8_buy 214 = .ok (.bipush 6, 2) := by decide +kernel
theorem dX8_buy_216 : decode cX8_buy 216 = .ok (.iload_n 2, 1) := by decide +kernel
theorem dX8_buy_217 : decode cX8_buy 217 = .ok (.imul, 1) := by decide +kernel
theorem dX8_buy_218 : decode cX8_buy 218 = .ok (.iload_n 3, 1) := by decide +kernel
theorem dX8_buy_219 : decode cX8_buy 219 = .ok (.iadd, 1) := by decide +kernel
theorem dX8_buy_220 : decode cX8_buy 220 = .ok (.dup2, 1) := by decide +kernel
theorem dX8_buy_221 : decode cX8_buy 221 = .ok (.iaload, 1) := by decide +kernel
theorem dX8_buy_222 : decode cX8_buy 222 = .ok (.iload 4, 2) := by decide +kernel
theorem dX8_buy_224 : decode cX8_buy 224 = .ok (.isub, 1) := by decide +kernel
theorem dX8_buy_225 : decode cX8_buy 225 = .ok (.iastore, 1) := by decide +kernel
theorem dX8_buy_226 : decode cX8_buy 226 = .ok (.aload_n 0, 1) := by decide +kernel
theorem dX8_buy_227 : decode cX8_buy 227 = .ok (.getfield 29, 3) := by decide +kernel
theorem dX8_buy_230 : decode cX8_buy 230 = .ok (.iload_n 3, 1) := by decide +kernel
theorem dX8_buy_231 : decode cX8_buy 231 = .ok (.dup2, 1) := by decide +kernel
theorem dX8_buy_232 : decode cX8_buy 232 = .ok (.iaload, 1) := by decide +kernel
theorem dX8_buy_233 : decode cX8_buy 233 = .ok (.iload 4, 2) := by decide +kernel
theorem dX8_buy_235 : decode cX8_buy 235 = .ok (.iadd, 1) := by decide +kernel
theorem dX8_buy_236 : decode cX8_buy 236 = .ok (.iastore, 1) := by decide +kernel
theorem dX8_buy_237 : decode cX8_buy 237 = .ok (.aload_n 0, 1) := by decide +kernel
theorem dX8_buy_238 : decode cX8_buy 238 = .ok (.iload_n 1, 1) := by decide +kernel
theorem dX8_buy_239 : decode cX8_buy 239 = .ok (.iload_n 3, 1) := by decide +kernel
theorem dX8_buy_240 : decode cX8_buy 240 = .ok (.iload 4, 2) := by decide +kernel
theorem dX8_buy_242 : decode cX8_buy 242 = .ok (.invokevirtual 186, 3) := by decide +kernel
theorem dX8_buy_245 : decode cX8_buy 245 = .ok (.aload_n 0, 1) := by decide +kernel
theorem dX8_buy_246 : decode cX8_buy 246 = .ok (.getfield 53, 3) := by decide +kernel
theorem dX8_buy_249 : decode cX8_buy 249 = .ok (.iload_n 1, 1) := by decide +kernel
theorem dX8_buy_250 : decode cX8_buy 250 = .ok (.dup2, 1) := by decide +kernel
theorem dX8_buy_251 : decode cX8_buy 251 = .ok (.iaload, 1) := by decide +kernel
theorem dX8_buy_252 : decode cX8_buy 252 = .ok (.iload 5, 2) := by decide +kernel
theorem dX8_buy_254 : decode cX8_buy 254 = .ok (.iadd, 1) := by decide +kernel
theorem dX8_buy_255 : decode cX8_buy 255 = .ok (.iastore, 1) := by decide +kernel
theorem dX8_buy_256 : decode cX8_buy 256 = .ok (.aload_n 0, 1) := by decide +kernel
theorem dX8_buy_257 : decode cX8_buy 257 = .ok (.getfield 16, 3) := by decide +kernel
theorem dX8_buy_260 : decode cX8_buy 260 = .ok (.iload_n 3, 1) := by decide +kernel
theorem dX8_buy_261 : decode cX8_buy 261 = .ok (.iaload, 1) := by decide +kernel
theorem dX8_buy_262 : decode cX8_buy 262 = .ok (.iconst 2, 1) := by decide +kernel
theorem dX8_buy_263 : decode cX8_buy 263 = .ok (.if_icmp .ne 5, 3) := by decide +kernel
theorem dX8_buy_266 : decode cX8_buy 266 = .ok (.iconst (-1), 1) := by decide +kernel
theorem dX8_buy_267 : decode cX8_buy 267 = .ok (.ireturn, 1) := by decide +kernel
theorem dX8_buy_268 : decode cX8_buy 268 = .ok (.aload_n 0, 1) := by decide +kernel
theorem dX8_buy_269 : decode cX8_buy 269 = .ok (.getfield 87, 3) := by decide +kernel
theorem dX8_buy_272 : decode cX8_buy 272 = .ok (.bipush 6, 2) := by decide +kernel
theorem dX8_buy_274 : decode cX8_buy 274 = .ok (.iload_n 2, 1) := by decide +kernel
theorem dX8_buy_275 : decode cX8_buy 275 = .ok (.imul, 1) := by decide +kernel
theorem dX8_buy_276 : decode cX8_buy 276 = .ok (.iload_n 3, 1) := by decide +kernel
theorem dX8_buy_277 : decode cX8_buy 277 = .ok (.iadd, 1) := by decide +kernel
theorem dX8_buy_278 : decode cX8_buy 278 = .ok (.dup2, 1) := by decide +kernel
theorem dX8_buy_279 : decode cX8_buy 279 = .ok (.iaload, 1) := by decide +kernel
theorem dX8_buy_280 : decode cX8_buy 280 = .ok (.iload 4, 2) := by decide +kernel
theorem dX8_buy_282 : decode cX8_buy 282 = .ok (.iadd, 1) := by decide +kernel
theorem dX8_buy_283 : decode cX8_buy 283 = .ok (.iastore, 1) := by decide +kernel
theorem dX8_buy_284 : decode cX8_buy 284 = .ok (.aload_n 0, 1) := by decide +kernel
theorem dX8_buy_285 : decode cX8_buy 285 = .ok (.getfield 16, 3) := by decide +kernel
theorem dX8_buy_288 : decode cX8_buy 288 = .ok (.iload_n 3, 1) := by decide +kernel
theorem dX8_buy_289 : decode cX8_buy 289 = .ok (.iaload, 1) := by decide +kernel
theorem dX8_buy_290 : decode cX8_buy 290 = .ok (.iconst 1, 1) := by decide +kernel
theorem dX8_buy_291 : decode cX8_buy 291 = .ok (.if_icmp .ne 9, 3) := by decide +kernel
theorem dX8_buy_294 : decode cX8_buy 294 = .ok (.aload_n 0, 1) := by decide +kernel
theorem dX8_buy_295 : decode cX8_buy 295 = .ok (.iload_n 1, 1) := by decide +kernel
theorem dX8_buy_296 : decode cX8_buy 296 = .ok (.invokevirtual 164, 3) := by decide +kernel
theorem dX8_buy_299 : decode cX8_buy 299 = .ok (.ireturn, 1) := by decide +kernel
theorem dX8_buy_300 : decode cX8_buy 300 = .ok (.aload_n 0, 1) := by decide +kernel
theorem dX8_buy_301 : decode cX8_buy 301 = .ok (.getfield 63, 3) := by decide +kernel
theorem dX8_buy_304 : decode cX8_buy 304 = .ok (.bipush 6, 2) := by decide +kernel
theorem dX8_buy_306 : decode cX8_buy 306 = .ok (.iload_n 1, 1) := by decide +kernel
theorem dX8_buy_307 : decode cX8_buy 307 = .ok (.imul, 1) := by decide +kernel
theorem dX8_buy_308 : decode cX8_buy 308 = .ok (.iload_n 3, 1) := by decide +kernel
theorem dX8_buy_309 : decode cX8_buy 309 = .ok (.iadd, 1) := by decide +kernel
theorem dX8_buy_310 : decode cX8_buy 310 = .ok (.dup2, 1) := by decide +kernel
theorem dX8_buy_311 : decode cX8_buy 311 = .ok (.iaload, 1) := by decide +kernel
theorem dX8_buy_312 : decode cX8_buy 312 = .ok (.iload 4, 2) := by decide +kernel
theorem dX8_buy_314 : decode cX8_buy 314 = .ok (.iadd, 1) := by decide +kernel
theorem dX8_buy_315 : decode cX8_buy 315 = .ok (.iastore, 1) := by decide +kernel
theorem dX8_buy_316 : decode cX8_buy 316 = .ok (.aload_n 0, 1) := by decide +kernel
theorem dX8_buy_317 : decode cX8_buy 317 = .ok (.getfield 66, 3) := by decide +kernel
theorem dX8_buy_320 : decode cX8_buy 320 = .ok (.aload_n 0, 1) := by decide +kernel
theorem dX8_buy_321 : decode cX8_buy 321 = .ok (.getfield 170, 3) := by decide +kernel
theorem dX8_buy_324 : decode cX8_buy 324 = .ok (.iload_n 1, 1) := by decide +kernel
theorem dX8_buy_325 : decode cX8_buy 325 = .ok (.iastore, 1) := by decide +kernel
theorem dX8_buy_326 : decode cX8_buy 326 = .ok (.aload_n 0, 1) := by decide +kernel
theorem dX8_buy_327 : decode cX8_buy 327 = .ok (.getfield 69, 3) := by decide +kernel
theorem dX8_buy_330 : decode cX8_buy 330 = .ok (.aload_n 0, 1) := by decide +kernel
theorem dX8_buy_331 : decode cX8_buy 331 = .ok (.getfield 170, 3) := by decide +kernel
theorem dX8_buy_334 : decode cX8_buy 334 = .ok (.iload_n 3, 1) := by decide +kernel
theorem dX8_buy_335 : decode cX8_buy 335 = .ok (.iastore, 1) := by decide +kernel
theorem dX8_buy_336 : decode cX8_buy 336 = .ok (.aload_n 0, 1) := by decide +kernel
theorem dX8_buy_337 : decode cX8_buy 337 = .ok (.getfield 72, 3) := by decide +kernel
theorem dX8_buy_340 : decode cX8_buy 340 = .ok (.aload_n 0, 1) := by decide +kernel
theorem dX8_buy_341 : decode cX8_buy 341 = .ok (.getfield 170, 3) := by decide +kernel
theorem dX8_buy_344 : decode cX8_buy 344 = .ok (.iload 4, 2) := by decide +kernel
theorem dX8_buy_346 : decode cX8_buy 346 = .ok (.iastore, 1) := by decide +kernel
theorem dX8_buy_347 : decode cX8_buy 347 = .ok (.aload_n 0, 1) := by decide +kernel
theorem dX8_buy_348 : decode cX8_buy 348 = .ok (.dup, 1) := by decide +kernel
theorem dX8_buy_349 : decode cX8_buy 349 = .ok (.getfield 170, 3) := by decide +kernel
theorem dX8_buy_352 : decode cX8_buy 352 = .ok (.iconst 1, 1) := by decide +kernel
theorem dX8_buy_353 : decode cX8_buy 353 = .ok (.iadd, 1) := by decide +kernel
theorem dX8_buy_354 : decode cX8_buy 354 = .ok (.putfield 170, 3) := by decide +kernel
theorem dX8_buy_357 : decode cX8_buy 357 = .ok (.aload_n 0, 1) := by decide +kernel
theorem dX8_buy_358 : decode cX8_buy 358 = .ok (.iload_n 1, 1) := by decide +kernel
theorem dX8_buy_359 : decode cX8_buy 359 = .ok (.iload_n 3, 1) := by decide +kernel
theorem dX8_buy_360 : decode cX8_buy 360 = .ok (.invokevirtual 167, 3) := by decide +kernel
theorem dX8_buy_363 : decode cX8_buy 363 = .ok (.ireturn, 1) := by decide +kernel
def zb_X8_buy_201 : ZP := (z_push 3 (z_invV 8 2 sp_X8_fails (z_if (fun x => x = 0) (z_ald 0 (z_gf 8 30 (z_push 6 (z_ild 2 (z_bin (fun x y => x * y) (z_ild 3 (z_bin (fun x y => x + y) (z_dup2 (z_iald (z_ild 4 (z_bin (fun x y => x - y) (z_iast (z_ald 0 (z_gf 8 8 (z_ild 3 (z_dup2 (z_iald (z_ild 4 (z_bin (fun x y => x + y) (z_iast (z_ald 0 (z_ild 1 (z_ild 3 (z_ild 4 (z_invV 8 3 sp_X8_eat (z_ald 0 (z_gf 8 17 (z_ild 1 (z_dup2 (z_iald (z_ild 5 (z_bin (fun x y => x + y) (z_iast (z_ald 0 (z_gf 8 4 (z_ild 3 (z_iald (z_push 2 (z_cmp (fun x y => x = y) (z_push (-1) (z_ret 1)) (z_ald 0 (z_gf 8 31 (z_push 6 (z_ild 2 (z_bin (fun x y => x * y) (z_ild 3 (z_bin (fun x y => x + y) (z_dup2 (z_iald (z_ild 4 (z_bin (fun x y => x + y) (z_iast (z_ald 0 (z_gf 8 4 (z_ild 3 (z_iald (z_push 1 (z_cmp (fun x y => x = y) (z_ald 0 (z_ild 1 (z_invV 8 1 sp_X8_pointsOf (z_ret 1)))) (z_ald 0 (z_gf 8 20 (z_push 6 (z_ild 1 (z_bin (fun x y => x * y) (z_ild 3 (z_bin (fun x y => x + y) (z_dup2 (z_iald (z_ild 4 (z_bin (fun x y => x + y) (z_iast (z_ald 0 (z_gf 8 22 (z_ald 0 (z_gf 8 21 (z_ild 1 (z_iast (z_ald 0 (z_gf 8 23 (z_ald 0 (z_gf 8 21 (z_ild 3 (z_iast (z_ald 0 (z_gf 8 24 (z_ald 0 (z_gf 8 21 (z_ild 4 (z_iast (z_ald 0 (z_dup (z_gf 8 21 (z_push 1 (z_bin (fun x y => x + y) (z_pf 8 21 (z_ald 0 (z_ild 1 (z_ild 3 (z_invV 8 2 sp_X8_leftOf (z_ret 1)))))))))))))))))))))))))))))))))))))))))))))))))))))))))))))))))))))))))))))))))))))))))))))))))) (z_push 0 (z_ret 1)))))
set_option maxRecDepth 20000 in
theorem zk_X8_buy_201 {X : ZX} (C : zCx X cX8_buy RX8 (some .int) 3 65 1 6) (hn : X.nL = 7) : ZOK X 201 (zb_X8_buy_201) := by
  unfold zb_X8_buy_201
  refine z_iconst_ok (pc := 201) (v := 3) C.hx C.hb dX8_buy_201 (by decide) ?_
  refine z_invV_ok (pc := 202) C (by decide +kernel) (zm_X8_fails X.l C.htr) ⟨rfl, rfl⟩ ⟨by decide, by decide⟩ (by decide) (by decide) zcl_X8_137 zw_1016 zw_25 zK8 dX8_buy_202 ?_
  refine z_if_eq_ok (pc := 205) (tgt := 210) C.hx C.hb dX8_buy_205 (by decide) ?_ ?_
  · refine z_aload_n_ok (pc := 210) (i := 0) C.hx C.hb dX8_buy_210 rfl ?_
    refine z_gf_ok (pc := 211) C zK8 (f := 30) (by decide) zw_887 rfl dX8_buy_211 ?_
    refine z_bipush_ok (pc := 214) (v := 6) C.hx C.hb dX8_buy_214 (by decide) ?_
    refine z_iload_n_ok (pc := 216) (i := 2) C.hx C.hb dX8_buy_216 rfl ?_
    refine z_imul_ok (pc := 217) C.hx C.hb dX8_buy_217 ?_
    refine z_iload_n_ok (pc := 218) (i := 3) C.hx C.hb dX8_buy_218 rfl ?_
    refine z_iadd_ok (pc := 219) C.hx C.hb dX8_buy_219 ?_
    refine z_dup2_ok (pc := 220) C.hx C.hb dX8_buy_220 ?_
    refine z_iald_ok (pc := 221) C dX8_buy_221 ?_
    refine z_iload_ok (pc := 222) (i := 4) C.hx C.hb dX8_buy_222 ?_
    refine z_isub_ok (pc := 224) C.hx C.hb dX8_buy_224 ?_
    refine z_iast_ok (pc := 225) C dX8_buy_225 ?_
    refine z_aload_n_ok (pc := 226) (i := 0) C.hx C.hb dX8_buy_226 rfl ?_
    refine z_gf_ok (pc := 227) C zK8 (f := 8) (by decide) zw_865 rfl dX8_buy_227 ?_
    refine z_iload_n_ok (pc := 230) (i := 3) C.hx C.hb dX8_buy_230 rfl ?_
    refine z_dup2_ok (pc := 231) C.hx C.hb dX8_buy_231 ?_
    refine z_iald_ok (pc := 232) C dX8_buy_232 ?_
    refine z_iload_ok (pc := 233) (i := 4) C.hx C.hb dX8_buy_233 ?_
    refine z_iadd_ok (pc := 235) C.hx C.hb dX8_buy_235 ?_
    refine z_iast_ok (pc := 236) C dX8_buy_236 ?_
    refine z_aload_n_ok (pc := 237) (i := 0) C.hx C.hb dX8_buy_237 rfl ?_
    refine z_iload_n_ok (pc := 238) (i := 1) C.hx C.hb dX8_buy_238 rfl ?_
    refine z_iload_n_ok (pc := 239) (i := 3) C.hx C.hb dX8_buy_239 rfl ?_
    refine z_iload_ok (pc := 240) (i := 4) C.hx C.hb dX8_buy_240 ?_
    refine z_invV_ok (pc := 242) C (by decide +kernel) (zm_X8_eat X.l C.htr) ⟨rfl, rfl⟩ ⟨by decide, by decide⟩ (by decide) (by decide) zcl_X8_186 zw_1136 zw_35 zK8 dX8_buy_242 ?_
    refine z_aload_n_ok (pc := 245) (i := 0) C.hx C.hb dX8_buy_245 rfl ?_
    refine z_gf_ok (pc := 246) C zK8 (f := 17) (by decide) zw_874 rfl dX8_buy_246 ?_
    refine z_iload_n_ok (pc := 249) (i := 1) C.hx C.hb dX8_buy_249 rfl ?_
    refine z_dup2_ok (pc := 250) C.hx C.hb dX8_buy_250 ?_
    refine z_iald_ok (pc := 251) C dX8_buy_251 ?_
    refine z_iload_ok (pc := 252) (i := 5) C.hx C.hb dX8_buy_252 ?_
    refine z_iadd_ok (pc := 254) C.hx C.hb dX8_buy_254 ?_
    refine z_iast_ok (pc := 255) C dX8_buy_255 ?_
    refine z_aload_n_ok (pc := 256) (i := 0) C.hx C.hb dX8_buy_256 rfl ?_
    refine z_gf_ok (pc := 257) C zK8 (f := 4) (by decide) zw_861 rfl dX8_buy_257 ?_
    refine z_iload_n_ok (pc := 260) (i := 3) C.hx C.hb dX8_buy_260 rfl ?_
    refine z_iald_ok (pc := 261) C dX8_buy_261 ?_
    refine z_iconst_ok (pc := 262) (v := 2) C.hx C.hb dX8_buy_262 (by decide) ?_
    refine z_icmp_ne_ok (pc := 263) (tgt := 268) C.hx C.hb dX8_buy_263 (by decide) ?_ ?_
    · refine z_aload_n_ok (pc := 268) (i := 0) C.hx C.hb dX8_buy_268 rfl ?_
      refine z_gf_ok (pc := 269) C zK8 (f := 31) (by decide) zw_888 rfl dX8_buy_269 ?_
      refine z_bipush_ok (pc := 272) (v := 6) C.hx C.hb dX8_buy_272 (by decide) ?_
      refine z_iload_n_ok (pc := 274) (i := 2) C.hx C.hb dX8_buy_274 rfl ?_
      refine z_imul_ok (pc := 275) C.hx C.hb dX8_buy_275 ?_
      refine z_iload_n_ok (pc := 276) (i := 3) C.hx C.hb dX8_buy_276 rfl ?_
      refine z_iadd_ok (pc := 277) C.hx C.hb dX8_buy_277 ?_
      refine z_dup2_ok (pc := 278) C.hx C.hb dX8_buy_278 ?_
      refine z_iald_ok (pc := 279) C dX8_buy_279 ?_
      refine z_iload_ok (pc := 280) (i := 4) C.hx C.hb dX8_buy_280 ?_
      refine z_iadd_ok (pc := 282) C.hx C.hb dX8_buy_282 ?_
      refine z_iast_ok (pc := 283) C dX8_buy_283 ?_
      refine z_aload_n_ok (pc := 284) (i := 0) C.hx C.hb dX8_buy_284 rfl ?_
      refine z_gf_ok (pc := 285) C zK8 (f := 4) (by decide) zw_861 rfl dX8_buy_285 ?_
      refine z_iload_n_ok (pc := 288) (i := 3) C.hx C.hb dX8_buy_288 rfl ?_
      refine z_iald_ok (pc := 289) C dX8_buy_289 ?_
      refine z_iconst_ok (pc := 290) (v := 1) C.hx C.hb dX8_buy_290 (by decide) ?_
      refine z_icmp_ne_ok (pc := 291) (tgt := 300) C.hx C.hb dX8_buy_291 (by decide) ?_ ?_
      · refine z_aload_n_ok (pc := 300) (i := 0) C.hx C.hb dX8_buy_300 rfl ?_
        refine z_gf_ok (pc := 301) C zK8 (f := 20) (by decide) zw_877 rfl dX8_buy_301 ?_
        refine z_bipush_ok (pc := 304) (v := 6) C.hx C.hb dX8_buy_304 (by decide) ?_
        refine z_iload_n_ok (pc := 306) (i := 1) C.hx C.hb dX8_buy_306 rfl ?_
        refine z_imul_ok (pc := 307) C.hx C.hb dX8_buy_307 ?_
        refine z_iload_n_ok (pc := 308) (i := 3) C.hx C.hb dX8_buy_308 rfl ?_
        refine z_iadd_ok (pc := 309) C.hx C.hb dX8_buy_309 ?_
        refine z_dup2_ok (pc := 310) C.hx C.hb dX8_buy_310 ?_
        refine z_iald_ok (pc := 311) C dX8_buy_311 ?_
        refine z_iload_ok (pc := 312) (i := 4) C.hx C.hb dX8_buy_312 ?_
        refine z_iadd_ok (pc := 314) C.hx C.hb dX8_buy_314 ?_
        refine z_iast_ok (pc := 315) C dX8_buy_315 ?_
        refine z_aload_n_ok (pc := 316) (i := 0) C.hx C.hb dX8_buy_316 rfl ?_
        refine z_gf_ok (pc := 317) C zK8 (f := 22) (by decide) zw_879 rfl dX8_buy_317 ?_
        refine z_aload_n_ok (pc := 320) (i := 0) C.hx C.hb dX8_buy_320 rfl ?_
        refine z_gf_ok (pc := 321) C zK8 (f := 21) (by decide) zw_878 rfl dX8_buy_321 ?_
        refine z_iload_n_ok (pc := 324) (i := 1) C.hx C.hb dX8_buy_324 rfl ?_
        refine z_iast_ok (pc := 325) C dX8_buy_325 ?_
        refine z_aload_n_ok (pc := 326) (i := 0) C.hx C.hb dX8_buy_326 rfl ?_
        refine z_gf_ok (pc := 327) C zK8 (f := 23) (by decide) zw_880 rfl dX8_buy_327 ?_
        refine z_aload_n_ok (pc := 330) (i := 0) C.hx C.hb dX8_buy_330 rfl ?_
        refine z_gf_ok (pc := 331) C zK8 (f := 21) (by decide) zw_878 rfl dX8_buy_331 ?_
        refine z_iload_n_ok (pc := 334) (i := 3) C.hx C.hb dX8_buy_334 rfl ?_
        refine z_iast_ok (pc := 335) C dX8_buy_335 ?_
        refine z_aload_n_ok (pc := 336) (i := 0) C.hx C.hb dX8_buy_336 rfl ?_
        refine z_gf_ok (pc := 337) C zK8 (f := 24) (by decide) zw_881 rfl dX8_buy_337 ?_
        refine z_aload_n_ok (pc := 340) (i := 0) C.hx C.hb dX8_buy_340 rfl ?_
        refine z_gf_ok (pc := 341) C zK8 (f := 21) (by decide) zw_878 rfl dX8_buy_341 ?_
        refine z_iload_ok (pc := 344) (i := 4) C.hx C.hb dX8_buy_344 ?_
        refine z_iast_ok (pc := 346) C dX8_buy_346 ?_
        refine z_aload_n_ok (pc := 347) (i := 0) C.hx C.hb dX8_buy_347 rfl ?_
        refine z_dup_ok (pc := 348) C.hx C.hb dX8_buy_348 ?_
        refine z_gf_ok (pc := 349) C zK8 (f := 21) (by decide) zw_878 rfl dX8_buy_349 ?_
        refine z_iconst_ok (pc := 352) (v := 1) C.hx C.hb dX8_buy_352 (by decide) ?_
        refine z_iadd_ok (pc := 353) C.hx C.hb dX8_buy_353 ?_
        refine z_pf_ok (pc := 354) C zK8 rfl rfl (f := 21) (by decide) zw_878 rfl rfl (by decide +kernel) dX8_buy_354 ?_
        refine z_aload_n_ok (pc := 357) (i := 0) C.hx C.hb dX8_buy_357 rfl ?_
        refine z_iload_n_ok (pc := 358) (i := 1) C.hx C.hb dX8_buy_358 rfl ?_
        refine z_iload_n_ok (pc := 359) (i := 3) C.hx C.hb dX8_buy_359 rfl ?_
        refine z_invV_ok (pc := 360) C (by decide +kernel) (zm_X8_leftOf X.l C.htr) ⟨rfl, rfl⟩ ⟨by decide, by decide⟩ (by decide) (by decide) zcl_X8_167 zw_1092 zw_32 zK8 dX8_buy_360 ?_
        exact z_iret_ok (pc := 363) C dX8_buy_363
      · refine z_aload_n_ok (pc := 294) (i := 0) C.hx C.hb dX8_buy_294 rfl ?_
        refine z_iload_n_ok (pc := 295) (i := 1) C.hx C.hb dX8_buy_295 rfl ?_
        refine z_invV_ok (pc := 296) C (by decide +kernel) (zm_X8_pointsOf X.l C.htr) ⟨rfl, rfl⟩ ⟨by decide, by decide⟩ (by decide) (by decide) zcl_X8_164 zw_1076 zw_31 zK8 dX8_buy_296 ?_
        exact z_iret_ok (pc := 299) C dX8_buy_299
    · refine z_iconst_ok (pc := 266) (v := -1) C.hx C.hb dX8_buy_266 (by decide) ?_
      exact z_iret_ok (pc := 267) C dX8_buy_267
  · refine z_iconst_ok (pc := 208) (v := 0) C.hx C.hb dX8_buy_208 (by decide) ?_
    exact z_iret_ok (pc := 209) C dX8_buy_209
def zb_X8_buy_200 : ZP := (z_push 0 zb_X8_buy_201)
set_option maxRecDepth 20000 in
theorem zk_X8_buy_200 {X : ZX} (C : zCx X cX8_buy RX8 (some .int) 3 65 1 6) (hn : X.nL = 7) : ZOK X 200 (zb_X8_buy_200) := by
  unfold zb_X8_buy_200
  refine z_iconst_ok (pc := 200) (v := 0) C.hx C.hb dX8_buy_200 (by decide) ?_
  exact zk_X8_buy_201 C hn 
def zb_X8_buy_164 : ZP := (z_ist 6 (z_ald 0 (z_ald 0 (z_ild 1 (z_invV 8 1 sp_X8_isDead (z_if (fun x => x = 0) (z_ild 6 (z_if (fun x => x = 0) zb_X8_buy_200 (z_ald 0 (z_gf 8 30 (z_push 6 (z_ild 2 (z_bin (fun x y => x * y) (z_ild 3 (z_bin (fun x y => x + y) (z_iald (z_ild 4 (z_cmp (fun x y => x < y) zb_X8_buy_200 (z_push 1 zb_X8_buy_201))))))))))))) zb_X8_buy_200))))))
set_option maxRecDepth 20000 in
theorem zk_X8_buy_164 {X : ZX} (C : zCx X cX8_buy RX8 (some .int) 3 65 1 6) (hn : X.nL = 7) : ZOK X 164 (zb_X8_buy_164) := by
  unfold zb_X8_buy_164
  refine z_istore_ok (pc := 164) (i := 6) C.hx C.hb dX8_buy_164 (zlt hn (by decide)) ?_
  refine z_aload_n_ok (pc := 166) (i := 0) C.hx C.hb dX8_buy_166 rfl ?_
  refine z_aload_n_ok (pc := 167) (i := 0) C.hx C.hb dX8_buy_167 rfl ?_
  refine z_iload_n_ok (pc := 168) (i := 1) C.hx C.hb dX8_buy_168 rfl ?_
  refine z_invV_ok (pc := 169) C (by decide +kernel) (zm_X8_isDead X.l C.htr) ⟨rfl, rfl⟩ ⟨by decide, by decide⟩ (by decide) (by decide) zcl_X8_151 zw_1060 zw_29 zK8 dX8_buy_169 ?_
  refine z_if_ne_ok (pc := 172) (tgt := 200) C.hx C.hb dX8_buy_172 (by decide) ?_ ?_
  · exact zk_X8_buy_200 C hn 
  · refine z_iload_ok (pc := 175) (i := 6) C.hx C.hb dX8_buy_175 ?_
    refine z_if_eq_ok (pc := 177) (tgt := 200) C.hx C.hb dX8_buy_177 (by decide) ?_ ?_
    · exact zk_X8_buy_200 C hn 
    · refine z_aload_n_ok (pc := 180) (i := 0) C.hx C.hb dX8_buy_180 rfl ?_
      refine z_gf_ok (pc := 181) C zK8 (f := 30) (by decide) zw_887 rfl dX8_buy_181 ?_
      refine z_bipush_ok (pc := 184) (v := 6) C.hx C.hb dX8_buy_184 (by decide) ?_
      refine z_iload_n_ok (pc := 186) (i := 2) C.hx C.hb dX8_buy_186 rfl ?_
      refine z_imul_ok (pc := 187) C.hx C.hb dX8_buy_187 ?_
      refine z_iload_n_ok (pc := 188) (i := 3) C.hx C.hb dX8_buy_188 rfl ?_
      refine z_iadd_ok (pc := 189) C.hx C.hb dX8_buy_189 ?_
      refine z_iald_ok (pc := 190) C dX8_buy_190 ?_
      refine z_iload_ok (pc := 191) (i := 4) C.hx C.hb dX8_buy_191 ?_
      refine z_icmp_lt_ok (pc := 193) (tgt := 200) C.hx C.hb dX8_buy_193 (by decide) ?_ ?_
      · exact zk_X8_buy_200 C hn 
      · refine z_iconst_ok (pc := 196) (v := 1) C.hx C.hb dX8_buy_196 (by decide) ?_
        refine z_goto_ok (pc := 197) (tgt := 201) C.hx C.hb dX8_buy_197 (by decide) ?_
        exact zk_X8_buy_201 C hn 
def zb_X8_buy_145 : ZP := (z_push 0 zb_X8_buy_164)
set_option maxRecDepth 20000 in
theorem zk_X8_buy_145 {X : ZX} (C : zCx X cX8_buy RX8 (some .int) 3 65 1 6) (hn : X.nL = 7) : ZOK X 145 (zb_X8_buy_145) := by
  unfold zb_X8_buy_145
  refine z_iconst_ok (pc := 145) (v := 0) C.hx C.hb dX8_buy_145 (by decide) ?_
  refine z_goto_ok (pc := 146) (tgt := 164) C.hx C.hb dX8_buy_146 (by decide) ?_
  exact zk_X8_buy_164 C hn 
def zb_X8_buy_109 : ZP := (z_ist 5 (z_ald 0 (z_gf 8 4 (z_ild 3 (z_iald (z_if (fun x => x = 0) (z_ild 2 (z_ald 0 (z_gf 8 12 (z_ild 1 (z_iald (z_cmp (fun x y => x = y) (z_ild 4 (z_ald 0 (z_ild 1 (z_ild 3 (z_invV 8 2 sp_X8_leftOf (z_cmp (fun x y => y < x) zb_X8_buy_145 (z_push 1 zb_X8_buy_164))))))) zb_X8_buy_145)))))) (z_ild 5 (z_ald 0 (z_ild 1 (z_invV 8 1 sp_X8_pointsOf (z_cmp (fun x y => y < x) (z_push 0 zb_X8_buy_164) (z_push 1 zb_X8_buy_164))))))))))))
set_option maxRecDepth 20000 in
theorem zk_X8_buy_109 {X : ZX} (C : zCx X cX8_buy RX8 (some .int) 3 65 1 6) (hn : X.nL = 7) : ZOK X 109 (zb_X8_buy_109) := by
  unfold zb_X8_buy_109
  refine z_istore_ok (pc := 109) (i := 5) C.hx C.hb dX8_buy_109 (zlt hn (by decide)) ?_
  refine z_aload_n_ok (pc := 111) (i := 0) C.hx C.hb dX8_buy_111 rfl ?_
  refine z_gf_ok (pc := 112) C zK8 (f := 4) (by decide) zw_861 rfl dX8_buy_112 ?_
  refine z_iload_n_ok (pc := 115) (i := 3) C.hx C.hb dX8_buy_115 rfl ?_
  refine z_iald_ok (pc := 116) C dX8_buy_116 ?_
  refine z_if_ne_ok (pc := 117) (tgt := 149) C.hx C.hb dX8_buy_117 (by decide) ?_ ?_
  · refine z_iload_ok (pc := 149) (i := 5) C.hx C.hb dX8_buy_149 ?_
    refine z_aload_n_ok (pc := 151) (i := 0) C.hx C.hb dX8_buy_151 rfl ?_
    refine z_iload_n_ok (pc := 152) (i := 1) C.hx C.hb dX8_buy_152 rfl ?_
    refine z_invV_ok (pc := 153) C (by decide +kernel) (zm_X8_pointsOf X.l C.htr) ⟨rfl, rfl⟩ ⟨by decide, by decide⟩ (by decide) (by decide) zcl_X8_164 zw_1076 zw_31 zK8 dX8_buy_153 ?_
    refine z_icmp_gt_ok (pc := 156) (tgt := 163) C.hx C.hb dX8_buy_156 (by decide) ?_ ?_
    · refine z_iconst_ok (pc := 163) (v := 0) C.hx C.hb dX8_buy_163 (by decide) ?_
      exact zk_X8_buy_164 C hn 
    · refine z_iconst_ok (pc := 159) (v := 1) C.hx C.hb dX8_buy_159 (by decide) ?_
      refine z_goto_ok (pc := 160) (tgt := 164) C.hx C.hb dX8_buy_160 (by decide) ?_
      exact zk_X8_buy_164 C hn 
  · refine z_iload_n_ok (pc := 120) (i := 2) C.hx C.hb dX8_buy_120 rfl ?_
    refine z_aload_n_ok (pc := 121) (i := 0) C.hx C.hb dX8_buy_121 rfl ?_
    refine z_gf_ok (pc := 122) C zK8 (f := 12) (by decide) zw_869 rfl dX8_buy_122 ?_
    refine z_iload_n_ok (pc := 125) (i := 1) C.hx C.hb dX8_buy_125 rfl ?_
    refine z_iald_ok (pc := 126) C dX8_buy_126 ?_
    refine z_icmp_ne_ok (pc := 127) (tgt := 145) C.hx C.hb dX8_buy_127 (by decide) ?_ ?_
    · exact zk_X8_buy_145 C hn 
    · refine z_iload_ok (pc := 130) (i := 4) C.hx C.hb dX8_buy_130 ?_
      refine z_aload_n_ok (pc := 132) (i := 0) C.hx C.hb dX8_buy_132 rfl ?_
      refine z_iload_n_ok (pc := 133) (i := 1) C.hx C.hb dX8_buy_133 rfl ?_
      refine z_iload_n_ok (pc := 134) (i := 3) C.hx C.hb dX8_buy_134 rfl ?_
      refine z_invV_ok (pc := 135) C (by decide +kernel) (zm_X8_leftOf X.l C.htr) ⟨rfl, rfl⟩ ⟨by decide, by decide⟩ (by decide) (by decide) zcl_X8_167 zw_1092 zw_32 zK8 dX8_buy_135 ?_
      refine z_icmp_gt_ok (pc := 138) (tgt := 145) C.hx C.hb dX8_buy_138 (by decide) ?_ ?_
      · exact zk_X8_buy_145 C hn 
      · refine z_iconst_ok (pc := 141) (v := 1) C.hx C.hb dX8_buy_141 (by decide) ?_
        refine z_goto_ok (pc := 142) (tgt := 164) C.hx C.hb dX8_buy_142 (by decide) ?_
        exact zk_X8_buy_164 C hn 
def zb_X8_buy_74 : ZP := (z_push 2 (z_invV 8 2 sp_X8_fails (z_if (fun x => x = 0) (z_ald 0 (z_gf 8 4 (z_ild 3 (z_iald (z_push 1 (z_cmp (fun x y => x = y) (z_ald 0 (z_gf 8 6 (z_ild 3 (z_iald (z_ild 4 (z_bin (fun x y => x * y) (z_push 100 (z_dvn (fun x y => x / y) zb_X8_buy_109)))))))) (z_push 0 zb_X8_buy_109))))))) (z_push 0 (z_ret 1)))))
set_option maxRecDepth 20000 in
theorem zk_X8_buy_74 {X : ZX} (C : zCx X cX8_buy RX8 (some .int) 3 65 1 6) (hn : X.nL = 7) : ZOK X 74 (zb_X8_buy_74) := by
  unfold zb_X8_buy_74
  refine z_iconst_ok (pc := 74) (v := 2) C.hx C.hb dX8_buy_74 (by decide) ?_
  refine z_invV_ok (pc := 75) C (by decide +kernel) (zm_X8_fails X.l C.htr) ⟨rfl, rfl⟩ ⟨by decide, by decide⟩ (by decide) (by decide) zcl_X8_137 zw_1016 zw_25 zK8 dX8_buy_75 ?_
  refine z_if_eq_ok (pc := 78) (tgt := 83) C.hx C.hb dX8_buy_78 (by decide) ?_ ?_
  · refine z_aload_n_ok (pc := 83) (i := 0) C.hx C.hb dX8_buy_83 rfl ?_
    refine z_gf_ok (pc := 84) C zK8 (f := 4) (by decide) zw_861 rfl dX8_buy_84 ?_
    refine z_iload_n_ok (pc := 87) (i := 3) C.hx C.hb dX8_buy_87 rfl ?_
    refine z_iald_ok (pc := 88) C dX8_buy_88 ?_
    refine z_iconst_ok (pc := 89) (v := 1) C.hx C.hb dX8_buy_89 (by decide) ?_
    refine z_icmp_ne_ok (pc := 90) (tgt := 108) C.hx C.hb dX8_buy_90 (by decide) ?_ ?_
    · refine z_iconst_ok (pc := 108) (v := 0) C.hx C.hb dX8_buy_108 (by decide) ?_
      exact zk_X8_buy_109 C hn 
    · refine z_aload_n_ok (pc := 93) (i := 0) C.hx C.hb dX8_buy_93 rfl ?_
      refine z_gf_ok (pc := 94) C zK8 (f := 6) (by decide) zw_863 rfl dX8_buy_94 ?_
      refine z_iload_n_ok (pc := 97) (i := 3) C.hx C.hb dX8_buy_97 rfl ?_
      refine z_iald_ok (pc := 98) C dX8_buy_98 ?_
      refine z_iload_ok (pc := 99) (i := 4) C.hx C.hb dX8_buy_99 ?_
      refine z_imul_ok (pc := 101) C.hx C.hb dX8_buy_101 ?_
      refine z_bipush_ok (pc := 102) (v := 100) C.hx C.hb dX8_buy_102 (by decide) ?_
      refine z_idiv_ok (pc := 104) C.hx C.hb dX8_buy_104 ?_
      refine z_goto_ok (pc := 105) (tgt := 109) C.hx C.hb dX8_buy_105 (by decide) ?_
      exact zk_X8_buy_109 C hn 
  · refine z_iconst_ok (pc := 81) (v := 0) C.hx C.hb dX8_buy_81 (by decide) ?_
    exact z_iret_ok (pc := 82) C dX8_buy_82
def zb_X8_buy_73 : ZP := (z_push 0 zb_X8_buy_74)
set_option maxRecDepth 20000 in
theorem zk_X8_buy_73 {X : ZX} (C : zCx X cX8_buy RX8 (some .int) 3 65 1 6) (hn : X.nL = 7) : ZOK X 73 (zb_X8_buy_73) := by
  unfold zb_X8_buy_73
  refine z_iconst_ok (pc := 73) (v := 0) C.hx C.hb dX8_buy_73 (by decide) ?_
  exact zk_X8_buy_74 C hn 
def zb_X8_buy_69 : ZP := (z_push 1 zb_X8_buy_74)
set_option maxRecDepth 20000 in
theorem zk_X8_buy_69 {X : ZX} (C : zCx X cX8_buy RX8 (some .int) 3 65 1 6) (hn : X.nL = 7) : ZOK X 69 (zb_X8_buy_69) := by
  unfold zb_X8_buy_69
  refine z_iconst_ok (pc := 69) (v := 1) C.hx C.hb dX8_buy_69 (by decide) ?_
  refine z_goto_ok (pc := 70) (tgt := 74) C.hx C.hb dX8_buy_70 (by decide) ?_
  exact zk_X8_buy_74 C hn 
def zb_X8_buy_29 : ZP := (z_push 1 (z_invV 8 2 sp_X8_fails (z_if (fun x => x = 0) (z_ald 0 (z_ild 4 (z_push 1 (z_push 9999 (z_invS 3 sp_X8_in (z_if (fun x => x = 0) zb_X8_buy_73 (z_ald 0 (z_gf 8 4 (z_ild 3 (z_iald (z_push 1 (z_cmp (fun x y => x = y) (z_ild 4 (z_push 100 (z_dvn (fun x y => x - x / y * y) (z_if (fun x => x = 0) zb_X8_buy_69 zb_X8_buy_73)))) zb_X8_buy_69)))))))))))) (z_push 0 (z_ret 1)))))
set_option maxRecDepth 20000 in
theorem zk_X8_buy_29 {X : ZX} (C : zCx X cX8_buy RX8 (some .int) 3 65 1 6) (hn : X.nL = 7) : ZOK X 29 (zb_X8_buy_29) := by
  unfold zb_X8_buy_29
  refine z_iconst_ok (pc := 29) (v := 1) C.hx C.hb dX8_buy_29 (by decide) ?_
  refine z_invV_ok (pc := 30) C (by decide +kernel) (zm_X8_fails X.l C.htr) ⟨rfl, rfl⟩ ⟨by decide, by decide⟩ (by decide) (by decide) zcl_X8_137 zw_1016 zw_25 zK8 dX8_buy_30 ?_
  refine z_if_eq_ok (pc := 33) (tgt := 38) C.hx C.hb dX8_buy_33 (by decide) ?_ ?_
  · refine z_aload_n_ok (pc := 38) (i := 0) C.hx C.hb dX8_buy_38 rfl ?_
    refine z_iload_ok (pc := 39) (i := 4) C.hx C.hb dX8_buy_39 ?_
    refine z_iconst_ok (pc := 41) (v := 1) C.hx C.hb dX8_buy_41 (by decide) ?_
    refine z_sipush_ok (pc := 42) (v := 9999) C.hx C.hb dX8_buy_42 (by decide) ?_
    refine z_invS_ok (pc := 45) C (by decide +kernel) (zm_X8_in X.l C.htr) ⟨rfl, rfl⟩ ⟨by decide, by decide⟩ (by decide) (by decide) zcl_X8_120 zw_1012 dX8_buy_45 ?_
    refine z_if_eq_ok (pc := 48) (tgt := 73) C.hx C.hb dX8_buy_48 (by decide) ?_ ?_
    · exact zk_X8_buy_73 C hn 
    · refine z_aload_n_ok (pc := 51) (i := 0) C.hx C.hb dX8_buy_51 rfl ?_
      refine z_gf_ok (pc := 52) C zK8 (f := 4) (by decide) zw_861 rfl dX8_buy_52 ?_
      refine z_iload_n_ok (pc := 55) (i := 3) C.hx C.hb dX8_buy_55 rfl ?_
      refine z_iald_ok (pc := 56) C dX8_buy_56 ?_
      refine z_iconst_ok (pc := 57) (v := 1) C.hx C.hb dX8_buy_57 (by decide) ?_
      refine z_icmp_ne_ok (pc := 58) (tgt := 69) C.hx C.hb dX8_buy_58 (by decide) ?_ ?_
      · exact zk_X8_buy_69 C hn 
      · refine z_iload_ok (pc := 61) (i := 4) C.hx C.hb dX8_buy_61 ?_
        refine z_bipush_ok (pc := 63) (v := 100) C.hx C.hb dX8_buy_63 (by decide) ?_
        refine z_irem_ok (pc := 65) C.hx C.hb dX8_buy_65 ?_
        refine z_if_ne_ok (pc := 66) (tgt := 73) C.hx C.hb dX8_buy_66 (by decide) ?_ ?_
        · exact zk_X8_buy_73 C hn 
        · exact zk_X8_buy_69 C hn 
  · refine z_iconst_ok (pc := 36) (v := 0) C.hx C.hb dX8_buy_36 (by decide) ?_
    exact z_iret_ok (pc := 37) C dX8_buy_37
def zb_X8_buy_28 : ZP := (z_push 0 zb_X8_buy_29)
set_option maxRecDepth 20000 in
theorem zk_X8_buy_28 {X : ZX} (C : zCx X cX8_buy RX8 (some .int) 3 65 1 6) (hn : X.nL = 7) : ZOK X 28 (zb_X8_buy_28) := by
  unfold zb_X8_buy_28
  refine z_iconst_ok (pc := 28) (v := 0) C.hx C.hb dX8_buy_28 (by decide) ?_
  exact zk_X8_buy_29 C hn 
def zb_X8_buy_0 : ZP := (z_ald 0 (z_ald 0 (z_ild 1 (z_invV 8 1 sp_X8_isOne (z_if (fun x => x = 0) zb_X8_buy_28 (z_ald 0 (z_ild 2 (z_invV 8 1 sp_X8_isShop (z_if (fun x => x = 0) zb_X8_buy_28 (z_ild 3 (z_invS 1 sp_X8_isGood (z_if (fun x => x = 0) zb_X8_buy_28 (z_push 1 zb_X8_buy_29)))))))))))))
set_option maxRecDepth 20000 in
theorem zk_X8_buy_0 {X : ZX} (C : zCx X cX8_buy RX8 (some .int) 3 65 1 6) (hn : X.nL = 7) : ZOK X 0 (zb_X8_buy_0) := by
  unfold zb_X8_buy_0
  refine z_aload_n_ok (pc := 0) (i := 0) C.hx C.hb dX8_buy_0 rfl ?_
  refine z_aload_n_ok (pc := 1) (i := 0) C.hx C.hb dX8_buy_1 rfl ?_
  refine z_iload_n_ok (pc := 2) (i := 1) C.hx C.hb dX8_buy_2 rfl ?_
  refine z_invV_ok (pc := 3) C (by decide +kernel) (zm_X8_isOne X.l C.htr) ⟨rfl, rfl⟩ ⟨by decide, by decide⟩ (by decide) (by decide) zcl_X8_148 zw_1056 zw_28 zK8 dX8_buy_3 ?_
  refine z_if_eq_ok (pc := 6) (tgt := 28) C.hx C.hb dX8_buy_6 (by decide) ?_ ?_
  · exact zk_X8_buy_28 C hn 
  · refine z_aload_n_ok (pc := 9) (i := 0) C.hx C.hb dX8_buy_9 rfl ?_
    refine z_iload_n_ok (pc := 10) (i := 2) C.hx C.hb dX8_buy_10 rfl ?_
    refine z_invV_ok (pc := 11) C (by decide +kernel) (zm_X8_isShop X.l C.htr) ⟨rfl, rfl⟩ ⟨by decide, by decide⟩ (by decide) (by decide) zcl_X8_145 zw_1048 zw_27 zK8 dX8_buy_11 ?_
    refine z_if_eq_ok (pc := 14) (tgt := 28) C.hx C.hb dX8_buy_14 (by decide) ?_ ?_
    · exact zk_X8_buy_28 C hn 
    · refine z_iload_n_ok (pc := 17) (i := 3) C.hx C.hb dX8_buy_17 rfl ?_
      refine z_invS_ok (pc := 18) C (by decide +kernel) (zm_X8_isGood X.l C.htr) ⟨rfl, rfl⟩ ⟨by decide, by decide⟩ (by decide) (by decide) zcl_X8_133 zw_1009 dX8_buy_18 ?_
      refine z_if_eq_ok (pc := 21) (tgt := 28) C.hx C.hb dX8_buy_21 (by decide) ?_ ?_
      · exact zk_X8_buy_28 C hn 
      · refine z_iconst_ok (pc := 24) (v := 1) C.hx C.hb dX8_buy_24 (by decide) ?_
        refine z_goto_ok (pc := 25) (tgt := 29) C.hx C.hb dX8_buy_25 (by decide) ?_
        exact zk_X8_buy_29 C hn 
def sp_X8_buy : ZSp := fun as S K => as.length ≤ 7 ∧ zsp 7 zb_X8_buy_0 as S K
theorem zm_X8_buy (l : Launch) (hl : l.stackTraces = false) : zMet l yX8_buy cX8_buy 7 (some .int) { frames := 3, cells := 1, slots := 6, locals := 65 } 0 0 sp_X8_buy := zMet_of hl (by decide +kernel) ⟨rfl, rfl⟩ (fun X C hn _ => zk_X8_buy_0 C hn)
theorem dX8_claim_0 : decode cX8_claim 0 = .ok (.aload_n 0, 1) := by decide +kernel
theorem dX8_claim_1 : decode cX8_claim 1 = .ok (.aload_n 0, 1) := by decide +kernel
theorem dX8_claim_2 : decode cX8_claim 2 = .ok (.iload_n 1, 1) := by decide +kernel
theorem dX8_claim_3 : decode cX8_claim 3 = .ok (.invokevirtual 145, 3) := by decide +kernel
theorem dX8_claim_6 : decode cX8_claim 6 = .ok (.ifCond .eq 14, 3) := by decide +kernel
theorem dX8_claim_9 : decode cX8_claim 9 = .ok (.iload_n 2, 1) := by decide +kernel
theorem dX8_claim_10 : decode cX8_claim 10 = .ok (.invokestatic 133, 3) := by decide +kernel
theorem dX8_claim_13 : decode cX8_claim 13 = .ok (.ifCond .eq 7, 3) := by decide +kernel
theorem dX8_claim_16 : decode cX8_claim 16 = .ok (.iconst 1, 1) := by decide +kernel
theorem dX8_claim_17 : decode cX8_claim 17 = .ok (.goto 4, 3) := by decide +kernel
theorem dX8_claim_20 : decode cX8_claim 20 = .ok (.iconst 0, 1) := by decide +kernel
theorem dX8_claim_21 : decode cX8_claim 21 = .ok (.iconst 1, 1) := by decide +kernel
theorem dX8_claim_22 : decode cX8_claim 22 = .ok (.invokevirtual 137, 3) := by decide +kernel
theorem dX8_claim_25 : decode cX8_claim 25 = .ok (.ifCond .eq 5, 3) := by decide +kernel
theorem dX8_claim_28 : decode cX8_claim 28 = .ok (.iconst 0, 1) := by decide +kernel
theorem dX8_claim_29 : decode cX8_claim 29 = .ok (.ireturn, 1) := by decide +kernel
theorem dX8_claim_30 : decode cX8_claim 30 = .ok (.aload_n 0, 1) := by decide +kernel
theorem dX8_claim_31 : decode cX8_claim 31 = .ok (.iload_n 3, 1) := by decide +kernel
theorem dX8_claim_32 : decode cX8_claim 32 = .ok (.iconst 1, 1) := by decide +kernel
theorem dX8_claim_33 : decode cX8_claim 33 = .ok (.ldc 176, 2) := by decide +kernel
theorem dX8_claim_35 : decode cX8_claim 35 = .ok (.invokestatic 120, 3) := by decide +kernel
theorem dX8_claim_38 : decode cX8_claim 38 = .ok (.iconst 2, 1) := by decide +kernel
theorem dX8_claim_39 : decode cX8_claim 39 = .ok (.invokevirtual 137, 3) := by decide +kernel
theorem dX8_claim_42 : decode cX8_claim 42 = .ok (.ifCond .eq 5, 3) := by decide +kernel
theorem dX8_claim_45 : decode cX8_claim 45 = .ok (.iconst 0, 1) := by decide +kernel
theorem dX8_claim_46 : decode cX8_claim 46 = .ok (.ireturn, 1) := by decide +kernel
theorem dX8_claim_47 : decode cX8_claim 47 = .ok (.bipush 6, 2) := by decide +kernel
theorem dX8_claim_49 : decode cX8_claim 49 = .ok (.iload_n 1, 1) := by decide +kernel
theorem dX8_claim_50 : decode cX8_claim 50 = .ok (.imul, 1) := by decide +kernel
theorem dX8_claim_51 : decode cX8_claim 51 = .ok (.iload_n 2, 1) := by decide +kernel
theorem dX8_claim_52 : decode cX8_claim 52 = .ok (.iadd, 1) := by decide +kernel
theorem dX8_claim_53 : decode cX8_claim 53 = .ok (.istore 4, 2) := by decide +kernel
theorem dX8_claim_55 : decode cX8_claim 55 = .ok (.aload_n 0, 1) := by decide +kernel
theorem dX8_claim_56 : decode cX8_claim 56 = .ok (.aload_n 0, 1) := by decide +kernel
theorem dX8_claim_57 : decode cX8_claim 57 = .ok (.getfield 87, 3) := by decide +kernel
theorem dX8_claim_60 : decode cX8_claim 60 = .ok (.iload 4, 2) := by decide +kernel
theorem dX8_claim_62 : decode cX8_claim 62 = .ok (.iaload, 1) := by decide +kernel
theorem dX8_claim_63 : decode cX8_claim 63 = .ok (.iload_n 3, 1) := by decide +kernel
theorem dX8_claim_64 : decode cX8_claim 64 = .ok (.if_icmp .lt 22, 3) := by decide +kernel
theorem dX8_claim_67 : decode cX8_claim 67 = .ok (.aload_n 0, 1) := by decide +kernel
theorem dX8_claim_68 : decode cX8_claim 68 = .ok (.aload_n 0, 1) := by decide +kernel
theorem dX8_claim_69 : decode cX8_claim 69 = .ok (.getfield 81, 3) := by decide +kernel
theorem dX8_claim_72 : decode cX8_claim 72 = .ok (.iload_n 1, 1) := by decide +kernel
theorem dX8_claim_73 : decode cX8_claim 73 = .ok (.iaload, 1) := by decide +kernel
theorem dX8_claim_74 : decode cX8_claim 74 = .ok (.iload_n 2, 1) := by decide +kernel
theorem dX8_claim_75 : decode cX8_claim 75 = .ok (.iload_n 3, 1) := by decide +kernel
theorem dX8_claim_76 : decode cX8_claim 76 = .ok (.invokevirtual 193, 3) := by decide +kernel
theorem dX8_claim_79 : decode cX8_claim 79 = .ok (.ifCond .ne 7, 3) := by decide +kernel
theorem dX8_claim_82 : decode cX8_claim 82 = .ok (.iconst 1, 1) := by decide +kernel
theorem dX8_claim_83 : decode cX8_claim 83 = .ok (.goto 4, 3) := by decide +kernel
theorem dX8_claim_86 : decode cX8_claim 86 = .ok (.iconst 0, 1) := by decide +kernel
theorem dX8_claim_87 : decode cX8_claim 87 = .ok (.iconst 3, 1) := by decide +kernel
theorem dX8_claim_88 : decode cX8_claim 88 = .ok (.invokevirtual 137, 3) := by decide +kernel
theorem dX8_claim_91 : decode cX8_claim 91 = .ok (.ifCond .eq 5, 3) := by decide +kernel
theorem dX8_claim_94 : decode cX8_claim 94 = .ok (.iconst 0, 1) := by decide +kernel
theorem dX8_claim_95 : decode cX8_claim 95 = .ok (.ireturn, 1) := by decide +kernel
theorem dX8_claim_96 : decode cX8_claim 96 = .ok (.aload_n 0, 1) := by decide +kernel
theorem dX8_claim_97 : decode cX8_claim 97 = .ok (.getfield 87, 3) := by decide +kernel
theorem dX8_claim_100 : decode cX8_claim 100 = .ok (.iload 4, 2) := by decide +kernel
theorem dX8_claim_102 : decode cX8_claim 102 = .ok (.dup2, 1) := by decide +kernel
theorem dX8_claim_103 : decode cX8_claim 103 = .ok (.iaload, 1) := by decide +kernel
theorem dX8_claim_104 : decode cX8_claim 104 = .ok (.iload_n 3, 1) := by decide +kernel
theorem dX8_claim_105 : decode cX8_claim 105 = .ok (.isub, 1) := by decide +kernel
theorem dX8_claim_106 : decode cX8_claim 106 = .ok (.iastore, 1) := by decide +kernel
theorem dX8_claim_107 : decode cX8_claim 107 = .ok (.aload_n 0, 1) := by decide +kernel
theorem dX8_claim_108 : decode cX8_claim 108 = .ok (.iload_n 1, 1) := by decide +kernel
theorem dX8_claim_109 : decode cX8_claim 109 = .ok (.iload_n 2, 1) := by decide +kernel
theorem dX8_claim_110 : decode cX8_claim 110 = .ok (.iload_n 3, 1) := by decide +kernel
theorem dX8_claim_111 : decode cX8_claim 111 = .ok (.invokevirtual 197, 3) := by decide +kernel
theorem dX8_claim_114 : decode cX8_claim 114 = .ok (.aload_n 0, 1) := by decide +kernel
theorem dX8_claim_115 : decode cX8_claim 115 = .ok (.getfield 84, 3) := by decide +kernel
theorem dX8_claim_118 : decode cX8_claim 118 = .ok (.iload 4, 2) := by decide +kernel
theorem dX8_claim_120 : decode cX8_claim 120 = .ok (.iaload, 1) := by decide +kernel
theorem dX8_claim_121 : decode cX8_claim 121 = .ok (.ireturn, 1) := by decide +kernel
def zb_X8_claim_87 : ZP := (z_push 3 (z_invV 8 2 sp_X8_fails (z_if (fun x => x = 0) (z_ald 0 (z_gf 8 31 (z_ild 4 (z_dup2 (z_iald (z_ild 3 (z_bin (fun x y => x - y) (z_iast (z_ald 0 (z_ild 1 (z_ild 2 (z_ild 3 (z_invV 8 3 sp_X8_supply (z_ald 0 (z_gf 8 30 (z_ild 4 (z_iald (z_ret 1)))))))))))))))))) (z_push 0 (z_ret 1)))))
set_option maxRecDepth 20000 in
theorem zk_X8_claim_87 {X : ZX} (C : zCx X cX8_claim RX8 (some .int) 2 47 1 6) (hn : X.nL = 5) : ZOK X 87 (zb_X8_claim_87) := by
  unfold zb_X8_claim_87
  refine z_iconst_ok (pc := 87) (v := 3) C.hx C.hb dX8_claim_87 (by decide) ?_
  refine z_invV_ok (pc := 88) C (by decide +kernel) (zm_X8_fails X.l C.htr) ⟨rfl, rfl⟩ ⟨by decide, by decide⟩ (by decide) (by decide) zcl_X8_137 zw_1016 zw_25 zK8 dX8_claim_88 ?_
  refine z_if_eq_ok (pc := 91) (tgt := 96) C.hx C.hb dX8_claim_91 (by decide) ?_ ?_
  · refine z_aload_n_ok (pc := 96) (i := 0) C.hx C.hb dX8_claim_96 rfl ?_
    refine z_gf_ok (pc := 97) C zK8 (f := 31) (by decide) zw_888 rfl dX8_claim_97 ?_
    refine z_iload_ok (pc := 100) (i := 4) C.hx C.hb dX8_claim_100 ?_
    refine z_dup2_ok (pc := 102) C.hx C.hb dX8_claim_102 ?_
    refine z_iald_ok (pc := 103) C dX8_claim_103 ?_
    refine z_iload_n_ok (pc := 104) (i := 3) C.hx C.hb dX8_claim_104 rfl ?_
    refine z_isub_ok (pc := 105) C.hx C.hb dX8_claim_105 ?_
    refine z_iast_ok (pc := 106) C dX8_claim_106 ?_
    refine z_aload_n_ok (pc := 107) (i := 0) C.hx C.hb dX8_claim_107 rfl ?_
    refine z_iload_n_ok (pc := 108) (i := 1) C.hx C.hb dX8_claim_108 rfl ?_
    refine z_iload_n_ok (pc := 109) (i := 2) C.hx C.hb dX8_claim_109 rfl ?_
    refine z_iload_n_ok (pc := 110) (i := 3) C.hx C.hb dX8_claim_110 rfl ?_
    refine z_invV_ok (pc := 111) C (by decide +kernel) (zm_X8_supply X.l C.htr) ⟨rfl, rfl⟩ ⟨by decide, by decide⟩ (by decide) (by decide) zcl_X8_197 zw_1151 zw_37 zK8 dX8_claim_111 ?_
    refine z_aload_n_ok (pc := 114) (i := 0) C.hx C.hb dX8_claim_114 rfl ?_
    refine z_gf_ok (pc := 115) C zK8 (f := 30) (by decide) zw_887 rfl dX8_claim_115 ?_
    refine z_iload_ok (pc := 118) (i := 4) C.hx C.hb dX8_claim_118 ?_
    refine z_iald_ok (pc := 120) C dX8_claim_120 ?_
    exact z_iret_ok (pc := 121) C dX8_claim_121
  · refine z_iconst_ok (pc := 94) (v := 0) C.hx C.hb dX8_claim_94 (by decide) ?_
    exact z_iret_ok (pc := 95) C dX8_claim_95
def zb_X8_claim_86 : ZP := (z_push 0 zb_X8_claim_87)
set_option maxRecDepth 20000 in
theorem zk_X8_claim_86 {X : ZX} (C : zCx X cX8_claim RX8 (some .int) 2 47 1 6) (hn : X.nL = 5) : ZOK X 86 (zb_X8_claim_86) := by
  unfold zb_X8_claim_86
  refine z_iconst_ok (pc := 86) (v := 0) C.hx C.hb dX8_claim_86 (by decide) ?_
  exact zk_X8_claim_87 C hn 
def zb_X8_claim_21 : ZP := (z_push 1 (z_invV 8 2 sp_X8_fails (z_if (fun x => x = 0) (z_ald 0 (z_ild 3 (z_push 1 (z_push 99999 (z_invS 3 sp_X8_in (z_push 2 (z_invV 8 2 sp_X8_fails (z_if (fun x => x = 0) (z_push 6 (z_ild 1 (z_bin (fun x y => x * y) (z_ild 2 (z_bin (fun x y => x + y) (z_ist 4 (z_ald 0 (z_ald 0 (z_gf 8 31 (z_ild 4 (z_iald (z_ild 3 (z_cmp (fun x y => x < y) zb_X8_claim_86 (z_ald 0 (z_ald 0 (z_gf 8 29 (z_ild 1 (z_iald (z_ild 2 (z_ild 3 (z_invV 8 3 sp_X8_lacking (z_if (fun x => x = 0) (z_push 1 zb_X8_claim_87) zb_X8_claim_86)))))))))))))))))))))) (z_push 0 (z_ret 1)))))))))) (z_push 0 (z_ret 1)))))
set_option maxRecDepth 20000 in
theorem zk_X8_claim_21 {X : ZX} (C : zCx X cX8_claim RX8 (some .int) 2 47 1 6) (hn : X.nL = 5) : ZOK X 21 (zb_X8_claim_21) := by
  unfold zb_X8_claim_21
  refine z_iconst_ok (pc := 21) (v := 1) C.hx C.hb dX8_claim_21 (by decide) ?_
  refine z_invV_ok (pc := 22) C (by decide +kernel) (zm_X8_fails X.l C.htr) ⟨rfl, rfl⟩ ⟨by decide, by decide⟩ (by decide) (by decide) zcl_X8_137 zw_1016 zw_25 zK8 dX8_claim_22 ?_
  refine z_if_eq_ok (pc := 25) (tgt := 30) C.hx C.hb dX8_claim_25 (by decide) ?_ ?_
  · refine z_aload_n_ok (pc := 30) (i := 0) C.hx C.hb dX8_claim_30 rfl ?_
    refine z_iload_n_ok (pc := 31) (i := 3) C.hx C.hb dX8_claim_31 rfl ?_
    refine z_iconst_ok (pc := 32) (v := 1) C.hx C.hb dX8_claim_32 (by decide) ?_
    refine z_ldc_ok (pc := 33) C zw_1121 dX8_claim_33 ?_
    refine z_invS_ok (pc := 35) C (by decide +kernel) (zm_X8_in X.l C.htr) ⟨rfl, rfl⟩ ⟨by decide, by decide⟩ (by decide) (by decide) zcl_X8_120 zw_1012 dX8_claim_35 ?_
    refine z_iconst_ok (pc := 38) (v := 2) C.hx C.hb dX8_claim_38 (by decide) ?_
    refine z_invV_ok (pc := 39) C (by decide +kernel) (zm_X8_fails X.l C.htr) ⟨rfl, rfl⟩ ⟨by decide, by decide⟩ (by decide) (by decide) zcl_X8_137 zw_1016 zw_25 zK8 dX8_claim_39 ?_
    refine z_if_eq_ok (pc := 42) (tgt := 47) C.hx C.hb dX8_claim_42 (by decide) ?_ ?_
    · refine z_bipush_ok (pc := 47) (v := 6) C.hx C.hb dX8_claim_47 (by decide) ?_
      refine z_iload_n_ok (pc := 49) (i := 1) C.hx C.hb dX8_claim_49 rfl ?_
      refine z_imul_ok (pc := 50) C.hx C.hb dX8_claim_50 ?_
      refine z_iload_n_ok (pc := 51) (i := 2) C.hx C.hb dX8_claim_51 rfl ?_
      refine z_iadd_ok (pc := 52) C.hx C.hb dX8_claim_52 ?_
      refine z_istore_ok (pc := 53) (i := 4) C.hx C.hb dX8_claim_53 (zlt hn (by decide)) ?_
      refine z_aload_n_ok (pc := 55) (i := 0) C.hx C.hb dX8_claim_55 rfl ?_
      refine z_aload_n_ok (pc := 56) (i := 0) C.hx C.hb dX8_claim_56 rfl ?_
      refine z_gf_ok (pc := 57) C zK8 (f := 31) (by decide) zw_888 rfl dX8_claim_57 ?_
      refine z_iload_ok (pc := 60) (i := 4) C.hx C.hb dX8_claim_60 ?_
      refine z_iald_ok (pc := 62) C dX8_claim_62 ?_
      refine z_iload_n_ok (pc := 63) (i := 3) C.hx C.hb dX8_claim_63 rfl ?_
      refine z_icmp_lt_ok (pc := 64) (tgt := 86) C.hx C.hb dX8_claim_64 (by decide) ?_ ?_
      · exact zk_X8_claim_86 C hn 
      · refine z_aload_n_ok (pc := 67) (i := 0) C.hx C.hb dX8_claim_67 rfl ?_
        refine z_aload_n_ok (pc := 68) (i := 0) C.hx C.hb dX8_claim_68 rfl ?_
        refine z_gf_ok (pc := 69) C zK8 (f := 29) (by decide) zw_886 rfl dX8_claim_69 ?_
        refine z_iload_n_ok (pc := 72) (i := 1) C.hx C.hb dX8_claim_72 rfl ?_
        refine z_iald_ok (pc := 73) C dX8_claim_73 ?_
        refine z_iload_n_ok (pc := 74) (i := 2) C.hx C.hb dX8_claim_74 rfl ?_
        refine z_iload_n_ok (pc := 75) (i := 3) C.hx C.hb dX8_claim_75 rfl ?_
        refine z_invV_ok (pc := 76) C (by decide +kernel) (zm_X8_lacking X.l C.htr) ⟨rfl, rfl⟩ ⟨by decide, by decide⟩ (by decide) (by decide) zcl_X8_193 zw_1144 zw_36 zK8 dX8_claim_76 ?_
        refine z_if_ne_ok (pc := 79) (tgt := 86) C.hx C.hb dX8_claim_79 (by decide) ?_ ?_
        · exact zk_X8_claim_86 C hn 
        · refine z_iconst_ok (pc := 82) (v := 1) C.hx C.hb dX8_claim_82 (by decide) ?_
          refine z_goto_ok (pc := 83) (tgt := 87) C.hx C.hb dX8_claim_83 (by decide) ?_
          exact zk_X8_claim_87 C hn 
    · refine z_iconst_ok (pc := 45) (v := 0) C.hx C.hb dX8_claim_45 (by decide) ?_
      exact z_iret_ok (pc := 46) C dX8_claim_46
  · refine z_iconst_ok (pc := 28) (v := 0) C.hx C.hb dX8_claim_28 (by decide) ?_
    exact z_iret_ok (pc := 29) C dX8_claim_29
def zb_X8_claim_20 : ZP := (z_push 0 zb_X8_claim_21)
set_option maxRecDepth 20000 in
theorem zk_X8_claim_20 {X : ZX} (C : zCx X cX8_claim RX8 (some .int) 2 47 1 6) (hn : X.nL = 5) : ZOK X 20 (zb_X8_claim_20) := by
  unfold zb_X8_claim_20
  refine z_iconst_ok (pc := 20) (v := 0) C.hx C.hb dX8_claim_20 (by decide) ?_
  exact zk_X8_claim_21 C hn 
def zb_X8_claim_0 : ZP := (z_ald 0 (z_ald 0 (z_ild 1 (z_invV 8 1 sp_X8_isShop (z_if (fun x => x = 0) zb_X8_claim_20 (z_ild 2 (z_invS 1 sp_X8_isGood (z_if (fun x => x = 0) zb_X8_claim_20 (z_push 1 zb_X8_claim_21)))))))))
set_option maxRecDepth 20000 in
theorem zk_X8_claim_0 {X : ZX} (C : zCx X cX8_claim RX8 (some .int) 2 47 1 6) (hn : X.nL = 5) : ZOK X 0 (zb_X8_claim_0) := by
  unfold zb_X8_claim_0
  refine z_aload_n_ok (pc := 0) (i := 0) C.hx C.hb dX8_claim_0 rfl ?_
  refine z_aload_n_ok (pc := 1) (i := 0) C.hx C.hb dX8_claim_1 rfl ?_
  refine z_iload_n_ok (pc := 2) (i := 1) C.hx C.hb dX8_claim_2 rfl ?_
  refine z_invV_ok (pc := 3) C (by decide +kernel) (zm_X8_isShop X.l C.htr) ⟨rfl, rfl⟩ ⟨by decide, by decide⟩ (by decide) (by decide) zcl_X8_145 zw_1048 zw_27 zK8 dX8_claim_3 ?_
  refine z_if_eq_ok (pc := 6) (tgt := 20) C.hx C.hb dX8_claim_6 (by decide) ?_ ?_
  · exact zk_X8_claim_20 C hn 
  · refine z_iload_n_ok (pc := 9) (i := 2) C.hx C.hb dX8_claim_9 rfl ?_
    refine z_invS_ok (pc := 10) C (by decide +kernel) (zm_X8_isGood X.l C.htr) ⟨rfl, rfl⟩ ⟨by decide, by decide⟩ (by decide) (by decide) zcl_X8_133 zw_1009 dX8_claim_10 ?_
    refine z_if_eq_ok (pc := 13) (tgt := 20) C.hx C.hb dX8_claim_13 (by decide) ?_ ?_
    · exact zk_X8_claim_20 C hn 
    · refine z_iconst_ok (pc := 16) (v := 1) C.hx C.hb dX8_claim_16 (by decide) ?_
      refine z_goto_ok (pc := 17) (tgt := 21) C.hx C.hb dX8_claim_17 (by decide) ?_
      exact zk_X8_claim_21 C hn 
def sp_X8_claim : ZSp := fun as S K => as.length ≤ 5 ∧ zsp 5 zb_X8_claim_0 as S K
theorem zm_X8_claim (l : Launch) (hl : l.stackTraces = false) : zMet l yX8_claim cX8_claim 5 (some .int) { frames := 2, cells := 1, slots := 6, locals := 47 } 0 0 sp_X8_claim := zMet_of hl (by decide +kernel) ⟨rfl, rfl⟩ (fun X C hn _ => zk_X8_claim_0 C hn)
theorem dX8_deliver_0 : decode cX8_deliver 0 = .ok (.aload_n 0, 1) := by decide +kernel
theorem dX8_deliver_1 : decode cX8_deliver 1 = .ok (.iload_n 1, 1) := by decide +kernel
theorem dX8_deliver_2 : decode cX8_deliver 2 = .ok (.iconst 0, 1) := by decide +kernel
theorem dX8_deliver_3 : decode cX8_deliver 3 = .ok (.aload_n 0, 1) := by decide +kernel
theorem dX8_deliver_4 : decode cX8_deliver 4 = .ok (.getfield 206, 3) := by decide +kernel
theorem dX8_deliver_7 : decode cX8_deliver 7 = .ok (.iconst 1, 1) := by decide +kernel
theorem dX8_deliver_8 : decode cX8_deliver 8 = .ok (.isub, 1) := by decide +kernel
theorem dX8_deliver_9 : decode cX8_deliver 9 = .ok (.invokestatic 120, 3) := by decide +kernel
theorem dX8_deliver_12 : decode cX8_deliver 12 = .ok (.iconst 1, 1) := by decide +kernel
theorem dX8_deliver_13 : decode cX8_deliver 13 = .ok (.invokevirtual 137, 3) := by decide +kernel
theorem dX8_deliver_16 : decode cX8_deliver 16 = .ok (.ifCond .eq 5, 3) := by decide +kernel
theorem dX8_deliver_19 : decode cX8_deliver 19 = .ok (.iconst 0, 1) := by decide +kernel
theorem dX8_deliver_20 : decode cX8_deliver 20 = .ok (.ireturn, 1) := by decide +kernel
theorem dX8_deliver_21 : decode cX8_deliver 21 = .ok (.aload_n 0, 1) := by decide +kernel
theorem dX8_deliver_22 : decode cX8_deliver 22 = .ok (.iload_n 2, 1) := by decide +kernel
theorem dX8_deliver_23 : decode cX8_deliver 23 = .ok (.iconst 1, 1) := by decide +kernel
theorem dX8_deliver_24 : decode cX8_deliver 24 = .ok (.ldc 176, 2) := by decide +kernel
theorem dX8_deliver_26 : decode cX8_deliver 26 = .ok (.invokestatic 120, 3) := by decide +kernel
theorem dX8_deliver_29 : decode cX8_deliver 29 = .ok (.iconst 2, 1) := by decide +kernel
theorem dX8_deliver_30 : decode cX8_deliver 30 = .ok (.invokevirtual 137, 3) := by decide +kernel
theorem dX8_deliver_33 : decode cX8_deliver 33 = .ok (.ifCond .eq 5, 3) := by decide +kernel
theorem dX8_deliver_36 : decode cX8_deliver 36 = .ok (.iconst 0, 1) := by decide +kernel
theorem dX8_deliver_37 : decode cX8_deliver 37 = .ok (.ireturn, 1) := by decide +kernel
theorem dX8_deliver_38 : decode cX8_deliver 38 = .ok (.aload_n 0, 1) := by decide +kernel
theorem dX8_deliver_39 : decode cX8_deliver 39 = .ok (.dup, 1) := by decide +kernel
theorem dX8_deliver_40 : decode cX8_deliver 40 = .ok (.getfield 177, 3) := by decide +kernel
theorem dX8_deliver_43 : decode cX8_deliver 43 = .ok (.iload_n 2, 1) := by decide +kernel
theorem dX8_deliver_44 : decode cX8_deliver 44 = .ok (.iadd, 1) := by decide +kernel
theorem dX8_deliver_45 : decode cX8_deliver 45 = .ok (.putfield 177, 3) := by decide +kernel
theorem dX8_deliver_48 : decode cX8_deliver 48 = .ok (.aload_n 0, 1) := by decide +kernel
theorem dX8_deliver_49 : decode cX8_deliver 49 = .ok (.getfield 78, 3) := by decide +kernel
theorem dX8_deliver_52 : decode cX8_deliver 52 = .ok (.bipush 6, 2) := by decide +kernel
theorem dX8_deliver_54 : decode cX8_deliver 54 = .ok (.aload_n 0, 1) := by decide +kernel
theorem dX8_deliver_55 : decode cX8_deliver 55 = .ok (.getfield 99, 3) := by decide +kernel
theorem dX8_deliver_58 : decode cX8_deliver 58 = .ok (.iload_n 1, 1) := by decide +kernel
theorem dX8_deliver_59 : decode cX8_deliver 59 = .ok (.iaload, 1) := by decide +kernel
theorem dX8_deliver_60 : decode cX8_deliver 60 = .ok (.imul, 1) := by decide +kernel
theorem dX8_deliver_61 : decode cX8_deliver 61 = .ok (.aload_n 0, 1) := by decide +kernel
theorem dX8_deliver_62 : decode cX8_deliver 62 = .ok (.getfield 102, 3) := by decide +kernel
theorem dX8_deliver_65 : decode cX8_deliver 65 = .ok (.iload_n 1, 1) := by decide +kernel
theorem dX8_deliver_66 : decode cX8_deliver 66 = .ok (.iaload, 1) := by decide +kernel
theorem dX8_deliver_67 : decode cX8_deliver 67 = .ok (.iadd, 1) := by decide +kernel
theorem dX8_deliver_68 : decode cX8_deliver 68 = .ok (.dup2, 1) := by decide +kernel
theorem dX8_deliver_69 : decode cX8_deliver 69 = .ok (.iaload, 1) := by decide +kernel
theorem dX8_deliver_70 : decode cX8_deliver 70 = .ok (.iload_n 2, 1) := by decide +kernel
theorem dX8_deliver_71 : decode cX8_deliver 71 = .ok (.iadd, 1) := by decide +kernel
theorem dX8_deliver_72 : decode cX8_deliver 72 = .ok (.iastore, 1) := by decide +kernel
theorem dX8_deliver_73 : decode cX8_deliver 73 = .ok (.aload_n 0, 1) := by decide +kernel
theorem dX8_deliver_74 : decode cX8_deliver 74 = .ok (.getfield 108, 3) := by decide +kernel
theorem dX8_deliver_77 : decode cX8_deliver 77 = .ok (.iload_n 1, 1) := by decide +kernel
theorem dX8_deliver_78 : decode cX8_deliver 78 = .ok (.dup2, 1) := by decide +kernel
theorem dX8_deliver_79 : decode cX8_deliver 79 = .ok (.iaload, 1) := by decide +kernel
theorem dX8_deliver_80 : decode cX8_deliver 80 = .ok (.iload_n 2, 1) := by decide +kernel
theorem dX8_deliver_81 : decode cX8_deliver 81 = .ok (.iadd, 1) := by decide +kernel
theorem dX8_deliver_82 : decode cX8_deliver 82 = .ok (.iastore, 1) := by decide +kernel
theorem dX8_deliver_83 : decode cX8_deliver 83 = .ok (.aload_n 0, 1) := by decide +kernel
theorem dX8_deliver_84 : decode cX8_deliver 84 = .ok (.getfield 108, 3) := by decide +kernel
theorem dX8_deliver_87 : decode cX8_deliver 87 = .ok (.iload_n 1, 1) := by decide +kernel
theorem dX8_deliver_88 : decode cX8_deliver 88 = .ok (.iaload, 1) := by decide +kernel
theorem dX8_deliver_89 : decode cX8_deliver 89 = .ok (.ireturn, 1) := by decide +kernel
def zb_X8_deliver_0 : ZP := (z_ald 0 (z_ild 1 (z_push 0 (z_ald 0 (z_gf 8 35 (z_push 1 (z_bin (fun x y => x - y) (z_invS 3 sp_X8_in (z_push 1 (z_invV 8 2 sp_X8_fails (z_if (fun x => x = 0) (z_ald 0 (z_ild 2 (z_push 1 (z_push 99999 (z_invS 3 sp_X8_in (z_push 2 (z_invV 8 2 sp_X8_fails (z_if (fun x => x = 0) (z_ald 0 (z_dup (z_gf 8 41 (z_ild 2 (z_bin (fun x y => x + y) (z_pf 8 41 (z_ald 0 (z_gf 8 27 (z_push 6 (z_ald 0 (z_gf 8 36 (z_ild 1 (z_iald (z_bin (fun x y => x * y) (z_ald 0 (z_gf 8 37 (z_ild 1 (z_iald (z_bin (fun x y => x + y) (z_dup2 (z_iald (z_ild 2 (z_bin (fun x y => x + y) (z_iast (z_ald 0 (z_gf 8 39 (z_ild 1 (z_dup2 (z_iald (z_ild 2 (z_bin (fun x y => x + y) (z_iast (z_ald 0 (z_gf 8 39 (z_ild 1 (z_iald (z_ret 1))))))))))))))))))))))))))))))))))))) (z_push 0 (z_ret 1)))))))))) (z_push 0 (z_ret 1)))))))))))))
set_option maxRecDepth 20000 in
theorem zk_X8_deliver_0 {X : ZX} (C : zCx X cX8_deliver RX8 (some .int) 1 22 1 6) (hn : X.nL = 3) : ZOK X 0 (zb_X8_deliver_0) := by
  unfold zb_X8_deliver_0
  refine z_aload_n_ok (pc := 0) (i := 0) C.hx C.hb dX8_deliver_0 rfl ?_
  refine z_iload_n_ok (pc := 1) (i := 1) C.hx C.hb dX8_deliver_1 rfl ?_
  refine z_iconst_ok (pc := 2) (v := 0) C.hx C.hb dX8_deliver_2 (by decide) ?_
  refine z_aload_n_ok (pc := 3) (i := 0) C.hx C.hb dX8_deliver_3 rfl ?_
  refine z_gf_ok (pc := 4) C zK8 (f := 35) (by decide) zw_892 rfl dX8_deliver_4 ?_
  refine z_iconst_ok (pc := 7) (v := 1) C.hx C.hb dX8_deliver_7 (by decide) ?_
  refine z_isub_ok (pc := 8) C.hx C.hb dX8_deliver_8 ?_
  refine z_invS_ok (pc := 9) C (by decide +kernel) (zm_X8_in X.l C.htr) ⟨rfl, rfl⟩ ⟨by decide, by decide⟩ (by decide) (by decide) zcl_X8_120 zw_1012 dX8_deliver_9 ?_
  refine z_iconst_ok (pc := 12) (v := 1) C.hx C.hb dX8_deliver_12 (by decide) ?_
  refine z_invV_ok (pc := 13) C (by decide +kernel) (zm_X8_fails X.l C.htr) ⟨rfl, rfl⟩ ⟨by decide, by decide⟩ (by decide) (by decide) zcl_X8_137 zw_1016 zw_25 zK8 dX8_deliver_13 ?_
  refine z_if_eq_ok (pc := 16) (tgt := 21) C.hx C.hb dX8_deliver_16 (by decide) ?_ ?_
  · refine z_aload_n_ok (pc := 21) (i := 0) C.hx C.hb dX8_deliver_21 rfl ?_
    refine z_iload_n_ok (pc := 22) (i := 2) C.hx C.hb dX8_deliver_22 rfl ?_
    refine z_iconst_ok (pc := 23) (v := 1) C.hx C.hb dX8_deliver_23 (by decide) ?_
    refine z_ldc_ok (pc := 24) C zw_1121 dX8_deliver_24 ?_
    refine z_invS_ok (pc := 26) C (by decide +kernel) (zm_X8_in X.l C.htr) ⟨rfl, rfl⟩ ⟨by decide, by decide⟩ (by decide) (by decide) zcl_X8_120 zw_1012 dX8_deliver_26 ?_
    refine z_iconst_ok (pc := 29) (v := 2) C.hx C.hb dX8_deliver_29 (by decide) ?_
    refine z_invV_ok (pc := 30) C (by decide +kernel) (zm_X8_fails X.l C.htr) ⟨rfl, rfl⟩ ⟨by decide, by decide⟩ (by decide) (by decide) zcl_X8_137 zw_1016 zw_25 zK8 dX8_deliver_30 ?_
    refine z_if_eq_ok (pc := 33) (tgt := 38) C.hx C.hb dX8_deliver_33 (by decide) ?_ ?_
    · refine z_aload_n_ok (pc := 38) (i := 0) C.hx C.hb dX8_deliver_38 rfl ?_
      refine z_dup_ok (pc := 39) C.hx C.hb dX8_deliver_39 ?_
      refine z_gf_ok (pc := 40) C zK8 (f := 41) (by decide) zw_898 rfl dX8_deliver_40 ?_
      refine z_iload_n_ok (pc := 43) (i := 2) C.hx C.hb dX8_deliver_43 rfl ?_
      refine z_iadd_ok (pc := 44) C.hx C.hb dX8_deliver_44 ?_
      refine z_pf_ok (pc := 45) C zK8 rfl rfl (f := 41) (by decide) zw_898 rfl rfl (by decide +kernel) dX8_deliver_45 ?_
      refine z_aload_n_ok (pc := 48) (i := 0) C.hx C.hb dX8_deliver_48 rfl ?_
      refine z_gf_ok (pc := 49) C zK8 (f := 27) (by decide) zw_884 rfl dX8_deliver_49 ?_
      refine z_bipush_ok (pc := 52) (v := 6) C.hx C.hb dX8_deliver_52 (by decide) ?_
      refine z_aload_n_ok (pc := 54) (i := 0) C.hx C.hb dX8_deliver_54 rfl ?_
      refine z_gf_ok (pc := 55) C zK8 (f := 36) (by decide) zw_893 rfl dX8_deliver_55 ?_
      refine z_iload_n_ok (pc := 58) (i := 1) C.hx C.hb dX8_deliver_58 rfl ?_
      refine z_iald_ok (pc := 59) C dX8_deliver_59 ?_
      refine z_imul_ok (pc := 60) C.hx C.hb dX8_deliver_60 ?_
      refine z_aload_n_ok (pc := 61) (i := 0) C.hx C.hb dX8_deliver_61 rfl ?_
      refine z_gf_ok (pc := 62) C zK8 (f := 37) (by decide) zw_894 rfl dX8_deliver_62 ?_
      refine z_iload_n_ok (pc := 65) (i := 1) C.hx C.hb dX8_deliver_65 rfl ?_
      refine z_iald_ok (pc := 66) C dX8_deliver_66 ?_
      refine z_iadd_ok (pc := 67) C.hx C.hb dX8_deliver_67 ?_
      refine z_dup2_ok (pc := 68) C.hx C.hb dX8_deliver_68 ?_
      refine z_iald_ok (pc := 69) C dX8_deliver_69 ?_
      refine z_iload_n_ok (pc := 70) (i := 2) C.hx C.hb dX8_deliver_70 rfl ?_
      refine z_iadd_ok (pc := 71) C.hx C.hb dX8_deliver_71 ?_
      refine z_iast_ok (pc := 72) C dX8_deliver_72 ?_
      refine z_aload_n_ok (pc := 73) (i := 0) C.hx C.hb dX8_deliver_73 rfl ?_
      refine z_gf_ok (pc := 74) C zK8 (f := 39) (by decide) zw_896 rfl dX8_deliver_74 ?_
      refine z_iload_n_ok (pc := 77) (i := 1) C.hx C.hb dX8_deliver_77 rfl ?_
      refine z_dup2_ok (pc := 78) C.hx C.hb dX8_deliver_78 ?_
      refine z_iald_ok (pc := 79) C dX8_deliver_79 ?_
      refine z_iload_n_ok (pc := 80) (i := 2) C.hx C.hb dX8_deliver_80 rfl ?_
      refine z_iadd_ok (pc := 81) C.hx C.hb dX8_deliver_81 ?_
      refine z_iast_ok (pc := 82) C dX8_deliver_82 ?_
      refine z_aload_n_ok (pc := 83) (i := 0) C.hx C.hb dX8_deliver_83 rfl ?_
      refine z_gf_ok (pc := 84) C zK8 (f := 39) (by decide) zw_896 rfl dX8_deliver_84 ?_
      refine z_iload_n_ok (pc := 87) (i := 1) C.hx C.hb dX8_deliver_87 rfl ?_
      refine z_iald_ok (pc := 88) C dX8_deliver_88 ?_
      exact z_iret_ok (pc := 89) C dX8_deliver_89
    · refine z_iconst_ok (pc := 36) (v := 0) C.hx C.hb dX8_deliver_36 (by decide) ?_
      exact z_iret_ok (pc := 37) C dX8_deliver_37
  · refine z_iconst_ok (pc := 19) (v := 0) C.hx C.hb dX8_deliver_19 (by decide) ?_
    exact z_iret_ok (pc := 20) C dX8_deliver_20
def sp_X8_deliver : ZSp := fun as S K => as.length ≤ 3 ∧ zsp 3 zb_X8_deliver_0 as S K
theorem zm_X8_deliver (l : Launch) (hl : l.stackTraces = false) : zMet l yX8_deliver cX8_deliver 3 (some .int) { frames := 1, cells := 1, slots := 6, locals := 22 } 0 0 sp_X8_deliver := zMet_of hl (by decide +kernel) ⟨rfl, rfl⟩ (fun X C hn _ => zk_X8_deliver_0 C hn)
theorem dX8_isDepot_0 : decode cX8_isDepot 0 = .ok (.iload_n 1, 1) := by decide +kernel
theorem dX8_isDepot_1 : decode cX8_isDepot 1 = .ok (.iconst 0, 1) := by decide +kernel
theorem dX8_isDepot_2 : decode cX8_isDepot 2 = .ok (.aload_n 0, 1) := by decide +kernel
theorem dX8_isDepot_3 : decode cX8_isDepot 3 = .ok (.getfield 130, 3) := by decide +kernel
theorem dX8_isDepot_6 : decode cX8_isDepot 6 = .ok (.iconst 1, 1) := by decide +kernel
theorem dX8_isDepot_7 : decode cX8_isDepot 7 = .ok (.isub, 1) := by decide +kernel
theorem dX8_isDepot_8 : decode cX8_isDepot 8 = .ok (.invokestatic 120, 3) := by decide +kernel
theorem dX8_isDepot_11 : decode cX8_isDepot 11 = .ok (.ireturn, 1) := by decide +kernel
def zb_X8_isDepot_0 : ZP := (z_ild 1 (z_push 0 (z_ald 0 (z_gf 8 25 (z_push 1 (z_bin (fun x y => x - y) (z_invS 3 sp_X8_in (z_ret 2))))))))
set_option maxRecDepth 20000 in
theorem zk_X8_isDepot_0 {X : ZX} (C : zCx X cX8_isDepot RX8 (some .boolean) 1 22 1 6) (hn : X.nL = 2) : ZOK X 0 (zb_X8_isDepot_0) := by
  unfold zb_X8_isDepot_0
  refine z_iload_n_ok (pc := 0) (i := 1) C.hx C.hb dX8_isDepot_0 rfl ?_
  refine z_iconst_ok (pc := 1) (v := 0) C.hx C.hb dX8_isDepot_1 (by decide) ?_
  refine z_aload_n_ok (pc := 2) (i := 0) C.hx C.hb dX8_isDepot_2 rfl ?_
  refine z_gf_ok (pc := 3) C zK8 (f := 25) (by decide) zw_882 rfl dX8_isDepot_3 ?_
  refine z_iconst_ok (pc := 6) (v := 1) C.hx C.hb dX8_isDepot_6 (by decide) ?_
  refine z_isub_ok (pc := 7) C.hx C.hb dX8_isDepot_7 ?_
  refine z_invS_ok (pc := 8) C (by decide +kernel) (zm_X8_in X.l C.htr) ⟨rfl, rfl⟩ ⟨by decide, by decide⟩ (by decide) (by decide) zcl_X8_120 zw_1012 dX8_isDepot_8 ?_
  exact z_zret_ok (pc := 11) C dX8_isDepot_11
def sp_X8_isDepot : ZSp := fun as S K => as.length ≤ 2 ∧ zsp 2 zb_X8_isDepot_0 as S K
theorem zm_X8_isDepot (l : Launch) (hl : l.stackTraces = false) : zMet l yX8_isDepot cX8_isDepot 2 (some .boolean) { frames := 1, cells := 1, slots := 6, locals := 22 } 0 0 sp_X8_isDepot := zMet_of hl (by decide +kernel) ⟨rfl, rfl⟩ (fun X C hn _ => zk_X8_isDepot_0 C hn)
theorem dX8_depot_0 : decode cX8_depot 0 = .ok (.aload_n 0, 1) := by decide +kernel
theorem dX8_depot_1 : decode cX8_depot 1 = .ok (.aload_n 0, 1) := by decide +kernel
theorem dX8_depot_2 : decode cX8_depot 2 = .ok (.getfield 130, 3) := by decide +kernel
theorem dX8_depot_5 : decode cX8_depot 5 = .ok (.ifCond .ne 16, 3) := by decide +kernel
theorem dX8_depot_8 : decode cX8_depot 8 = .ok (.iload_n 1, 1) := by decide +kernel
theorem dX8_depot_9 : decode cX8_depot 9 = .ok (.iconst (-1), 1) := by decide +kernel
theorem dX8_depot_10 : decode cX8_depot 10 = .ok (.if_icmp .ne 7, 3) := by decide +kernel
theorem dX8_depot_13 : decode cX8_depot 13 = .ok (.iconst 1, 1) := by decide +kernel
theorem dX8_depot_14 : decode cX8_depot 14 = .ok (.goto 12, 3) := by decide +kernel
theorem dX8_depot_17 : decode cX8_depot 17 = .ok (.iconst 0, 1) := by decide +kernel
theorem dX8_depot_18 : decode cX8_depot 18 = .ok (.goto 8, 3) := by decide +kernel
theorem dX8_depot_21 : decode cX8_depot 21 = .ok (.aload_n 0, 1) := by decide +kernel
theorem dX8_depot_22 : decode cX8_depot 22 = .ok (.iload_n 1, 1) := by decide +kernel
theorem dX8_depot_23 : decode cX8_depot 23 = .ok (.invokevirtual 173, 3) := by decide +kernel
theorem dX8_depot_26 : decode cX8_depot 26 = .ok (.iconst 1, 1) := by decide +kernel
theorem dX8_depot_27 : decode cX8_depot 27 = .ok (.invokevirtual 137, 3) := by decide +kernel
theorem dX8_depot_30 : decode cX8_depot 30 = .ok (.ifCond .eq 5, 3) := by decide +kernel
theorem dX8_depot_33 : decode cX8_depot 33 = .ok (.iconst 0, 1) := by decide +kernel
theorem dX8_depot_34 : decode cX8_depot 34 = .ok (.ireturn, 1) := by decide +kernel
theorem dX8_depot_35 : decode cX8_depot 35 = .ok (.aload_n 0, 1) := by decide +kernel
theorem dX8_depot_36 : decode cX8_depot 36 = .ok (.aload_n 0, 1) := by decide +kernel
theorem dX8_depot_37 : decode cX8_depot 37 = .ok (.getfield 130, 3) := by decide +kernel
theorem dX8_depot_40 : decode cX8_depot 40 = .ok (.bipush 6, 2) := by decide +kernel
theorem dX8_depot_42 : decode cX8_depot 42 = .ok (.if_icmp .ge 7, 3) := by decide +kernel
theorem dX8_depot_45 : decode cX8_depot 45 = .ok (.iconst 1, 1) := by decide +kernel
theorem dX8_depot_46 : decode cX8_depot 46 = .ok (.goto 4, 3) := by decide +kernel
theorem dX8_depot_49 : decode cX8_depot 49 = .ok (.iconst 0, 1) := by decide +kernel
theorem dX8_depot_50 : decode cX8_depot 50 = .ok (.iconst 2, 1) := by decide +kernel
theorem dX8_depot_51 : decode cX8_depot 51 = .ok (.invokevirtual 137, 3) := by decide +kernel
theorem dX8_depot_54 : decode cX8_depot 54 = .ok (.ifCond .eq 5, 3) := by decide +kernel
theorem dX8_depot_57 : decode cX8_depot 57 = .ok (.iconst 0, 1) := by decide +kernel
theorem dX8_depot_58 : decode cX8_depot 58 = .ok (.ireturn, 1) := by decide +kernel
theorem dX8_depot_59 : decode cX8_depot 59 = .ok (.aload_n 0, 1) := by decide +kernel
theorem dX8_depot_60 : decode cX8_depot 60 = .ok (.getfield 75, 3) := by decide +kernel
theorem dX8_depot_63 : decode cX8_depot 63 = .ok (.aload_n 0, 1) := by decide +kernel
theorem dX8_depot_64 : decode cX8_depot 64 = .ok (.getfield 130, 3) := by decide +kernel
theorem dX8_depot_67 : decode cX8_depot 67 = .ok (.iload_n 1, 1) := by decide +kernel
theorem dX8_depot_68 : decode cX8_depot 68 = .ok (.iastore, 1) := by decide +kernel
theorem dX8_depot_69 : decode cX8_depot 69 = .ok (.aload_n 0, 1) := by decide +kernel
theorem dX8_depot_70 : decode cX8_depot 70 = .ok (.dup, 1) := by decide +kernel
theorem dX8_depot_71 : decode cX8_depot 71 = .ok (.getfield 130, 3) := by decide +kernel
theorem dX8_depot_74 : decode cX8_depot 74 = .ok (.iconst 1, 1) := by decide +kernel
theorem dX8_depot_75 : decode cX8_depot 75 = .ok (.iadd, 1) := by decide +kernel
theorem dX8_depot_76 : decode cX8_depot 76 = .ok (.putfield 130, 3) := by decide +kernel
theorem dX8_depot_79 : decode cX8_depot 79 = .ok (.aload_n 0, 1) := by decide +kernel
theorem dX8_depot_80 : decode cX8_depot 80 = .ok (.getfield 130, 3) := by decide +kernel
theorem dX8_depot_83 : decode cX8_depot 83 = .ok (.iconst 1, 1) := by decide +kernel
theorem dX8_depot_84 : decode cX8_depot 84 = .ok (.isub, 1) := by decide +kernel
theorem dX8_depot_85 : decode cX8_depot 85 = .ok (.ireturn, 1) := by decide +kernel
def zb_X8_depot_50 : ZP := (z_push 2 (z_invV 8 2 sp_X8_fails (z_if (fun x => x = 0) (z_ald 0 (z_gf 8 26 (z_ald 0 (z_gf 8 25 (z_ild 1 (z_iast (z_ald 0 (z_dup (z_gf 8 25 (z_push 1 (z_bin (fun x y => x + y) (z_pf 8 25 (z_ald 0 (z_gf 8 25 (z_push 1 (z_bin (fun x y => x - y) (z_ret 1))))))))))))))))) (z_push 0 (z_ret 1)))))
set_option maxRecDepth 20000 in
theorem zk_X8_depot_50 {X : ZX} (C : zCx X cX8_depot RX8 (some .int) 2 43 1 6) (hn : X.nL = 2) : ZOK X 50 (zb_X8_depot_50) := by
  unfold zb_X8_depot_50
  refine z_iconst_ok (pc := 50) (v := 2) C.hx C.hb dX8_depot_50 (by decide) ?_
  refine z_invV_ok (pc := 51) C (by decide +kernel) (zm_X8_fails X.l C.htr) ⟨rfl, rfl⟩ ⟨by decide, by decide⟩ (by decide) (by decide) zcl_X8_137 zw_1016 zw_25 zK8 dX8_depot_51 ?_
  refine z_if_eq_ok (pc := 54) (tgt := 59) C.hx C.hb dX8_depot_54 (by decide) ?_ ?_
  · refine z_aload_n_ok (pc := 59) (i := 0) C.hx C.hb dX8_depot_59 rfl ?_
    refine z_gf_ok (pc := 60) C zK8 (f := 26) (by decide) zw_883 rfl dX8_depot_60 ?_
    refine z_aload_n_ok (pc := 63) (i := 0) C.hx C.hb dX8_depot_63 rfl ?_
    refine z_gf_ok (pc := 64) C zK8 (f := 25) (by decide) zw_882 rfl dX8_depot_64 ?_
    refine z_iload_n_ok (pc := 67) (i := 1) C.hx C.hb dX8_depot_67 rfl ?_
    refine z_iast_ok (pc := 68) C dX8_depot_68 ?_
    refine z_aload_n_ok (pc := 69) (i := 0) C.hx C.hb dX8_depot_69 rfl ?_
    refine z_dup_ok (pc := 70) C.hx C.hb dX8_depot_70 ?_
    refine z_gf_ok (pc := 71) C zK8 (f := 25) (by decide) zw_882 rfl dX8_depot_71 ?_
    refine z_iconst_ok (pc := 74) (v := 1) C.hx C.hb dX8_depot_74 (by decide) ?_
    refine z_iadd_ok (pc := 75) C.hx C.hb dX8_depot_75 ?_
    refine z_pf_ok (pc := 76) C zK8 rfl rfl (f := 25) (by decide) zw_882 rfl rfl (by decide +kernel) dX8_depot_76 ?_
    refine z_aload_n_ok (pc := 79) (i := 0) C.hx C.hb dX8_depot_79 rfl ?_
    refine z_gf_ok (pc := 80) C zK8 (f := 25) (by decide) zw_882 rfl dX8_depot_80 ?_
    refine z_iconst_ok (pc := 83) (v := 1) C.hx C.hb dX8_depot_83 (by decide) ?_
    refine z_isub_ok (pc := 84) C.hx C.hb dX8_depot_84 ?_
    exact z_iret_ok (pc := 85) C dX8_depot_85
  · refine z_iconst_ok (pc := 57) (v := 0) C.hx C.hb dX8_depot_57 (by decide) ?_
    exact z_iret_ok (pc := 58) C dX8_depot_58
def zb_X8_depot_26 : ZP := (z_push 1 (z_invV 8 2 sp_X8_fails (z_if (fun x => x = 0) (z_ald 0 (z_ald 0 (z_gf 8 25 (z_push 6 (z_cmp (fun x y => y ≤ x) (z_push 0 zb_X8_depot_50) (z_push 1 zb_X8_depot_50)))))) (z_push 0 (z_ret 1)))))
set_option maxRecDepth 20000 in
theorem zk_X8_depot_26 {X : ZX} (C : zCx X cX8_depot RX8 (some .int) 2 43 1 6) (hn : X.nL = 2) : ZOK X 26 (zb_X8_depot_26) := by
  unfold zb_X8_depot_26
  refine z_iconst_ok (pc := 26) (v := 1) C.hx C.hb dX8_depot_26 (by decide) ?_
  refine z_invV_ok (pc := 27) C (by decide +kernel) (zm_X8_fails X.l C.htr) ⟨rfl, rfl⟩ ⟨by decide, by decide⟩ (by decide) (by decide) zcl_X8_137 zw_1016 zw_25 zK8 dX8_depot_27 ?_
  refine z_if_eq_ok (pc := 30) (tgt := 35) C.hx C.hb dX8_depot_30 (by decide) ?_ ?_
  · refine z_aload_n_ok (pc := 35) (i := 0) C.hx C.hb dX8_depot_35 rfl ?_
    refine z_aload_n_ok (pc := 36) (i := 0) C.hx C.hb dX8_depot_36 rfl ?_
    refine z_gf_ok (pc := 37) C zK8 (f := 25) (by decide) zw_882 rfl dX8_depot_37 ?_
    refine z_bipush_ok (pc := 40) (v := 6) C.hx C.hb dX8_depot_40 (by decide) ?_
    refine z_icmp_ge_ok (pc := 42) (tgt := 49) C.hx C.hb dX8_depot_42 (by decide) ?_ ?_
    · refine z_iconst_ok (pc := 49) (v := 0) C.hx C.hb dX8_depot_49 (by decide) ?_
      exact zk_X8_depot_50 C hn 
    · refine z_iconst_ok (pc := 45) (v := 1) C.hx C.hb dX8_depot_45 (by decide) ?_
      refine z_goto_ok (pc := 46) (tgt := 50) C.hx C.hb dX8_depot_46 (by decide) ?_
      exact zk_X8_depot_50 C hn 
  · refine z_iconst_ok (pc := 33) (v := 0) C.hx C.hb dX8_depot_33 (by decide) ?_
    exact z_iret_ok (pc := 34) C dX8_depot_34
def zb_X8_depot_0 : ZP := (z_ald 0 (z_ald 0 (z_gf 8 25 (z_if (fun x => x = 0) (z_ild 1 (z_push (-1) (z_cmp (fun x y => x = y) (z_push 1 zb_X8_depot_26) (z_push 0 zb_X8_depot_26)))) (z_ald 0 (z_ild 1 (z_invV 8 1 sp_X8_isDepot zb_X8_depot_26)))))))
set_option maxRecDepth 20000 in
theorem zk_X8_depot_0 {X : ZX} (C : zCx X cX8_depot RX8 (some .int) 2 43 1 6) (hn : X.nL = 2) : ZOK X 0 (zb_X8_depot_0) := by
  unfold zb_X8_depot_0
  refine z_aload_n_ok (pc := 0) (i := 0) C.hx C.hb dX8_depot_0 rfl ?_
  refine z_aload_n_ok (pc := 1) (i := 0) C.hx C.hb dX8_depot_1 rfl ?_
  refine z_gf_ok (pc := 2) C zK8 (f := 25) (by decide) zw_882 rfl dX8_depot_2 ?_
  refine z_if_ne_ok (pc := 5) (tgt := 21) C.hx C.hb dX8_depot_5 (by decide) ?_ ?_
  · refine z_aload_n_ok (pc := 21) (i := 0) C.hx C.hb dX8_depot_21 rfl ?_
    refine z_iload_n_ok (pc := 22) (i := 1) C.hx C.hb dX8_depot_22 rfl ?_
    refine z_invV_ok (pc := 23) C (by decide +kernel) (zm_X8_isDepot X.l C.htr) ⟨rfl, rfl⟩ ⟨by decide, by decide⟩ (by decide) (by decide) zcl_X8_173 zw_1111 zw_34 zK8 dX8_depot_23 ?_
    exact zk_X8_depot_26 C hn 
  · refine z_iload_n_ok (pc := 8) (i := 1) C.hx C.hb dX8_depot_8 rfl ?_
    refine z_iconst_ok (pc := 9) (v := -1) C.hx C.hb dX8_depot_9 (by decide) ?_
    refine z_icmp_ne_ok (pc := 10) (tgt := 17) C.hx C.hb dX8_depot_10 (by decide) ?_ ?_
    · refine z_iconst_ok (pc := 17) (v := 0) C.hx C.hb dX8_depot_17 (by decide) ?_
      refine z_goto_ok (pc := 18) (tgt := 26) C.hx C.hb dX8_depot_18 (by decide) ?_
      exact zk_X8_depot_26 C hn 
    · refine z_iconst_ok (pc := 13) (v := 1) C.hx C.hb dX8_depot_13 (by decide) ?_
      refine z_goto_ok (pc := 14) (tgt := 26) C.hx C.hb dX8_depot_14 (by decide) ?_
      exact zk_X8_depot_26 C hn 
def sp_X8_depot : ZSp := fun as S K => as.length ≤ 2 ∧ zsp 2 zb_X8_depot_0 as S K
theorem zm_X8_depot (l : Launch) (hl : l.stackTraces = false) : zMet l yX8_depot cX8_depot 2 (some .int) { frames := 2, cells := 1, slots := 6, locals := 43 } 0 0 sp_X8_depot := zMet_of hl (by decide +kernel) ⟨rfl, rfl⟩ (fun X C hn _ => zk_X8_depot_0 C hn)
theorem dX8_depotHas_0 : decode cX8_depotHas 0 = .ok (.aload_n 0, 1) := by decide +kernel
theorem dX8_depotHas_1 : decode cX8_depotHas 1 = .ok (.aload_n 0, 1) := by decide +kernel
theorem dX8_depotHas_2 : decode cX8_depotHas 2 = .ok (.iload_n 1, 1) := by decide +kernel
theorem dX8_depotHas_3 : decode cX8_depotHas 3 = .ok (.invokevirtual 173, 3) := by decide +kernel
theorem dX8_depotHas_6 : decode cX8_depotHas 6 = .ok (.ifCond .eq 14, 3) := by decide +kernel
theorem dX8_depotHas_9 : decode cX8_depotHas 9 = .ok (.iload_n 2, 1) := by decide +kernel
theorem dX8_depotHas_10 : decode cX8_depotHas 10 = .ok (.invokestatic 133, 3) := by decide +kernel
theorem dX8_depotHas_13 : decode cX8_depotHas 13 = .ok (.ifCond .eq 7, 3) := by decide +kernel
theorem dX8_depotHas_16 : decode cX8_depotHas 16 = .ok (.iconst 1, 1) := by decide +kernel
theorem dX8_depotHas_17 : decode cX8_depotHas 17 = .ok (.goto 4, 3) := by decide +kernel
theorem dX8_depotHas_20 : decode cX8_depotHas 20 = .ok (.iconst 0, 1) := by decide +kernel
theorem dX8_depotHas_21 : decode cX8_depotHas 21 = .ok (.iconst 1, 1) := by decide +kernel
theorem dX8_depotHas_22 : decode cX8_depotHas 22 = .ok (.invokevirtual 137, 3) := by decide +kernel
theorem dX8_depotHas_25 : decode cX8_depotHas 25 = .ok (.ifCond .eq 5, 3) := by decide +kernel
theorem dX8_depotHas_28 : decode cX8_depotHas 28 = .ok (.iconst 0, 1) := by decide +kernel
theorem dX8_depotHas_29 : decode cX8_depotHas 29 = .ok (.ireturn, 1) := by decide +kernel
theorem dX8_depotHas_30 : decode cX8_depotHas 30 = .ok (.aload_n 0, 1) := by decide +kernel
theorem dX8_depotHas_31 : decode cX8_depotHas 31 = .ok (.getfield 78, 3) := by decide +kernel
theorem dX8_depotHas_34 : decode cX8_depotHas 34 = .ok (.bipush 6, 2) := by decide +kernel
theorem dX8_depotHas_36 : decode cX8_depotHas 36 = .ok (.iload_n 1, 1) := by decide +kernel
theorem dX8_depotHas_37 : decode cX8_depotHas 37 = .ok (.imul, 1) := by decide +kernel
theorem dX8_depotHas_38 : decode cX8_depotHas 38 = .ok (.iload_n 2, 1) := by decide +kernel
theorem dX8_depotHas_39 : decode cX8_depotHas 39 = .ok (.iadd, 1) := by decide +kernel
theorem dX8_depotHas_40 : decode cX8_depotHas 40 = .ok (.iaload, 1) := by decide +kernel
theorem dX8_depotHas_41 : decode cX8_depotHas 41 = .ok (.ireturn, 1) := by decide +kernel
def zb_X8_depotHas_21 : ZP := (z_push 1 (z_invV 8 2 sp_X8_fails (z_if (fun x => x = 0) (z_ald 0 (z_gf 8 27 (z_push 6 (z_ild 1 (z_bin (fun x y => x * y) (z_ild 2 (z_bin (fun x y => x + y) (z_iald (z_ret 1))))))))) (z_push 0 (z_ret 1)))))
set_option maxRecDepth 20000 in
theorem zk_X8_depotHas_21 {X : ZX} (C : zCx X cX8_depotHas RX8 (some .int) 2 43 1 6) (hn : X.nL = 3) : ZOK X 21 (zb_X8_depotHas_21) := by
  unfold zb_X8_depotHas_21
  refine z_iconst_ok (pc := 21) (v := 1) C.hx C.hb dX8_depotHas_21 (by decide) ?_
  refine z_invV_ok (pc := 22) C (by decide +kernel) (zm_X8_fails X.l C.htr) ⟨rfl, rfl⟩ ⟨by decide, by decide⟩ (by decide) (by decide) zcl_X8_137 zw_1016 zw_25 zK8 dX8_depotHas_22 ?_
  refine z_if_eq_ok (pc := 25) (tgt := 30) C.hx C.hb dX8_depotHas_25 (by decide) ?_ ?_
  · refine z_aload_n_ok (pc := 30) (i := 0) C.hx C.hb dX8_depotHas_30 rfl ?_
    refine z_gf_ok (pc := 31) C zK8 (f := 27) (by decide) zw_884 rfl dX8_depotHas_31 ?_
    refine z_bipush_ok (pc := 34) (v := 6) C.hx C.hb dX8_depotHas_34 (by decide) ?_
    refine z_iload_n_ok (pc := 36) (i := 1) C.hx C.hb dX8_depotHas_36 rfl ?_
    refine z_imul_ok (pc := 37) C.hx C.hb dX8_depotHas_37 ?_
    refine z_iload_n_ok (pc := 38) (i := 2) C.hx C.hb dX8_depotHas_38 rfl ?_
    refine z_iadd_ok (pc := 39) C.hx C.hb dX8_depotHas_39 ?_
    refine z_iald_ok (pc := 40) C dX8_depotHas_40 ?_
    exact z_iret_ok (pc := 41) C dX8_depotHas_41
  · refine z_iconst_ok (pc := 28) (v := 0) C.hx C.hb dX8_depotHas_28 (by decide) ?_
    exact z_iret_ok (pc := 29) C dX8_depotHas_29
def zb_X8_depotHas_20 : ZP := (z_push 0 zb_X8_depotHas_21)
set_option maxRecDepth 20000 in
theorem zk_X8_depotHas_20 {X : ZX} (C : zCx X cX8_depotHas RX8 (some .int) 2 43 1 6) (hn : X.nL = 3) : ZOK X 20 (zb_X8_depotHas_20) := by
  unfold zb_X8_depotHas_20
  refine z_iconst_ok (pc := 20) (v := 0) C.hx C.hb dX8_depotHas_20 (by decide) ?_
  exact zk_X8_depotHas_21 C hn 
def zb_X8_depotHas_0 : ZP := (z_ald 0 (z_ald 0 (z_ild 1 (z_invV 8 1 sp_X8_isDepot (z_if (fun x => x = 0) zb_X8_depotHas_20 (z_ild 2 (z_invS 1 sp_X8_isGood (z_if (fun x => x = 0) zb_X8_depotHas_20 (z_push 1 zb_X8_depotHas_21)))))))))
set_option maxRecDepth 20000 in
theorem zk_X8_depotHas_0 {X : ZX} (C : zCx X cX8_depotHas RX8 (some .int) 2 43 1 6) (hn : X.nL = 3) : ZOK X 0 (zb_X8_depotHas_0) := by
  unfold zb_X8_depotHas_0
  refine z_aload_n_ok (pc := 0) (i := 0) C.hx C.hb dX8_depotHas_0 rfl ?_
  refine z_aload_n_ok (pc := 1) (i := 0) C.hx C.hb dX8_depotHas_1 rfl ?_
  refine z_iload_n_ok (pc := 2) (i := 1) C.hx C.hb dX8_depotHas_2 rfl ?_
  refine z_invV_ok (pc := 3) C (by decide +kernel) (zm_X8_isDepot X.l C.htr) ⟨rfl, rfl⟩ ⟨by decide, by decide⟩ (by decide) (by decide) zcl_X8_173 zw_1111 zw_34 zK8 dX8_depotHas_3 ?_
  refine z_if_eq_ok (pc := 6) (tgt := 20) C.hx C.hb dX8_depotHas_6 (by decide) ?_ ?_
  · exact zk_X8_depotHas_20 C hn 
  · refine z_iload_n_ok (pc := 9) (i := 2) C.hx C.hb dX8_depotHas_9 rfl ?_
    refine z_invS_ok (pc := 10) C (by decide +kernel) (zm_X8_isGood X.l C.htr) ⟨rfl, rfl⟩ ⟨by decide, by decide⟩ (by decide) (by decide) zcl_X8_133 zw_1009 dX8_depotHas_10 ?_
    refine z_if_eq_ok (pc := 13) (tgt := 20) C.hx C.hb dX8_depotHas_13 (by decide) ?_ ?_
    · exact zk_X8_depotHas_20 C hn 
    · refine z_iconst_ok (pc := 16) (v := 1) C.hx C.hb dX8_depotHas_16 (by decide) ?_
      refine z_goto_ok (pc := 17) (tgt := 21) C.hx C.hb dX8_depotHas_17 (by decide) ?_
      exact zk_X8_depotHas_21 C hn 
def sp_X8_depotHas : ZSp := fun as S K => as.length ≤ 3 ∧ zsp 3 zb_X8_depotHas_0 as S K
theorem zm_X8_depotHas (l : Launch) (hl : l.stackTraces = false) : zMet l yX8_depotHas cX8_depotHas 3 (some .int) { frames := 2, cells := 1, slots := 6, locals := 43 } 0 0 sp_X8_depotHas := zMet_of hl (by decide +kernel) ⟨rfl, rfl⟩ (fun X C hn _ => zk_X8_depotHas_0 C hn)
theorem dX8_diet_0 : decode cX8_diet 0 = .ok (.aload_n 0, 1) := by decide +kernel
theorem dX8_diet_1 : decode cX8_diet 1 = .ok (.iload_n 1, 1) := by decide +kernel
theorem dX8_diet_2 : decode cX8_diet 2 = .ok (.iconst 1, 1) := by decide +kernel
theorem dX8_diet_3 : decode cX8_diet 3 = .ok (.sipush 3000, 3) := by decide +kernel
theorem dX8_diet_6 : decode cX8_diet 6 = .ok (.invokestatic 120, 3) := by decide +kernel
theorem dX8_diet_9 : decode cX8_diet 9 = .ok (.iconst 1, 1) := by decide +kernel
theorem dX8_diet_10 : decode cX8_diet 10 = .ok (.invokevirtual 137, 3) := by decide +kernel
theorem dX8_diet_13 : decode cX8_diet 13 = .ok (.ifCond .eq 5, 3) := by decide +kernel
theorem dX8_diet_16 : decode cX8_diet 16 = .ok (.iconst 0, 1) := by decide +kernel
theorem dX8_diet_17 : decode cX8_diet 17 = .ok (.ireturn, 1) := by decide +kernel
theorem dX8_diet_18 : decode cX8_diet 18 = .ok (.iconst 1, 1) := by decide +kernel
theorem dX8_diet_19 : decode cX8_diet 19 = .ok (.istore_n 2, 1) := by decide +kernel
theorem dX8_diet_20 : decode cX8_diet 20 = .ok (.iload_n 2, 1) := by decide +kernel
theorem dX8_diet_21 : decode cX8_diet 21 = .ok (.iload_n 1, 1) := by decide +kernel
theorem dX8_diet_22 : decode cX8_diet 22 = .ok (.if_icmp .gt 171, 3) := by decide +kernel
theorem dX8_diet_25 : decode cX8_diet 25 = .ok (.aload_n 0, 1) := by decide +kernel
theorem dX8_diet_26 : decode cX8_diet 26 = .ok (.getfield 114, 3) := by decide +kernel
theorem dX8_diet_29 : decode cX8_diet 29 = .ok (.iload_n 2, 1) := by decide +kernel
theorem dX8_diet_30 : decode cX8_diet 30 = .ok (.iconst (-1), 1) := by decide +kernel
theorem dX8_diet_31 : decode cX8_diet 31 = .ok (.iastore, 1) := by decide +kernel
theorem dX8_diet_32 : decode cX8_diet 32 = .ok (.iconst 0, 1) := by decide +kernel
theorem dX8_diet_33 : decode cX8_diet 33 = .ok (.istore_n 3, 1) := by decide +kernel
theorem dX8_diet_34 : decode cX8_diet 34 = .ok (.iload_n 3, 1) := by decide +kernel
theorem dX8_diet_35 : decode cX8_diet 35 = .ok (.bipush 6, 2) := by decide +kernel
theorem dX8_diet_37 : decode cX8_diet 37 = .ok (.if_icmp .ge 150, 3) := by decide +kernel
theorem dX8_diet_40 : decode cX8_diet 40 = .ok (.iload_n 2, 1) := by decide +kernel
theorem dX8_diet_41 : decode cX8_diet 41 = .ok (.aload_n 0, 1) := by decide +kernel
theorem dX8_diet_42 : decode cX8_diet 42 = .ok (.getfield 26, 3) := by decide +kernel
theorem dX8_diet_45 : decode cX8_diet 45 = .ok (.iload_n 3, 1) := by decide +kernel
theorem dX8_diet_46 : decode cX8_diet 46 = .ok (.iaload, 1) := by decide +kernel
theorem dX8_diet_47 : decode cX8_diet 47 = .ok (.isub, 1) := by decide +kernel
theorem dX8_diet_48 : decode cX8_diet 48 = .ok (.ifCond .ge 7, 3) := by decide +kernel
theorem dX8_diet_51 : decode cX8_diet 51 = .ok (.iconst 0, 1) := by decide +kernel
theorem dX8_diet_52 : decode cX8_diet 52 = .ok (.goto 11, 3) := by decide +kernel
theorem dX8_diet_55 : decode cX8_diet 55 = .ok (.iload_n 2, 1) := by decide +kernel
theorem dX8_diet_56 : decode cX8_diet 56 = .ok (.aload_n 0, 1) := by decide +kernel
theorem dX8_diet_57 : decode cX8_diet 57 = .ok (.getfield 26, 3) := by decide +kernel
theorem dX8_diet_60 : decode cX8_diet 60 = .ok (.iload_n 3, 1) := by decide +kernel
theorem dX8_diet_61 : decode cX8_diet 61 = .ok (.iaload, 1) := by decide +kernel
theorem dX8_diet_62 : decode cX8_diet 62 = .ok (.isub, 1) := by decide +kernel
theorem dX8_diet_63 : decode cX8_diet 63 = .ok (.istore 4, 2) := by decide +kernel
theorem dX8_diet_65 : decode cX8_diet 65 = .ok (.aload_n 0, 1) := by decide +kernel
theorem dX8_diet_66 : decode cX8_diet 66 = .ok (.getfield 16, 3) := by decide +kernel
theorem dX8_diet_69 : decode cX8_diet 69 = .ok (.iload_n 3, 1) := by decide +kernel
theorem dX8_diet_70 : decode cX8_diet 70 = .ok (.iaload, 1) := by decide +kernel
theorem dX8_diet_71 : decode cX8_diet 71 = .ok (.iconst 1, 1) := by decide +kernel
theorem dX8_diet_72 : decode cX8_diet 72 = .ok (.if_icmp .ne 27, 3) := by decide +kernel
theorem dX8_diet_75 : decode cX8_diet 75 = .ok (.aload_n 0, 1) := by decide +kernel
theorem dX8_diet_76 : decode cX8_diet 76 = .ok (.getfield 26, 3) := by decide +kernel
theorem dX8_diet_79 : decode cX8_diet 79 = .ok (.iload_n 3, 1) := by decide +kernel
theorem dX8_diet_80 : decode cX8_diet 80 = .ok (.iaload, 1) := by decide +kernel
theorem dX8_diet_81 : decode cX8_diet 81 = .ok (.ifCond .le 18, 3) := by decide +kernel
theorem dX8_diet_84 : decode cX8_diet 84 = .ok (.aload_n 0, 1) := by decide +kernel
theorem dX8_diet_85 : decode cX8_diet 85 = .ok (.getfield 114, 3) := by decide +kernel
theorem dX8_diet_88 : decode cX8_diet 88 = .ok (.iload 4, 2) := by decide +kernel
theorem dX8_diet_90 : decode cX8_diet 90 = .ok (.iaload, 1) := by decide +kernel
theorem dX8_diet_91 : decode cX8_diet 91 = .ok (.iconst (-1), 1) := by decide +kernel
theorem dX8_diet_92 : decode cX8_diet 92 = .ok (.if_icmp .eq 7, 3) := by decide +kernel
theorem dX8_diet_95 : decode cX8_diet 95 = .ok (.iconst 1, 1) := by decide +kernel
theorem dX8_diet_96 : decode cX8_diet 96 = .ok (.goto 4, 3) := by decide +kernel
theorem dX8_diet_99 : decode cX8_diet 99 = .ok (.iconst 0, 1) := by decide +kernel
theorem dX8_diet_100 : decode cX8_diet 100 = .ok (.istore 5, 2) := by decide +kernel
theorem dX8_diet_102 : decode cX8_diet 102 = .ok (.iload 5, 2) := by decide +kernel
theorem dX8_diet_104 : decode cX8_diet 104 = .ok (.ifCond .eq 40, 3) := by decide +kernel
theorem dX8_diet_107 : decode cX8_diet 107 = .ok (.aload_n 0, 1) := by decide +kernel
theorem dX8_diet_108 : decode cX8_diet 108 = .ok (.getfield 114, 3) := by decide +kernel
theorem dX8_diet_111 : decode cX8_diet 111 = .ok (.iload_n 2, 1) := by decide +kernel
theorem dX8_diet_112 : decode cX8_diet 112 = .ok (.iaload, 1) := by decide +kernel
theorem dX8_diet_113 : decode cX8_diet 113 = .ok (.iconst (-1), 1) := by decide +kernel
theorem dX8_diet_114 : decode cX8_diet 114 = .ok (.if_icmp .eq 26, 3) := by decide +kernel
theorem dX8_diet_117 : decode cX8_diet 117 = .ok (.aload_n 0, 1) := by decide +kernel
theorem dX8_diet_118 : decode cX8_diet 118 = .ok (.getfield 114, 3) := by decide +kernel
theorem dX8_diet_121 : decode cX8_diet 121 = .ok (.iload 4, 2) := by decide +kernel
theorem dX8_diet_123 : decode cX8_diet 123 = .ok (.iaload, 1) := by decide +kernel
theorem dX8_diet_124 : decode cX8_diet 124 = .ok (.aload_n 0, 1) := by decide +kernel
theorem dX8_diet_125 : decode cX8_diet 125 = .ok (.getfield 23, 3) := by decide +kernel
theorem dX8_diet_128 : decode cX8_diet 128 = .ok (.iload_n 3, 1) := by decide +kernel
theorem dX8_diet_129 : decode cX8_diet 129 = .ok (.iaload, 1) := by decide +kernel
theorem dX8_diet_130 : decode cX8_diet 130 = .ok (.iadd, 1) := by decide +kernel
theorem dX8_diet_131 : decode cX8_diet 131 = .ok (.aload_n 0, 1) := by decide +kernel
theorem dX8_diet_132 : decode cX8_diet 132 = .ok (.getfield 114, 3) := by decide +kernel
theorem dX8_diet_135 : decode cX8_diet 135 = .ok (.iload_n 2, 1) := by decide +kernel
theorem dX8_diet_136 : decode cX8_diet 136 = .ok (.iaload, 1) := by decide +kernel
theorem dX8_diet_137 : decode cX8_diet 137 = .ok (.if_icmp .ge 7, 3) := by decide +kernel
theorem dX8_diet_140 : decode cX8_diet 140 = .ok (.iconst 1, 1) := by decide +kernel
theorem dX8_diet_141 : decode cX8_diet 141 = .ok (.goto 4, 3) := by decide +kernel
theorem dX8_diet_144 : decode cX8_diet 144 = .ok (.iconst 0, 1) := by decide +kernel
theorem dX8_diet_145 : decode cX8_diet 145 = .ok (.istore 6, 2) := by decide +kernel
theorem dX8_diet_147 : decode cX8_diet 147 = .ok (.aload_n 0, 1) := by decide +kernel
theorem dX8_diet_148 : decode cX8_diet 148 = .ok (.getfield 114, 3) := by decide +kernel
theorem dX8_diet_151 : decode cX8_diet 151 = .ok (.iload_n 2, 1) := by decide +kernel
theorem dX8_diet_152 : decode cX8_diet 152 = .ok (.iload 6, 2) := by decide +kernel
theorem dX8_diet_154 : decode cX8_diet 154 = .ok (.ifCond .eq 20, 3) := by decide +kernel
theorem dX8_diet_157 : decode cX8_diet 157 = .ok (.aload_n 0, 1) := by decide +kernel
theorem dX8_diet_158 : decode cX8_diet 158 = .ok (.getfield 114, 3) := by decide +kernel
theorem dX8_diet_161 : decode cX8_diet 161 = .ok (.iload 4, 2) := by decide +kernel
theorem dX8_diet_163 : decode cX8_diet 163 = .ok (.iaload, 1) := by decide +kernel
theorem dX8_diet_164 : decode cX8_diet 164 = .ok (.aload_n 0, 1) := by decide +kernel
theorem dX8_diet_165 : decode cX8_diet 165 = .ok (.getfield 23, 3) := by decide +kernel
theorem dX8_diet_168 : decode cX8_diet 168 = .ok (.iload_n 3, 1) := by decide +kernel
theorem dX8_diet_169 : decode cX8_diet 169 = .ok (.iaload, 1) := by decide +kernel
theorem dX8_diet_170 : decode cX8_diet 170 = .ok (.iadd, 1) := by decide +kernel
theorem dX8_diet_171 : decode cX8_diet 171 = .ok (.goto 9, 3) := by decide +kernel
theorem dX8_diet_174 : decode cX8_diet 174 = .ok (.aload_n 0, 1) := by decide +kernel
theorem dX8_diet_175 : decode cX8_diet 175 = .ok (.getfield 114, 3) := by decide +kernel
theorem dX8_diet_178 : decode cX8_diet 178 = .ok (.iload_n 2, 1) := by decide +kernel
theorem dX8_diet_179 : decode cX8_diet 179 = .ok (.iaload, 1) := by decide +kernel
theorem dX8_diet_180 : decode cX8_diet 180 = .ok (.iastore, 1) := by decide +kernel
theorem dX8_diet_181 : decode cX8_diet 181 = .ok (.iinc 3 1, 3) := by decide +kernel
theorem dX8_diet_184 : decode cX8_diet 184 = .ok (.goto (-150), 3) := by decide +kernel
theorem dX8_diet_187 : decode cX8_diet 187 = .ok (.iinc 2 1, 3) := by decide +kernel
theorem dX8_diet_190 : decode cX8_diet 190 = .ok (.goto (-170), 3) := by decide +kernel
theorem dX8_diet_193 : decode cX8_diet 193 = .ok (.aload_n 0, 1) := by decide +kernel
theorem dX8_diet_194 : decode cX8_diet 194 = .ok (.getfield 114, 3) := by decide +kernel
theorem dX8_diet_197 : decode cX8_diet 197 = .ok (.iload_n 1, 1) := by decide +kernel
theorem dX8_diet_198 : decode cX8_diet 198 = .ok (.iaload, 1) := by decide +kernel
theorem dX8_diet_199 : decode cX8_diet 199 = .ok (.ireturn, 1) := by decide +kernel
def zb_X8_diet_180 (J20 : ZP) (J34 : ZP) : ZP := (z_iast (z_inc 3 (1) J34))
set_option maxRecDepth 20000 in
theorem zk_X8_diet_180 {X : ZX} (C : zCx X cX8_diet RX8 (some .int) 1 22 1 6) (hn : X.nL = 7) {J20 : ZP} (hJ20 : ZOK X 20 J20) {J34 : ZP} (hJ34 : ZOK X 34 J34) : ZOK X 180 (zb_X8_diet_180 J20 J34) := by
  unfold zb_X8_diet_180
  refine z_iast_ok (pc := 180) C dX8_diet_180 ?_
  refine z_iinc_ok (pc := 181) (i := 3) (v := 1) C.hx C.hb dX8_diet_181 (by decide) (zlt hn (by decide)) ?_
  refine z_goto_ok (pc := 184) (tgt := 34) C.hx C.hb dX8_diet_184 (by decide) ?_
  exact hJ34
def zb_X8_diet_145 (J20 : ZP) (J34 : ZP) : ZP := (z_ist 6 (z_ald 0 (z_gf 8 45 (z_ild 2 (z_ild 6 (z_if (fun x => x = 0) (z_ald 0 (z_gf 8 45 (z_ild 2 (z_iald (zb_X8_diet_180 J20 J34))))) (z_ald 0 (z_gf 8 45 (z_ild 4 (z_iald (z_ald 0 (z_gf 8 6 (z_ild 3 (z_iald (z_bin (fun x y => x + y) (zb_X8_diet_180 J20 J34))))))))))))))))
set_option maxRecDepth 20000 in
theorem zk_X8_diet_145 {X : ZX} (C : zCx X cX8_diet RX8 (some .int) 1 22 1 6) (hn : X.nL = 7) {J20 : ZP} (hJ20 : ZOK X 20 J20) {J34 : ZP} (hJ34 : ZOK X 34 J34) : ZOK X 145 (zb_X8_diet_145 J20 J34) := by
  unfold zb_X8_diet_145
  refine z_istore_ok (pc := 145) (i := 6) C.hx C.hb dX8_diet_145 (zlt hn (by decide)) ?_
  refine z_aload_n_ok (pc := 147) (i := 0) C.hx C.hb dX8_diet_147 rfl ?_
  refine z_gf_ok (pc := 148) C zK8 (f := 45) (by decide) zw_902 rfl dX8_diet_148 ?_
  refine z_iload_n_ok (pc := 151) (i := 2) C.hx C.hb dX8_diet_151 rfl ?_
  refine z_iload_ok (pc := 152) (i := 6) C.hx C.hb dX8_diet_152 ?_
  refine z_if_eq_ok (pc := 154) (tgt := 174) C.hx C.hb dX8_diet_154 (by decide) ?_ ?_
  · refine z_aload_n_ok (pc := 174) (i := 0) C.hx C.hb dX8_diet_174 rfl ?_
    refine z_gf_ok (pc := 175) C zK8 (f := 45) (by decide) zw_902 rfl dX8_diet_175 ?_
    refine z_iload_n_ok (pc := 178) (i := 2) C.hx C.hb dX8_diet_178 rfl ?_
    refine z_iald_ok (pc := 179) C dX8_diet_179 ?_
    exact zk_X8_diet_180 C hn hJ20 hJ34
  · refine z_aload_n_ok (pc := 157) (i := 0) C.hx C.hb dX8_diet_157 rfl ?_
    refine z_gf_ok (pc := 158) C zK8 (f := 45) (by decide) zw_902 rfl dX8_diet_158 ?_
    refine z_iload_ok (pc := 161) (i := 4) C.hx C.hb dX8_diet_161 ?_
    refine z_iald_ok (pc := 163) C dX8_diet_163 ?_
    refine z_aload_n_ok (pc := 164) (i := 0) C.hx C.hb dX8_diet_164 rfl ?_
    refine z_gf_ok (pc := 165) C zK8 (f := 6) (by decide) zw_863 rfl dX8_diet_165 ?_
    refine z_iload_n_ok (pc := 168) (i := 3) C.hx C.hb dX8_diet_168 rfl ?_
    refine z_iald_ok (pc := 169) C dX8_diet_169 ?_
    refine z_iadd_ok (pc := 170) C.hx C.hb dX8_diet_170 ?_
    refine z_goto_ok (pc := 171) (tgt := 180) C.hx C.hb dX8_diet_171 (by decide) ?_
    exact zk_X8_diet_180 C hn hJ20 hJ34
def zb_X8_diet_144 (J20 : ZP) (J34 : ZP) : ZP := (z_push 0 (zb_X8_diet_145 J20 J34))
set_option maxRecDepth 20000 in
theorem zk_X8_diet_144 {X : ZX} (C : zCx X cX8_diet RX8 (some .int) 1 22 1 6) (hn : X.nL = 7) {J20 : ZP} (hJ20 : ZOK X 20 J20) {J34 : ZP} (hJ34 : ZOK X 34 J34) : ZOK X 144 (zb_X8_diet_144 J20 J34) := by
  unfold zb_X8_diet_144
  refine z_iconst_ok (pc := 144) (v := 0) C.hx C.hb dX8_diet_144 (by decide) ?_
  exact zk_X8_diet_145 C hn hJ20 hJ34
def zb_X8_diet_140 (J20 : ZP) (J34 : ZP) : ZP := (z_push 1 (zb_X8_diet_145 J20 J34))
set_option maxRecDepth 20000 in
theorem zk_X8_diet_140 {X : ZX} (C : zCx X cX8_diet RX8 (some .int) 1 22 1 6) (hn : X.nL = 7) {J20 : ZP} (hJ20 : ZOK X 20 J20) {J34 : ZP} (hJ34 : ZOK X 34 J34) : ZOK X 140 (zb_X8_diet_140 J20 J34) := by
  unfold zb_X8_diet_140
  refine z_iconst_ok (pc := 140) (v := 1) C.hx C.hb dX8_diet_140 (by decide) ?_
  refine z_goto_ok (pc := 141) (tgt := 145) C.hx C.hb dX8_diet_141 (by decide) ?_
  exact zk_X8_diet_145 C hn hJ20 hJ34
def zb_X8_diet_100 (J20 : ZP) (J34 : ZP) : ZP := (z_ist 5 (z_ild 5 (z_if (fun x => x = 0) (zb_X8_diet_144 J20 J34) (z_ald 0 (z_gf 8 45 (z_ild 2 (z_iald (z_push (-1) (z_cmp (fun x y => x = y) (zb_X8_diet_140 J20 J34) (z_ald 0 (z_gf 8 45 (z_ild 4 (z_iald (z_ald 0 (z_gf 8 6 (z_ild 3 (z_iald (z_bin (fun x y => x + y) (z_ald 0 (z_gf 8 45 (z_ild 2 (z_iald (z_cmp (fun x y => y ≤ x) (zb_X8_diet_144 J20 J34) (zb_X8_diet_140 J20 J34))))))))))))))))))))))))
set_option maxRecDepth 20000 in
theorem zk_X8_diet_100 {X : ZX} (C : zCx X cX8_diet RX8 (some .int) 1 22 1 6) (hn : X.nL = 7) {J20 : ZP} (hJ20 : ZOK X 20 J20) {J34 : ZP} (hJ34 : ZOK X 34 J34) : ZOK X 100 (zb_X8_diet_100 J20 J34) := by
  unfold zb_X8_diet_100
  refine z_istore_ok (pc := 100) (i := 5) C.hx C.hb dX8_diet_100 (zlt hn (by decide)) ?_
  refine z_iload_ok (pc := 102) (i := 5) C.hx C.hb dX8_diet_102 ?_
  refine z_if_eq_ok (pc := 104) (tgt := 144) C.hx C.hb dX8_diet_104 (by decide) ?_ ?_
  · exact zk_X8_diet_144 C hn hJ20 hJ34
  · refine z_aload_n_ok (pc := 107) (i := 0) C.hx C.hb dX8_diet_107 rfl ?_
    refine z_gf_ok (pc := 108) C zK8 (f := 45) (by decide) zw_902 rfl dX8_diet_108 ?_
    refine z_iload_n_ok (pc := 111) (i := 2) C.hx C.hb dX8_diet_111 rfl ?_
    refine z_iald_ok (pc := 112) C dX8_diet_112 ?_
    refine z_iconst_ok (pc := 113) (v := -1) C.hx C.hb dX8_diet_113 (by decide) ?_
    refine z_icmp_eq_ok (pc := 114) (tgt := 140) C.hx C.hb dX8_diet_114 (by decide) ?_ ?_
    · exact zk_X8_diet_140 C hn hJ20 hJ34
    · refine z_aload_n_ok (pc := 117) (i := 0) C.hx C.hb dX8_diet_117 rfl ?_
      refine z_gf_ok (pc := 118) C zK8 (f := 45) (by decide) zw_902 rfl dX8_diet_118 ?_
      refine z_iload_ok (pc := 121) (i := 4) C.hx C.hb dX8_diet_121 ?_
      refine z_iald_ok (pc := 123) C dX8_diet_123 ?_
      refine z_aload_n_ok (pc := 124) (i := 0) C.hx C.hb dX8_diet_124 rfl ?_
      refine z_gf_ok (pc := 125) C zK8 (f := 6) (by decide) zw_863 rfl dX8_diet_125 ?_
      refine z_iload_n_ok (pc := 128) (i := 3) C.hx C.hb dX8_diet_128 rfl ?_
      refine z_iald_ok (pc := 129) C dX8_diet_129 ?_
      refine z_iadd_ok (pc := 130) C.hx C.hb dX8_diet_130 ?_
      refine z_aload_n_ok (pc := 131) (i := 0) C.hx C.hb dX8_diet_131 rfl ?_
      refine z_gf_ok (pc := 132) C zK8 (f := 45) (by decide) zw_902 rfl dX8_diet_132 ?_
      refine z_iload_n_ok (pc := 135) (i := 2) C.hx C.hb dX8_diet_135 rfl ?_
      refine z_iald_ok (pc := 136) C dX8_diet_136 ?_
      refine z_icmp_ge_ok (pc := 137) (tgt := 144) C.hx C.hb dX8_diet_137 (by decide) ?_ ?_
      · exact zk_X8_diet_144 C hn hJ20 hJ34
      · exact zk_X8_diet_140 C hn hJ20 hJ34
def zb_X8_diet_99 (J20 : ZP) (J34 : ZP) : ZP := (z_push 0 (zb_X8_diet_100 J20 J34))
set_option maxRecDepth 20000 in
theorem zk_X8_diet_99 {X : ZX} (C : zCx X cX8_diet RX8 (some .int) 1 22 1 6) (hn : X.nL = 7) {J20 : ZP} (hJ20 : ZOK X 20 J20) {J34 : ZP} (hJ34 : ZOK X 34 J34) : ZOK X 99 (zb_X8_diet_99 J20 J34) := by
  unfold zb_X8_diet_99
  refine z_iconst_ok (pc := 99) (v := 0) C.hx C.hb dX8_diet_99 (by decide) ?_
  exact zk_X8_diet_100 C hn hJ20 hJ34
def zb_X8_diet_63 (J20 : ZP) (J34 : ZP) : ZP := (z_ist 4 (z_ald 0 (z_gf 8 4 (z_ild 3 (z_iald (z_push 1 (z_cmp (fun x y => x = y) (z_ald 0 (z_gf 8 7 (z_ild 3 (z_iald (z_if (fun x => x ≤ 0) (zb_X8_diet_99 J20 J34) (z_ald 0 (z_gf 8 45 (z_ild 4 (z_iald (z_push (-1) (z_cmp (fun x y => x = y) (zb_X8_diet_99 J20 J34) (z_push 1 (zb_X8_diet_100 J20 J34))))))))))))) (zb_X8_diet_99 J20 J34))))))))
set_option maxRecDepth 20000 in
theorem zk_X8_diet_63 {X : ZX} (C : zCx X cX8_diet RX8 (some .int) 1 22 1 6) (hn : X.nL = 7) {J20 : ZP} (hJ20 : ZOK X 20 J20) {J34 : ZP} (hJ34 : ZOK X 34 J34) : ZOK X 63 (zb_X8_diet_63 J20 J34) := by
  unfold zb_X8_diet_63
  refine z_istore_ok (pc := 63) (i := 4) C.hx C.hb dX8_diet_63 (zlt hn (by decide)) ?_
  refine z_aload_n_ok (pc := 65) (i := 0) C.hx C.hb dX8_diet_65 rfl ?_
  refine z_gf_ok (pc := 66) C zK8 (f := 4) (by decide) zw_861 rfl dX8_diet_66 ?_
  refine z_iload_n_ok (pc := 69) (i := 3) C.hx C.hb dX8_diet_69 rfl ?_
  refine z_iald_ok (pc := 70) C dX8_diet_70 ?_
  refine z_iconst_ok (pc := 71) (v := 1) C.hx C.hb dX8_diet_71 (by decide) ?_
  refine z_icmp_ne_ok (pc := 72) (tgt := 99) C.hx C.hb dX8_diet_72 (by decide) ?_ ?_
  · exact zk_X8_diet_99 C hn hJ20 hJ34
  · refine z_aload_n_ok (pc := 75) (i := 0) C.hx C.hb dX8_diet_75 rfl ?_
    refine z_gf_ok (pc := 76) C zK8 (f := 7) (by decide) zw_864 rfl dX8_diet_76 ?_
    refine z_iload_n_ok (pc := 79) (i := 3) C.hx C.hb dX8_diet_79 rfl ?_
    refine z_iald_ok (pc := 80) C dX8_diet_80 ?_
    refine z_if_le_ok (pc := 81) (tgt := 99) C.hx C.hb dX8_diet_81 (by decide) ?_ ?_
    · exact zk_X8_diet_99 C hn hJ20 hJ34
    · refine z_aload_n_ok (pc := 84) (i := 0) C.hx C.hb dX8_diet_84 rfl ?_
      refine z_gf_ok (pc := 85) C zK8 (f := 45) (by decide) zw_902 rfl dX8_diet_85 ?_
      refine z_iload_ok (pc := 88) (i := 4) C.hx C.hb dX8_diet_88 ?_
      refine z_iald_ok (pc := 90) C dX8_diet_90 ?_
      refine z_iconst_ok (pc := 91) (v := -1) C.hx C.hb dX8_diet_91 (by decide) ?_
      refine z_icmp_eq_ok (pc := 92) (tgt := 99) C.hx C.hb dX8_diet_92 (by decide) ?_ ?_
      · exact zk_X8_diet_99 C hn hJ20 hJ34
      · refine z_iconst_ok (pc := 95) (v := 1) C.hx C.hb dX8_diet_95 (by decide) ?_
        refine z_goto_ok (pc := 96) (tgt := 100) C.hx C.hb dX8_diet_96 (by decide) ?_
        exact zk_X8_diet_100 C hn hJ20 hJ34
def zb_X8_diet_34 (J20 : ZP) (J34 : ZP) : ZP := (z_ild 3 (z_push 6 (z_cmp (fun x y => y ≤ x) (z_inc 2 (1) J20) (z_ild 2 (z_ald 0 (z_gf 8 7 (z_ild 3 (z_iald (z_bin (fun x y => x - y) (z_if (fun x => 0 ≤ x) (z_ild 2 (z_ald 0 (z_gf 8 7 (z_ild 3 (z_iald (z_bin (fun x y => x - y) (zb_X8_diet_63 J20 J34))))))) (z_push 0 (zb_X8_diet_63 J20 J34))))))))))))
set_option maxRecDepth 20000 in
theorem zk_X8_diet_34 {X : ZX} (C : zCx X cX8_diet RX8 (some .int) 1 22 1 6) (hn : X.nL = 7) {J20 : ZP} (hJ20 : ZOK X 20 J20) {J34 : ZP} (hJ34 : ZOK X 34 J34) : ZOK X 34 (zb_X8_diet_34 J20 J34) := by
  unfold zb_X8_diet_34
  refine z_iload_n_ok (pc := 34) (i := 3) C.hx C.hb dX8_diet_34 rfl ?_
  refine z_bipush_ok (pc := 35) (v := 6) C.hx C.hb dX8_diet_35 (by decide) ?_
  refine z_icmp_ge_ok (pc := 37) (tgt := 187) C.hx C.hb dX8_diet_37 (by decide) ?_ ?_
  · refine z_iinc_ok (pc := 187) (i := 2) (v := 1) C.hx C.hb dX8_diet_187 (by decide) (zlt hn (by decide)) ?_
    refine z_goto_ok (pc := 190) (tgt := 20) C.hx C.hb dX8_diet_190 (by decide) ?_
    exact hJ20
  · refine z_iload_n_ok (pc := 40) (i := 2) C.hx C.hb dX8_diet_40 rfl ?_
    refine z_aload_n_ok (pc := 41) (i := 0) C.hx C.hb dX8_diet_41 rfl ?_
    refine z_gf_ok (pc := 42) C zK8 (f := 7) (by decide) zw_864 rfl dX8_diet_42 ?_
    refine z_iload_n_ok (pc := 45) (i := 3) C.hx C.hb dX8_diet_45 rfl ?_
    refine z_iald_ok (pc := 46) C dX8_diet_46 ?_
    refine z_isub_ok (pc := 47) C.hx C.hb dX8_diet_47 ?_
    refine z_if_ge_ok (pc := 48) (tgt := 55) C.hx C.hb dX8_diet_48 (by decide) ?_ ?_
    · refine z_iload_n_ok (pc := 55) (i := 2) C.hx C.hb dX8_diet_55 rfl ?_
      refine z_aload_n_ok (pc := 56) (i := 0) C.hx C.hb dX8_diet_56 rfl ?_
      refine z_gf_ok (pc := 57) C zK8 (f := 7) (by decide) zw_864 rfl dX8_diet_57 ?_
      refine z_iload_n_ok (pc := 60) (i := 3) C.hx C.hb dX8_diet_60 rfl ?_
      refine z_iald_ok (pc := 61) C dX8_diet_61 ?_
      refine z_isub_ok (pc := 62) C.hx C.hb dX8_diet_62 ?_
      exact zk_X8_diet_63 C hn hJ20 hJ34
    · refine z_iconst_ok (pc := 51) (v := 0) C.hx C.hb dX8_diet_51 (by decide) ?_
      refine z_goto_ok (pc := 52) (tgt := 63) C.hx C.hb dX8_diet_52 (by decide) ?_
      exact zk_X8_diet_63 C hn hJ20 hJ34
def zb_X8_diet_20 (J20 : ZP) : ZP := (z_ild 2 (z_ild 1 (z_cmp (fun x y => y < x) (z_ald 0 (z_gf 8 45 (z_ild 1 (z_iald (z_ret 1))))) (z_ald 0 (z_gf 8 45 (z_ild 2 (z_push (-1) (z_iast (z_push 0 (z_ist 3 (z_loop (fun J34 => zb_X8_diet_34 J20 J34))))))))))))
set_option maxRecDepth 20000 in
theorem zk_X8_diet_20 {X : ZX} (C : zCx X cX8_diet RX8 (some .int) 1 22 1 6) (hn : X.nL = 7) {J20 : ZP} (hJ20 : ZOK X 20 J20) : ZOK X 20 (zb_X8_diet_20 J20) := by
  unfold zb_X8_diet_20
  refine z_iload_n_ok (pc := 20) (i := 2) C.hx C.hb dX8_diet_20 rfl ?_
  refine z_iload_n_ok (pc := 21) (i := 1) C.hx C.hb dX8_diet_21 rfl ?_
  refine z_icmp_gt_ok (pc := 22) (tgt := 193) C.hx C.hb dX8_diet_22 (by decide) ?_ ?_
  · refine z_aload_n_ok (pc := 193) (i := 0) C.hx C.hb dX8_diet_193 rfl ?_
    refine z_gf_ok (pc := 194) C zK8 (f := 45) (by decide) zw_902 rfl dX8_diet_194 ?_
    refine z_iload_n_ok (pc := 197) (i := 1) C.hx C.hb dX8_diet_197 rfl ?_
    refine z_iald_ok (pc := 198) C dX8_diet_198 ?_
    exact z_iret_ok (pc := 199) C dX8_diet_199
  · refine z_aload_n_ok (pc := 25) (i := 0) C.hx C.hb dX8_diet_25 rfl ?_
    refine z_gf_ok (pc := 26) C zK8 (f := 45) (by decide) zw_902 rfl dX8_diet_26 ?_
    refine z_iload_n_ok (pc := 29) (i := 2) C.hx C.hb dX8_diet_29 rfl ?_
    refine z_iconst_ok (pc := 30) (v := -1) C.hx C.hb dX8_diet_30 (by decide) ?_
    refine z_iast_ok (pc := 31) C dX8_diet_31 ?_
    refine z_iconst_ok (pc := 32) (v := 0) C.hx C.hb dX8_diet_32 (by decide) ?_
    refine z_istore_n_ok (pc := 33) (i := 3) C.hx C.hb dX8_diet_33 rfl (zlt hn (by decide)) ?_
    exact z_loop_ok (fun J34 hJ34 => zk_X8_diet_34 C hn hJ20 hJ34)
def zb_X8_diet_0 : ZP := (z_ald 0 (z_ild 1 (z_push 1 (z_push 3000 (z_invS 3 sp_X8_in (z_push 1 (z_invV 8 2 sp_X8_fails (z_if (fun x => x = 0) (z_push 1 (z_ist 2 (z_loop (fun J20 => zb_X8_diet_20 J20)))) (z_push 0 (z_ret 1))))))))))
set_option maxRecDepth 20000 in
theorem zk_X8_diet_0 {X : ZX} (C : zCx X cX8_diet RX8 (some .int) 1 22 1 6) (hn : X.nL = 7) : ZOK X 0 (zb_X8_diet_0) := by
  unfold zb_X8_diet_0
  refine z_aload_n_ok (pc := 0) (i := 0) C.hx C.hb dX8_diet_0 rfl ?_
  refine z_iload_n_ok (pc := 1) (i := 1) C.hx C.hb dX8_diet_1 rfl ?_
  refine z_iconst_ok (pc := 2) (v := 1) C.hx C.hb dX8_diet_2 (by decide) ?_
  refine z_sipush_ok (pc := 3) (v := 3000) C.hx C.hb dX8_diet_3 (by decide) ?_
  refine z_invS_ok (pc := 6) C (by decide +kernel) (zm_X8_in X.l C.htr) ⟨rfl, rfl⟩ ⟨by decide, by decide⟩ (by decide) (by decide) zcl_X8_120 zw_1012 dX8_diet_6 ?_
  refine z_iconst_ok (pc := 9) (v := 1) C.hx C.hb dX8_diet_9 (by decide) ?_
  refine z_invV_ok (pc := 10) C (by decide +kernel) (zm_X8_fails X.l C.htr) ⟨rfl, rfl⟩ ⟨by decide, by decide⟩ (by decide) (by decide) zcl_X8_137 zw_1016 zw_25 zK8 dX8_diet_10 ?_
  refine z_if_eq_ok (pc := 13) (tgt := 18) C.hx C.hb dX8_diet_13 (by decide) ?_ ?_
  · refine z_iconst_ok (pc := 18) (v := 1) C.hx C.hb dX8_diet_18 (by decide) ?_
    refine z_istore_n_ok (pc := 19) (i := 2) C.hx C.hb dX8_diet_19 rfl (zlt hn (by decide)) ?_
    exact z_loop_ok (fun J20 hJ20 => zk_X8_diet_20 C hn hJ20)
  · refine z_iconst_ok (pc := 16) (v := 0) C.hx C.hb dX8_diet_16 (by decide) ?_
    exact z_iret_ok (pc := 17) C dX8_diet_17
def sp_X8_diet : ZSp := fun as S K => as.length ≤ 7 ∧ zsp 7 zb_X8_diet_0 as S K
theorem zm_X8_diet (l : Launch) (hl : l.stackTraces = false) : zMet l yX8_diet cX8_diet 7 (some .int) { frames := 1, cells := 1, slots := 6, locals := 22 } 0 0 sp_X8_diet := zMet_of hl (by decide +kernel) ⟨rfl, rfl⟩ (fun X C hn _ => zk_X8_diet_0 C hn)
theorem dX8_energy_0 : decode cX8_energy 0 = .ok (.aload_n 0, 1) := by decide +kernel
theorem dX8_energy_1 : decode cX8_energy 1 = .ok (.iload_n 1, 1) := by decide +kernel
theorem dX8_energy_2 : decode cX8_energy 2 = .ok (.invokestatic 133, 3) := by decide +kernel
theorem dX8_energy_5 : decode cX8_energy 5 = .ok (.iconst 1, 1) := by decide +kernel
theorem dX8_energy_6 : decode cX8_energy 6 = .ok (.invokevirtual 137, 3) := by decide +kernel
theorem dX8_energy_9 : decode cX8_energy 9 = .ok (.ifCond .eq 5, 3) := by decide +kernel
theorem dX8_energy_12 : decode cX8_energy 12 = .ok (.iconst 0, 1) := by decide +kernel
theorem dX8_energy_13 : decode cX8_energy 13 = .ok (.ireturn, 1) := by decide +kernel
theorem dX8_energy_14 : decode cX8_energy 14 = .ok (.aload_n 0, 1) := by decide +kernel
theorem dX8_energy_15 : decode cX8_energy 15 = .ok (.iload_n 2, 1) := by decide +kernel
theorem dX8_energy_16 : decode cX8_energy 16 = .ok (.iconst 0, 1) := by decide +kernel
theorem dX8_energy_17 : decode cX8_energy 17 = .ok (.sipush 900, 3) := by decide +kernel
theorem dX8_energy_20 : decode cX8_energy 20 = .ok (.invokestatic 120, 3) := by decide +kernel
theorem dX8_energy_23 : decode cX8_energy 23 = .ok (.iconst 2, 1) := by decide +kernel
theorem dX8_energy_24 : decode cX8_energy 24 = .ok (.invokevirtual 137, 3) := by decide +kernel
theorem dX8_energy_27 : decode cX8_energy 27 = .ok (.ifCond .eq 5, 3) := by decide +kernel
theorem dX8_energy_30 : decode cX8_energy 30 = .ok (.iconst 0, 1) := by decide +kernel
theorem dX8_energy_31 : decode cX8_energy 31 = .ok (.ireturn, 1) := by decide +kernel
theorem dX8_energy_32 : decode cX8_energy 32 = .ok (.aload_n 0, 1) := by decide +kernel
theorem dX8_energy_33 : decode cX8_energy 33 = .ok (.getfield 26, 3) := by decide +kernel
theorem dX8_energy_36 : decode cX8_energy 36 = .ok (.iload_n 1, 1) := by decide +kernel
theorem dX8_energy_37 : decode cX8_energy 37 = .ok (.iaload, 1) := by decide +kernel
theorem dX8_energy_38 : decode cX8_energy 38 = .ok (.istore_n 3, 1) := by decide +kernel
theorem dX8_energy_39 : decode cX8_energy 39 = .ok (.aload_n 0, 1) := by decide +kernel
theorem dX8_energy_40 : decode cX8_energy 40 = .ok (.getfield 26, 3) := by decide +kernel
theorem dX8_energy_43 : decode cX8_energy 43 = .ok (.iload_n 1, 1) := by decide +kernel
theorem dX8_energy_44 : decode cX8_energy 44 = .ok (.iload_n 2, 1) := by decide +kernel
theorem dX8_energy_45 : decode cX8_energy 45 = .ok (.iastore, 1) := by decide +kernel
theorem dX8_energy_46 : decode cX8_energy 46 = .ok (.iload_n 3, 1) := by decide +kernel
theorem dX8_energy_47 : decode cX8_energy 47 = .ok (.ireturn, 1) := by decide +kernel
def zb_X8_energy_0 : ZP := (z_ald 0 (z_ild 1 (z_invS 1 sp_X8_isGood (z_push 1 (z_invV 8 2 sp_X8_fails (z_if (fun x => x = 0) (z_ald 0 (z_ild 2 (z_push 0 (z_push 900 (z_invS 3 sp_X8_in (z_push 2 (z_invV 8 2 sp_X8_fails (z_if (fun x => x = 0) (z_ald 0 (z_gf 8 7 (z_ild 1 (z_iald (z_ist 3 (z_ald 0 (z_gf 8 7 (z_ild 1 (z_ild 2 (z_iast (z_ild 3 (z_ret 1)))))))))))) (z_push 0 (z_ret 1)))))))))) (z_push 0 (z_ret 1))))))))
set_option maxRecDepth 20000 in
theorem zk_X8_energy_0 {X : ZX} (C : zCx X cX8_energy RX8 (some .int) 2 42 1 6) (hn : X.nL = 4) : ZOK X 0 (zb_X8_energy_0) := by
  unfold zb_X8_energy_0
  refine z_aload_n_ok (pc := 0) (i := 0) C.hx C.hb dX8_energy_0 rfl ?_
  refine z_iload_n_ok (pc := 1) (i := 1) C.hx C.hb dX8_energy_1 rfl ?_
  refine z_invS_ok (pc := 2) C (by decide +kernel) (zm_X8_isGood X.l C.htr) ⟨rfl, rfl⟩ ⟨by decide, by decide⟩ (by decide) (by decide) zcl_X8_133 zw_1009 dX8_energy_2 ?_
  refine z_iconst_ok (pc := 5) (v := 1) C.hx C.hb dX8_energy_5 (by decide) ?_
  refine z_invV_ok (pc := 6) C (by decide +kernel) (zm_X8_fails X.l C.htr) ⟨rfl, rfl⟩ ⟨by decide, by decide⟩ (by decide) (by decide) zcl_X8_137 zw_1016 zw_25 zK8 dX8_energy_6 ?_
  refine z_if_eq_ok (pc := 9) (tgt := 14) C.hx C.hb dX8_energy_9 (by decide) ?_ ?_
  · refine z_aload_n_ok (pc := 14) (i := 0) C.hx C.hb dX8_energy_14 rfl ?_
    refine z_iload_n_ok (pc := 15) (i := 2) C.hx C.hb dX8_energy_15 rfl ?_
    refine z_iconst_ok (pc := 16) (v := 0) C.hx C.hb dX8_energy_16 (by decide) ?_
    refine z_sipush_ok (pc := 17) (v := 900) C.hx C.hb dX8_energy_17 (by decide) ?_
    refine z_invS_ok (pc := 20) C (by decide +kernel) (zm_X8_in X.l C.htr) ⟨rfl, rfl⟩ ⟨by decide, by decide⟩ (by decide) (by decide) zcl_X8_120 zw_1012 dX8_energy_20 ?_
    refine z_iconst_ok (pc := 23) (v := 2) C.hx C.hb dX8_energy_23 (by decide) ?_
    refine z_invV_ok (pc := 24) C (by decide +kernel) (zm_X8_fails X.l C.htr) ⟨rfl, rfl⟩ ⟨by decide, by decide⟩ (by decide) (by decide) zcl_X8_137 zw_1016 zw_25 zK8 dX8_energy_24 ?_
    refine z_if_eq_ok (pc := 27) (tgt := 32) C.hx C.hb dX8_energy_27 (by decide) ?_ ?_
    · refine z_aload_n_ok (pc := 32) (i := 0) C.hx C.hb dX8_energy_32 rfl ?_
      refine z_gf_ok (pc := 33) C zK8 (f := 7) (by decide) zw_864 rfl dX8_energy_33 ?_
      refine z_iload_n_ok (pc := 36) (i := 1) C.hx C.hb dX8_energy_36 rfl ?_
      refine z_iald_ok (pc := 37) C dX8_energy_37 ?_
      refine z_istore_n_ok (pc := 38) (i := 3) C.hx C.hb dX8_energy_38 rfl (zlt hn (by decide)) ?_
      refine z_aload_n_ok (pc := 39) (i := 0) C.hx C.hb dX8_energy_39 rfl ?_
      refine z_gf_ok (pc := 40) C zK8 (f := 7) (by decide) zw_864 rfl dX8_energy_40 ?_
      refine z_iload_n_ok (pc := 43) (i := 1) C.hx C.hb dX8_energy_43 rfl ?_
      refine z_iload_n_ok (pc := 44) (i := 2) C.hx C.hb dX8_energy_44 rfl ?_
      refine z_iast_ok (pc := 45) C dX8_energy_45 ?_
      refine z_iload_n_ok (pc := 46) (i := 3) C.hx C.hb dX8_energy_46 rfl ?_
      exact z_iret_ok (pc := 47) C dX8_energy_47
    · refine z_iconst_ok (pc := 30) (v := 0) C.hx C.hb dX8_energy_30 (by decide) ?_
      exact z_iret_ok (pc := 31) C dX8_energy_31
  · refine z_iconst_ok (pc := 12) (v := 0) C.hx C.hb dX8_energy_12 (by decide) ?_
    exact z_iret_ok (pc := 13) C dX8_energy_13
def sp_X8_energy : ZSp := fun as S K => as.length ≤ 4 ∧ zsp 4 zb_X8_energy_0 as S K
theorem zm_X8_energy (l : Launch) (hl : l.stackTraces = false) : zMet l yX8_energy cX8_energy 4 (some .int) { frames := 2, cells := 1, slots := 6, locals := 42 } 0 0 sp_X8_energy := zMet_of hl (by decide +kernel) ⟨rfl, rfl⟩ (fun X C hn _ => zk_X8_energy_0 C hn)
theorem dX8_failed_0 : decode cX8_failed 0 = .ok (.aload_n 0, 1) := by decide +kernel
theorem dX8_failed_1 : decode cX8_failed 1 = .ok (.iload_n 1, 1) := by decide +kernel
theorem dX8_failed_2 : decode cX8_failed 2 = .ok (.iconst 0, 1) := by decide +kernel
theorem dX8_failed_3 : decode cX8_failed 3 = .ok (.aload_n 0, 1) := by decide +kernel
theorem dX8_failed_4 : decode cX8_failed 4 = .ok (.getfield 206, 3) := by decide +kernel
theorem dX8_failed_7 : decode cX8_failed 7 = .ok (.iconst 1, 1) := by decide +kernel
theorem dX8_failed_8 : decode cX8_failed 8 = .ok (.isub, 1) := by decide +kernel
theorem dX8_failed_9 : decode cX8_failed 9 = .ok (.invokestatic 120, 3) := by decide +kernel
theorem dX8_failed_12 : decode cX8_failed 12 = .ok (.iconst 1, 1) := by decide +kernel
theorem dX8_failed_13 : decode cX8_failed 13 = .ok (.invokevirtual 137, 3) := by decide +kernel
theorem dX8_failed_16 : decode cX8_failed 16 = .ok (.ifCond .eq 5, 3) := by decide +kernel
theorem dX8_failed_19 : decode cX8_failed 19 = .ok (.iconst 0, 1) := by decide +kernel
theorem dX8_failed_20 : decode cX8_failed 20 = .ok (.ireturn, 1) := by decide +kernel
theorem dX8_failed_21 : decode cX8_failed 21 = .ok (.aload_n 0, 1) := by decide +kernel
theorem dX8_failed_22 : decode cX8_failed 22 = .ok (.getfield 111, 3) := by decide +kernel
theorem dX8_failed_25 : decode cX8_failed 25 = .ok (.iload_n 1, 1) := by decide +kernel
theorem dX8_failed_26 : decode cX8_failed 26 = .ok (.iaload, 1) := by decide +kernel
theorem dX8_failed_27 : decode cX8_failed 27 = .ok (.ireturn, 1) := by decide +kernel
def zb_X8_failed_0 : ZP := (z_ald 0 (z_ild 1 (z_push 0 (z_ald 0 (z_gf 8 35 (z_push 1 (z_bin (fun x y => x - y) (z_invS 3 sp_X8_in (z_push 1 (z_invV 8 2 sp_X8_fails (z_if (fun x => x = 0) (z_ald 0 (z_gf 8 40 (z_ild 1 (z_iald (z_ret 1))))) (z_push 0 (z_ret 1)))))))))))))
set_option maxRecDepth 20000 in
theorem zk_X8_failed_0 {X : ZX} (C : zCx X cX8_failed RX8 (some .int) 1 22 1 6) (hn : X.nL = 2) : ZOK X 0 (zb_X8_failed_0) := by
  unfold zb_X8_failed_0
  refine z_aload_n_ok (pc := 0) (i := 0) C.hx C.hb dX8_failed_0 rfl ?_
  refine z_iload_n_ok (pc := 1) (i := 1) C.hx C.hb dX8_failed_1 rfl ?_
  refine z_iconst_ok (pc := 2) (v := 0) C.hx C.hb dX8_failed_2 (by decide) ?_
  refine z_aload_n_ok (pc := 3) (i := 0) C.hx C.hb dX8_failed_3 rfl ?_
  refine z_gf_ok (pc := 4) C zK8 (f := 35) (by decide) zw_892 rfl dX8_failed_4 ?_
  refine z_iconst_ok (pc := 7) (v := 1) C.hx C.hb dX8_failed_7 (by decide) ?_
  refine z_isub_ok (pc := 8) C.hx C.hb dX8_failed_8 ?_
  refine z_invS_ok (pc := 9) C (by decide +kernel) (zm_X8_in X.l C.htr) ⟨rfl, rfl⟩ ⟨by decide, by decide⟩ (by decide) (by decide) zcl_X8_120 zw_1012 dX8_failed_9 ?_
  refine z_iconst_ok (pc := 12) (v := 1) C.hx C.hb dX8_failed_12 (by decide) ?_
  refine z_invV_ok (pc := 13) C (by decide +kernel) (zm_X8_fails X.l C.htr) ⟨rfl, rfl⟩ ⟨by decide, by decide⟩ (by decide) (by decide) zcl_X8_137 zw_1016 zw_25 zK8 dX8_failed_13 ?_
  refine z_if_eq_ok (pc := 16) (tgt := 21) C.hx C.hb dX8_failed_16 (by decide) ?_ ?_
  · refine z_aload_n_ok (pc := 21) (i := 0) C.hx C.hb dX8_failed_21 rfl ?_
    refine z_gf_ok (pc := 22) C zK8 (f := 40) (by decide) zw_897 rfl dX8_failed_22 ?_
    refine z_iload_n_ok (pc := 25) (i := 1) C.hx C.hb dX8_failed_25 rfl ?_
    refine z_iald_ok (pc := 26) C dX8_failed_26 ?_
    exact z_iret_ok (pc := 27) C dX8_failed_27
  · refine z_iconst_ok (pc := 19) (v := 0) C.hx C.hb dX8_failed_19 (by decide) ?_
    exact z_iret_ok (pc := 20) C dX8_failed_20
def sp_X8_failed : ZSp := fun as S K => as.length ≤ 2 ∧ zsp 2 zb_X8_failed_0 as S K
theorem zm_X8_failed (l : Launch) (hl : l.stackTraces = false) : zMet l yX8_failed cX8_failed 2 (some .int) { frames := 1, cells := 1, slots := 6, locals := 22 } 0 0 sp_X8_failed := zMet_of hl (by decide +kernel) ⟨rfl, rfl⟩ (fun X C hn _ => zk_X8_failed_0 C hn)
theorem dX8_farm_0 : decode cX8_farm 0 = .ok (.aload_n 0, 1) := by decide +kernel
theorem dX8_farm_1 : decode cX8_farm 1 = .ok (.aload_n 0, 1) := by decide +kernel
theorem dX8_farm_2 : decode cX8_farm 2 = .ok (.iload_n 1, 1) := by decide +kernel
theorem dX8_farm_3 : decode cX8_farm 3 = .ok (.invokevirtual 173, 3) := by decide +kernel
theorem dX8_farm_6 : decode cX8_farm 6 = .ok (.ifCond .eq 14, 3) := by decide +kernel
theorem dX8_farm_9 : decode cX8_farm 9 = .ok (.iload_n 2, 1) := by decide +kernel
theorem dX8_farm_10 : decode cX8_farm 10 = .ok (.invokestatic 133, 3) := by decide +kernel
theorem dX8_farm_13 : decode cX8_farm 13 = .ok (.ifCond .eq 7, 3) := by decide +kernel
theorem dX8_farm_16 : decode cX8_farm 16 = .ok (.iconst 1, 1) := by decide +kernel
theorem dX8_farm_17 : decode cX8_farm 17 = .ok (.goto 4, 3) := by decide +kernel
theorem dX8_farm_20 : decode cX8_farm 20 = .ok (.iconst 0, 1) := by decide +kernel
theorem dX8_farm_21 : decode cX8_farm 21 = .ok (.iconst 1, 1) := by decide +kernel
theorem dX8_farm_22 : decode cX8_farm 22 = .ok (.invokevirtual 137, 3) := by decide +kernel
theorem dX8_farm_25 : decode cX8_farm 25 = .ok (.ifCond .eq 5, 3) := by decide +kernel
theorem dX8_farm_28 : decode cX8_farm 28 = .ok (.iconst 0, 1) := by decide +kernel
theorem dX8_farm_29 : decode cX8_farm 29 = .ok (.ireturn, 1) := by decide +kernel
theorem dX8_farm_30 : decode cX8_farm 30 = .ok (.aload_n 0, 1) := by decide +kernel
theorem dX8_farm_31 : decode cX8_farm 31 = .ok (.iload_n 3, 1) := by decide +kernel
theorem dX8_farm_32 : decode cX8_farm 32 = .ok (.iconst 1, 1) := by decide +kernel
theorem dX8_farm_33 : decode cX8_farm 33 = .ok (.ldc 176, 2) := by decide +kernel
theorem dX8_farm_35 : decode cX8_farm 35 = .ok (.invokestatic 120, 3) := by decide +kernel
theorem dX8_farm_38 : decode cX8_farm 38 = .ok (.iconst 2, 1) := by decide +kernel
theorem dX8_farm_39 : decode cX8_farm 39 = .ok (.invokevirtual 137, 3) := by decide +kernel
theorem dX8_farm_42 : decode cX8_farm 42 = .ok (.ifCond .eq 5, 3) := by decide +kernel
theorem dX8_farm_45 : decode cX8_farm 45 = .ok (.iconst 0, 1) := by decide +kernel
theorem dX8_farm_46 : decode cX8_farm 46 = .ok (.ireturn, 1) := by decide +kernel
theorem dX8_farm_47 : decode cX8_farm 47 = .ok (.aload_n 0, 1) := by decide +kernel
theorem dX8_farm_48 : decode cX8_farm 48 = .ok (.aload_n 0, 1) := by decide +kernel
theorem dX8_farm_49 : decode cX8_farm 49 = .ok (.getfield 206, 3) := by decide +kernel
theorem dX8_farm_52 : decode cX8_farm 52 = .ok (.bipush 6, 2) := by decide +kernel
theorem dX8_farm_54 : decode cX8_farm 54 = .ok (.if_icmp .ge 7, 3) := by decide +kernel
theorem dX8_farm_57 : decode cX8_farm 57 = .ok (.iconst 1, 1) := by decide +kernel
theorem dX8_farm_58 : decode cX8_farm 58 = .ok (.goto 4, 3) := by decide +kernel
theorem dX8_farm_61 : decode cX8_farm 61 = .ok (.iconst 0, 1) := by decide +kernel
theorem dX8_farm_62 : decode cX8_farm 62 = .ok (.iconst 3, 1) := by decide +kernel
theorem dX8_farm_63 : decode cX8_farm 63 = .ok (.invokevirtual 137, 3) := by decide +kernel
theorem dX8_farm_66 : decode cX8_farm 66 = .ok (.ifCond .eq 5, 3) := by decide +kernel
theorem dX8_farm_69 : decode cX8_farm 69 = .ok (.iconst 0, 1) := by decide +kernel
theorem dX8_farm_70 : decode cX8_farm 70 = .ok (.ireturn, 1) := by decide +kernel
theorem dX8_farm_71 : decode cX8_farm 71 = .ok (.aload_n 0, 1) := by decide +kernel
theorem dX8_farm_72 : decode cX8_farm 72 = .ok (.getfield 99, 3) := by decide +kernel
theorem dX8_farm_75 : decode cX8_farm 75 = .ok (.aload_n 0, 1) := by decide +kernel
theorem dX8_farm_76 : decode cX8_farm 76 = .ok (.getfield 206, 3) := by decide +kernel
theorem dX8_farm_79 : decode cX8_farm 79 = .ok (.iload_n 1, 1) := by decide +kernel
theorem dX8_farm_80 : decode cX8_farm 80 = .ok (.iastore, 1) := by decide +kernel
theorem dX8_farm_81 : decode cX8_farm 81 = .ok (.aload_n 0, 1) := by decide +kernel
theorem dX8_farm_82 : decode cX8_farm 82 = .ok (.getfield 102, 3) := by decide +kernel
theorem dX8_farm_85 : decode cX8_farm 85 = .ok (.aload_n 0, 1) := by decide +kernel
theorem dX8_farm_86 : decode cX8_farm 86 = .ok (.getfield 206, 3) := by decide +kernel
theorem dX8_farm_89 : decode cX8_farm 89 = .ok (.iload_n 2, 1) := by decide +kernel
theorem dX8_farm_90 : decode cX8_farm 90 = .ok (.iastore, 1) := by decide +kernel
theorem dX8_farm_91 : decode cX8_farm 91 = .ok (.aload_n 0, 1) := by decide +kernel
theorem dX8_farm_92 : decode cX8_farm 92 = .ok (.getfield 105, 3) := by decide +kernel
theorem dX8_farm_95 : decode cX8_farm 95 = .ok (.aload_n 0, 1) := by decide +kernel
theorem dX8_farm_96 : decode cX8_farm 96 = .ok (.getfield 206, 3) := by decide +kernel
theorem dX8_farm_99 : decode cX8_farm 99 = .ok (.iload_n 3, 1) := by decide +kernel
theorem dX8_farm_100 : decode cX8_farm 100 = .ok (.iastore, 1) := by decide +kernel
theorem dX8_farm_101 : decode cX8_farm 101 = .ok (.aload_n 0, 1) := by decide +kernel
theorem dX8_farm_102 : decode cX8_farm 102 = .ok (.dup, 1) := by decide +kernel
theorem dX8_farm_103 : decode cX8_farm 103 = .ok (.getfield 206, 3) := by decide +kernel
theorem dX8_farm_106 : decode cX8_farm 106 = .ok (.iconst 1, 1) := by decide +kernel
theorem dX8_farm_107 : decode cX8_farm 107 = .ok (.iadd, 1) := by decide +kernel
theorem dX8_farm_108 : decode cX8_farm 108 = .ok (.putfield 206, 3) := by decide +kernel
theorem dX8_farm_111 : decode cX8_farm 111 = .ok (.aload_n 0, 1) := by decide +kernel
theorem dX8_farm_112 : decode cX8_farm 112 = .ok (.getfield 206, 3) := by decide +kernel
theorem dX8_farm_115 : decode cX8_farm 115 = .ok (.iconst 1, 1) := by decide +kernel
theorem dX8_farm_116 : decode cX8_farm 116 = .ok (.isub, 1) := by decide +kernel
theorem dX8_farm_117 : decode cX8_farm 117 = .ok (.ireturn, 1) := by decide +kernel
def zb_X8_farm_62 : ZP := (z_push 3 (z_invV 8 2 sp_X8_fails (z_if (fun x => x = 0) (z_ald 0 (z_gf 8 36 (z_ald 0 (z_gf 8 35 (z_ild 1 (z_iast (z_ald 0 (z_gf 8 37 (z_ald 0 (z_gf 8 35 (z_ild 2 (z_iast (z_ald 0 (z_gf 8 38 (z_ald 0 (z_gf 8 35 (z_ild 3 (z_iast (z_ald 0 (z_dup (z_gf 8 35 (z_push 1 (z_bin (fun x y => x + y) (z_pf 8 35 (z_ald 0 (z_gf 8 35 (z_push 1 (z_bin (fun x y => x - y) (z_ret 1))))))))))))))))))))))))))))) (z_push 0 (z_ret 1)))))
set_option maxRecDepth 20000 in
theorem zk_X8_farm_62 {X : ZX} (C : zCx X cX8_farm RX8 (some .int) 2 43 1 6) (hn : X.nL = 4) : ZOK X 62 (zb_X8_farm_62) := by
  unfold zb_X8_farm_62
  refine z_iconst_ok (pc := 62) (v := 3) C.hx C.hb dX8_farm_62 (by decide) ?_
  refine z_invV_ok (pc := 63) C (by decide +kernel) (zm_X8_fails X.l C.htr) ⟨rfl, rfl⟩ ⟨by decide, by decide⟩ (by decide) (by decide) zcl_X8_137 zw_1016 zw_25 zK8 dX8_farm_63 ?_
  refine z_if_eq_ok (pc := 66) (tgt := 71) C.hx C.hb dX8_farm_66 (by decide) ?_ ?_
  · refine z_aload_n_ok (pc := 71) (i := 0) C.hx C.hb dX8_farm_71 rfl ?_
    refine z_gf_ok (pc := 72) C zK8 (f := 36) (by decide) zw_893 rfl dX8_farm_72 ?_
    refine z_aload_n_ok (pc := 75) (i := 0) C.hx C.hb dX8_farm_75 rfl ?_
    refine z_gf_ok (pc := 76) C zK8 (f := 35) (by decide) zw_892 rfl dX8_farm_76 ?_
    refine z_iload_n_ok (pc := 79) (i := 1) C.hx C.hb dX8_farm_79 rfl ?_
    refine z_iast_ok (pc := 80) C dX8_farm_80 ?_
    refine z_aload_n_ok (pc := 81) (i := 0) C.hx C.hb dX8_farm_81 rfl ?_
    refine z_gf_ok (pc := 82) C zK8 (f := 37) (by decide) zw_894 rfl dX8_farm_82 ?_
    refine z_aload_n_ok (pc := 85) (i := 0) C.hx C.hb dX8_farm_85 rfl ?_
    refine z_gf_ok (pc := 86) C zK8 (f := 35) (by decide) zw_892 rfl dX8_farm_86 ?_
    refine z_iload_n_ok (pc := 89) (i := 2) C.hx C.hb dX8_farm_89 rfl ?_
    refine z_iast_ok (pc := 90) C dX8_farm_90 ?_
    refine z_aload_n_ok (pc := 91) (i := 0) C.hx C.hb dX8_farm_91 rfl ?_
    refine z_gf_ok (pc := 92) C zK8 (f := 38) (by decide) zw_895 rfl dX8_farm_92 ?_
    refine z_aload_n_ok (pc := 95) (i := 0) C.hx C.hb dX8_farm_95 rfl ?_
    refine z_gf_ok (pc := 96) C zK8 (f := 35) (by decide) zw_892 rfl dX8_farm_96 ?_
    refine z_iload_n_ok (pc := 99) (i := 3) C.hx C.hb dX8_farm_99 rfl ?_
    refine z_iast_ok (pc := 100) C dX8_farm_100 ?_
    refine z_aload_n_ok (pc := 101) (i := 0) C.hx C.hb dX8_farm_101 rfl ?_
    refine z_dup_ok (pc := 102) C.hx C.hb dX8_farm_102 ?_
    refine z_gf_ok (pc := 103) C zK8 (f := 35) (by decide) zw_892 rfl dX8_farm_103 ?_
    refine z_iconst_ok (pc := 106) (v := 1) C.hx C.hb dX8_farm_106 (by decide) ?_
    refine z_iadd_ok (pc := 107) C.hx C.hb dX8_farm_107 ?_
    refine z_pf_ok (pc := 108) C zK8 rfl rfl (f := 35) (by decide) zw_892 rfl rfl (by decide +kernel) dX8_farm_108 ?_
    refine z_aload_n_ok (pc := 111) (i := 0) C.hx C.hb dX8_farm_111 rfl ?_
    refine z_gf_ok (pc := 112) C zK8 (f := 35) (by decide) zw_892 rfl dX8_farm_112 ?_
    refine z_iconst_ok (pc := 115) (v := 1) C.hx C.hb dX8_farm_115 (by decide) ?_
    refine z_isub_ok (pc := 116) C.hx C.hb dX8_farm_116 ?_
    exact z_iret_ok (pc := 117) C dX8_farm_117
  · refine z_iconst_ok (pc := 69) (v := 0) C.hx C.hb dX8_farm_69 (by decide) ?_
    exact z_iret_ok (pc := 70) C dX8_farm_70
def zb_X8_farm_21 : ZP := (z_push 1 (z_invV 8 2 sp_X8_fails (z_if (fun x => x = 0) (z_ald 0 (z_ild 3 (z_push 1 (z_push 99999 (z_invS 3 sp_X8_in (z_push 2 (z_invV 8 2 sp_X8_fails (z_if (fun x => x = 0) (z_ald 0 (z_ald 0 (z_gf 8 35 (z_push 6 (z_cmp (fun x y => y ≤ x) (z_push 0 zb_X8_farm_62) (z_push 1 zb_X8_farm_62)))))) (z_push 0 (z_ret 1)))))))))) (z_push 0 (z_ret 1)))))
set_option maxRecDepth 20000 in
theorem zk_X8_farm_21 {X : ZX} (C : zCx X cX8_farm RX8 (some .int) 2 43 1 6) (hn : X.nL = 4) : ZOK X 21 (zb_X8_farm_21) := by
  unfold zb_X8_farm_21
  refine z_iconst_ok (pc := 21) (v := 1) C.hx C.hb dX8_farm_21 (by decide) ?_
  refine z_invV_ok (pc := 22) C (by decide +kernel) (zm_X8_fails X.l C.htr) ⟨rfl, rfl⟩ ⟨by decide, by decide⟩ (by decide) (by decide) zcl_X8_137 zw_1016 zw_25 zK8 dX8_farm_22 ?_
  refine z_if_eq_ok (pc := 25) (tgt := 30) C.hx C.hb dX8_farm_25 (by decide) ?_ ?_
  · refine z_aload_n_ok (pc := 30) (i := 0) C.hx C.hb dX8_farm_30 rfl ?_
    refine z_iload_n_ok (pc := 31) (i := 3) C.hx C.hb dX8_farm_31 rfl ?_
    refine z_iconst_ok (pc := 32) (v := 1) C.hx C.hb dX8_farm_32 (by decide) ?_
    refine z_ldc_ok (pc := 33) C zw_1121 dX8_farm_33 ?_
    refine z_invS_ok (pc := 35) C (by decide +kernel) (zm_X8_in X.l C.htr) ⟨rfl, rfl⟩ ⟨by decide, by decide⟩ (by decide) (by decide) zcl_X8_120 zw_1012 dX8_farm_35 ?_
    refine z_iconst_ok (pc := 38) (v := 2) C.hx C.hb dX8_farm_38 (by decide) ?_
    refine z_invV_ok (pc := 39) C (by decide +kernel) (zm_X8_fails X.l C.htr) ⟨rfl, rfl⟩ ⟨by decide, by decide⟩ (by decide) (by decide) zcl_X8_137 zw_1016 zw_25 zK8 dX8_farm_39 ?_
    refine z_if_eq_ok (pc := 42) (tgt := 47) C.hx C.hb dX8_farm_42 (by decide) ?_ ?_
    · refine z_aload_n_ok (pc := 47) (i := 0) C.hx C.hb dX8_farm_47 rfl ?_
      refine z_aload_n_ok (pc := 48) (i := 0) C.hx C.hb dX8_farm_48 rfl ?_
      refine z_gf_ok (pc := 49) C zK8 (f := 35) (by decide) zw_892 rfl dX8_farm_49 ?_
      refine z_bipush_ok (pc := 52) (v := 6) C.hx C.hb dX8_farm_52 (by decide) ?_
      refine z_icmp_ge_ok (pc := 54) (tgt := 61) C.hx C.hb dX8_farm_54 (by decide) ?_ ?_
      · refine z_iconst_ok (pc := 61) (v := 0) C.hx C.hb dX8_farm_61 (by decide) ?_
        exact zk_X8_farm_62 C hn 
      · refine z_iconst_ok (pc := 57) (v := 1) C.hx C.hb dX8_farm_57 (by decide) ?_
        refine z_goto_ok (pc := 58) (tgt := 62) C.hx C.hb dX8_farm_58 (by decide) ?_
        exact zk_X8_farm_62 C hn 
    · refine z_iconst_ok (pc := 45) (v := 0) C.hx C.hb dX8_farm_45 (by decide) ?_
      exact z_iret_ok (pc := 46) C dX8_farm_46
  · refine z_iconst_ok (pc := 28) (v := 0) C.hx C.hb dX8_farm_28 (by decide) ?_
    exact z_iret_ok (pc := 29) C dX8_farm_29
def zb_X8_farm_20 : ZP := (z_push 0 zb_X8_farm_21)
set_option maxRecDepth 20000 in
theorem zk_X8_farm_20 {X : ZX} (C : zCx X cX8_farm RX8 (some .int) 2 43 1 6) (hn : X.nL = 4) : ZOK X 20 (zb_X8_farm_20) := by
  unfold zb_X8_farm_20
  refine z_iconst_ok (pc := 20) (v := 0) C.hx C.hb dX8_farm_20 (by decide) ?_
  exact zk_X8_farm_21 C hn 
def zb_X8_farm_0 : ZP := (z_ald 0 (z_ald 0 (z_ild 1 (z_invV 8 1 sp_X8_isDepot (z_if (fun x => x = 0) zb_X8_farm_20 (z_ild 2 (z_invS 1 sp_X8_isGood (z_if (fun x => x = 0) zb_X8_farm_20 (z_push 1 zb_X8_farm_21)))))))))
set_option maxRecDepth 20000 in
theorem zk_X8_farm_0 {X : ZX} (C : zCx X cX8_farm RX8 (some .int) 2 43 1 6) (hn : X.nL = 4) : ZOK X 0 (zb_X8_farm_0) := by
  unfold zb_X8_farm_0
  refine z_aload_n_ok (pc := 0) (i := 0) C.hx C.hb dX8_farm_0 rfl ?_
  refine z_aload_n_ok (pc := 1) (i := 0) C.hx C.hb dX8_farm_1 rfl ?_
  refine z_iload_n_ok (pc := 2) (i := 1) C.hx C.hb dX8_farm_2 rfl ?_
  refine z_invV_ok (pc := 3) C (by decide +kernel) (zm_X8_isDepot X.l C.htr) ⟨rfl, rfl⟩ ⟨by decide, by decide⟩ (by decide) (by decide) zcl_X8_173 zw_1111 zw_34 zK8 dX8_farm_3 ?_
  refine z_if_eq_ok (pc := 6) (tgt := 20) C.hx C.hb dX8_farm_6 (by decide) ?_ ?_
  · exact zk_X8_farm_20 C hn 
  · refine z_iload_n_ok (pc := 9) (i := 2) C.hx C.hb dX8_farm_9 rfl ?_
    refine z_invS_ok (pc := 10) C (by decide +kernel) (zm_X8_isGood X.l C.htr) ⟨rfl, rfl⟩ ⟨by decide, by decide⟩ (by decide) (by decide) zcl_X8_133 zw_1009 dX8_farm_10 ?_
    refine z_if_eq_ok (pc := 13) (tgt := 20) C.hx C.hb dX8_farm_13 (by decide) ?_ ?_
    · exact zk_X8_farm_20 C hn 
    · refine z_iconst_ok (pc := 16) (v := 1) C.hx C.hb dX8_farm_16 (by decide) ?_
      refine z_goto_ok (pc := 17) (tgt := 21) C.hx C.hb dX8_farm_17 (by decide) ?_
      exact zk_X8_farm_21 C hn 
def sp_X8_farm : ZSp := fun as S K => as.length ≤ 4 ∧ zsp 4 zb_X8_farm_0 as S K
theorem zm_X8_farm (l : Launch) (hl : l.stackTraces = false) : zMet l yX8_farm cX8_farm 4 (some .int) { frames := 2, cells := 1, slots := 6, locals := 43 } 0 0 sp_X8_farm := zMet_of hl (by decide +kernel) ⟨rfl, rfl⟩ (fun X C hn _ => zk_X8_farm_0 C hn)
