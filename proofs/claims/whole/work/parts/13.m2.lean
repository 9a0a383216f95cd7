theorem dX8_forge_0 : decode cX8_forge 0 = .ok (.aload_n 0, 1) := by decide +kernel
theorem dX8_forge_1 : decode cX8_forge 1 = .ok (.aload_n 0, 1) := by decide +kernel
theorem dX8_forge_2 : decode cX8_forge 2 = .ok (.iload_n 1, 1) := by decide +kernel
theorem dX8_forge_3 : decode cX8_forge 3 = .ok (.invokevirtual 145, 3) := by decide +kernel
theorem dX8_forge_6 : decode cX8_forge 6 = .ok (.ifCond .eq 14, 3) := by decide +kernel
theorem dX8_forge_9 : decode cX8_forge 9 = .ok (.iload_n 2, 1) := by decide +kernel
theorem dX8_forge_10 : decode cX8_forge 10 = .ok (.invokestatic 133, 3) := by decide +kernel
theorem dX8_forge_13 : decode cX8_forge 13 = .ok (.ifCond .eq 7, 3) := by decide +kernel
theorem dX8_forge_16 : decode cX8_forge 16 = .ok (.iconst 1, 1) := by decide +kernel
theorem dX8_forge_17 : decode cX8_forge 17 = .ok (.goto 4, 3) := by decide +kernel
theorem dX8_forge_20 : decode cX8_forge 20 = .ok (.iconst 0, 1) := by decide +kernel
theorem dX8_forge_21 : decode cX8_forge 21 = .ok (.iconst 1, 1) := by decide +kernel
theorem dX8_forge_22 : decode cX8_forge 22 = .ok (.invokevirtual 137, 3) := by decide +kernel
theorem dX8_forge_25 : decode cX8_forge 25 = .ok (.ifCond .eq 5, 3) := by decide +kernel
theorem dX8_forge_28 : decode cX8_forge 28 = .ok (.iconst 0, 1) := by decide +kernel
theorem dX8_forge_29 : decode cX8_forge 29 = .ok (.ireturn, 1) := by decide +kernel
theorem dX8_forge_30 : decode cX8_forge 30 = .ok (.aload_n 0, 1) := by decide +kernel
theorem dX8_forge_31 : decode cX8_forge 31 = .ok (.iload_n 3, 1) := by decide +kernel
theorem dX8_forge_32 : decode cX8_forge 32 = .ok (.iconst 1, 1) := by decide +kernel
theorem dX8_forge_33 : decode cX8_forge 33 = .ok (.sipush 9999, 3) := by decide +kernel
theorem dX8_forge_36 : decode cX8_forge 36 = .ok (.invokestatic 120, 3) := by decide +kernel
theorem dX8_forge_39 : decode cX8_forge 39 = .ok (.iconst 2, 1) := by decide +kernel
theorem dX8_forge_40 : decode cX8_forge 40 = .ok (.invokevirtual 137, 3) := by decide +kernel
theorem dX8_forge_43 : decode cX8_forge 43 = .ok (.ifCond .eq 5, 3) := by decide +kernel
theorem dX8_forge_46 : decode cX8_forge 46 = .ok (.iconst 0, 1) := by decide +kernel
theorem dX8_forge_47 : decode cX8_forge 47 = .ok (.ireturn, 1) := by decide +kernel
theorem dX8_forge_48 : decode cX8_forge 48 = .ok (.bipush 6, 2) := by decide +kernel
theorem dX8_forge_50 : decode cX8_forge 50 = .ok (.iload_n 1, 1) := by decide +kernel
theorem dX8_forge_51 : decode cX8_forge 51 = .ok (.imul, 1) := by decide +kernel
theorem dX8_forge_52 : decode cX8_forge 52 = .ok (.iload_n 2, 1) := by decide +kernel
theorem dX8_forge_53 : decode cX8_forge 53 = .ok (.iadd, 1) := by decide +kernel
theorem dX8_forge_54 : decode cX8_forge 54 = .ok (.istore 4, 2) := by decide +kernel
theorem dX8_forge_56 : decode cX8_forge 56 = .ok (.aload_n 0, 1) := by decide +kernel
theorem dX8_forge_57 : decode cX8_forge 57 = .ok (.getfield 96, 3) := by decide +kernel
theorem dX8_forge_60 : decode cX8_forge 60 = .ok (.iload 4, 2) := by decide +kernel
theorem dX8_forge_62 : decode cX8_forge 62 = .ok (.dup2, 1) := by decide +kernel
theorem dX8_forge_63 : decode cX8_forge 63 = .ok (.iaload, 1) := by decide +kernel
theorem dX8_forge_64 : decode cX8_forge 64 = .ok (.iload_n 3, 1) := by decide +kernel
theorem dX8_forge_65 : decode cX8_forge 65 = .ok (.iadd, 1) := by decide +kernel
theorem dX8_forge_66 : decode cX8_forge 66 = .ok (.iastore, 1) := by decide +kernel
theorem dX8_forge_67 : decode cX8_forge 67 = .ok (.aload_n 0, 1) := by decide +kernel
theorem dX8_forge_68 : decode cX8_forge 68 = .ok (.getfield 87, 3) := by decide +kernel
theorem dX8_forge_71 : decode cX8_forge 71 = .ok (.iload 4, 2) := by decide +kernel
theorem dX8_forge_73 : decode cX8_forge 73 = .ok (.dup2, 1) := by decide +kernel
theorem dX8_forge_74 : decode cX8_forge 74 = .ok (.iaload, 1) := by decide +kernel
theorem dX8_forge_75 : decode cX8_forge 75 = .ok (.iload_n 3, 1) := by decide +kernel
theorem dX8_forge_76 : decode cX8_forge 76 = .ok (.iadd, 1) := by decide +kernel
theorem dX8_forge_77 : decode cX8_forge 77 = .ok (.iastore, 1) := by decide +kernel
theorem dX8_forge_78 : decode cX8_forge 78 = .ok (.aload_n 0, 1) := by decide +kernel
theorem dX8_forge_79 : decode cX8_forge 79 = .ok (.getfield 87, 3) := by decide +kernel
theorem dX8_forge_82 : decode cX8_forge 82 = .ok (.iload 4, 2) := by decide +kernel
theorem dX8_forge_84 : decode cX8_forge 84 = .ok (.iaload, 1) := by decide +kernel
theorem dX8_forge_85 : decode cX8_forge 85 = .ok (.ireturn, 1) := by decide +kernel
def zb_X8_forge_21 : ZP := (z_push 1 (z_invV 8 2 sp_X8_fails (z_if (fun x => x = 0) (z_ald 0 (z_ild 3 (z_push 1 (z_push 9999 (z_invS 3 sp_X8_in (z_push 2 (z_invV 8 2 sp_X8_fails (z_if (fun x => x = 0) (z_push 6 (z_ild 1 (z_bin (fun x y => x * y) (z_ild 2 (z_bin (fun x y => x + y) (z_ist 4 (z_ald 0 (z_gf 8 34 (z_ild 4 (z_dup2 (z_iald (z_ild 3 (z_bin (fun x y => x + y) (z_iast (z_ald 0 (z_gf 8 31 (z_ild 4 (z_dup2 (z_iald (z_ild 3 (z_bin (fun x y => x + y) (z_iast (z_ald 0 (z_gf 8 31 (z_ild 4 (z_iald (z_ret 1))))))))))))))))))))))))))) (z_push 0 (z_ret 1)))))))))) (z_push 0 (z_ret 1)))))
set_option maxRecDepth 20000 in
theorem zk_X8_forge_21 {X : ZX} (C : zCx X cX8_forge RX8 (some .int) 2 43 1 6) (hn : X.nL = 5) : ZOK X 21 (zb_X8_forge_21) := by
  unfold zb_X8_forge_21
  refine z_iconst_ok (pc := 21) (v := 1) C.hx C.hb dX8_forge_21 (by decide) ?_
  refine z_invV_ok (pc := 22) C (by decide +kernel) (zm_X8_fails X.l C.htr) ⟨rfl, rfl⟩ ⟨by decide, by decide⟩ (by decide) (by decide) zcl_X8_137 zw_1016 zw_25 zK8 dX8_forge_22 ?_
  refine z_if_eq_ok (pc := 25) (tgt := 30) C.hx C.hb dX8_forge_25 (by decide) ?_ ?_
  · refine z_aload_n_ok (pc := 30) (i := 0) C.hx C.hb dX8_forge_30 rfl ?_
    refine z_iload_n_ok (pc := 31) (i := 3) C.hx C.hb dX8_forge_31 rfl ?_
    refine z_iconst_ok (pc := 32) (v := 1) C.hx C.hb dX8_forge_32 (by decide) ?_
    refine z_sipush_ok (pc := 33) (v := 9999) C.hx C.hb dX8_forge_33 (by decide) ?_
    refine z_invS_ok (pc := 36) C (by decide +kernel) (zm_X8_in X.l C.htr) ⟨rfl, rfl⟩ ⟨by decide, by decide⟩ (by decide) (by decide) zcl_X8_120 zw_1012 dX8_forge_36 ?_
    refine z_iconst_ok (pc := 39) (v := 2) C.hx C.hb dX8_forge_39 (by decide) ?_
    refine z_invV_ok (pc := 40) C (by decide +kernel) (zm_X8_fails X.l C.htr) ⟨rfl, rfl⟩ ⟨by decide, by decide⟩ (by decide) (by decide) zcl_X8_137 zw_1016 zw_25 zK8 dX8_forge_40 ?_
    refine z_if_eq_ok (pc := 43) (tgt := 48) C.hx C.hb dX8_forge_43 (by decide) ?_ ?_
    · refine z_bipush_ok (pc := 48) (v := 6) C.hx C.hb dX8_forge_48 (by decide) ?_
      refine z_iload_n_ok (pc := 50) (i := 1) C.hx C.hb dX8_forge_50 rfl ?_
      refine z_imul_ok (pc := 51) C.hx C.hb dX8_forge_51 ?_
      refine z_iload_n_ok (pc := 52) (i := 2) C.hx C.hb dX8_forge_52 rfl ?_
      refine z_iadd_ok (pc := 53) C.hx C.hb dX8_forge_53 ?_
      refine z_istore_ok (pc := 54) (i := 4) C.hx C.hb dX8_forge_54 (zlt hn (by decide)) ?_
      refine z_aload_n_ok (pc := 56) (i := 0) C.hx C.hb dX8_forge_56 rfl ?_
      refine z_gf_ok (pc := 57) C zK8 (f := 34) (by decide) zw_891 rfl dX8_forge_57 ?_
      refine z_iload_ok (pc := 60) (i := 4) C.hx C.hb dX8_forge_60 ?_
      refine z_dup2_ok (pc := 62) C.hx C.hb dX8_forge_62 ?_
      refine z_iald_ok (pc := 63) C dX8_forge_63 ?_
      refine z_iload_n_ok (pc := 64) (i := 3) C.hx C.hb dX8_forge_64 rfl ?_
      refine z_iadd_ok (pc := 65) C.hx C.hb dX8_forge_65 ?_
      refine z_iast_ok (pc := 66) C dX8_forge_66 ?_
      refine z_aload_n_ok (pc := 67) (i := 0) C.hx C.hb dX8_forge_67 rfl ?_
      refine z_gf_ok (pc := 68) C zK8 (f := 31) (by decide) zw_888 rfl dX8_forge_68 ?_
      refine z_iload_ok (pc := 71) (i := 4) C.hx C.hb dX8_forge_71 ?_
      refine z_dup2_ok (pc := 73) C.hx C.hb dX8_forge_73 ?_
      refine z_iald_ok (pc := 74) C dX8_forge_74 ?_
      refine z_iload_n_ok (pc := 75) (i := 3) C.hx C.hb dX8_forge_75 rfl ?_
      refine z_iadd_ok (pc := 76) C.hx C.hb dX8_forge_76 ?_
      refine z_iast_ok (pc := 77) C dX8_forge_77 ?_
      refine z_aload_n_ok (pc := 78) (i := 0) C.hx C.hb dX8_forge_78 rfl ?_
      refine z_gf_ok (pc := 79) C zK8 (f := 31) (by decide) zw_888 rfl dX8_forge_79 ?_
      refine z_iload_ok (pc := 82) (i := 4) C.hx C.hb dX8_forge_82 ?_
      refine z_iald_ok (pc := 84) C dX8_forge_84 ?_
      exact z_iret_ok (pc := 85) C dX8_forge_85
    · refine z_iconst_ok (pc := 46) (v := 0) C.hx C.hb dX8_forge_46 (by decide) ?_
      exact z_iret_ok (pc := 47) C dX8_forge_47
  · refine z_iconst_ok (pc := 28) (v := 0) C.hx C.hb dX8_forge_28 (by decide) ?_
    exact z_iret_ok (pc := 29) C dX8_forge_29
def zb_X8_forge_20 : ZP := (z_push 0 zb_X8_forge_21)
set_option maxRecDepth 20000 in
theorem zk_X8_forge_20 {X : ZX} (C : zCx X cX8_forge RX8 (some .int) 2 43 1 6) (hn : X.nL = 5) : ZOK X 20 (zb_X8_forge_20) := by
  unfold zb_X8_forge_20
  refine z_iconst_ok (pc := 20) (v := 0) C.hx C.hb dX8_forge_20 (by decide) ?_
  exact zk_X8_forge_21 C hn 
def zb_X8_forge_0 : ZP := (z_ald 0 (z_ald 0 (z_ild 1 (z_invV 8 1 sp_X8_isShop (z_if (fun x => x = 0) zb_X8_forge_20 (z_ild 2 (z_invS 1 sp_X8_isGood (z_if (fun x => x = 0) zb_X8_forge_20 (z_push 1 zb_X8_forge_21)))))))))
set_option maxRecDepth 20000 in
theorem zk_X8_forge_0 {X : ZX} (C : zCx X cX8_forge RX8 (some .int) 2 43 1 6) (hn : X.nL = 5) : ZOK X 0 (zb_X8_forge_0) := by
  unfold zb_X8_forge_0
  refine z_aload_n_ok (pc := 0) (i := 0) C.hx C.hb dX8_forge_0 rfl ?_
  refine z_aload_n_ok (pc := 1) (i := 0) C.hx C.hb dX8_forge_1 rfl ?_
  refine z_iload_n_ok (pc := 2) (i := 1) C.hx C.hb dX8_forge_2 rfl ?_
  refine z_invV_ok (pc := 3) C (by decide +kernel) (zm_X8_isShop X.l C.htr) ⟨rfl, rfl⟩ ⟨by decide, by decide⟩ (by decide) (by decide) zcl_X8_145 zw_1048 zw_27 zK8 dX8_forge_3 ?_
  refine z_if_eq_ok (pc := 6) (tgt := 20) C.hx C.hb dX8_forge_6 (by decide) ?_ ?_
  · exact zk_X8_forge_20 C hn 
  · refine z_iload_n_ok (pc := 9) (i := 2) C.hx C.hb dX8_forge_9 rfl ?_
    refine z_invS_ok (pc := 10) C (by decide +kernel) (zm_X8_isGood X.l C.htr) ⟨rfl, rfl⟩ ⟨by decide, by decide⟩ (by decide) (by decide) zcl_X8_133 zw_1009 dX8_forge_10 ?_
    refine z_if_eq_ok (pc := 13) (tgt := 20) C.hx C.hb dX8_forge_13 (by decide) ?_ ?_
    · exact zk_X8_forge_20 C hn 
    · refine z_iconst_ok (pc := 16) (v := 1) C.hx C.hb dX8_forge_16 (by decide) ?_
      refine z_goto_ok (pc := 17) (tgt := 21) C.hx C.hb dX8_forge_17 (by decide) ?_
      exact zk_X8_forge_21 C hn 
def sp_X8_forge : ZSp := fun as S K => as.length ≤ 5 ∧ zsp 5 zb_X8_forge_0 as S K
theorem zm_X8_forge (l : Launch) (hl : l.stackTraces = false) : zMet l yX8_forge cX8_forge 5 (some .int) { frames := 2, cells := 1, slots := 6, locals := 43 } 0 0 sp_X8_forge := zMet_of hl (by decide +kernel) ⟨rfl, rfl⟩ (fun X C hn _ => zk_X8_forge_0 C hn)
theorem dX8_free_0 : decode cX8_free 0 = .ok (.aload_n 0, 1) := by decide +kernel
theorem dX8_free_1 : decode cX8_free 1 = .ok (.iload_n 1, 1) := by decide +kernel
theorem dX8_free_2 : decode cX8_free 2 = .ok (.invokestatic 133, 3) := by decide +kernel
theorem dX8_free_5 : decode cX8_free 5 = .ok (.iconst 1, 1) := by decide +kernel
theorem dX8_free_6 : decode cX8_free 6 = .ok (.invokevirtual 137, 3) := by decide +kernel
theorem dX8_free_9 : decode cX8_free 9 = .ok (.ifCond .eq 5, 3) := by decide +kernel
theorem dX8_free_12 : decode cX8_free 12 = .ok (.iconst 0, 1) := by decide +kernel
theorem dX8_free_13 : decode cX8_free 13 = .ok (.ireturn, 1) := by decide +kernel
theorem dX8_free_14 : decode cX8_free 14 = .ok (.aload_n 0, 1) := by decide +kernel
theorem dX8_free_15 : decode cX8_free 15 = .ok (.getfield 16, 3) := by decide +kernel
theorem dX8_free_18 : decode cX8_free 18 = .ok (.iload_n 1, 1) := by decide +kernel
theorem dX8_free_19 : decode cX8_free 19 = .ok (.iaload, 1) := by decide +kernel
theorem dX8_free_20 : decode cX8_free 20 = .ok (.istore_n 2, 1) := by decide +kernel
theorem dX8_free_21 : decode cX8_free 21 = .ok (.aload_n 0, 1) := by decide +kernel
theorem dX8_free_22 : decode cX8_free 22 = .ok (.getfield 16, 3) := by decide +kernel
theorem dX8_free_25 : decode cX8_free 25 = .ok (.iload_n 1, 1) := by decide +kernel
theorem dX8_free_26 : decode cX8_free 26 = .ok (.iconst 2, 1) := by decide +kernel
theorem dX8_free_27 : decode cX8_free 27 = .ok (.iastore, 1) := by decide +kernel
theorem dX8_free_28 : decode cX8_free 28 = .ok (.iload_n 2, 1) := by decide +kernel
theorem dX8_free_29 : decode cX8_free 29 = .ok (.ireturn, 1) := by decide +kernel
def zb_X8_free_0 : ZP := (z_ald 0 (z_ild 1 (z_invS 1 sp_X8_isGood (z_push 1 (z_invV 8 2 sp_X8_fails (z_if (fun x => x = 0) (z_ald 0 (z_gf 8 4 (z_ild 1 (z_iald (z_ist 2 (z_ald 0 (z_gf 8 4 (z_ild 1 (z_push 2 (z_iast (z_ild 2 (z_ret 1)))))))))))) (z_push 0 (z_ret 1))))))))
set_option maxRecDepth 20000 in
theorem zk_X8_free_0 {X : ZX} (C : zCx X cX8_free RX8 (some .int) 2 42 1 6) (hn : X.nL = 3) : ZOK X 0 (zb_X8_free_0) := by
  unfold zb_X8_free_0
  refine z_aload_n_ok (pc := 0) (i := 0) C.hx C.hb dX8_free_0 rfl ?_
  refine z_iload_n_ok (pc := 1) (i := 1) C.hx C.hb dX8_free_1 rfl ?_
  refine z_invS_ok (pc := 2) C (by decide +kernel) (zm_X8_isGood X.l C.htr) ⟨rfl, rfl⟩ ⟨by decide, by decide⟩ (by decide) (by decide) zcl_X8_133 zw_1009 dX8_free_2 ?_
  refine z_iconst_ok (pc := 5) (v := 1) C.hx C.hb dX8_free_5 (by decide) ?_
  refine z_invV_ok (pc := 6) C (by decide +kernel) (zm_X8_fails X.l C.htr) ⟨rfl, rfl⟩ ⟨by decide, by decide⟩ (by decide) (by decide) zcl_X8_137 zw_1016 zw_25 zK8 dX8_free_6 ?_
  refine z_if_eq_ok (pc := 9) (tgt := 14) C.hx C.hb dX8_free_9 (by decide) ?_ ?_
  · refine z_aload_n_ok (pc := 14) (i := 0) C.hx C.hb dX8_free_14 rfl ?_
    refine z_gf_ok (pc := 15) C zK8 (f := 4) (by decide) zw_861 rfl dX8_free_15 ?_
    refine z_iload_n_ok (pc := 18) (i := 1) C.hx C.hb dX8_free_18 rfl ?_
    refine z_iald_ok (pc := 19) C dX8_free_19 ?_
    refine z_istore_n_ok (pc := 20) (i := 2) C.hx C.hb dX8_free_20 rfl (zlt hn (by decide)) ?_
    refine z_aload_n_ok (pc := 21) (i := 0) C.hx C.hb dX8_free_21 rfl ?_
    refine z_gf_ok (pc := 22) C zK8 (f := 4) (by decide) zw_861 rfl dX8_free_22 ?_
    refine z_iload_n_ok (pc := 25) (i := 1) C.hx C.hb dX8_free_25 rfl ?_
    refine z_iconst_ok (pc := 26) (v := 2) C.hx C.hb dX8_free_26 (by decide) ?_
    refine z_iast_ok (pc := 27) C dX8_free_27 ?_
    refine z_iload_n_ok (pc := 28) (i := 2) C.hx C.hb dX8_free_28 rfl ?_
    exact z_iret_ok (pc := 29) C dX8_free_29
  · refine z_iconst_ok (pc := 12) (v := 0) C.hx C.hb dX8_free_12 (by decide) ?_
    exact z_iret_ok (pc := 13) C dX8_free_13
def sp_X8_free : ZSp := fun as S K => as.length ≤ 3 ∧ zsp 3 zb_X8_free_0 as S K
theorem zm_X8_free (l : Launch) (hl : l.stackTraces = false) : zMet l yX8_free cX8_free 3 (some .int) { frames := 2, cells := 1, slots := 6, locals := 42 } 0 0 sp_X8_free := zMet_of hl (by decide +kernel) ⟨rfl, rfl⟩ (fun X C hn _ => zk_X8_free_0 C hn)
theorem dX8_give_0 : decode cX8_give 0 = .ok (.aload_n 0, 1) := by decide +kernel
theorem dX8_give_1 : decode cX8_give 1 = .ok (.aload_n 0, 1) := by decide +kernel
theorem dX8_give_2 : decode cX8_give 2 = .ok (.iload_n 1, 1) := by decide +kernel
theorem dX8_give_3 : decode cX8_give 3 = .ok (.invokevirtual 148, 3) := by decide +kernel
theorem dX8_give_6 : decode cX8_give 6 = .ok (.ifCond .eq 15, 3) := by decide +kernel
theorem dX8_give_9 : decode cX8_give 9 = .ok (.aload_n 0, 1) := by decide +kernel
theorem dX8_give_10 : decode cX8_give 10 = .ok (.iload_n 2, 1) := by decide +kernel
theorem dX8_give_11 : decode cX8_give 11 = .ok (.invokevirtual 148, 3) := by decide +kernel
theorem dX8_give_14 : decode cX8_give 14 = .ok (.ifCond .eq 7, 3) := by decide +kernel
theorem dX8_give_17 : decode cX8_give 17 = .ok (.iconst 1, 1) := by decide +kernel
theorem dX8_give_18 : decode cX8_give 18 = .ok (.goto 4, 3) := by decide +kernel
theorem dX8_give_21 : decode cX8_give 21 = .ok (.iconst 0, 1) := by decide +kernel
theorem dX8_give_22 : decode cX8_give 22 = .ok (.iconst 1, 1) := by decide +kernel
theorem dX8_give_23 : decode cX8_give 23 = .ok (.invokevirtual 137, 3) := by decide +kernel
theorem dX8_give_26 : decode cX8_give 26 = .ok (.ifCond .eq 5, 3) := by decide +kernel
theorem dX8_give_29 : decode cX8_give 29 = .ok (.iconst 0, 1) := by decide +kernel
theorem dX8_give_30 : decode cX8_give 30 = .ok (.ireturn, 1) := by decide +kernel
theorem dX8_give_31 : decode cX8_give 31 = .ok (.aload_n 0, 1) := by decide +kernel
theorem dX8_give_32 : decode cX8_give 32 = .ok (.iload_n 1, 1) := by decide +kernel
theorem dX8_give_33 : decode cX8_give 33 = .ok (.iload_n 2, 1) := by decide +kernel
theorem dX8_give_34 : decode cX8_give 34 = .ok (.if_icmp .eq 17, 3) := by decide +kernel
theorem dX8_give_37 : decode cX8_give 37 = .ok (.iload_n 3, 1) := by decide +kernel
theorem dX8_give_38 : decode cX8_give 38 = .ok (.iconst 1, 1) := by decide +kernel
theorem dX8_give_39 : decode cX8_give 39 = .ok (.bipush 99, 2) := by decide +kernel
theorem dX8_give_41 : decode cX8_give 41 = .ok (.invokestatic 120, 3) := by decide +kernel
theorem dX8_give_44 : decode cX8_give 44 = .ok (.ifCond .eq 7, 3) := by decide +kernel
theorem dX8_give_47 : decode cX8_give 47 = .ok (.iconst 1, 1) := by decide +kernel
theorem dX8_give_48 : decode cX8_give 48 = .ok (.goto 4, 3) := by decide +kernel
theorem dX8_give_51 : decode cX8_give 51 = .ok (.iconst 0, 1) := by decide +kernel
theorem dX8_give_52 : decode cX8_give 52 = .ok (.iconst 2, 1) := by decide +kernel
theorem dX8_give_53 : decode cX8_give 53 = .ok (.invokevirtual 137, 3) := by decide +kernel
theorem dX8_give_56 : decode cX8_give 56 = .ok (.ifCond .eq 5, 3) := by decide +kernel
theorem dX8_give_59 : decode cX8_give 59 = .ok (.iconst 0, 1) := by decide +kernel
theorem dX8_give_60 : decode cX8_give 60 = .ok (.ireturn, 1) := by decide +kernel
theorem dX8_give_61 : decode cX8_give 61 = .ok (.aload_n 0, 1) := by decide +kernel
theorem dX8_give_62 : decode cX8_give 62 = .ok (.aload_n 0, 1) := by decide +kernel
theorem dX8_give_63 : decode cX8_give 63 = .ok (.iload_n 1, 1) := by decide +kernel
theorem dX8_give_64 : decode cX8_give 64 = .ok (.invokevirtual 154, 3) := by decide +kernel
theorem dX8_give_67 : decode cX8_give 67 = .ok (.ifCond .eq 24, 3) := by decide +kernel
theorem dX8_give_70 : decode cX8_give 70 = .ok (.aload_n 0, 1) := by decide +kernel
theorem dX8_give_71 : decode cX8_give 71 = .ok (.iload_n 2, 1) := by decide +kernel
theorem dX8_give_72 : decode cX8_give 72 = .ok (.invokevirtual 154, 3) := by decide +kernel
theorem dX8_give_75 : decode cX8_give 75 = .ok (.ifCond .eq 16, 3) := by decide +kernel
theorem dX8_give_78 : decode cX8_give 78 = .ok (.aload_n 0, 1) := by decide +kernel
theorem dX8_give_79 : decode cX8_give 79 = .ok (.iload_n 1, 1) := by decide +kernel
theorem dX8_give_80 : decode cX8_give 80 = .ok (.invokevirtual 164, 3) := by decide +kernel
theorem dX8_give_83 : decode cX8_give 83 = .ok (.iload_n 3, 1) := by decide +kernel
theorem dX8_give_84 : decode cX8_give 84 = .ok (.if_icmp .lt 7, 3) := by decide +kernel
theorem dX8_give_87 : decode cX8_give 87 = .ok (.iconst 1, 1) := by decide +kernel
theorem dX8_give_88 : decode cX8_give 88 = .ok (.goto 4, 3) := by decide +kernel
theorem dX8_give_91 : decode cX8_give 91 = .ok (.iconst 0, 1) := by decide +kernel
theorem dX8_give_92 : decode cX8_give 92 = .ok (.iconst 3, 1) := by decide +kernel
theorem dX8_give_93 : decode cX8_give 93 = .ok (.invokevirtual 137, 3) := by decide +kernel
theorem dX8_give_96 : decode cX8_give 96 = .ok (.ifCond .eq 5, 3) := by decide +kernel
theorem dX8_give_99 : decode cX8_give 99 = .ok (.iconst 0, 1) := by decide +kernel
theorem dX8_give_100 : decode cX8_give 100 = .ok (.ireturn, 1) := by decide +kernel
theorem dX8_give_101 : decode cX8_give 101 = .ok (.aload_n 0, 1) := by decide +kernel
theorem dX8_give_102 : decode cX8_give 102 = .ok (.getfield 53, 3) := by decide +kernel
theorem dX8_give_105 : decode cX8_give 105 = .ok (.iload_n 1, 1) := by decide +kernel
theorem dX8_give_106 : decode cX8_give 106 = .ok (.dup2, 1) := by decide +kernel
theorem dX8_give_107 : decode cX8_give 107 = .ok (.iaload, 1) := by decide +kernel
theorem dX8_give_108 : decode cX8_give 108 = .ok (.iload_n 3, 1) := by decide +kernel
theorem dX8_give_109 : decode cX8_give 109 = .ok (.iadd, 1) := by decide +kernel
theorem dX8_give_110 : decode cX8_give 110 = .ok (.iastore, 1) := by decide +kernel
theorem dX8_give_111 : decode cX8_give 111 = .ok (.aload_n 0, 1) := by decide +kernel
theorem dX8_give_112 : decode cX8_give 112 = .ok (.getfield 50, 3) := by decide +kernel
theorem dX8_give_115 : decode cX8_give 115 = .ok (.iload_n 2, 1) := by decide +kernel
theorem dX8_give_116 : decode cX8_give 116 = .ok (.dup2, 1) := by decide +kernel
theorem dX8_give_117 : decode cX8_give 117 = .ok (.iaload, 1) := by decide +kernel
theorem dX8_give_118 : decode cX8_give 118 = .ok (.iload_n 3, 1) := by decide +kernel
theorem dX8_give_119 : decode cX8_give 119 = .ok (.iadd, 1) := by decide +kernel
theorem dX8_give_120 : decode cX8_give 120 = .ok (.iastore, 1) := by decide +kernel
theorem dX8_give_121 : decode cX8_give 121 = .ok (.aload_n 0, 1) := by decide +kernel
theorem dX8_give_122 : decode cX8_give 122 = .ok (.iload_n 2, 1) := by decide +kernel
theorem dX8_give_123 : decode cX8_give 123 = .ok (.invokevirtual 164, 3) := by decide +kernel
theorem dX8_give_126 : decode cX8_give 126 = .ok (.ireturn, 1) := by decide +kernel
def zb_X8_give_92 : ZP := (z_push 3 (z_invV 8 2 sp_X8_fails (z_if (fun x => x = 0) (z_ald 0 (z_gf 8 17 (z_ild 1 (z_dup2 (z_iald (z_ild 3 (z_bin (fun x y => x + y) (z_iast (z_ald 0 (z_gf 8 16 (z_ild 2 (z_dup2 (z_iald (z_ild 3 (z_bin (fun x y => x + y) (z_iast (z_ald 0 (z_ild 2 (z_invV 8 1 sp_X8_pointsOf (z_ret 1)))))))))))))))))))) (z_push 0 (z_ret 1)))))
set_option maxRecDepth 20000 in
theorem zk_X8_give_92 {X : ZX} (C : zCx X cX8_give RX8 (some .int) 3 64 1 6) (hn : X.nL = 4) : ZOK X 92 (zb_X8_give_92) := by
  unfold zb_X8_give_92
  refine z_iconst_ok (pc := 92) (v := 3) C.hx C.hb dX8_give_92 (by decide) ?_
  refine z_invV_ok (pc := 93) C (by decide +kernel) (zm_X8_fails X.l C.htr) ⟨rfl, rfl⟩ ⟨by decide, by decide⟩ (by decide) (by decide) zcl_X8_137 zw_1016 zw_25 zK8 dX8_give_93 ?_
  refine z_if_eq_ok (pc := 96) (tgt := 101) C.hx C.hb dX8_give_96 (by decide) ?_ ?_
  · refine z_aload_n_ok (pc := 101) (i := 0) C.hx C.hb dX8_give_101 rfl ?_
    refine z_gf_ok (pc := 102) C zK8 (f := 17) (by decide) zw_874 rfl dX8_give_102 ?_
    refine z_iload_n_ok (pc := 105) (i := 1) C.hx C.hb dX8_give_105 rfl ?_
    refine z_dup2_ok (pc := 106) C.hx C.hb dX8_give_106 ?_
    refine z_iald_ok (pc := 107) C dX8_give_107 ?_
    refine z_iload_n_ok (pc := 108) (i := 3) C.hx C.hb dX8_give_108 rfl ?_
    refine z_iadd_ok (pc := 109) C.hx C.hb dX8_give_109 ?_
    refine z_iast_ok (pc := 110) C dX8_give_110 ?_
    refine z_aload_n_ok (pc := 111) (i := 0) C.hx C.hb dX8_give_111 rfl ?_
    refine z_gf_ok (pc := 112) C zK8 (f := 16) (by decide) zw_873 rfl dX8_give_112 ?_
    refine z_iload_n_ok (pc := 115) (i := 2) C.hx C.hb dX8_give_115 rfl ?_
    refine z_dup2_ok (pc := 116) C.hx C.hb dX8_give_116 ?_
    refine z_iald_ok (pc := 117) C dX8_give_117 ?_
    refine z_iload_n_ok (pc := 118) (i := 3) C.hx C.hb dX8_give_118 rfl ?_
    refine z_iadd_ok (pc := 119) C.hx C.hb dX8_give_119 ?_
    refine z_iast_ok (pc := 120) C dX8_give_120 ?_
    refine z_aload_n_ok (pc := 121) (i := 0) C.hx C.hb dX8_give_121 rfl ?_
    refine z_iload_n_ok (pc := 122) (i := 2) C.hx C.hb dX8_give_122 rfl ?_
    refine z_invV_ok (pc := 123) C (by decide +kernel) (zm_X8_pointsOf X.l C.htr) ⟨rfl, rfl⟩ ⟨by decide, by decide⟩ (by decide) (by decide) zcl_X8_164 zw_1076 zw_31 zK8 dX8_give_123 ?_
    exact z_iret_ok (pc := 126) C dX8_give_126
  · refine z_iconst_ok (pc := 99) (v := 0) C.hx C.hb dX8_give_99 (by decide) ?_
    exact z_iret_ok (pc := 100) C dX8_give_100
def zb_X8_give_91 : ZP := (z_push 0 zb_X8_give_92)
set_option maxRecDepth 20000 in
theorem zk_X8_give_91 {X : ZX} (C : zCx X cX8_give RX8 (some .int) 3 64 1 6) (hn : X.nL = 4) : ZOK X 91 (zb_X8_give_91) := by
  unfold zb_X8_give_91
  refine z_iconst_ok (pc := 91) (v := 0) C.hx C.hb dX8_give_91 (by decide) ?_
  exact zk_X8_give_92 C hn 
def zb_X8_give_52 : ZP := (z_push 2 (z_invV 8 2 sp_X8_fails (z_if (fun x => x = 0) (z_ald 0 (z_ald 0 (z_ild 1 (z_invV 8 1 sp_X8_hasBook (z_if (fun x => x = 0) zb_X8_give_91 (z_ald 0 (z_ild 2 (z_invV 8 1 sp_X8_hasBook (z_if (fun x => x = 0) zb_X8_give_91 (z_ald 0 (z_ild 1 (z_invV 8 1 sp_X8_pointsOf (z_ild 3 (z_cmp (fun x y => x < y) zb_X8_give_91 (z_push 1 zb_X8_give_92))))))))))))))) (z_push 0 (z_ret 1)))))
set_option maxRecDepth 20000 in
theorem zk_X8_give_52 {X : ZX} (C : zCx X cX8_give RX8 (some .int) 3 64 1 6) (hn : X.nL = 4) : ZOK X 52 (zb_X8_give_52) := by
  unfold zb_X8_give_52
  refine z_iconst_ok (pc := 52) (v := 2) C.hx C.hb dX8_give_52 (by decide) ?_
  refine z_invV_ok (pc := 53) C (by decide +kernel) (zm_X8_fails X.l C.htr) ⟨rfl, rfl⟩ ⟨by decide, by decide⟩ (by decide) (by decide) zcl_X8_137 zw_1016 zw_25 zK8 dX8_give_53 ?_
  refine z_if_eq_ok (pc := 56) (tgt := 61) C.hx C.hb dX8_give_56 (by decide) ?_ ?_
  · refine z_aload_n_ok (pc := 61) (i := 0) C.hx C.hb dX8_give_61 rfl ?_
    refine z_aload_n_ok (pc := 62) (i := 0) C.hx C.hb dX8_give_62 rfl ?_
    refine z_iload_n_ok (pc := 63) (i := 1) C.hx C.hb dX8_give_63 rfl ?_
    refine z_invV_ok (pc := 64) C (by decide +kernel) (zm_X8_hasBook X.l C.htr) ⟨rfl, rfl⟩ ⟨by decide, by decide⟩ (by decide) (by decide) zcl_X8_154 zw_1072 zw_30 zK8 dX8_give_64 ?_
    refine z_if_eq_ok (pc := 67) (tgt := 91) C.hx C.hb dX8_give_67 (by decide) ?_ ?_
    · exact zk_X8_give_91 C hn 
    · refine z_aload_n_ok (pc := 70) (i := 0) C.hx C.hb dX8_give_70 rfl ?_
      refine z_iload_n_ok (pc := 71) (i := 2) C.hx C.hb dX8_give_71 rfl ?_
      refine z_invV_ok (pc := 72) C (by decide +kernel) (zm_X8_hasBook X.l C.htr) ⟨rfl, rfl⟩ ⟨by decide, by decide⟩ (by decide) (by decide) zcl_X8_154 zw_1072 zw_30 zK8 dX8_give_72 ?_
      refine z_if_eq_ok (pc := 75) (tgt := 91) C.hx C.hb dX8_give_75 (by decide) ?_ ?_
      · exact zk_X8_give_91 C hn 
      · refine z_aload_n_ok (pc := 78) (i := 0) C.hx C.hb dX8_give_78 rfl ?_
        refine z_iload_n_ok (pc := 79) (i := 1) C.hx C.hb dX8_give_79 rfl ?_
        refine z_invV_ok (pc := 80) C (by decide +kernel) (zm_X8_pointsOf X.l C.htr) ⟨rfl, rfl⟩ ⟨by decide, by decide⟩ (by decide) (by decide) zcl_X8_164 zw_1076 zw_31 zK8 dX8_give_80 ?_
        refine z_iload_n_ok (pc := 83) (i := 3) C.hx C.hb dX8_give_83 rfl ?_
        refine z_icmp_lt_ok (pc := 84) (tgt := 91) C.hx C.hb dX8_give_84 (by decide) ?_ ?_
        · exact zk_X8_give_91 C hn 
        · refine z_iconst_ok (pc := 87) (v := 1) C.hx C.hb dX8_give_87 (by decide) ?_
          refine z_goto_ok (pc := 88) (tgt := 92) C.hx C.hb dX8_give_88 (by decide) ?_
          exact zk_X8_give_92 C hn 
  · refine z_iconst_ok (pc := 59) (v := 0) C.hx C.hb dX8_give_59 (by decide) ?_
    exact z_iret_ok (pc := 60) C dX8_give_60
def zb_X8_give_51 : ZP := (z_push 0 zb_X8_give_52)
set_option maxRecDepth 20000 in
theorem zk_X8_give_51 {X : ZX} (C : zCx X cX8_give RX8 (some .int) 3 64 1 6) (hn : X.nL = 4) : ZOK X 51 (zb_X8_give_51) := by
  unfold zb_X8_give_51
  refine z_iconst_ok (pc := 51) (v := 0) C.hx C.hb dX8_give_51 (by decide) ?_
  exact zk_X8_give_52 C hn 
def zb_X8_give_22 : ZP := (z_push 1 (z_invV 8 2 sp_X8_fails (z_if (fun x => x = 0) (z_ald 0 (z_ild 1 (z_ild 2 (z_cmp (fun x y => x = y) zb_X8_give_51 (z_ild 3 (z_push 1 (z_push 99 (z_invS 3 sp_X8_in (z_if (fun x => x = 0) zb_X8_give_51 (z_push 1 zb_X8_give_52)))))))))) (z_push 0 (z_ret 1)))))
set_option maxRecDepth 20000 in
theorem zk_X8_give_22 {X : ZX} (C : zCx X cX8_give RX8 (some .int) 3 64 1 6) (hn : X.nL = 4) : ZOK X 22 (zb_X8_give_22) := by
  unfold zb_X8_give_22
  refine z_iconst_ok (pc := 22) (v := 1) C.hx C.hb dX8_give_22 (by decide) ?_
  refine z_invV_ok (pc := 23) C (by decide +kernel) (zm_X8_fails X.l C.htr) ⟨rfl, rfl⟩ ⟨by decide, by decide⟩ (by decide) (by decide) zcl_X8_137 zw_1016 zw_25 zK8 dX8_give_23 ?_
  refine z_if_eq_ok (pc := 26) (tgt := 31) C.hx C.hb dX8_give_26 (by decide) ?_ ?_
  · refine z_aload_n_ok (pc := 31) (i := 0) C.hx C.hb dX8_give_31 rfl ?_
    refine z_iload_n_ok (pc := 32) (i := 1) C.hx C.hb dX8_give_32 rfl ?_
    refine z_iload_n_ok (pc := 33) (i := 2) C.hx C.hb dX8_give_33 rfl ?_
    refine z_icmp_eq_ok (pc := 34) (tgt := 51) C.hx C.hb dX8_give_34 (by decide) ?_ ?_
    · exact zk_X8_give_51 C hn 
    · refine z_iload_n_ok (pc := 37) (i := 3) C.hx C.hb dX8_give_37 rfl ?_
      refine z_iconst_ok (pc := 38) (v := 1) C.hx C.hb dX8_give_38 (by decide) ?_
      refine z_bipush_ok (pc := 39) (v := 99) C.hx C.hb dX8_give_39 (by decide) ?_
      refine z_invS_ok (pc := 41) C (by decide +kernel) (zm_X8_in X.l C.htr) ⟨rfl, rfl⟩ ⟨by decide, by decide⟩ (by decide) (by decide) zcl_X8_120 zw_1012 dX8_give_41 ?_
      refine z_if_eq_ok (pc := 44) (tgt := 51) C.hx C.hb dX8_give_44 (by decide) ?_ ?_
      · exact zk_X8_give_51 C hn 
      · refine z_iconst_ok (pc := 47) (v := 1) C.hx C.hb dX8_give_47 (by decide) ?_
        refine z_goto_ok (pc := 48) (tgt := 52) C.hx C.hb dX8_give_48 (by decide) ?_
        exact zk_X8_give_52 C hn 
  · refine z_iconst_ok (pc := 29) (v := 0) C.hx C.hb dX8_give_29 (by decide) ?_
    exact z_iret_ok (pc := 30) C dX8_give_30
def zb_X8_give_21 : ZP := (z_push 0 zb_X8_give_22)
set_option maxRecDepth 20000 in
theorem zk_X8_give_21 {X : ZX} (C : zCx X cX8_give RX8 (some .int) 3 64 1 6) (hn : X.nL = 4) : ZOK X 21 (zb_X8_give_21) := by
  unfold zb_X8_give_21
  refine z_iconst_ok (pc := 21) (v := 0) C.hx C.hb dX8_give_21 (by decide) ?_
  exact zk_X8_give_22 C hn 
def zb_X8_give_0 : ZP := (z_ald 0 (z_ald 0 (z_ild 1 (z_invV 8 1 sp_X8_isOne (z_if (fun x => x = 0) zb_X8_give_21 (z_ald 0 (z_ild 2 (z_invV 8 1 sp_X8_isOne (z_if (fun x => x = 0) zb_X8_give_21 (z_push 1 zb_X8_give_22))))))))))
set_option maxRecDepth 20000 in
theorem zk_X8_give_0 {X : ZX} (C : zCx X cX8_give RX8 (some .int) 3 64 1 6) (hn : X.nL = 4) : ZOK X 0 (zb_X8_give_0) := by
  unfold zb_X8_give_0
  refine z_aload_n_ok (pc := 0) (i := 0) C.hx C.hb dX8_give_0 rfl ?_
  refine z_aload_n_ok (pc := 1) (i := 0) C.hx C.hb dX8_give_1 rfl ?_
  refine z_iload_n_ok (pc := 2) (i := 1) C.hx C.hb dX8_give_2 rfl ?_
  refine z_invV_ok (pc := 3) C (by decide +kernel) (zm_X8_isOne X.l C.htr) ⟨rfl, rfl⟩ ⟨by decide, by decide⟩ (by decide) (by decide) zcl_X8_148 zw_1056 zw_28 zK8 dX8_give_3 ?_
  refine z_if_eq_ok (pc := 6) (tgt := 21) C.hx C.hb dX8_give_6 (by decide) ?_ ?_
  · exact zk_X8_give_21 C hn 
  · refine z_aload_n_ok (pc := 9) (i := 0) C.hx C.hb dX8_give_9 rfl ?_
    refine z_iload_n_ok (pc := 10) (i := 2) C.hx C.hb dX8_give_10 rfl ?_
    refine z_invV_ok (pc := 11) C (by decide +kernel) (zm_X8_isOne X.l C.htr) ⟨rfl, rfl⟩ ⟨by decide, by decide⟩ (by decide) (by decide) zcl_X8_148 zw_1056 zw_28 zK8 dX8_give_11 ?_
    refine z_if_eq_ok (pc := 14) (tgt := 21) C.hx C.hb dX8_give_14 (by decide) ?_ ?_
    · exact zk_X8_give_21 C hn 
    · refine z_iconst_ok (pc := 17) (v := 1) C.hx C.hb dX8_give_17 (by decide) ?_
      refine z_goto_ok (pc := 18) (tgt := 22) C.hx C.hb dX8_give_18 (by decide) ?_
      exact zk_X8_give_22 C hn 
def sp_X8_give : ZSp := fun as S K => as.length ≤ 4 ∧ zsp 4 zb_X8_give_0 as S K
theorem zm_X8_give (l : Launch) (hl : l.stackTraces = false) : zMet l yX8_give cX8_give 4 (some .int) { frames := 3, cells := 1, slots := 6, locals := 64 } 0 0 sp_X8_give := zMet_of hl (by decide +kernel) ⟨rfl, rfl⟩ (fun X C hn _ => zk_X8_give_0 C hn)
theorem dX8_lies_0 : decode cX8_lies 0 = .ok (.iconst 0, 1) := by decide +kernel
theorem dX8_lies_1 : decode cX8_lies 1 = .ok (.istore_n 2, 1) := by decide +kernel
theorem dX8_lies_2 : decode cX8_lies 2 = .ok (.iconst 0, 1) := by decide +kernel
theorem dX8_lies_3 : decode cX8_lies 3 = .ok (.istore_n 3, 1) := by decide +kernel
theorem dX8_lies_4 : decode cX8_lies 4 = .ok (.iload_n 3, 1) := by decide +kernel
theorem dX8_lies_5 : decode cX8_lies 5 = .ok (.aload_n 0, 1) := by decide +kernel
theorem dX8_lies_6 : decode cX8_lies 6 = .ok (.getfield 127, 3) := by decide +kernel
theorem dX8_lies_9 : decode cX8_lies 9 = .ok (.if_icmp .ge 23, 3) := by decide +kernel
theorem dX8_lies_12 : decode cX8_lies 12 = .ok (.iload_n 2, 1) := by decide +kernel
theorem dX8_lies_13 : decode cX8_lies 13 = .ok (.aload_n 0, 1) := by decide +kernel
theorem dX8_lies_14 : decode cX8_lies 14 = .ok (.getfield 84, 3) := by decide +kernel
theorem dX8_lies_17 : decode cX8_lies 17 = .ok (.bipush 6, 2) := by decide +kernel
theorem dX8_lies_19 : decode cX8_lies 19 = .ok (.iload_n 3, 1) := by decide +kernel
theorem dX8_lies_20 : decode cX8_lies 20 = .ok (.imul, 1) := by decide +kernel
theorem dX8_lies_21 : decode cX8_lies 21 = .ok (.iload_n 1, 1) := by decide +kernel
theorem dX8_lies_22 : decode cX8_lies 22 = .ok (.iadd, 1) := by decide +kernel
theorem dX8_lies_23 : decode cX8_lies 23 = .ok (.iaload, 1) := by decide +kernel
theorem dX8_lies_24 : decode cX8_lies 24 = .ok (.iadd, 1) := by decide +kernel
theorem dX8_lies_25 : decode cX8_lies 25 = .ok (.istore_n 2, 1) := by decide +kernel
theorem dX8_lies_26 : decode cX8_lies 26 = .ok (.iinc 3 1, 3) := by decide +kernel
theorem dX8_lies_29 : decode cX8_lies 29 = .ok (.goto (-25), 3) := by decide +kernel
theorem dX8_lies_32 : decode cX8_lies 32 = .ok (.iload_n 2, 1) := by decide +kernel
theorem dX8_lies_33 : decode cX8_lies 33 = .ok (.ireturn, 1) := by decide +kernel
def zb_X8_lies_4 (J4 : ZP) : ZP := (z_ild 3 (z_ald 0 (z_gf 8 28 (z_cmp (fun x y => y ≤ x) (z_ild 2 (z_ret 1)) (z_ild 2 (z_ald 0 (z_gf 8 30 (z_push 6 (z_ild 3 (z_bin (fun x y => x * y) (z_ild 1 (z_bin (fun x y => x + y) (z_iald (z_bin (fun x y => x + y) (z_ist 2 (z_inc 3 (1) J4))))))))))))))))
set_option maxRecDepth 20000 in
theorem zk_X8_lies_4 {X : ZX} (C : zCx X cX8_lies RX8 (some .int) 0 0 1 6) (hn : X.nL = 4) {J4 : ZP} (hJ4 : ZOK X 4 J4) : ZOK X 4 (zb_X8_lies_4 J4) := by
  unfold zb_X8_lies_4
  refine z_iload_n_ok (pc := 4) (i := 3) C.hx C.hb dX8_lies_4 rfl ?_
  refine z_aload_n_ok (pc := 5) (i := 0) C.hx C.hb dX8_lies_5 rfl ?_
  refine z_gf_ok (pc := 6) C zK8 (f := 28) (by decide) zw_885 rfl dX8_lies_6 ?_
  refine z_icmp_ge_ok (pc := 9) (tgt := 32) C.hx C.hb dX8_lies_9 (by decide) ?_ ?_
  · refine z_iload_n_ok (pc := 32) (i := 2) C.hx C.hb dX8_lies_32 rfl ?_
    exact z_iret_ok (pc := 33) C dX8_lies_33
  · refine z_iload_n_ok (pc := 12) (i := 2) C.hx C.hb dX8_lies_12 rfl ?_
    refine z_aload_n_ok (pc := 13) (i := 0) C.hx C.hb dX8_lies_13 rfl ?_
    refine z_gf_ok (pc := 14) C zK8 (f := 30) (by decide) zw_887 rfl dX8_lies_14 ?_
    refine z_bipush_ok (pc := 17) (v := 6) C.hx C.hb dX8_lies_17 (by decide) ?_
    refine z_iload_n_ok (pc := 19) (i := 3) C.hx C.hb dX8_lies_19 rfl ?_
    refine z_imul_ok (pc := 20) C.hx C.hb dX8_lies_20 ?_
    refine z_iload_n_ok (pc := 21) (i := 1) C.hx C.hb dX8_lies_21 rfl ?_
    refine z_iadd_ok (pc := 22) C.hx C.hb dX8_lies_22 ?_
    refine z_iald_ok (pc := 23) C dX8_lies_23 ?_
    refine z_iadd_ok (pc := 24) C.hx C.hb dX8_lies_24 ?_
    refine z_istore_n_ok (pc := 25) (i := 2) C.hx C.hb dX8_lies_25 rfl (zlt hn (by decide)) ?_
    refine z_iinc_ok (pc := 26) (i := 3) (v := 1) C.hx C.hb dX8_lies_26 (by decide) (zlt hn (by decide)) ?_
    refine z_goto_ok (pc := 29) (tgt := 4) C.hx C.hb dX8_lies_29 (by decide) ?_
    exact hJ4
def zb_X8_lies_0 : ZP := (z_push 0 (z_ist 2 (z_push 0 (z_ist 3 (z_loop (fun J4 => zb_X8_lies_4 J4))))))
set_option maxRecDepth 20000 in
theorem zk_X8_lies_0 {X : ZX} (C : zCx X cX8_lies RX8 (some .int) 0 0 1 6) (hn : X.nL = 4) : ZOK X 0 (zb_X8_lies_0) := by
  unfold zb_X8_lies_0
  refine z_iconst_ok (pc := 0) (v := 0) C.hx C.hb dX8_lies_0 (by decide) ?_
  refine z_istore_n_ok (pc := 1) (i := 2) C.hx C.hb dX8_lies_1 rfl (zlt hn (by decide)) ?_
  refine z_iconst_ok (pc := 2) (v := 0) C.hx C.hb dX8_lies_2 (by decide) ?_
  refine z_istore_n_ok (pc := 3) (i := 3) C.hx C.hb dX8_lies_3 rfl (zlt hn (by decide)) ?_
  exact z_loop_ok (fun J4 hJ4 => zk_X8_lies_4 C hn hJ4)
def sp_X8_lies : ZSp := fun as S K => as.length ≤ 4 ∧ zsp 4 zb_X8_lies_0 as S K
theorem zm_X8_lies (l : Launch) (hl : l.stackTraces = false) : zMet l yX8_lies cX8_lies 4 (some .int) { frames := 0, cells := 1, slots := 6, locals := 0 } 0 0 sp_X8_lies := zMet_of hl (by decide +kernel) ⟨rfl, rfl⟩ (fun X C hn _ => zk_X8_lies_0 C hn)
theorem dX8_goodIs_0 : decode cX8_goodIs 0 = .ok (.aload_n 0, 1) := by decide +kernel
theorem dX8_goodIs_1 : decode cX8_goodIs 1 = .ok (.iload_n 1, 1) := by decide +kernel
theorem dX8_goodIs_2 : decode cX8_goodIs 2 = .ok (.invokestatic 133, 3) := by decide +kernel
theorem dX8_goodIs_5 : decode cX8_goodIs 5 = .ok (.iconst 1, 1) := by decide +kernel
theorem dX8_goodIs_6 : decode cX8_goodIs 6 = .ok (.invokevirtual 137, 3) := by decide +kernel
theorem dX8_goodIs_9 : decode cX8_goodIs 9 = .ok (.ifCond .eq 5, 3) := by decide +kernel
theorem dX8_goodIs_12 : decode cX8_goodIs 12 = .ok (.iconst 0, 1) := by decide +kernel
theorem dX8_goodIs_13 : decode cX8_goodIs 13 = .ok (.ireturn, 1) := by decide +kernel
theorem dX8_goodIs_14 : decode cX8_goodIs 14 = .ok (.aload_n 0, 1) := by decide +kernel
theorem dX8_goodIs_15 : decode cX8_goodIs 15 = .ok (.iload_n 2, 1) := by decide +kernel
theorem dX8_goodIs_16 : decode cX8_goodIs 16 = .ok (.iconst 0, 1) := by decide +kernel
theorem dX8_goodIs_17 : decode cX8_goodIs 17 = .ok (.iconst 5, 1) := by decide +kernel
theorem dX8_goodIs_18 : decode cX8_goodIs 18 = .ok (.invokestatic 120, 3) := by decide +kernel
theorem dX8_goodIs_21 : decode cX8_goodIs 21 = .ok (.iconst 2, 1) := by decide +kernel
theorem dX8_goodIs_22 : decode cX8_goodIs 22 = .ok (.invokevirtual 137, 3) := by decide +kernel
theorem dX8_goodIs_25 : decode cX8_goodIs 25 = .ok (.ifCond .eq 5, 3) := by decide +kernel
theorem dX8_goodIs_28 : decode cX8_goodIs 28 = .ok (.iconst 0, 1) := by decide +kernel
theorem dX8_goodIs_29 : decode cX8_goodIs 29 = .ok (.ireturn, 1) := by decide +kernel
theorem dX8_goodIs_30 : decode cX8_goodIs 30 = .ok (.iload_n 2, 1) := by decide +kernel
theorem dX8_goodIs_31 : decode cX8_goodIs 31 = .ok (.iconst 3, 1) := by decide +kernel
theorem dX8_goodIs_32 : decode cX8_goodIs 32 = .ok (.if_icmp .ge 69, 3) := by decide +kernel
theorem dX8_goodIs_35 : decode cX8_goodIs 35 = .ok (.iload_n 2, 1) := by decide +kernel
theorem dX8_goodIs_36 : decode cX8_goodIs 36 = .ok (.ifCond .ne 12, 3) := by decide +kernel
theorem dX8_goodIs_39 : decode cX8_goodIs 39 = .ok (.aload_n 0, 1) := by decide +kernel
theorem dX8_goodIs_40 : decode cX8_goodIs 40 = .ok (.getfield 16, 3) := by decide +kernel
theorem dX8_goodIs_43 : decode cX8_goodIs 43 = .ok (.iload_n 1, 1) := by decide +kernel
theorem dX8_goodIs_44 : decode cX8_goodIs 44 = .ok (.iaload, 1) := by decide +kernel
theorem dX8_goodIs_45 : decode cX8_goodIs 45 = .ok (.goto 55, 3) := by decide +kernel
theorem dX8_goodIs_48 : decode cX8_goodIs 48 = .ok (.iload_n 2, 1) := by decide +kernel
theorem dX8_goodIs_49 : decode cX8_goodIs 49 = .ok (.iconst 2, 1) := by decide +kernel
theorem dX8_goodIs_50 : decode cX8_goodIs 50 = .ok (.if_icmp .ne 12, 3) := by decide +kernel
theorem dX8_goodIs_53 : decode cX8_goodIs 53 = .ok (.aload_n 0, 1) := by decide +kernel
theorem dX8_goodIs_54 : decode cX8_goodIs 54 = .ok (.getfield 26, 3) := by decide +kernel
theorem dX8_goodIs_57 : decode cX8_goodIs 57 = .ok (.iload_n 1, 1) := by decide +kernel
theorem dX8_goodIs_58 : decode cX8_goodIs 58 = .ok (.iaload, 1) := by decide +kernel
theorem dX8_goodIs_59 : decode cX8_goodIs 59 = .ok (.goto 41, 3) := by decide +kernel
theorem dX8_goodIs_62 : decode cX8_goodIs 62 = .ok (.aload_n 0, 1) := by decide +kernel
theorem dX8_goodIs_63 : decode cX8_goodIs 63 = .ok (.getfield 16, 3) := by decide +kernel
theorem dX8_goodIs_66 : decode cX8_goodIs 66 = .ok (.iload_n 1, 1) := by decide +kernel
theorem dX8_goodIs_67 : decode cX8_goodIs 67 = .ok (.iaload, 1) := by decide +kernel
theorem dX8_goodIs_68 : decode cX8_goodIs 68 = .ok (.ifCond .ne 12, 3) := by decide +kernel
theorem dX8_goodIs_71 : decode cX8_goodIs 71 = .ok (.aload_n 0, 1) := by decide +kernel
theorem dX8_goodIs_72 : decode cX8_goodIs 72 = .ok (.getfield 20, 3) := by decide +kernel
theorem dX8_goodIs_75 : decode cX8_goodIs 75 = .ok (.iload_n 1, 1) := by decide +kernel
theorem dX8_goodIs_76 : decode cX8_goodIs 76 = .ok (.iaload, 1) := by decide +kernel
theorem dX8_goodIs_77 : decode cX8_goodIs 77 = .ok (.goto 23, 3) := by decide +kernel
theorem dX8_goodIs_80 : decode cX8_goodIs 80 = .ok (.aload_n 0, 1) := by decide +kernel
theorem dX8_goodIs_81 : decode cX8_goodIs 81 = .ok (.getfield 16, 3) := by decide +kernel
theorem dX8_goodIs_84 : decode cX8_goodIs 84 = .ok (.iload_n 1, 1) := by decide +kernel
theorem dX8_goodIs_85 : decode cX8_goodIs 85 = .ok (.iaload, 1) := by decide +kernel
theorem dX8_goodIs_86 : decode cX8_goodIs 86 = .ok (.iconst 1, 1) := by decide +kernel
theorem dX8_goodIs_87 : decode cX8_goodIs 87 = .ok (.if_icmp .ne 12, 3) := by decide +kernel
theorem dX8_goodIs_90 : decode cX8_goodIs 90 = .ok (.aload_n 0, 1) := by decide +kernel
theorem dX8_goodIs_91 : decode cX8_goodIs 91 = .ok (.getfield 23, 3) := by decide +kernel
theorem dX8_goodIs_94 : decode cX8_goodIs 94 = .ok (.iload_n 1, 1) := by decide +kernel
theorem dX8_goodIs_95 : decode cX8_goodIs 95 = .ok (.iaload, 1) := by decide +kernel
theorem dX8_goodIs_96 : decode cX8_goodIs 96 = .ok (.goto 4, 3) := by decide +kernel
theorem dX8_goodIs_99 : decode cX8_goodIs 99 = .ok (.iconst 0, 1) := by decide +kernel
theorem dX8_goodIs_100 : decode cX8_goodIs 100 = .ok (.ireturn, 1) := by decide +kernel
theorem dX8_goodIs_101 : decode cX8_goodIs 101 = .ok (.iload_n 2, 1) := by decide +kernel
theorem dX8_goodIs_102 : decode cX8_goodIs 102 = .ok (.iconst 3, 1) := by decide +kernel
theorem dX8_goodIs_103 : decode cX8_goodIs 103 = .ok (.if_icmp .ne 12, 3) := by decide +kernel
theorem dX8_goodIs_106 : decode cX8_goodIs 106 = .ok (.aload_n 0, 1) := by decide +kernel
theorem dX8_goodIs_107 : decode cX8_goodIs 107 = .ok (.getfield 29, 3) := by decide +kernel
theorem dX8_goodIs_110 : decode cX8_goodIs 110 = .ok (.iload_n 1, 1) := by decide +kernel
theorem dX8_goodIs_111 : decode cX8_goodIs 111 = .ok (.iaload, 1) := by decide +kernel
theorem dX8_goodIs_112 : decode cX8_goodIs 112 = .ok (.goto 22, 3) := by decide +kernel
theorem dX8_goodIs_115 : decode cX8_goodIs 115 = .ok (.iload_n 2, 1) := by decide +kernel
theorem dX8_goodIs_116 : decode cX8_goodIs 116 = .ok (.iconst 4, 1) := by decide +kernel
theorem dX8_goodIs_117 : decode cX8_goodIs 117 = .ok (.if_icmp .ne 11, 3) := by decide +kernel
theorem dX8_goodIs_120 : decode cX8_goodIs 120 = .ok (.aload_n 0, 1) := by decide +kernel
theorem dX8_goodIs_121 : decode cX8_goodIs 121 = .ok (.iload_n 1, 1) := by decide +kernel
theorem dX8_goodIs_122 : decode cX8_goodIs 122 = .ok (.invokevirtual 141, 3) := by decide +kernel
theorem dX8_goodIs_125 : decode cX8_goodIs 125 = .ok (.goto 9, 3) := by decide +kernel
theorem dX8_goodIs_128 : decode cX8_goodIs 128 = .ok (.aload_n 0, 1) := by decide +kernel
theorem dX8_goodIs_129 : decode cX8_goodIs 129 = .ok (.getfield 32, 3) := by decide +kernel
theorem dX8_goodIs_132 : decode cX8_goodIs 132 = .ok (.iload_n 1, 1) := by decide +kernel
theorem dX8_goodIs_133 : decode cX8_goodIs 133 = .ok (.iaload, 1) := by decide +kernel
theorem dX8_goodIs_134 : decode cX8_goodIs 134 = .ok (.ireturn, 1) := by decide +kernel
def zb_X8_goodIs_134 : ZP := (z_ret 1)
set_option maxRecDepth 20000 in
theorem zk_X8_goodIs_134 {X : ZX} (C : zCx X cX8_goodIs RX8 (some .int) 2 42 1 6) (hn : X.nL = 3) : ZOK X 134 (zb_X8_goodIs_134) := by
  unfold zb_X8_goodIs_134
  exact z_iret_ok (pc := 134) C dX8_goodIs_134
def zb_X8_goodIs_100 : ZP := (z_ret 1)
set_option maxRecDepth 20000 in
theorem zk_X8_goodIs_100 {X : ZX} (C : zCx X cX8_goodIs RX8 (some .int) 2 42 1 6) (hn : X.nL = 3) : ZOK X 100 (zb_X8_goodIs_100) := by
  unfold zb_X8_goodIs_100
  exact z_iret_ok (pc := 100) C dX8_goodIs_100
def zb_X8_goodIs_0 : ZP := (z_ald 0 (z_ild 1 (z_invS 1 sp_X8_isGood (z_push 1 (z_invV 8 2 sp_X8_fails (z_if (fun x => x = 0) (z_ald 0 (z_ild 2 (z_push 0 (z_push 5 (z_invS 3 sp_X8_in (z_push 2 (z_invV 8 2 sp_X8_fails (z_if (fun x => x = 0) (z_ild 2 (z_push 3 (z_cmp (fun x y => y ≤ x) (z_ild 2 (z_push 3 (z_cmp (fun x y => x = y) (z_ald 0 (z_gf 8 8 (z_ild 1 (z_iald zb_X8_goodIs_134)))) (z_ild 2 (z_push 4 (z_cmp (fun x y => x = y) (z_ald 0 (z_ild 1 (z_invV 8 1 sp_X8_lies zb_X8_goodIs_134))) (z_ald 0 (z_gf 8 9 (z_ild 1 (z_iald zb_X8_goodIs_134)))))))))) (z_ild 2 (z_if (fun x => x = 0) (z_ald 0 (z_gf 8 4 (z_ild 1 (z_iald zb_X8_goodIs_100)))) (z_ild 2 (z_push 2 (z_cmp (fun x y => x = y) (z_ald 0 (z_gf 8 7 (z_ild 1 (z_iald zb_X8_goodIs_100)))) (z_ald 0 (z_gf 8 4 (z_ild 1 (z_iald (z_if (fun x => x = 0) (z_ald 0 (z_gf 8 5 (z_ild 1 (z_iald zb_X8_goodIs_100)))) (z_ald 0 (z_gf 8 4 (z_ild 1 (z_iald (z_push 1 (z_cmp (fun x y => x = y) (z_ald 0 (z_gf 8 6 (z_ild 1 (z_iald zb_X8_goodIs_100)))) (z_push 0 zb_X8_goodIs_100)))))))))))))))))))) (z_push 0 (z_ret 1)))))))))) (z_push 0 (z_ret 1))))))))
set_option maxRecDepth 20000 in
theorem zk_X8_goodIs_0 {X : ZX} (C : zCx X cX8_goodIs RX8 (some .int) 2 42 1 6) (hn : X.nL = 3) : ZOK X 0 (zb_X8_goodIs_0) := by
  unfold zb_X8_goodIs_0
  refine z_aload_n_ok (pc := 0) (i := 0) C.hx C.hb dX8_goodIs_0 rfl ?_
  refine z_iload_n_ok (pc := 1) (i := 1) C.hx C.hb dX8_goodIs_1 rfl ?_
  refine z_invS_ok (pc := 2) C (by decide +kernel) (zm_X8_isGood X.l C.htr) ⟨rfl, rfl⟩ ⟨by decide, by decide⟩ (by decide) (by decide) zcl_X8_133 zw_1009 dX8_goodIs_2 ?_
  refine z_iconst_ok (pc := 5) (v := 1) C.hx C.hb dX8_goodIs_5 (by decide) ?_
  refine z_invV_ok (pc := 6) C (by decide +kernel) (zm_X8_fails X.l C.htr) ⟨rfl, rfl⟩ ⟨by decide, by decide⟩ (by decide) (by decide) zcl_X8_137 zw_1016 zw_25 zK8 dX8_goodIs_6 ?_
  refine z_if_eq_ok (pc := 9) (tgt := 14) C.hx C.hb dX8_goodIs_9 (by decide) ?_ ?_
  · refine z_aload_n_ok (pc := 14) (i := 0) C.hx C.hb dX8_goodIs_14 rfl ?_
    refine z_iload_n_ok (pc := 15) (i := 2) C.hx C.hb dX8_goodIs_15 rfl ?_
    refine z_iconst_ok (pc := 16) (v := 0) C.hx C.hb dX8_goodIs_16 (by decide) ?_
    refine z_iconst_ok (pc := 17) (v := 5) C.hx C.hb dX8_goodIs_17 (by decide) ?_
    refine z_invS_ok (pc := 18) C (by decide +kernel) (zm_X8_in X.l C.htr) ⟨rfl, rfl⟩ ⟨by decide, by decide⟩ (by decide) (by decide) zcl_X8_120 zw_1012 dX8_goodIs_18 ?_
    refine z_iconst_ok (pc := 21) (v := 2) C.hx C.hb dX8_goodIs_21 (by decide) ?_
    refine z_invV_ok (pc := 22) C (by decide +kernel) (zm_X8_fails X.l C.htr) ⟨rfl, rfl⟩ ⟨by decide, by decide⟩ (by decide) (by decide) zcl_X8_137 zw_1016 zw_25 zK8 dX8_goodIs_22 ?_
    refine z_if_eq_ok (pc := 25) (tgt := 30) C.hx C.hb dX8_goodIs_25 (by decide) ?_ ?_
    · refine z_iload_n_ok (pc := 30) (i := 2) C.hx C.hb dX8_goodIs_30 rfl ?_
      refine z_iconst_ok (pc := 31) (v := 3) C.hx C.hb dX8_goodIs_31 (by decide) ?_
      refine z_icmp_ge_ok (pc := 32) (tgt := 101) C.hx C.hb dX8_goodIs_32 (by decide) ?_ ?_
      · refine z_iload_n_ok (pc := 101) (i := 2) C.hx C.hb dX8_goodIs_101 rfl ?_
        refine z_iconst_ok (pc := 102) (v := 3) C.hx C.hb dX8_goodIs_102 (by decide) ?_
        refine z_icmp_ne_ok (pc := 103) (tgt := 115) C.hx C.hb dX8_goodIs_103 (by decide) ?_ ?_
        · refine z_iload_n_ok (pc := 115) (i := 2) C.hx C.hb dX8_goodIs_115 rfl ?_
          refine z_iconst_ok (pc := 116) (v := 4) C.hx C.hb dX8_goodIs_116 (by decide) ?_
          refine z_icmp_ne_ok (pc := 117) (tgt := 128) C.hx C.hb dX8_goodIs_117 (by decide) ?_ ?_
          · refine z_aload_n_ok (pc := 128) (i := 0) C.hx C.hb dX8_goodIs_128 rfl ?_
            refine z_gf_ok (pc := 129) C zK8 (f := 9) (by decide) zw_866 rfl dX8_goodIs_129 ?_
            refine z_iload_n_ok (pc := 132) (i := 1) C.hx C.hb dX8_goodIs_132 rfl ?_
            refine z_iald_ok (pc := 133) C dX8_goodIs_133 ?_
            exact zk_X8_goodIs_134 C hn 
          · refine z_aload_n_ok (pc := 120) (i := 0) C.hx C.hb dX8_goodIs_120 rfl ?_
            refine z_iload_n_ok (pc := 121) (i := 1) C.hx C.hb dX8_goodIs_121 rfl ?_
            refine z_invV_ok (pc := 122) C (by decide +kernel) (zm_X8_lies X.l C.htr) ⟨rfl, rfl⟩ ⟨by decide, by decide⟩ (by decide) (by decide) zcl_X8_141 zw_1040 zw_26 zK8 dX8_goodIs_122 ?_
            refine z_goto_ok (pc := 125) (tgt := 134) C.hx C.hb dX8_goodIs_125 (by decide) ?_
            exact zk_X8_goodIs_134 C hn 
        · refine z_aload_n_ok (pc := 106) (i := 0) C.hx C.hb dX8_goodIs_106 rfl ?_
          refine z_gf_ok (pc := 107) C zK8 (f := 8) (by decide) zw_865 rfl dX8_goodIs_107 ?_
          refine z_iload_n_ok (pc := 110) (i := 1) C.hx C.hb dX8_goodIs_110 rfl ?_
          refine z_iald_ok (pc := 111) C dX8_goodIs_111 ?_
          refine z_goto_ok (pc := 112) (tgt := 134) C.hx C.hb dX8_goodIs_112 (by decide) ?_
          exact zk_X8_goodIs_134 C hn 
      · refine z_iload_n_ok (pc := 35) (i := 2) C.hx C.hb dX8_goodIs_35 rfl ?_
        refine z_if_ne_ok (pc := 36) (tgt := 48) C.hx C.hb dX8_goodIs_36 (by decide) ?_ ?_
        · refine z_iload_n_ok (pc := 48) (i := 2) C.hx C.hb dX8_goodIs_48 rfl ?_
          refine z_iconst_ok (pc := 49) (v := 2) C.hx C.hb dX8_goodIs_49 (by decide) ?_
          refine z_icmp_ne_ok (pc := 50) (tgt := 62) C.hx C.hb dX8_goodIs_50 (by decide) ?_ ?_
          · refine z_aload_n_ok (pc := 62) (i := 0) C.hx C.hb dX8_goodIs_62 rfl ?_
            refine z_gf_ok (pc := 63) C zK8 (f := 4) (by decide) zw_861 rfl dX8_goodIs_63 ?_
            refine z_iload_n_ok (pc := 66) (i := 1) C.hx C.hb dX8_goodIs_66 rfl ?_
            refine z_iald_ok (pc := 67) C dX8_goodIs_67 ?_
            refine z_if_ne_ok (pc := 68) (tgt := 80) C.hx C.hb dX8_goodIs_68 (by decide) ?_ ?_
            · refine z_aload_n_ok (pc := 80) (i := 0) C.hx C.hb dX8_goodIs_80 rfl ?_
              refine z_gf_ok (pc := 81) C zK8 (f := 4) (by decide) zw_861 rfl dX8_goodIs_81 ?_
              refine z_iload_n_ok (pc := 84) (i := 1) C.hx C.hb dX8_goodIs_84 rfl ?_
              refine z_iald_ok (pc := 85) C dX8_goodIs_85 ?_
              refine z_iconst_ok (pc := 86) (v := 1) C.hx C.hb dX8_goodIs_86 (by decide) ?_
              refine z_icmp_ne_ok (pc := 87) (tgt := 99) C.hx C.hb dX8_goodIs_87 (by decide) ?_ ?_
              · refine z_iconst_ok (pc := 99) (v := 0) C.hx C.hb dX8_goodIs_99 (by decide) ?_
                exact zk_X8_goodIs_100 C hn 
              · refine z_aload_n_ok (pc := 90) (i := 0) C.hx C.hb dX8_goodIs_90 rfl ?_
                refine z_gf_ok (pc := 91) C zK8 (f := 6) (by decide) zw_863 rfl dX8_goodIs_91 ?_
                refine z_iload_n_ok (pc := 94) (i := 1) C.hx C.hb dX8_goodIs_94 rfl ?_
                refine z_iald_ok (pc := 95) C dX8_goodIs_95 ?_
                refine z_goto_ok (pc := 96) (tgt := 100) C.hx C.hb dX8_goodIs_96 (by decide) ?_
                exact zk_X8_goodIs_100 C hn 
            · refine z_aload_n_ok (pc := 71) (i := 0) C.hx C.hb dX8_goodIs_71 rfl ?_
              refine z_gf_ok (pc := 72) C zK8 (f := 5) (by decide) zw_862 rfl dX8_goodIs_72 ?_
              refine z_iload_n_ok (pc := 75) (i := 1) C.hx C.hb dX8_goodIs_75 rfl ?_
              refine z_iald_ok (pc := 76) C dX8_goodIs_76 ?_
              refine z_goto_ok (pc := 77) (tgt := 100) C.hx C.hb dX8_goodIs_77 (by decide) ?_
              exact zk_X8_goodIs_100 C hn 
          · refine z_aload_n_ok (pc := 53) (i := 0) C.hx C.hb dX8_goodIs_53 rfl ?_
            refine z_gf_ok (pc := 54) C zK8 (f := 7) (by decide) zw_864 rfl dX8_goodIs_54 ?_
            refine z_iload_n_ok (pc := 57) (i := 1) C.hx C.hb dX8_goodIs_57 rfl ?_
            refine z_iald_ok (pc := 58) C dX8_goodIs_58 ?_
            refine z_goto_ok (pc := 59) (tgt := 100) C.hx C.hb dX8_goodIs_59 (by decide) ?_
            exact zk_X8_goodIs_100 C hn 
        · refine z_aload_n_ok (pc := 39) (i := 0) C.hx C.hb dX8_goodIs_39 rfl ?_
          refine z_gf_ok (pc := 40) C zK8 (f := 4) (by decide) zw_861 rfl dX8_goodIs_40 ?_
          refine z_iload_n_ok (pc := 43) (i := 1) C.hx C.hb dX8_goodIs_43 rfl ?_
          refine z_iald_ok (pc := 44) C dX8_goodIs_44 ?_
          refine z_goto_ok (pc := 45) (tgt := 100) C.hx C.hb dX8_goodIs_45 (by decide) ?_
          exact zk_X8_goodIs_100 C hn 
    · refine z_iconst_ok (pc := 28) (v := 0) C.hx C.hb dX8_goodIs_28 (by decide) ?_
      exact z_iret_ok (pc := 29) C dX8_goodIs_29
  · refine z_iconst_ok (pc := 12) (v := 0) C.hx C.hb dX8_goodIs_12 (by decide) ?_
    exact z_iret_ok (pc := 13) C dX8_goodIs_13
def sp_X8_goodIs : ZSp := fun as S K => as.length ≤ 3 ∧ zsp 3 zb_X8_goodIs_0 as S K
theorem zm_X8_goodIs (l : Launch) (hl : l.stackTraces = false) : zMet l yX8_goodIs cX8_goodIs 3 (some .int) { frames := 2, cells := 1, slots := 6, locals := 42 } 0 0 sp_X8_goodIs := zMet_of hl (by decide +kernel) ⟨rfl, rfl⟩ (fun X C hn _ => zk_X8_goodIs_0 C hn)
theorem dX8_inspect_0 : decode cX8_inspect 0 = .ok (.aload_n 0, 1) := by decide +kernel
theorem dX8_inspect_1 : decode cX8_inspect 1 = .ok (.aload_n 0, 1) := by decide +kernel
theorem dX8_inspect_2 : decode cX8_inspect 2 = .ok (.iload_n 1, 1) := by decide +kernel
theorem dX8_inspect_3 : decode cX8_inspect 3 = .ok (.invokevirtual 145, 3) := by decide +kernel
theorem dX8_inspect_6 : decode cX8_inspect 6 = .ok (.iconst 1, 1) := by decide +kernel
theorem dX8_inspect_7 : decode cX8_inspect 7 = .ok (.invokevirtual 137, 3) := by decide +kernel
theorem dX8_inspect_10 : decode cX8_inspect 10 = .ok (.ifCond .eq 5, 3) := by decide +kernel
theorem dX8_inspect_13 : decode cX8_inspect 13 = .ok (.iconst 0, 1) := by decide +kernel
theorem dX8_inspect_14 : decode cX8_inspect 14 = .ok (.ireturn, 1) := by decide +kernel
theorem dX8_inspect_15 : decode cX8_inspect 15 = .ok (.aload_n 0, 1) := by decide +kernel
theorem dX8_inspect_16 : decode cX8_inspect 16 = .ok (.dup, 1) := by decide +kernel
theorem dX8_inspect_17 : decode cX8_inspect 17 = .ok (.getfield 200, 3) := by decide +kernel
theorem dX8_inspect_20 : decode cX8_inspect 20 = .ok (.iconst 1, 1) := by decide +kernel
theorem dX8_inspect_21 : decode cX8_inspect 21 = .ok (.iadd, 1) := by decide +kernel
theorem dX8_inspect_22 : decode cX8_inspect 22 = .ok (.putfield 200, 3) := by decide +kernel
theorem dX8_inspect_25 : decode cX8_inspect 25 = .ok (.iconst 0, 1) := by decide +kernel
theorem dX8_inspect_26 : decode cX8_inspect 26 = .ok (.istore_n 2, 1) := by decide +kernel
theorem dX8_inspect_27 : decode cX8_inspect 27 = .ok (.bipush 6, 2) := by decide +kernel
theorem dX8_inspect_29 : decode cX8_inspect 29 = .ok (.iload_n 1, 1) := by decide +kernel
theorem dX8_inspect_30 : decode cX8_inspect 30 = .ok (.imul, 1) := by decide +kernel
theorem dX8_inspect_31 : decode cX8_inspect 31 = .ok (.istore_n 3, 1) := by decide +kernel
theorem dX8_inspect_32 : decode cX8_inspect 32 = .ok (.iload_n 3, 1) := by decide +kernel
theorem dX8_inspect_33 : decode cX8_inspect 33 = .ok (.bipush 6, 2) := by decide +kernel
theorem dX8_inspect_35 : decode cX8_inspect 35 = .ok (.iload_n 1, 1) := by decide +kernel
theorem dX8_inspect_36 : decode cX8_inspect 36 = .ok (.imul, 1) := by decide +kernel
theorem dX8_inspect_37 : decode cX8_inspect 37 = .ok (.bipush 6, 2) := by decide +kernel
theorem dX8_inspect_39 : decode cX8_inspect 39 = .ok (.iadd, 1) := by decide +kernel
theorem dX8_inspect_40 : decode cX8_inspect 40 = .ok (.if_icmp .ge 53, 3) := by decide +kernel
theorem dX8_inspect_43 : decode cX8_inspect 43 = .ok (.aload_n 0, 1) := by decide +kernel
theorem dX8_inspect_44 : decode cX8_inspect 44 = .ok (.getfield 96, 3) := by decide +kernel
theorem dX8_inspect_47 : decode cX8_inspect 47 = .ok (.iload_n 3, 1) := by decide +kernel
theorem dX8_inspect_48 : decode cX8_inspect 48 = .ok (.iaload, 1) := by decide +kernel
theorem dX8_inspect_49 : decode cX8_inspect 49 = .ok (.aload_n 0, 1) := by decide +kernel
theorem dX8_inspect_50 : decode cX8_inspect 50 = .ok (.getfield 87, 3) := by decide +kernel
theorem dX8_inspect_53 : decode cX8_inspect 53 = .ok (.iload_n 3, 1) := by decide +kernel
theorem dX8_inspect_54 : decode cX8_inspect 54 = .ok (.iaload, 1) := by decide +kernel
theorem dX8_inspect_55 : decode cX8_inspect 55 = .ok (.invokestatic 190, 3) := by decide +kernel
theorem dX8_inspect_58 : decode cX8_inspect 58 = .ok (.istore 4, 2) := by decide +kernel
theorem dX8_inspect_60 : decode cX8_inspect 60 = .ok (.aload_n 0, 1) := by decide +kernel
theorem dX8_inspect_61 : decode cX8_inspect 61 = .ok (.getfield 96, 3) := by decide +kernel
theorem dX8_inspect_64 : decode cX8_inspect 64 = .ok (.iload_n 3, 1) := by decide +kernel
theorem dX8_inspect_65 : decode cX8_inspect 65 = .ok (.dup2, 1) := by decide +kernel
theorem dX8_inspect_66 : decode cX8_inspect 66 = .ok (.iaload, 1) := by decide +kernel
theorem dX8_inspect_67 : decode cX8_inspect 67 = .ok (.iload 4, 2) := by decide +kernel
theorem dX8_inspect_69 : decode cX8_inspect 69 = .ok (.isub, 1) := by decide +kernel
theorem dX8_inspect_70 : decode cX8_inspect 70 = .ok (.iastore, 1) := by decide +kernel
theorem dX8_inspect_71 : decode cX8_inspect 71 = .ok (.aload_n 0, 1) := by decide +kernel
theorem dX8_inspect_72 : decode cX8_inspect 72 = .ok (.getfield 87, 3) := by decide +kernel
theorem dX8_inspect_75 : decode cX8_inspect 75 = .ok (.iload_n 3, 1) := by decide +kernel
theorem dX8_inspect_76 : decode cX8_inspect 76 = .ok (.dup2, 1) := by decide +kernel
theorem dX8_inspect_77 : decode cX8_inspect 77 = .ok (.iaload, 1) := by decide +kernel
theorem dX8_inspect_78 : decode cX8_inspect 78 = .ok (.iload 4, 2) := by decide +kernel
theorem dX8_inspect_80 : decode cX8_inspect 80 = .ok (.isub, 1) := by decide +kernel
theorem dX8_inspect_81 : decode cX8_inspect 81 = .ok (.iastore, 1) := by decide +kernel
theorem dX8_inspect_82 : decode cX8_inspect 82 = .ok (.iload_n 2, 1) := by decide +kernel
theorem dX8_inspect_83 : decode cX8_inspect 83 = .ok (.iload 4, 2) := by decide +kernel
theorem dX8_inspect_85 : decode cX8_inspect 85 = .ok (.iadd, 1) := by decide +kernel
theorem dX8_inspect_86 : decode cX8_inspect 86 = .ok (.istore_n 2, 1) := by decide +kernel
theorem dX8_inspect_87 : decode cX8_inspect 87 = .ok (.iinc 3 1, 3) := by decide +kernel
theorem dX8_inspect_90 : decode cX8_inspect 90 = .ok (.goto (-58), 3) := by decide +kernel
theorem dX8_inspect_93 : decode cX8_inspect 93 = .ok (.iload_n 2, 1) := by decide +kernel
theorem dX8_inspect_94 : decode cX8_inspect 94 = .ok (.ireturn, 1) := by decide +kernel
def zb_X8_inspect_32 (J32 : ZP) : ZP := (z_ild 3 (z_push 6 (z_ild 1 (z_bin (fun x y => x * y) (z_push 6 (z_bin (fun x y => x + y) (z_cmp (fun x y => y ≤ x) (z_ild 2 (z_ret 1)) (z_ald 0 (z_gf 8 34 (z_ild 3 (z_iald (z_ald 0 (z_gf 8 31 (z_ild 3 (z_iald (z_invS 2 sp_X8_lesser (z_ist 4 (z_ald 0 (z_gf 8 34 (z_ild 3 (z_dup2 (z_iald (z_ild 4 (z_bin (fun x y => x - y) (z_iast (z_ald 0 (z_gf 8 31 (z_ild 3 (z_dup2 (z_iald (z_ild 4 (z_bin (fun x y => x - y) (z_iast (z_ild 2 (z_ild 4 (z_bin (fun x y => x + y) (z_ist 2 (z_inc 3 (1) J32))))))))))))))))))))))))))))))))))))))
set_option maxRecDepth 20000 in
theorem zk_X8_inspect_32 {X : ZX} (C : zCx X cX8_inspect RX8 (some .int) 2 43 1 6) (hn : X.nL = 5) {J32 : ZP} (hJ32 : ZOK X 32 J32) : ZOK X 32 (zb_X8_inspect_32 J32) := by
  unfold zb_X8_inspect_32
  refine z_iload_n_ok (pc := 32) (i := 3) C.hx C.hb dX8_inspect_32 rfl ?_
  refine z_bipush_ok (pc := 33) (v := 6) C.hx C.hb dX8_inspect_33 (by decide) ?_
  refine z_iload_n_ok (pc := 35) (i := 1) C.hx C.hb dX8_inspect_35 rfl ?_
  refine z_imul_ok (pc := 36) C.hx C.hb dX8_inspect_36 ?_
  refine z_bipush_ok (pc := 37) (v := 6) C.hx C.hb dX8_inspect_37 (by decide) ?_
  refine z_iadd_ok (pc := 39) C.hx C.hb dX8_inspect_39 ?_
  refine z_icmp_ge_ok (pc := 40) (tgt := 93) C.hx C.hb dX8_inspect_40 (by decide) ?_ ?_
  · refine z_iload_n_ok (pc := 93) (i := 2) C.hx C.hb dX8_inspect_93 rfl ?_
    exact z_iret_ok (pc := 94) C dX8_inspect_94
  · refine z_aload_n_ok (pc := 43) (i := 0) C.hx C.hb dX8_inspect_43 rfl ?_
    refine z_gf_ok (pc := 44) C zK8 (f := 34) (by decide) zw_891 rfl dX8_inspect_44 ?_
    refine z_iload_n_ok (pc := 47) (i := 3) C.hx C.hb dX8_inspect_47 rfl ?_
    refine z_iald_ok (pc := 48) C dX8_inspect_48 ?_
    refine z_aload_n_ok (pc := 49) (i := 0) C.hx C.hb dX8_inspect_49 rfl ?_
    refine z_gf_ok (pc := 50) C zK8 (f := 31) (by decide) zw_888 rfl dX8_inspect_50 ?_
    refine z_iload_n_ok (pc := 53) (i := 3) C.hx C.hb dX8_inspect_53 rfl ?_
    refine z_iald_ok (pc := 54) C dX8_inspect_54 ?_
    refine z_invS_ok (pc := 55) C (by decide +kernel) (zm_X8_lesser X.l C.htr) ⟨rfl, rfl⟩ ⟨by decide, by decide⟩ (by decide) (by decide) zcl_X8_190 zw_1147 dX8_inspect_55 ?_
    refine z_istore_ok (pc := 58) (i := 4) C.hx C.hb dX8_inspect_58 (zlt hn (by decide)) ?_
    refine z_aload_n_ok (pc := 60) (i := 0) C.hx C.hb dX8_inspect_60 rfl ?_
    refine z_gf_ok (pc := 61) C zK8 (f := 34) (by decide) zw_891 rfl dX8_inspect_61 ?_
    refine z_iload_n_ok (pc := 64) (i := 3) C.hx C.hb dX8_inspect_64 rfl ?_
    refine z_dup2_ok (pc := 65) C.hx C.hb dX8_inspect_65 ?_
    refine z_iald_ok (pc := 66) C dX8_inspect_66 ?_
    refine z_iload_ok (pc := 67) (i := 4) C.hx C.hb dX8_inspect_67 ?_
    refine z_isub_ok (pc := 69) C.hx C.hb dX8_inspect_69 ?_
    refine z_iast_ok (pc := 70) C dX8_inspect_70 ?_
    refine z_aload_n_ok (pc := 71) (i := 0) C.hx C.hb dX8_inspect_71 rfl ?_
    refine z_gf_ok (pc := 72) C zK8 (f := 31) (by decide) zw_888 rfl dX8_inspect_72 ?_
    refine z_iload_n_ok (pc := 75) (i := 3) C.hx C.hb dX8_inspect_75 rfl ?_
    refine z_dup2_ok (pc := 76) C.hx C.hb dX8_inspect_76 ?_
    refine z_iald_ok (pc := 77) C dX8_inspect_77 ?_
    refine z_iload_ok (pc := 78) (i := 4) C.hx C.hb dX8_inspect_78 ?_
    refine z_isub_ok (pc := 80) C.hx C.hb dX8_inspect_80 ?_
    refine z_iast_ok (pc := 81) C dX8_inspect_81 ?_
    refine z_iload_n_ok (pc := 82) (i := 2) C.hx C.hb dX8_inspect_82 rfl ?_
    refine z_iload_ok (pc := 83) (i := 4) C.hx C.hb dX8_inspect_83 ?_
    refine z_iadd_ok (pc := 85) C.hx C.hb dX8_inspect_85 ?_
    refine z_istore_n_ok (pc := 86) (i := 2) C.hx C.hb dX8_inspect_86 rfl (zlt hn (by decide)) ?_
    refine z_iinc_ok (pc := 87) (i := 3) (v := 1) C.hx C.hb dX8_inspect_87 (by decide) (zlt hn (by decide)) ?_
    refine z_goto_ok (pc := 90) (tgt := 32) C.hx C.hb dX8_inspect_90 (by decide) ?_
    exact hJ32
def zb_X8_inspect_0 : ZP := (z_ald 0 (z_ald 0 (z_ild 1 (z_invV 8 1 sp_X8_isShop (z_push 1 (z_invV 8 2 sp_X8_fails (z_if (fun x => x = 0) (z_ald 0 (z_dup (z_gf 8 3 (z_push 1 (z_bin (fun x y => x + y) (z_pf 8 3 (z_push 0 (z_ist 2 (z_push 6 (z_ild 1 (z_bin (fun x y => x * y) (z_ist 3 (z_loop (fun J32 => zb_X8_inspect_32 J32)))))))))))))) (z_push 0 (z_ret 1)))))))))
set_option maxRecDepth 20000 in
theorem zk_X8_inspect_0 {X : ZX} (C : zCx X cX8_inspect RX8 (some .int) 2 43 1 6) (hn : X.nL = 5) : ZOK X 0 (zb_X8_inspect_0) := by
  unfold zb_X8_inspect_0
  refine z_aload_n_ok (pc := 0) (i := 0) C.hx C.hb dX8_inspect_0 rfl ?_
  refine z_aload_n_ok (pc := 1) (i := 0) C.hx C.hb dX8_inspect_1 rfl ?_
  refine z_iload_n_ok (pc := 2) (i := 1) C.hx C.hb dX8_inspect_2 rfl ?_
  refine z_invV_ok (pc := 3) C (by decide +kernel) (zm_X8_isShop X.l C.htr) ⟨rfl, rfl⟩ ⟨by decide, by decide⟩ (by decide) (by decide) zcl_X8_145 zw_1048 zw_27 zK8 dX8_inspect_3 ?_
  refine z_iconst_ok (pc := 6) (v := 1) C.hx C.hb dX8_inspect_6 (by decide) ?_
  refine z_invV_ok (pc := 7) C (by decide +kernel) (zm_X8_fails X.l C.htr) ⟨rfl, rfl⟩ ⟨by decide, by decide⟩ (by decide) (by decide) zcl_X8_137 zw_1016 zw_25 zK8 dX8_inspect_7 ?_
  refine z_if_eq_ok (pc := 10) (tgt := 15) C.hx C.hb dX8_inspect_10 (by decide) ?_ ?_
  · refine z_aload_n_ok (pc := 15) (i := 0) C.hx C.hb dX8_inspect_15 rfl ?_
    refine z_dup_ok (pc := 16) C.hx C.hb dX8_inspect_16 ?_
    refine z_gf_ok (pc := 17) C zK8 (f := 3) (by decide) zw_860 rfl dX8_inspect_17 ?_
    refine z_iconst_ok (pc := 20) (v := 1) C.hx C.hb dX8_inspect_20 (by decide) ?_
    refine z_iadd_ok (pc := 21) C.hx C.hb dX8_inspect_21 ?_
    refine z_pf_ok (pc := 22) C zK8 rfl rfl (f := 3) (by decide) zw_860 rfl rfl (by decide +kernel) dX8_inspect_22 ?_
    refine z_iconst_ok (pc := 25) (v := 0) C.hx C.hb dX8_inspect_25 (by decide) ?_
    refine z_istore_n_ok (pc := 26) (i := 2) C.hx C.hb dX8_inspect_26 rfl (zlt hn (by decide)) ?_
    refine z_bipush_ok (pc := 27) (v := 6) C.hx C.hb dX8_inspect_27 (by decide) ?_
    refine z_iload_n_ok (pc := 29) (i := 1) C.hx C.hb dX8_inspect_29 rfl ?_
    refine z_imul_ok (pc := 30) C.hx C.hb dX8_inspect_30 ?_
    refine z_istore_n_ok (pc := 31) (i := 3) C.hx C.hb dX8_inspect_31 rfl (zlt hn (by decide)) ?_
    exact z_loop_ok (fun J32 hJ32 => zk_X8_inspect_32 C hn hJ32)
  · refine z_iconst_ok (pc := 13) (v := 0) C.hx C.hb dX8_inspect_13 (by decide) ?_
    exact z_iret_ok (pc := 14) C dX8_inspect_14
def sp_X8_inspect : ZSp := fun as S K => as.length ≤ 5 ∧ zsp 5 zb_X8_inspect_0 as S K
theorem zm_X8_inspect (l : Launch) (hl : l.stackTraces = false) : zMet l yX8_inspect cX8_inspect 5 (some .int) { frames := 2, cells := 1, slots := 6, locals := 43 } 0 0 sp_X8_inspect := zMet_of hl (by decide +kernel) ⟨rfl, rfl⟩ (fun X C hn _ => zk_X8_inspect_0 C hn)
theorem dX8_lacks_0 : decode cX8_lacks 0 = .ok (.aload_n 0, 1) := by decide +kernel
theorem dX8_lacks_1 : decode cX8_lacks 1 = .ok (.aload_n 0, 1) := by decide +kernel
theorem dX8_lacks_2 : decode cX8_lacks 2 = .ok (.iload_n 1, 1) := by decide +kernel
theorem dX8_lacks_3 : decode cX8_lacks 3 = .ok (.invokevirtual 145, 3) := by decide +kernel
theorem dX8_lacks_6 : decode cX8_lacks 6 = .ok (.ifCond .eq 14, 3) := by decide +kernel
theorem dX8_lacks_9 : decode cX8_lacks 9 = .ok (.iload_n 2, 1) := by decide +kernel
theorem dX8_lacks_10 : decode cX8_lacks 10 = .ok (.invokestatic 133, 3) := by decide +kernel
theorem dX8_lacks_13 : decode cX8_lacks 13 = .ok (.ifCond .eq 7, 3) := by decide +kernel
theorem dX8_lacks_16 : decode cX8_lacks 16 = .ok (.iconst 1, 1) := by decide +kernel
theorem dX8_lacks_17 : decode cX8_lacks 17 = .ok (.goto 4, 3) := by decide +kernel
theorem dX8_lacks_20 : decode cX8_lacks 20 = .ok (.iconst 0, 1) := by decide +kernel
theorem dX8_lacks_21 : decode cX8_lacks 21 = .ok (.iconst 1, 1) := by decide +kernel
theorem dX8_lacks_22 : decode cX8_lacks 22 = .ok (.invokevirtual 137, 3) := by decide +kernel
theorem dX8_lacks_25 : decode cX8_lacks 25 = .ok (.ifCond .eq 5, 3) := by decide +kernel
theorem dX8_lacks_28 : decode cX8_lacks 28 = .ok (.iconst 0, 1) := by decide +kernel
theorem dX8_lacks_29 : decode cX8_lacks 29 = .ok (.ireturn, 1) := by decide +kernel
theorem dX8_lacks_30 : decode cX8_lacks 30 = .ok (.aload_n 0, 1) := by decide +kernel
theorem dX8_lacks_31 : decode cX8_lacks 31 = .ok (.iload_n 3, 1) := by decide +kernel
theorem dX8_lacks_32 : decode cX8_lacks 32 = .ok (.iconst 1, 1) := by decide +kernel
theorem dX8_lacks_33 : decode cX8_lacks 33 = .ok (.ldc 176, 2) := by decide +kernel
theorem dX8_lacks_35 : decode cX8_lacks 35 = .ok (.invokestatic 120, 3) := by decide +kernel
theorem dX8_lacks_38 : decode cX8_lacks 38 = .ok (.ifCond .eq 17, 3) := by decide +kernel
theorem dX8_lacks_41 : decode cX8_lacks 41 = .ok (.iload 4, 2) := by decide +kernel
theorem dX8_lacks_43 : decode cX8_lacks 43 = .ok (.iconst 0, 1) := by decide +kernel
theorem dX8_lacks_44 : decode cX8_lacks 44 = .ok (.iconst 2, 1) := by decide +kernel
theorem dX8_lacks_45 : decode cX8_lacks 45 = .ok (.invokestatic 120, 3) := by decide +kernel
theorem dX8_lacks_48 : decode cX8_lacks 48 = .ok (.ifCond .eq 7, 3) := by decide +kernel
theorem dX8_lacks_51 : decode cX8_lacks 51 = .ok (.iconst 1, 1) := by decide +kernel
theorem dX8_lacks_52 : decode cX8_lacks 52 = .ok (.goto 4, 3) := by decide +kernel
theorem dX8_lacks_55 : decode cX8_lacks 55 = .ok (.iconst 0, 1) := by decide +kernel
theorem dX8_lacks_56 : decode cX8_lacks 56 = .ok (.iconst 2, 1) := by decide +kernel
theorem dX8_lacks_57 : decode cX8_lacks 57 = .ok (.invokevirtual 137, 3) := by decide +kernel
theorem dX8_lacks_60 : decode cX8_lacks 60 = .ok (.ifCond .eq 5, 3) := by decide +kernel
theorem dX8_lacks_63 : decode cX8_lacks 63 = .ok (.iconst 0, 1) := by decide +kernel
theorem dX8_lacks_64 : decode cX8_lacks 64 = .ok (.ireturn, 1) := by decide +kernel
theorem dX8_lacks_65 : decode cX8_lacks 65 = .ok (.iload_n 3, 1) := by decide +kernel
theorem dX8_lacks_66 : decode cX8_lacks 66 = .ok (.istore 5, 2) := by decide +kernel
theorem dX8_lacks_68 : decode cX8_lacks 68 = .ok (.iconst 0, 1) := by decide +kernel
theorem dX8_lacks_69 : decode cX8_lacks 69 = .ok (.istore 6, 2) := by decide +kernel
theorem dX8_lacks_71 : decode cX8_lacks 71 = .ok (.iconst (-1), 1) := by decide +kernel
theorem dX8_lacks_72 : decode cX8_lacks 72 = .ok (.istore 7, 2) := by decide +kernel
theorem dX8_lacks_74 : decode cX8_lacks 74 = .ok (.aload_n 0, 1) := by decide +kernel
theorem dX8_lacks_75 : decode cX8_lacks 75 = .ok (.getfield 81, 3) := by decide +kernel
theorem dX8_lacks_78 : decode cX8_lacks 78 = .ok (.iload_n 1, 1) := by decide +kernel
theorem dX8_lacks_79 : decode cX8_lacks 79 = .ok (.iaload, 1) := by decide +kernel
theorem dX8_lacks_80 : decode cX8_lacks 80 = .ok (.istore 8, 2) := by decide +kernel
theorem dX8_lacks_82 : decode cX8_lacks 82 = .ok (.iload 8, 2) := by decide +kernel
theorem dX8_lacks_84 : decode cX8_lacks 84 = .ok (.iconst (-1), 1) := by decide +kernel
theorem dX8_lacks_85 : decode cX8_lacks 85 = .ok (.if_icmp .eq 56, 3) := by decide +kernel
theorem dX8_lacks_88 : decode cX8_lacks 88 = .ok (.aload_n 0, 1) := by decide +kernel
theorem dX8_lacks_89 : decode cX8_lacks 89 = .ok (.getfield 78, 3) := by decide +kernel
theorem dX8_lacks_92 : decode cX8_lacks 92 = .ok (.bipush 6, 2) := by decide +kernel
theorem dX8_lacks_94 : decode cX8_lacks 94 = .ok (.iload 8, 2) := by decide +kernel
theorem dX8_lacks_96 : decode cX8_lacks 96 = .ok (.imul, 1) := by decide +kernel
theorem dX8_lacks_97 : decode cX8_lacks 97 = .ok (.iload_n 2, 1) := by decide +kernel
theorem dX8_lacks_98 : decode cX8_lacks 98 = .ok (.iadd, 1) := by decide +kernel
theorem dX8_lacks_99 : decode cX8_lacks 99 = .ok (.iaload, 1) := by decide +kernel
theorem dX8_lacks_100 : decode cX8_lacks 100 = .ok (.iload 5, 2) := by decide +kernel
theorem dX8_lacks_102 : decode cX8_lacks 102 = .ok (.if_icmp .ge 39, 3) := by decide +kernel
theorem dX8_lacks_105 : decode cX8_lacks 105 = .ok (.iload 5, 2) := by decide +kernel
theorem dX8_lacks_107 : decode cX8_lacks 107 = .ok (.aload_n 0, 1) := by decide +kernel
theorem dX8_lacks_108 : decode cX8_lacks 108 = .ok (.getfield 78, 3) := by decide +kernel
theorem dX8_lacks_111 : decode cX8_lacks 111 = .ok (.bipush 6, 2) := by decide +kernel
theorem dX8_lacks_113 : decode cX8_lacks 113 = .ok (.iload 8, 2) := by decide +kernel
theorem dX8_lacks_115 : decode cX8_lacks 115 = .ok (.imul, 1) := by decide +kernel
theorem dX8_lacks_116 : decode cX8_lacks 116 = .ok (.iload_n 2, 1) := by decide +kernel
theorem dX8_lacks_117 : decode cX8_lacks 117 = .ok (.iadd, 1) := by decide +kernel
theorem dX8_lacks_118 : decode cX8_lacks 118 = .ok (.iaload, 1) := by decide +kernel
theorem dX8_lacks_119 : decode cX8_lacks 119 = .ok (.isub, 1) := by decide +kernel
theorem dX8_lacks_120 : decode cX8_lacks 120 = .ok (.istore 5, 2) := by decide +kernel
theorem dX8_lacks_122 : decode cX8_lacks 122 = .ok (.iinc 6 1, 3) := by decide +kernel
theorem dX8_lacks_125 : decode cX8_lacks 125 = .ok (.iload 8, 2) := by decide +kernel
theorem dX8_lacks_127 : decode cX8_lacks 127 = .ok (.istore 7, 2) := by decide +kernel
theorem dX8_lacks_129 : decode cX8_lacks 129 = .ok (.aload_n 0, 1) := by decide +kernel
theorem dX8_lacks_130 : decode cX8_lacks 130 = .ok (.getfield 75, 3) := by decide +kernel
theorem dX8_lacks_133 : decode cX8_lacks 133 = .ok (.iload 8, 2) := by decide +kernel
theorem dX8_lacks_135 : decode cX8_lacks 135 = .ok (.iaload, 1) := by decide +kernel
theorem dX8_lacks_136 : decode cX8_lacks 136 = .ok (.istore 8, 2) := by decide +kernel
theorem dX8_lacks_138 : decode cX8_lacks 138 = .ok (.goto (-56), 3) := by decide +kernel
theorem dX8_lacks_141 : decode cX8_lacks 141 = .ok (.iload 4, 2) := by decide +kernel
theorem dX8_lacks_143 : decode cX8_lacks 143 = .ok (.ifCond .ne 8, 3) := by decide +kernel
theorem dX8_lacks_146 : decode cX8_lacks 146 = .ok (.iload 6, 2) := by decide +kernel
theorem dX8_lacks_148 : decode cX8_lacks 148 = .ok (.goto 25, 3) := by decide +kernel
theorem dX8_lacks_151 : decode cX8_lacks 151 = .ok (.iload 4, 2) := by decide +kernel
theorem dX8_lacks_153 : decode cX8_lacks 153 = .ok (.iconst 1, 1) := by decide +kernel
theorem dX8_lacks_154 : decode cX8_lacks 154 = .ok (.if_icmp .ne 17, 3) := by decide +kernel
theorem dX8_lacks_157 : decode cX8_lacks 157 = .ok (.iload 6, 2) := by decide +kernel
theorem dX8_lacks_159 : decode cX8_lacks 159 = .ok (.ifCond .ne 7, 3) := by decide +kernel
theorem dX8_lacks_162 : decode cX8_lacks 162 = .ok (.iconst 0, 1) := by decide +kernel
theorem dX8_lacks_163 : decode cX8_lacks 163 = .ok (.goto 10, 3) := by decide +kernel
theorem dX8_lacks_166 : decode cX8_lacks 166 = .ok (.iload 5, 2) := by decide +kernel
theorem dX8_lacks_168 : decode cX8_lacks 168 = .ok (.goto 5, 3) := by decide +kernel
theorem dX8_lacks_171 : decode cX8_lacks 171 = .ok (.iload 7, 2) := by decide +kernel
theorem dX8_lacks_173 : decode cX8_lacks 173 = .ok (.ireturn, 1) := by decide +kernel
def zb_X8_lacks_173 : ZP := (z_ret 1)
set_option maxRecDepth 20000 in
theorem zk_X8_lacks_173 {X : ZX} (C : zCx X cX8_lacks RX8 (some .int) 2 43 1 6) (hn : X.nL = 9) : ZOK X 173 (zb_X8_lacks_173) := by
  unfold zb_X8_lacks_173
  exact z_iret_ok (pc := 173) C dX8_lacks_173
def zb_X8_lacks_141 : ZP := (z_ild 4 (z_if (fun x => x = 0) (z_ild 6 zb_X8_lacks_173) (z_ild 4 (z_push 1 (z_cmp (fun x y => x = y) (z_ild 6 (z_if (fun x => x = 0) (z_push 0 zb_X8_lacks_173) (z_ild 5 zb_X8_lacks_173))) (z_ild 7 zb_X8_lacks_173))))))
set_option maxRecDepth 20000 in
theorem zk_X8_lacks_141 {X : ZX} (C : zCx X cX8_lacks RX8 (some .int) 2 43 1 6) (hn : X.nL = 9) : ZOK X 141 (zb_X8_lacks_141) := by
  unfold zb_X8_lacks_141
  refine z_iload_ok (pc := 141) (i := 4) C.hx C.hb dX8_lacks_141 ?_
  refine z_if_ne_ok (pc := 143) (tgt := 151) C.hx C.hb dX8_lacks_143 (by decide) ?_ ?_
  · refine z_iload_ok (pc := 151) (i := 4) C.hx C.hb dX8_lacks_151 ?_
    refine z_iconst_ok (pc := 153) (v := 1) C.hx C.hb dX8_lacks_153 (by decide) ?_
    refine z_icmp_ne_ok (pc := 154) (tgt := 171) C.hx C.hb dX8_lacks_154 (by decide) ?_ ?_
    · refine z_iload_ok (pc := 171) (i := 7) C.hx C.hb dX8_lacks_171 ?_
      exact zk_X8_lacks_173 C hn 
    · refine z_iload_ok (pc := 157) (i := 6) C.hx C.hb dX8_lacks_157 ?_
      refine z_if_ne_ok (pc := 159) (tgt := 166) C.hx C.hb dX8_lacks_159 (by decide) ?_ ?_
      · refine z_iload_ok (pc := 166) (i := 5) C.hx C.hb dX8_lacks_166 ?_
        refine z_goto_ok (pc := 168) (tgt := 173) C.hx C.hb dX8_lacks_168 (by decide) ?_
        exact zk_X8_lacks_173 C hn 
      · refine z_iconst_ok (pc := 162) (v := 0) C.hx C.hb dX8_lacks_162 (by decide) ?_
        refine z_goto_ok (pc := 163) (tgt := 173) C.hx C.hb dX8_lacks_163 (by decide) ?_
        exact zk_X8_lacks_173 C hn 
  · refine z_iload_ok (pc := 146) (i := 6) C.hx C.hb dX8_lacks_146 ?_
    refine z_goto_ok (pc := 148) (tgt := 173) C.hx C.hb dX8_lacks_148 (by decide) ?_
    exact zk_X8_lacks_173 C hn 
def zb_X8_lacks_82 (J82 : ZP) : ZP := (z_ild 8 (z_push (-1) (z_cmp (fun x y => x = y) zb_X8_lacks_141 (z_ald 0 (z_gf 8 27 (z_push 6 (z_ild 8 (z_bin (fun x y => x * y) (z_ild 2 (z_bin (fun x y => x + y) (z_iald (z_ild 5 (z_cmp (fun x y => y ≤ x) zb_X8_lacks_141 (z_ild 5 (z_ald 0 (z_gf 8 27 (z_push 6 (z_ild 8 (z_bin (fun x y => x * y) (z_ild 2 (z_bin (fun x y => x + y) (z_iald (z_bin (fun x y => x - y) (z_ist 5 (z_inc 6 (1) (z_ild 8 (z_ist 7 (z_ald 0 (z_gf 8 26 (z_ild 8 (z_iald (z_ist 8 J82))))))))))))))))))))))))))))))))
set_option maxRecDepth 20000 in
theorem zk_X8_lacks_82 {X : ZX} (C : zCx X cX8_lacks RX8 (some .int) 2 43 1 6) (hn : X.nL = 9) {J82 : ZP} (hJ82 : ZOK X 82 J82) : ZOK X 82 (zb_X8_lacks_82 J82) := by
  unfold zb_X8_lacks_82
  refine z_iload_ok (pc := 82) (i := 8) C.hx C.hb dX8_lacks_82 ?_
  refine z_iconst_ok (pc := 84) (v := -1) C.hx C.hb dX8_lacks_84 (by decide) ?_
  refine z_icmp_eq_ok (pc := 85) (tgt := 141) C.hx C.hb dX8_lacks_85 (by decide) ?_ ?_
  · exact zk_X8_lacks_141 C hn 
  · refine z_aload_n_ok (pc := 88) (i := 0) C.hx C.hb dX8_lacks_88 rfl ?_
    refine z_gf_ok (pc := 89) C zK8 (f := 27) (by decide) zw_884 rfl dX8_lacks_89 ?_
    refine z_bipush_ok (pc := 92) (v := 6) C.hx C.hb dX8_lacks_92 (by decide) ?_
    refine z_iload_ok (pc := 94) (i := 8) C.hx C.hb dX8_lacks_94 ?_
    refine z_imul_ok (pc := 96) C.hx C.hb dX8_lacks_96 ?_
    refine z_iload_n_ok (pc := 97) (i := 2) C.hx C.hb dX8_lacks_97 rfl ?_
    refine z_iadd_ok (pc := 98) C.hx C.hb dX8_lacks_98 ?_
    refine z_iald_ok (pc := 99) C dX8_lacks_99 ?_
    refine z_iload_ok (pc := 100) (i := 5) C.hx C.hb dX8_lacks_100 ?_
    refine z_icmp_ge_ok (pc := 102) (tgt := 141) C.hx C.hb dX8_lacks_102 (by decide) ?_ ?_
    · exact zk_X8_lacks_141 C hn 
    · refine z_iload_ok (pc := 105) (i := 5) C.hx C.hb dX8_lacks_105 ?_
      refine z_aload_n_ok (pc := 107) (i := 0) C.hx C.hb dX8_lacks_107 rfl ?_
      refine z_gf_ok (pc := 108) C zK8 (f := 27) (by decide) zw_884 rfl dX8_lacks_108 ?_
      refine z_bipush_ok (pc := 111) (v := 6) C.hx C.hb dX8_lacks_111 (by decide) ?_
      refine z_iload_ok (pc := 113) (i := 8) C.hx C.hb dX8_lacks_113 ?_
      refine z_imul_ok (pc := 115) C.hx C.hb dX8_lacks_115 ?_
      refine z_iload_n_ok (pc := 116) (i := 2) C.hx C.hb dX8_lacks_116 rfl ?_
      refine z_iadd_ok (pc := 117) C.hx C.hb dX8_lacks_117 ?_
      refine z_iald_ok (pc := 118) C dX8_lacks_118 ?_
      refine z_isub_ok (pc := 119) C.hx C.hb dX8_lacks_119 ?_
      refine z_istore_ok (pc := 120) (i := 5) C.hx C.hb dX8_lacks_120 (zlt hn (by decide)) ?_
      refine z_iinc_ok (pc := 122) (i := 6) (v := 1) C.hx C.hb dX8_lacks_122 (by decide) (zlt hn (by decide)) ?_
      refine z_iload_ok (pc := 125) (i := 8) C.hx C.hb dX8_lacks_125 ?_
      refine z_istore_ok (pc := 127) (i := 7) C.hx C.hb dX8_lacks_127 (zlt hn (by decide)) ?_
      refine z_aload_n_ok (pc := 129) (i := 0) C.hx C.hb dX8_lacks_129 rfl ?_
      refine z_gf_ok (pc := 130) C zK8 (f := 26) (by decide) zw_883 rfl dX8_lacks_130 ?_
      refine z_iload_ok (pc := 133) (i := 8) C.hx C.hb dX8_lacks_133 ?_
      refine z_iald_ok (pc := 135) C dX8_lacks_135 ?_
      refine z_istore_ok (pc := 136) (i := 8) C.hx C.hb dX8_lacks_136 (zlt hn (by decide)) ?_
      refine z_goto_ok (pc := 138) (tgt := 82) C.hx C.hb dX8_lacks_138 (by decide) ?_
      exact hJ82
def zb_X8_lacks_56 : ZP := (z_push 2 (z_invV 8 2 sp_X8_fails (z_if (fun x => x = 0) (z_ild 3 (z_ist 5 (z_push 0 (z_ist 6 (z_push (-1) (z_ist 7 (z_ald 0 (z_gf 8 29 (z_ild 1 (z_iald (z_ist 8 (z_loop (fun J82 => zb_X8_lacks_82 J82))))))))))))) (z_push 0 (z_ret 1)))))
set_option maxRecDepth 20000 in
theorem zk_X8_lacks_56 {X : ZX} (C : zCx X cX8_lacks RX8 (some .int) 2 43 1 6) (hn : X.nL = 9) : ZOK X 56 (zb_X8_lacks_56) := by
  unfold zb_X8_lacks_56
  refine z_iconst_ok (pc := 56) (v := 2) C.hx C.hb dX8_lacks_56 (by decide) ?_
  refine z_invV_ok (pc := 57) C (by decide +kernel) (zm_X8_fails X.l C.htr) ⟨rfl, rfl⟩ ⟨by decide, by decide⟩ (by decide) (by decide) zcl_X8_137 zw_1016 zw_25 zK8 dX8_lacks_57 ?_
  refine z_if_eq_ok (pc := 60) (tgt := 65) C.hx C.hb dX8_lacks_60 (by decide) ?_ ?_
  · refine z_iload_n_ok (pc := 65) (i := 3) C.hx C.hb dX8_lacks_65 rfl ?_
    refine z_istore_ok (pc := 66) (i := 5) C.hx C.hb dX8_lacks_66 (zlt hn (by decide)) ?_
    refine z_iconst_ok (pc := 68) (v := 0) C.hx C.hb dX8_lacks_68 (by decide) ?_
    refine z_istore_ok (pc := 69) (i := 6) C.hx C.hb dX8_lacks_69 (zlt hn (by decide)) ?_
    refine z_iconst_ok (pc := 71) (v := -1) C.hx C.hb dX8_lacks_71 (by decide) ?_
    refine z_istore_ok (pc := 72) (i := 7) C.hx C.hb dX8_lacks_72 (zlt hn (by decide)) ?_
    refine z_aload_n_ok (pc := 74) (i := 0) C.hx C.hb dX8_lacks_74 rfl ?_
    refine z_gf_ok (pc := 75) C zK8 (f := 29) (by decide) zw_886 rfl dX8_lacks_75 ?_
    refine z_iload_n_ok (pc := 78) (i := 1) C.hx C.hb dX8_lacks_78 rfl ?_
    refine z_iald_ok (pc := 79) C dX8_lacks_79 ?_
    refine z_istore_ok (pc := 80) (i := 8) C.hx C.hb dX8_lacks_80 (zlt hn (by decide)) ?_
    exact z_loop_ok (fun J82 hJ82 => zk_X8_lacks_82 C hn hJ82)
  · refine z_iconst_ok (pc := 63) (v := 0) C.hx C.hb dX8_lacks_63 (by decide) ?_
    exact z_iret_ok (pc := 64) C dX8_lacks_64
def zb_X8_lacks_55 : ZP := (z_push 0 zb_X8_lacks_56)
set_option maxRecDepth 20000 in
theorem zk_X8_lacks_55 {X : ZX} (C : zCx X cX8_lacks RX8 (some .int) 2 43 1 6) (hn : X.nL = 9) : ZOK X 55 (zb_X8_lacks_55) := by
  unfold zb_X8_lacks_55
  refine z_iconst_ok (pc := 55) (v := 0) C.hx C.hb dX8_lacks_55 (by decide) ?_
  exact zk_X8_lacks_56 C hn 
def zb_X8_lacks_21 : ZP := (z_push 1 (z_invV 8 2 sp_X8_fails (z_if (fun x => x = 0) (z_ald 0 (z_ild 3 (z_push 1 (z_push 99999 (z_invS 3 sp_X8_in (z_if (fun x => x = 0) zb_X8_lacks_55 (z_ild 4 (z_push 0 (z_push 2 (z_invS 3 sp_X8_in (z_if (fun x => x = 0) zb_X8_lacks_55 (z_push 1 zb_X8_lacks_56)))))))))))) (z_push 0 (z_ret 1)))))
set_option maxRecDepth 20000 in
theorem zk_X8_lacks_21 {X : ZX} (C : zCx X cX8_lacks RX8 (some .int) 2 43 1 6) (hn : X.nL = 9) : ZOK X 21 (zb_X8_lacks_21) := by
  unfold zb_X8_lacks_21
  refine z_iconst_ok (pc := 21) (v := 1) C.hx C.hb dX8_lacks_21 (by decide) ?_
  refine z_invV_ok (pc := 22) C (by decide +kernel) (zm_X8_fails X.l C.htr) ⟨rfl, rfl⟩ ⟨by decide, by decide⟩ (by decide) (by decide) zcl_X8_137 zw_1016 zw_25 zK8 dX8_lacks_22 ?_
  refine z_if_eq_ok (pc := 25) (tgt := 30) C.hx C.hb dX8_lacks_25 (by decide) ?_ ?_
  · refine z_aload_n_ok (pc := 30) (i := 0) C.hx C.hb dX8_lacks_30 rfl ?_
    refine z_iload_n_ok (pc := 31) (i := 3) C.hx C.hb dX8_lacks_31 rfl ?_
    refine z_iconst_ok (pc := 32) (v := 1) C.hx C.hb dX8_lacks_32 (by decide) ?_
    refine z_ldc_ok (pc := 33) C zw_1121 dX8_lacks_33 ?_
    refine z_invS_ok (pc := 35) C (by decide +kernel) (zm_X8_in X.l C.htr) ⟨rfl, rfl⟩ ⟨by decide, by decide⟩ (by decide) (by decide) zcl_X8_120 zw_1012 dX8_lacks_35 ?_
    refine z_if_eq_ok (pc := 38) (tgt := 55) C.hx C.hb dX8_lacks_38 (by decide) ?_ ?_
    · exact zk_X8_lacks_55 C hn 
    · refine z_iload_ok (pc := 41) (i := 4) C.hx C.hb dX8_lacks_41 ?_
      refine z_iconst_ok (pc := 43) (v := 0) C.hx C.hb dX8_lacks_43 (by decide) ?_
      refine z_iconst_ok (pc := 44) (v := 2) C.hx C.hb dX8_lacks_44 (by decide) ?_
      refine z_invS_ok (pc := 45) C (by decide +kernel) (zm_X8_in X.l C.htr) ⟨rfl, rfl⟩ ⟨by decide, by decide⟩ (by decide) (by decide) zcl_X8_120 zw_1012 dX8_lacks_45 ?_
      refine z_if_eq_ok (pc := 48) (tgt := 55) C.hx C.hb dX8_lacks_48 (by decide) ?_ ?_
      · exact zk_X8_lacks_55 C hn 
      · refine z_iconst_ok (pc := 51) (v := 1) C.hx C.hb dX8_lacks_51 (by decide) ?_
        refine z_goto_ok (pc := 52) (tgt := 56) C.hx C.hb dX8_lacks_52 (by decide) ?_
        exact zk_X8_lacks_56 C hn 
  · refine z_iconst_ok (pc := 28) (v := 0) C.hx C.hb dX8_lacks_28 (by decide) ?_
    exact z_iret_ok (pc := 29) C dX8_lacks_29
def zb_X8_lacks_20 : ZP := (z_push 0 zb_X8_lacks_21)
set_option maxRecDepth 20000 in
theorem zk_X8_lacks_20 {X : ZX} (C : zCx X cX8_lacks RX8 (some .int) 2 43 1 6) (hn : X.nL = 9) : ZOK X 20 (zb_X8_lacks_20) := by
  unfold zb_X8_lacks_20
  refine z_iconst_ok (pc := 20) (v := 0) C.hx C.hb dX8_lacks_20 (by decide) ?_
  exact zk_X8_lacks_21 C hn 
def zb_X8_lacks_0 : ZP := (z_ald 0 (z_ald 0 (z_ild 1 (z_invV 8 1 sp_X8_isShop (z_if (fun x => x = 0) zb_X8_lacks_20 (z_ild 2 (z_invS 1 sp_X8_isGood (z_if (fun x => x = 0) zb_X8_lacks_20 (z_push 1 zb_X8_lacks_21)))))))))
set_option maxRecDepth 20000 in
theorem zk_X8_lacks_0 {X : ZX} (C : zCx X cX8_lacks RX8 (some .int) 2 43 1 6) (hn : X.nL = 9) : ZOK X 0 (zb_X8_lacks_0) := by
  unfold zb_X8_lacks_0
  refine z_aload_n_ok (pc := 0) (i := 0) C.hx C.hb dX8_lacks_0 rfl ?_
  refine z_aload_n_ok (pc := 1) (i := 0) C.hx C.hb dX8_lacks_1 rfl ?_
  refine z_iload_n_ok (pc := 2) (i := 1) C.hx C.hb dX8_lacks_2 rfl ?_
  refine z_invV_ok (pc := 3) C (by decide +kernel) (zm_X8_isShop X.l C.htr) ⟨rfl, rfl⟩ ⟨by decide, by decide⟩ (by decide) (by decide) zcl_X8_145 zw_1048 zw_27 zK8 dX8_lacks_3 ?_
  refine z_if_eq_ok (pc := 6) (tgt := 20) C.hx C.hb dX8_lacks_6 (by decide) ?_ ?_
  · exact zk_X8_lacks_20 C hn 
  · refine z_iload_n_ok (pc := 9) (i := 2) C.hx C.hb dX8_lacks_9 rfl ?_
    refine z_invS_ok (pc := 10) C (by decide +kernel) (zm_X8_isGood X.l C.htr) ⟨rfl, rfl⟩ ⟨by decide, by decide⟩ (by decide) (by decide) zcl_X8_133 zw_1009 dX8_lacks_10 ?_
    refine z_if_eq_ok (pc := 13) (tgt := 20) C.hx C.hb dX8_lacks_13 (by decide) ?_ ?_
    · exact zk_X8_lacks_20 C hn 
    · refine z_iconst_ok (pc := 16) (v := 1) C.hx C.hb dX8_lacks_16 (by decide) ?_
      refine z_goto_ok (pc := 17) (tgt := 21) C.hx C.hb dX8_lacks_17 (by decide) ?_
      exact zk_X8_lacks_21 C hn 
def sp_X8_lacks : ZSp := fun as S K => as.length ≤ 9 ∧ zsp 9 zb_X8_lacks_0 as S K
theorem zm_X8_lacks (l : Launch) (hl : l.stackTraces = false) : zMet l yX8_lacks cX8_lacks 9 (some .int) { frames := 2, cells := 1, slots := 6, locals := 43 } 0 0 sp_X8_lacks := zMet_of hl (by decide +kernel) ⟨rfl, rfl⟩ (fun X C hn _ => zk_X8_lacks_0 C hn)
theorem dX8_left_0 : decode cX8_left 0 = .ok (.aload_n 0, 1) := by decide +kernel
theorem dX8_left_1 : decode cX8_left 1 = .ok (.aload_n 0, 1) := by decide +kernel
theorem dX8_left_2 : decode cX8_left 2 = .ok (.iload_n 1, 1) := by decide +kernel
theorem dX8_left_3 : decode cX8_left 3 = .ok (.invokevirtual 148, 3) := by decide +kernel
theorem dX8_left_6 : decode cX8_left 6 = .ok (.ifCond .eq 14, 3) := by decide +kernel
theorem dX8_left_9 : decode cX8_left 9 = .ok (.iload_n 2, 1) := by decide +kernel
theorem dX8_left_10 : decode cX8_left 10 = .ok (.invokestatic 133, 3) := by decide +kernel
theorem dX8_left_13 : decode cX8_left 13 = .ok (.ifCond .eq 7, 3) := by decide +kernel
theorem dX8_left_16 : decode cX8_left 16 = .ok (.iconst 1, 1) := by decide +kernel
theorem dX8_left_17 : decode cX8_left 17 = .ok (.goto 4, 3) := by decide +kernel
theorem dX8_left_20 : decode cX8_left 20 = .ok (.iconst 0, 1) := by decide +kernel
theorem dX8_left_21 : decode cX8_left 21 = .ok (.iconst 1, 1) := by decide +kernel
theorem dX8_left_22 : decode cX8_left 22 = .ok (.invokevirtual 137, 3) := by decide +kernel
theorem dX8_left_25 : decode cX8_left 25 = .ok (.ifCond .eq 5, 3) := by decide +kernel
theorem dX8_left_28 : decode cX8_left 28 = .ok (.iconst 0, 1) := by decide +kernel
theorem dX8_left_29 : decode cX8_left 29 = .ok (.ireturn, 1) := by decide +kernel
theorem dX8_left_30 : decode cX8_left 30 = .ok (.aload_n 0, 1) := by decide +kernel
theorem dX8_left_31 : decode cX8_left 31 = .ok (.iload_n 1, 1) := by decide +kernel
theorem dX8_left_32 : decode cX8_left 32 = .ok (.iload_n 2, 1) := by decide +kernel
theorem dX8_left_33 : decode cX8_left 33 = .ok (.invokevirtual 167, 3) := by decide +kernel
theorem dX8_left_36 : decode cX8_left 36 = .ok (.ireturn, 1) := by decide +kernel
def zb_X8_left_21 : ZP := (z_push 1 (z_invV 8 2 sp_X8_fails (z_if (fun x => x = 0) (z_ald 0 (z_ild 1 (z_ild 2 (z_invV 8 2 sp_X8_leftOf (z_ret 1))))) (z_push 0 (z_ret 1)))))
set_option maxRecDepth 20000 in
theorem zk_X8_left_21 {X : ZX} (C : zCx X cX8_left RX8 (some .int) 3 65 1 6) (hn : X.nL = 3) : ZOK X 21 (zb_X8_left_21) := by
  unfold zb_X8_left_21
  refine z_iconst_ok (pc := 21) (v := 1) C.hx C.hb dX8_left_21 (by decide) ?_
  refine z_invV_ok (pc := 22) C (by decide +kernel) (zm_X8_fails X.l C.htr) ⟨rfl, rfl⟩ ⟨by decide, by decide⟩ (by decide) (by decide) zcl_X8_137 zw_1016 zw_25 zK8 dX8_left_22 ?_
  refine z_if_eq_ok (pc := 25) (tgt := 30) C.hx C.hb dX8_left_25 (by decide) ?_ ?_
  · refine z_aload_n_ok (pc := 30) (i := 0) C.hx C.hb dX8_left_30 rfl ?_
    refine z_iload_n_ok (pc := 31) (i := 1) C.hx C.hb dX8_left_31 rfl ?_
    refine z_iload_n_ok (pc := 32) (i := 2) C.hx C.hb dX8_left_32 rfl ?_
    refine z_invV_ok (pc := 33) C (by decide +kernel) (zm_X8_leftOf X.l C.htr) ⟨rfl, rfl⟩ ⟨by decide, by decide⟩ (by decide) (by decide) zcl_X8_167 zw_1092 zw_32 zK8 dX8_left_33 ?_
    exact z_iret_ok (pc := 36) C dX8_left_36
  · refine z_iconst_ok (pc := 28) (v := 0) C.hx C.hb dX8_left_28 (by decide) ?_
    exact z_iret_ok (pc := 29) C dX8_left_29
def zb_X8_left_20 : ZP := (z_push 0 zb_X8_left_21)
set_option maxRecDepth 20000 in
theorem zk_X8_left_20 {X : ZX} (C : zCx X cX8_left RX8 (some .int) 3 65 1 6) (hn : X.nL = 3) : ZOK X 20 (zb_X8_left_20) := by
  unfold zb_X8_left_20
  refine z_iconst_ok (pc := 20) (v := 0) C.hx C.hb dX8_left_20 (by decide) ?_
  exact zk_X8_left_21 C hn 
def zb_X8_left_0 : ZP := (z_ald 0 (z_ald 0 (z_ild 1 (z_invV 8 1 sp_X8_isOne (z_if (fun x => x = 0) zb_X8_left_20 (z_ild 2 (z_invS 1 sp_X8_isGood (z_if (fun x => x = 0) zb_X8_left_20 (z_push 1 zb_X8_left_21)))))))))
set_option maxRecDepth 20000 in
theorem zk_X8_left_0 {X : ZX} (C : zCx X cX8_left RX8 (some .int) 3 65 1 6) (hn : X.nL = 3) : ZOK X 0 (zb_X8_left_0) := by
  unfold zb_X8_left_0
  refine z_aload_n_ok (pc := 0) (i := 0) C.hx C.hb dX8_left_0 rfl ?_
  refine z_aload_n_ok (pc := 1) (i := 0) C.hx C.hb dX8_left_1 rfl ?_
  refine z_iload_n_ok (pc := 2) (i := 1) C.hx C.hb dX8_left_2 rfl ?_
  refine z_invV_ok (pc := 3) C (by decide +kernel) (zm_X8_isOne X.l C.htr) ⟨rfl, rfl⟩ ⟨by decide, by decide⟩ (by decide) (by decide) zcl_X8_148 zw_1056 zw_28 zK8 dX8_left_3 ?_
  refine z_if_eq_ok (pc := 6) (tgt := 20) C.hx C.hb dX8_left_6 (by decide) ?_ ?_
  · exact zk_X8_left_20 C hn 
  · refine z_iload_n_ok (pc := 9) (i := 2) C.hx C.hb dX8_left_9 rfl ?_
    refine z_invS_ok (pc := 10) C (by decide +kernel) (zm_X8_isGood X.l C.htr) ⟨rfl, rfl⟩ ⟨by decide, by decide⟩ (by decide) (by decide) zcl_X8_133 zw_1009 dX8_left_10 ?_
    refine z_if_eq_ok (pc := 13) (tgt := 20) C.hx C.hb dX8_left_13 (by decide) ?_ ?_
    · exact zk_X8_left_20 C hn 
    · refine z_iconst_ok (pc := 16) (v := 1) C.hx C.hb dX8_left_16 (by decide) ?_
      refine z_goto_ok (pc := 17) (tgt := 21) C.hx C.hb dX8_left_17 (by decide) ?_
      exact zk_X8_left_21 C hn 
def sp_X8_left : ZSp := fun as S K => as.length ≤ 3 ∧ zsp 3 zb_X8_left_0 as S K
theorem zm_X8_left (l : Launch) (hl : l.stackTraces = false) : zMet l yX8_left cX8_left 3 (some .int) { frames := 3, cells := 1, slots := 6, locals := 65 } 0 0 sp_X8_left := zMet_of hl (by decide +kernel) ⟨rfl, rfl⟩ (fun X C hn _ => zk_X8_left_0 C hn)
theorem dX8_leftAnew_0 : decode cX8_leftAnew 0 = .ok (.aload_n 0, 1) := by decide +kernel
theorem dX8_leftAnew_1 : decode cX8_leftAnew 1 = .ok (.aload_n 0, 1) := by decide +kernel
theorem dX8_leftAnew_2 : decode cX8_leftAnew 2 = .ok (.iload_n 1, 1) := by decide +kernel
theorem dX8_leftAnew_3 : decode cX8_leftAnew 3 = .ok (.invokevirtual 148, 3) := by decide +kernel
theorem dX8_leftAnew_6 : decode cX8_leftAnew 6 = .ok (.ifCond .eq 14, 3) := by decide +kernel
theorem dX8_leftAnew_9 : decode cX8_leftAnew 9 = .ok (.iload_n 2, 1) := by decide +kernel
theorem dX8_leftAnew_10 : decode cX8_leftAnew 10 = .ok (.invokestatic 133, 3) := by decide +kernel
theorem dX8_leftAnew_13 : decode cX8_leftAnew 13 = .ok (.ifCond .eq 7, 3) := by decide +kernel
theorem dX8_leftAnew_16 : decode cX8_leftAnew 16 = .ok (.iconst 1, 1) := by decide +kernel
theorem dX8_leftAnew_17 : decode cX8_leftAnew 17 = .ok (.goto 4, 3) := by decide +kernel
theorem dX8_leftAnew_20 : decode cX8_leftAnew 20 = .ok (.iconst 0, 1) := by decide +kernel
theorem dX8_leftAnew_21 : decode cX8_leftAnew 21 = .ok (.iconst 1, 1) := by decide +kernel
theorem dX8_leftAnew_22 : decode cX8_leftAnew 22 = .ok (.invokevirtual 137, 3) := by decide +kernel
theorem dX8_leftAnew_25 : decode cX8_leftAnew 25 = .ok (.ifCond .eq 5, 3) := by decide +kernel
theorem dX8_leftAnew_28 : decode cX8_leftAnew 28 = .ok (.iconst 0, 1) := by decide +kernel
theorem dX8_leftAnew_29 : decode cX8_leftAnew 29 = .ok (.ireturn, 1) := by decide +kernel
theorem dX8_leftAnew_30 : decode cX8_leftAnew 30 = .ok (.aload_n 0, 1) := by decide +kernel
theorem dX8_leftAnew_31 : decode cX8_leftAnew 31 = .ok (.iload_n 1, 1) := by decide +kernel
theorem dX8_leftAnew_32 : decode cX8_leftAnew 32 = .ok (.invokevirtual 154, 3) := by decide +kernel
theorem dX8_leftAnew_35 : decode cX8_leftAnew 35 = .ok (.ifCond .eq 21, 3) := by decide +kernel
theorem dX8_leftAnew_38 : decode cX8_leftAnew 38 = .ok (.aload_n 0, 1) := by decide +kernel
theorem dX8_leftAnew_39 : decode cX8_leftAnew 39 = .ok (.getfield 16, 3) := by decide +kernel
theorem dX8_leftAnew_42 : decode cX8_leftAnew 42 = .ok (.iload_n 2, 1) := by decide +kernel
theorem dX8_leftAnew_43 : decode cX8_leftAnew 43 = .ok (.iaload, 1) := by decide +kernel
theorem dX8_leftAnew_44 : decode cX8_leftAnew 44 = .ok (.ifCond .ne 12, 3) := by decide +kernel
theorem dX8_leftAnew_47 : decode cX8_leftAnew 47 = .ok (.aload_n 0, 1) := by decide +kernel
theorem dX8_leftAnew_48 : decode cX8_leftAnew 48 = .ok (.iload_n 1, 1) := by decide +kernel
theorem dX8_leftAnew_49 : decode cX8_leftAnew 49 = .ok (.iload_n 2, 1) := by decide +kernel
theorem dX8_leftAnew_50 : decode cX8_leftAnew 50 = .ok (.invokevirtual 160, 3) := by decide +kernel
theorem dX8_leftAnew_53 : decode cX8_leftAnew 53 = .ok (.goto 4, 3) := by decide +kernel
theorem dX8_leftAnew_56 : decode cX8_leftAnew 56 = .ok (.iconst 0, 1) := by decide +kernel
theorem dX8_leftAnew_57 : decode cX8_leftAnew 57 = .ok (.istore_n 3, 1) := by decide +kernel
theorem dX8_leftAnew_58 : decode cX8_leftAnew 58 = .ok (.iconst 0, 1) := by decide +kernel
theorem dX8_leftAnew_59 : decode cX8_leftAnew 59 = .ok (.istore 4, 2) := by decide +kernel
theorem dX8_leftAnew_61 : decode cX8_leftAnew 61 = .ok (.iload 4, 2) := by decide +kernel
theorem dX8_leftAnew_63 : decode cX8_leftAnew 63 = .ok (.aload_n 0, 1) := by decide +kernel
theorem dX8_leftAnew_64 : decode cX8_leftAnew 64 = .ok (.getfield 170, 3) := by decide +kernel
theorem dX8_leftAnew_67 : decode cX8_leftAnew 67 = .ok (.if_icmp .ge 45, 3) := by decide +kernel
theorem dX8_leftAnew_70 : decode cX8_leftAnew 70 = .ok (.iload_n 3, 1) := by decide +kernel
theorem dX8_leftAnew_71 : decode cX8_leftAnew 71 = .ok (.aload_n 0, 1) := by decide +kernel
theorem dX8_leftAnew_72 : decode cX8_leftAnew 72 = .ok (.getfield 66, 3) := by decide +kernel
theorem dX8_leftAnew_75 : decode cX8_leftAnew 75 = .ok (.iload 4, 2) := by decide +kernel
theorem dX8_leftAnew_77 : decode cX8_leftAnew 77 = .ok (.iaload, 1) := by decide +kernel
theorem dX8_leftAnew_78 : decode cX8_leftAnew 78 = .ok (.iload_n 1, 1) := by decide +kernel
theorem dX8_leftAnew_79 : decode cX8_leftAnew 79 = .ok (.if_icmp .ne 24, 3) := by decide +kernel
theorem dX8_leftAnew_82 : decode cX8_leftAnew 82 = .ok (.aload_n 0, 1) := by decide +kernel
theorem dX8_leftAnew_83 : decode cX8_leftAnew 83 = .ok (.getfield 69, 3) := by decide +kernel
theorem dX8_leftAnew_86 : decode cX8_leftAnew 86 = .ok (.iload 4, 2) := by decide +kernel
theorem dX8_leftAnew_88 : decode cX8_leftAnew 88 = .ok (.iaload, 1) := by decide +kernel
theorem dX8_leftAnew_89 : decode cX8_leftAnew 89 = .ok (.iload_n 2, 1) := by decide +kernel
theorem dX8_leftAnew_90 : decode cX8_leftAnew 90 = .ok (.if_icmp .ne 13, 3) := by decide +kernel
theorem dX8_leftAnew_93 : decode cX8_leftAnew 93 = .ok (.aload_n 0, 1) := by decide +kernel
theorem dX8_leftAnew_94 : decode cX8_leftAnew 94 = .ok (.getfield 72, 3) := by decide +kernel
theorem dX8_leftAnew_97 : decode cX8_leftAnew 97 = .ok (.iload 4, 2) := by decide +kernel
theorem dX8_leftAnew_99 : decode cX8_leftAnew 99 = .ok (.iaload, 1) := by decide +kernel
theorem dX8_leftAnew_100 : decode cX8_leftAnew 100 = .ok (.goto 4, 3) := by decide +kernel
theorem dX8_leftAnew_103 : decode cX8_leftAnew 103 = .ok (.iconst 0, 1) := by decide +kernel
theorem dX8_leftAnew_104 : decode cX8_leftAnew 104 = .ok (.isub, 1) := by decide +kernel
theorem dX8_leftAnew_105 : decode cX8_leftAnew 105 = .ok (.istore_n 3, 1) := by decide +kernel
theorem dX8_leftAnew_106 : decode cX8_leftAnew 106 = .ok (.iinc 4 1, 3) := by decide +kernel
theorem dX8_leftAnew_109 : decode cX8_leftAnew 109 = .ok (.goto (-48), 3) := by decide +kernel
theorem dX8_leftAnew_112 : decode cX8_leftAnew 112 = .ok (.iload_n 3, 1) := by decide +kernel
theorem dX8_leftAnew_113 : decode cX8_leftAnew 113 = .ok (.ifCond .ge 7, 3) := by decide +kernel
theorem dX8_leftAnew_116 : decode cX8_leftAnew 116 = .ok (.iconst 0, 1) := by decide +kernel
theorem dX8_leftAnew_117 : decode cX8_leftAnew 117 = .ok (.goto 4, 3) := by decide +kernel
theorem dX8_leftAnew_120 : decode cX8_leftAnew 120 = .ok (.iload_n 3, 1) := by decide +kernel
theorem dX8_leftAnew_121 : decode cX8_leftAnew 121 = .ok (.ireturn, 1) := by decide +kernel
def zb_X8_leftAnew_121 : ZP := (z_ret 1)
set_option maxRecDepth 20000 in
theorem zk_X8_leftAnew_121 {X : ZX} (C : zCx X cX8_leftAnew RX8 (some .int) 2 43 1 6) (hn : X.nL = 5) : ZOK X 121 (zb_X8_leftAnew_121) := by
  unfold zb_X8_leftAnew_121
  exact z_iret_ok (pc := 121) C dX8_leftAnew_121
def zb_X8_leftAnew_104 (J61 : ZP) : ZP := (z_bin (fun x y => x - y) (z_ist 3 (z_inc 4 (1) J61)))
set_option maxRecDepth 20000 in
theorem zk_X8_leftAnew_104 {X : ZX} (C : zCx X cX8_leftAnew RX8 (some .int) 2 43 1 6) (hn : X.nL = 5) {J61 : ZP} (hJ61 : ZOK X 61 J61) : ZOK X 104 (zb_X8_leftAnew_104 J61) := by
  unfold zb_X8_leftAnew_104
  refine z_isub_ok (pc := 104) C.hx C.hb dX8_leftAnew_104 ?_
  refine z_istore_n_ok (pc := 105) (i := 3) C.hx C.hb dX8_leftAnew_105 rfl (zlt hn (by decide)) ?_
  refine z_iinc_ok (pc := 106) (i := 4) (v := 1) C.hx C.hb dX8_leftAnew_106 (by decide) (zlt hn (by decide)) ?_
  refine z_goto_ok (pc := 109) (tgt := 61) C.hx C.hb dX8_leftAnew_109 (by decide) ?_
  exact hJ61
def zb_X8_leftAnew_103 (J61 : ZP) : ZP := (z_push 0 (zb_X8_leftAnew_104 J61))
set_option maxRecDepth 20000 in
theorem zk_X8_leftAnew_103 {X : ZX} (C : zCx X cX8_leftAnew RX8 (some .int) 2 43 1 6) (hn : X.nL = 5) {J61 : ZP} (hJ61 : ZOK X 61 J61) : ZOK X 103 (zb_X8_leftAnew_103 J61) := by
  unfold zb_X8_leftAnew_103
  refine z_iconst_ok (pc := 103) (v := 0) C.hx C.hb dX8_leftAnew_103 (by decide) ?_
  exact zk_X8_leftAnew_104 C hn hJ61
def zb_X8_leftAnew_61 (J61 : ZP) : ZP := (z_ild 4 (z_ald 0 (z_gf 8 21 (z_cmp (fun x y => y ≤ x) (z_ild 3 (z_if (fun x => 0 ≤ x) (z_ild 3 zb_X8_leftAnew_121) (z_push 0 zb_X8_leftAnew_121))) (z_ild 3 (z_ald 0 (z_gf 8 22 (z_ild 4 (z_iald (z_ild 1 (z_cmp (fun x y => x = y) (z_ald 0 (z_gf 8 23 (z_ild 4 (z_iald (z_ild 2 (z_cmp (fun x y => x = y) (z_ald 0 (z_gf 8 24 (z_ild 4 (z_iald (zb_X8_leftAnew_104 J61))))) (zb_X8_leftAnew_103 J61))))))) (zb_X8_leftAnew_103 J61))))))))))))
set_option maxRecDepth 20000 in
theorem zk_X8_leftAnew_61 {X : ZX} (C : zCx X cX8_leftAnew RX8 (some .int) 2 43 1 6) (hn : X.nL = 5) {J61 : ZP} (hJ61 : ZOK X 61 J61) : ZOK X 61 (zb_X8_leftAnew_61 J61) := by
  unfold zb_X8_leftAnew_61
  refine z_iload_ok (pc := 61) (i := 4) C.hx C.hb dX8_leftAnew_61 ?_
  refine z_aload_n_ok (pc := 63) (i := 0) C.hx C.hb dX8_leftAnew_63 rfl ?_
  refine z_gf_ok (pc := 64) C zK8 (f := 21) (by decide) zw_878 rfl dX8_leftAnew_64 ?_
  refine z_icmp_ge_ok (pc := 67) (tgt := 112) C.hx C.hb dX8_leftAnew_67 (by decide) ?_ ?_
  · refine z_iload_n_ok (pc := 112) (i := 3) C.hx C.hb dX8_leftAnew_112 rfl ?_
    refine z_if_ge_ok (pc := 113) (tgt := 120) C.hx C.hb dX8_leftAnew_113 (by decide) ?_ ?_
    · refine z_iload_n_ok (pc := 120) (i := 3) C.hx C.hb dX8_leftAnew_120 rfl ?_
      exact zk_X8_leftAnew_121 C hn 
    · refine z_iconst_ok (pc := 116) (v := 0) C.hx C.hb dX8_leftAnew_116 (by decide) ?_
      refine z_goto_ok (pc := 117) (tgt := 121) C.hx C.hb dX8_leftAnew_117 (by decide) ?_
      exact zk_X8_leftAnew_121 C hn 
  · refine z_iload_n_ok (pc := 70) (i := 3) C.hx C.hb dX8_leftAnew_70 rfl ?_
    refine z_aload_n_ok (pc := 71) (i := 0) C.hx C.hb dX8_leftAnew_71 rfl ?_
    refine z_gf_ok (pc := 72) C zK8 (f := 22) (by decide) zw_879 rfl dX8_leftAnew_72 ?_
    refine z_iload_ok (pc := 75) (i := 4) C.hx C.hb dX8_leftAnew_75 ?_
    refine z_iald_ok (pc := 77) C dX8_leftAnew_77 ?_
    refine z_iload_n_ok (pc := 78) (i := 1) C.hx C.hb dX8_leftAnew_78 rfl ?_
    refine z_icmp_ne_ok (pc := 79) (tgt := 103) C.hx C.hb dX8_leftAnew_79 (by decide) ?_ ?_
    · exact zk_X8_leftAnew_103 C hn hJ61
    · refine z_aload_n_ok (pc := 82) (i := 0) C.hx C.hb dX8_leftAnew_82 rfl ?_
      refine z_gf_ok (pc := 83) C zK8 (f := 23) (by decide) zw_880 rfl dX8_leftAnew_83 ?_
      refine z_iload_ok (pc := 86) (i := 4) C.hx C.hb dX8_leftAnew_86 ?_
      refine z_iald_ok (pc := 88) C dX8_leftAnew_88 ?_
      refine z_iload_n_ok (pc := 89) (i := 2) C.hx C.hb dX8_leftAnew_89 rfl ?_
      refine z_icmp_ne_ok (pc := 90) (tgt := 103) C.hx C.hb dX8_leftAnew_90 (by decide) ?_ ?_
      · exact zk_X8_leftAnew_103 C hn hJ61
      · refine z_aload_n_ok (pc := 93) (i := 0) C.hx C.hb dX8_leftAnew_93 rfl ?_
        refine z_gf_ok (pc := 94) C zK8 (f := 24) (by decide) zw_881 rfl dX8_leftAnew_94 ?_
        refine z_iload_ok (pc := 97) (i := 4) C.hx C.hb dX8_leftAnew_97 ?_
        refine z_iald_ok (pc := 99) C dX8_leftAnew_99 ?_
        refine z_goto_ok (pc := 100) (tgt := 104) C.hx C.hb dX8_leftAnew_100 (by decide) ?_
        exact zk_X8_leftAnew_104 C hn hJ61
def zb_X8_leftAnew_57 : ZP := (z_ist 3 (z_push 0 (z_ist 4 (z_loop (fun J61 => zb_X8_leftAnew_61 J61)))))
set_option maxRecDepth 20000 in
theorem zk_X8_leftAnew_57 {X : ZX} (C : zCx X cX8_leftAnew RX8 (some .int) 2 43 1 6) (hn : X.nL = 5) : ZOK X 57 (zb_X8_leftAnew_57) := by
  unfold zb_X8_leftAnew_57
  refine z_istore_n_ok (pc := 57) (i := 3) C.hx C.hb dX8_leftAnew_57 rfl (zlt hn (by decide)) ?_
  refine z_iconst_ok (pc := 58) (v := 0) C.hx C.hb dX8_leftAnew_58 (by decide) ?_
  refine z_istore_ok (pc := 59) (i := 4) C.hx C.hb dX8_leftAnew_59 (zlt hn (by decide)) ?_
  exact z_loop_ok (fun J61 hJ61 => zk_X8_leftAnew_61 C hn hJ61)
def zb_X8_leftAnew_56 : ZP := (z_push 0 zb_X8_leftAnew_57)
set_option maxRecDepth 20000 in
theorem zk_X8_leftAnew_56 {X : ZX} (C : zCx X cX8_leftAnew RX8 (some .int) 2 43 1 6) (hn : X.nL = 5) : ZOK X 56 (zb_X8_leftAnew_56) := by
  unfold zb_X8_leftAnew_56
  refine z_iconst_ok (pc := 56) (v := 0) C.hx C.hb dX8_leftAnew_56 (by decide) ?_
  exact zk_X8_leftAnew_57 C hn 
def zb_X8_leftAnew_21 : ZP := (z_push 1 (z_invV 8 2 sp_X8_fails (z_if (fun x => x = 0) (z_ald 0 (z_ild 1 (z_invV 8 1 sp_X8_hasBook (z_if (fun x => x = 0) zb_X8_leftAnew_56 (z_ald 0 (z_gf 8 4 (z_ild 2 (z_iald (z_if (fun x => x = 0) (z_ald 0 (z_ild 1 (z_ild 2 (z_invV 8 2 sp_X8_share zb_X8_leftAnew_57)))) zb_X8_leftAnew_56))))))))) (z_push 0 (z_ret 1)))))
set_option maxRecDepth 20000 in
theorem zk_X8_leftAnew_21 {X : ZX} (C : zCx X cX8_leftAnew RX8 (some .int) 2 43 1 6) (hn : X.nL = 5) : ZOK X 21 (zb_X8_leftAnew_21) := by
  unfold zb_X8_leftAnew_21
  refine z_iconst_ok (pc := 21) (v := 1) C.hx C.hb dX8_leftAnew_21 (by decide) ?_
  refine z_invV_ok (pc := 22) C (by decide +kernel) (zm_X8_fails X.l C.htr) ⟨rfl, rfl⟩ ⟨by decide, by decide⟩ (by decide) (by decide) zcl_X8_137 zw_1016 zw_25 zK8 dX8_leftAnew_22 ?_
  refine z_if_eq_ok (pc := 25) (tgt := 30) C.hx C.hb dX8_leftAnew_25 (by decide) ?_ ?_
  · refine z_aload_n_ok (pc := 30) (i := 0) C.hx C.hb dX8_leftAnew_30 rfl ?_
    refine z_iload_n_ok (pc := 31) (i := 1) C.hx C.hb dX8_leftAnew_31 rfl ?_
    refine z_invV_ok (pc := 32) C (by decide +kernel) (zm_X8_hasBook X.l C.htr) ⟨rfl, rfl⟩ ⟨by decide, by decide⟩ (by decide) (by decide) zcl_X8_154 zw_1072 zw_30 zK8 dX8_leftAnew_32 ?_
    refine z_if_eq_ok (pc := 35) (tgt := 56) C.hx C.hb dX8_leftAnew_35 (by decide) ?_ ?_
    · exact zk_X8_leftAnew_56 C hn 
    · refine z_aload_n_ok (pc := 38) (i := 0) C.hx C.hb dX8_leftAnew_38 rfl ?_
      refine z_gf_ok (pc := 39) C zK8 (f := 4) (by decide) zw_861 rfl dX8_leftAnew_39 ?_
      refine z_iload_n_ok (pc := 42) (i := 2) C.hx C.hb dX8_leftAnew_42 rfl ?_
      refine z_iald_ok (pc := 43) C dX8_leftAnew_43 ?_
      refine z_if_ne_ok (pc := 44) (tgt := 56) C.hx C.hb dX8_leftAnew_44 (by decide) ?_ ?_
      · exact zk_X8_leftAnew_56 C hn 
      · refine z_aload_n_ok (pc := 47) (i := 0) C.hx C.hb dX8_leftAnew_47 rfl ?_
        refine z_iload_n_ok (pc := 48) (i := 1) C.hx C.hb dX8_leftAnew_48 rfl ?_
        refine z_iload_n_ok (pc := 49) (i := 2) C.hx C.hb dX8_leftAnew_49 rfl ?_
        refine z_invV_ok (pc := 50) C (by decide +kernel) (zm_X8_share X.l C.htr) ⟨rfl, rfl⟩ ⟨by decide, by decide⟩ (by decide) (by decide) zcl_X8_160 zw_1096 zw_33 zK8 dX8_leftAnew_50 ?_
        refine z_goto_ok (pc := 53) (tgt := 57) C.hx C.hb dX8_leftAnew_53 (by decide) ?_
        exact zk_X8_leftAnew_57 C hn 
  · refine z_iconst_ok (pc := 28) (v := 0) C.hx C.hb dX8_leftAnew_28 (by decide) ?_
    exact z_iret_ok (pc := 29) C dX8_leftAnew_29
def zb_X8_leftAnew_20 : ZP := (z_push 0 zb_X8_leftAnew_21)
set_option maxRecDepth 20000 in
theorem zk_X8_leftAnew_20 {X : ZX} (C : zCx X cX8_leftAnew RX8 (some .int) 2 43 1 6) (hn : X.nL = 5) : ZOK X 20 (zb_X8_leftAnew_20) := by
  unfold zb_X8_leftAnew_20
  refine z_iconst_ok (pc := 20) (v := 0) C.hx C.hb dX8_leftAnew_20 (by decide) ?_
  exact zk_X8_leftAnew_21 C hn 
def zb_X8_leftAnew_0 : ZP := (z_ald 0 (z_ald 0 (z_ild 1 (z_invV 8 1 sp_X8_isOne (z_if (fun x => x = 0) zb_X8_leftAnew_20 (z_ild 2 (z_invS 1 sp_X8_isGood (z_if (fun x => x = 0) zb_X8_leftAnew_20 (z_push 1 zb_X8_leftAnew_21)))))))))
set_option maxRecDepth 20000 in
theorem zk_X8_leftAnew_0 {X : ZX} (C : zCx X cX8_leftAnew RX8 (some .int) 2 43 1 6) (hn : X.nL = 5) : ZOK X 0 (zb_X8_leftAnew_0) := by
  unfold zb_X8_leftAnew_0
  refine z_aload_n_ok (pc := 0) (i := 0) C.hx C.hb dX8_leftAnew_0 rfl ?_
  refine z_aload_n_ok (pc := 1) (i := 0) C.hx C.hb dX8_leftAnew_1 rfl ?_
  refine z_iload_n_ok (pc := 2) (i := 1) C.hx C.hb dX8_leftAnew_2 rfl ?_
  refine z_invV_ok (pc := 3) C (by decide +kernel) (zm_X8_isOne X.l C.htr) ⟨rfl, rfl⟩ ⟨by decide, by decide⟩ (by decide) (by decide) zcl_X8_148 zw_1056 zw_28 zK8 dX8_leftAnew_3 ?_
  refine z_if_eq_ok (pc := 6) (tgt := 20) C.hx C.hb dX8_leftAnew_6 (by decide) ?_ ?_
  · exact zk_X8_leftAnew_20 C hn 
  · refine z_iload_n_ok (pc := 9) (i := 2) C.hx C.hb dX8_leftAnew_9 rfl ?_
    refine z_invS_ok (pc := 10) C (by decide +kernel) (zm_X8_isGood X.l C.htr) ⟨rfl, rfl⟩ ⟨by decide, by decide⟩ (by decide) (by decide) zcl_X8_133 zw_1009 dX8_leftAnew_10 ?_
    refine z_if_eq_ok (pc := 13) (tgt := 20) C.hx C.hb dX8_leftAnew_13 (by decide) ?_ ?_
    · exact zk_X8_leftAnew_20 C hn 
    · refine z_iconst_ok (pc := 16) (v := 1) C.hx C.hb dX8_leftAnew_16 (by decide) ?_
      refine z_goto_ok (pc := 17) (tgt := 21) C.hx C.hb dX8_leftAnew_17 (by decide) ?_
      exact zk_X8_leftAnew_21 C hn 
def sp_X8_leftAnew : ZSp := fun as S K => as.length ≤ 5 ∧ zsp 5 zb_X8_leftAnew_0 as S K
theorem zm_X8_leftAnew (l : Launch) (hl : l.stackTraces = false) : zMet l yX8_leftAnew cX8_leftAnew 5 (some .int) { frames := 2, cells := 1, slots := 6, locals := 43 } 0 0 sp_X8_leftAnew := zMet_of hl (by decide +kernel) ⟨rfl, rfl⟩ (fun X C hn _ => zk_X8_leftAnew_0 C hn)
theorem dX8_lose_0 : decode cX8_lose 0 = .ok (.aload_n 0, 1) := by decide +kernel
theorem dX8_lose_1 : decode cX8_lose 1 = .ok (.aload_n 0, 1) := by decide +kernel
theorem dX8_lose_2 : decode cX8_lose 2 = .ok (.iload_n 1, 1) := by decide +kernel
theorem dX8_lose_3 : decode cX8_lose 3 = .ok (.invokevirtual 173, 3) := by decide +kernel
theorem dX8_lose_6 : decode cX8_lose 6 = .ok (.ifCond .eq 14, 3) := by decide +kernel
theorem dX8_lose_9 : decode cX8_lose 9 = .ok (.iload_n 2, 1) := by decide +kernel
theorem dX8_lose_10 : decode cX8_lose 10 = .ok (.invokestatic 133, 3) := by decide +kernel
theorem dX8_lose_13 : decode cX8_lose 13 = .ok (.ifCond .eq 7, 3) := by decide +kernel
theorem dX8_lose_16 : decode cX8_lose 16 = .ok (.iconst 1, 1) := by decide +kernel
theorem dX8_lose_17 : decode cX8_lose 17 = .ok (.goto 4, 3) := by decide +kernel
theorem dX8_lose_20 : decode cX8_lose 20 = .ok (.iconst 0, 1) := by decide +kernel
theorem dX8_lose_21 : decode cX8_lose 21 = .ok (.iconst 1, 1) := by decide +kernel
theorem dX8_lose_22 : decode cX8_lose 22 = .ok (.invokevirtual 137, 3) := by decide +kernel
theorem dX8_lose_25 : decode cX8_lose 25 = .ok (.ifCond .eq 5, 3) := by decide +kernel
theorem dX8_lose_28 : decode cX8_lose 28 = .ok (.iconst 0, 1) := by decide +kernel
theorem dX8_lose_29 : decode cX8_lose 29 = .ok (.ireturn, 1) := by decide +kernel
theorem dX8_lose_30 : decode cX8_lose 30 = .ok (.aload_n 0, 1) := by decide +kernel
theorem dX8_lose_31 : decode cX8_lose 31 = .ok (.iload_n 3, 1) := by decide +kernel
theorem dX8_lose_32 : decode cX8_lose 32 = .ok (.iconst 1, 1) := by decide +kernel
theorem dX8_lose_33 : decode cX8_lose 33 = .ok (.ldc 176, 2) := by decide +kernel
theorem dX8_lose_35 : decode cX8_lose 35 = .ok (.invokestatic 120, 3) := by decide +kernel
theorem dX8_lose_38 : decode cX8_lose 38 = .ok (.iconst 2, 1) := by decide +kernel
theorem dX8_lose_39 : decode cX8_lose 39 = .ok (.invokevirtual 137, 3) := by decide +kernel
theorem dX8_lose_42 : decode cX8_lose 42 = .ok (.ifCond .eq 5, 3) := by decide +kernel
theorem dX8_lose_45 : decode cX8_lose 45 = .ok (.iconst 0, 1) := by decide +kernel
theorem dX8_lose_46 : decode cX8_lose 46 = .ok (.ireturn, 1) := by decide +kernel
theorem dX8_lose_47 : decode cX8_lose 47 = .ok (.aload_n 0, 1) := by decide +kernel
theorem dX8_lose_48 : decode cX8_lose 48 = .ok (.aload_n 0, 1) := by decide +kernel
theorem dX8_lose_49 : decode cX8_lose 49 = .ok (.getfield 78, 3) := by decide +kernel
theorem dX8_lose_52 : decode cX8_lose 52 = .ok (.bipush 6, 2) := by decide +kernel
theorem dX8_lose_54 : decode cX8_lose 54 = .ok (.iload_n 1, 1) := by decide +kernel
theorem dX8_lose_55 : decode cX8_lose 55 = .ok (.imul, 1) := by decide +kernel
theorem dX8_lose_56 : decode cX8_lose 56 = .ok (.iload_n 2, 1) := by decide +kernel
theorem dX8_lose_57 : decode cX8_lose 57 = .ok (.iadd, 1) := by decide +kernel
theorem dX8_lose_58 : decode cX8_lose 58 = .ok (.iaload, 1) := by decide +kernel
theorem dX8_lose_59 : decode cX8_lose 59 = .ok (.iload_n 3, 1) := by decide +kernel
theorem dX8_lose_60 : decode cX8_lose 60 = .ok (.if_icmp .lt 7, 3) := by decide +kernel
theorem dX8_lose_63 : decode cX8_lose 63 = .ok (.iconst 1, 1) := by decide +kernel
theorem dX8_lose_64 : decode cX8_lose 64 = .ok (.goto 4, 3) := by decide +kernel
theorem dX8_lose_67 : decode cX8_lose 67 = .ok (.iconst 0, 1) := by decide +kernel
theorem dX8_lose_68 : decode cX8_lose 68 = .ok (.iconst 3, 1) := by decide +kernel
theorem dX8_lose_69 : decode cX8_lose 69 = .ok (.invokevirtual 137, 3) := by decide +kernel
theorem dX8_lose_72 : decode cX8_lose 72 = .ok (.ifCond .eq 5, 3) := by decide +kernel
theorem dX8_lose_75 : decode cX8_lose 75 = .ok (.iconst 0, 1) := by decide +kernel
theorem dX8_lose_76 : decode cX8_lose 76 = .ok (.ireturn, 1) := by decide +kernel
theorem dX8_lose_77 : decode cX8_lose 77 = .ok (.aload_n 0, 1) := by decide +kernel
theorem dX8_lose_78 : decode cX8_lose 78 = .ok (.dup, 1) := by decide +kernel
theorem dX8_lose_79 : decode cX8_lose 79 = .ok (.getfield 180, 3) := by decide +kernel
theorem dX8_lose_82 : decode cX8_lose 82 = .ok (.iload_n 3, 1) := by decide +kernel
theorem dX8_lose_83 : decode cX8_lose 83 = .ok (.iadd, 1) := by decide +kernel
theorem dX8_lose_84 : decode cX8_lose 84 = .ok (.putfield 180, 3) := by decide +kernel
theorem dX8_lose_87 : decode cX8_lose 87 = .ok (.aload_n 0, 1) := by decide +kernel
theorem dX8_lose_88 : decode cX8_lose 88 = .ok (.getfield 78, 3) := by decide +kernel
theorem dX8_lose_91 : decode cX8_lose 91 = .ok (.bipush 6, 2) := by decide +kernel
theorem dX8_lose_93 : decode cX8_lose 93 = .ok (.iload_n 1, 1) := by decide +kernel
theorem dX8_lose_94 : decode cX8_lose 94 = .ok (.imul, 1) := by decide +kernel
theorem dX8_lose_95 : decode cX8_lose 95 = .ok (.iload_n 2, 1) := by decide +kernel
theorem dX8_lose_96 : decode cX8_lose 96 = .ok (.iadd, 1) := by decide +kernel
theorem dX8_lose_97 : decode cX8_lose 97 = .ok (.dup2, 1) := by decide +kernel
theorem dX8_lose_98 : decode cX8_lose 98 = .ok (.iaload, 1) := by decide +kernel
theorem dX8_lose_99 : decode cX8_lose 99 = .ok (.iload_n 3, 1) := by decide +kernel
theorem dX8_lose_100 : decode cX8_lose 100 = .ok (.isub, 1) := by decide +kernel
theorem dX8_lose_101 : decode cX8_lose 101 = .ok (.iastore, 1) := by decide +kernel
theorem dX8_lose_102 : decode cX8_lose 102 = .ok (.aload_n 0, 1) := by decide +kernel
theorem dX8_lose_103 : decode cX8_lose 103 = .ok (.getfield 78, 3) := by decide +kernel
theorem dX8_lose_106 : decode cX8_lose 106 = .ok (.bipush 6, 2) := by decide +kernel
theorem dX8_lose_108 : decode cX8_lose 108 = .ok (.iload_n 1, 1) := by decide +kernel
theorem dX8_lose_109 : decode cX8_lose 109 = .ok (.imul, 1) := by decide +kernel
theorem dX8_lose_110 : decode cX8_lose 110 = .ok (.iload_n 2, 1) := by decide +kernel
theorem dX8_lose_111 : decode cX8_lose 111 = .ok (.iadd, 1) := by decide +kernel
theorem dX8_lose_112 : decode cX8_lose 112 = .ok (.iaload, 1) := by decide +kernel
theorem dX8_lose_113 : decode cX8_lose 113 = .ok (.ireturn, 1) := by decide +kernel
def zb_X8_lose_68 : ZP := (z_push 3 (z_invV 8 2 sp_X8_fails (z_if (fun x => x = 0) (z_ald 0 (z_dup (z_gf 8 43 (z_ild 3 (z_bin (fun x y => x + y) (z_pf 8 43 (z_ald 0 (z_gf 8 27 (z_push 6 (z_ild 1 (z_bin (fun x y => x * y) (z_ild 2 (z_bin (fun x y => x + y) (z_dup2 (z_iald (z_ild 3 (z_bin (fun x y => x - y) (z_iast (z_ald 0 (z_gf 8 27 (z_push 6 (z_ild 1 (z_bin (fun x y => x * y) (z_ild 2 (z_bin (fun x y => x + y) (z_iald (z_ret 1))))))))))))))))))))))))))) (z_push 0 (z_ret 1)))))
set_option maxRecDepth 20000 in
theorem zk_X8_lose_68 {X : ZX} (C : zCx X cX8_lose RX8 (some .int) 2 43 1 6) (hn : X.nL = 4) : ZOK X 68 (zb_X8_lose_68) := by
  unfold zb_X8_lose_68
  refine z_iconst_ok (pc := 68) (v := 3) C.hx C.hb dX8_lose_68 (by decide) ?_
  refine z_invV_ok (pc := 69) C (by decide +kernel) (zm_X8_fails X.l C.htr) ⟨rfl, rfl⟩ ⟨by decide, by decide⟩ (by decide) (by decide) zcl_X8_137 zw_1016 zw_25 zK8 dX8_lose_69 ?_
  refine z_if_eq_ok (pc := 72) (tgt := 77) C.hx C.hb dX8_lose_72 (by decide) ?_ ?_
  · refine z_aload_n_ok (pc := 77) (i := 0) C.hx C.hb dX8_lose_77 rfl ?_
    refine z_dup_ok (pc := 78) C.hx C.hb dX8_lose_78 ?_
    refine z_gf_ok (pc := 79) C zK8 (f := 43) (by decide) zw_900 rfl dX8_lose_79 ?_
    refine z_iload_n_ok (pc := 82) (i := 3) C.hx C.hb dX8_lose_82 rfl ?_
    refine z_iadd_ok (pc := 83) C.hx C.hb dX8_lose_83 ?_
    refine z_pf_ok (pc := 84) C zK8 rfl rfl (f := 43) (by decide) zw_900 rfl rfl (by decide +kernel) dX8_lose_84 ?_
    refine z_aload_n_ok (pc := 87) (i := 0) C.hx C.hb dX8_lose_87 rfl ?_
    refine z_gf_ok (pc := 88) C zK8 (f := 27) (by decide) zw_884 rfl dX8_lose_88 ?_
    refine z_bipush_ok (pc := 91) (v := 6) C.hx C.hb dX8_lose_91 (by decide) ?_
    refine z_iload_n_ok (pc := 93) (i := 1) C.hx C.hb dX8_lose_93 rfl ?_
    refine z_imul_ok (pc := 94) C.hx C.hb dX8_lose_94 ?_
    refine z_iload_n_ok (pc := 95) (i := 2) C.hx C.hb dX8_lose_95 rfl ?_
    refine z_iadd_ok (pc := 96) C.hx C.hb dX8_lose_96 ?_
    refine z_dup2_ok (pc := 97) C.hx C.hb dX8_lose_97 ?_
    refine z_iald_ok (pc := 98) C dX8_lose_98 ?_
    refine z_iload_n_ok (pc := 99) (i := 3) C.hx C.hb dX8_lose_99 rfl ?_
    refine z_isub_ok (pc := 100) C.hx C.hb dX8_lose_100 ?_
    refine z_iast_ok (pc := 101) C dX8_lose_101 ?_
    refine z_aload_n_ok (pc := 102) (i := 0) C.hx C.hb dX8_lose_102 rfl ?_
    refine z_gf_ok (pc := 103) C zK8 (f := 27) (by decide) zw_884 rfl dX8_lose_103 ?_
    refine z_bipush_ok (pc := 106) (v := 6) C.hx C.hb dX8_lose_106 (by decide) ?_
    refine z_iload_n_ok (pc := 108) (i := 1) C.hx C.hb dX8_lose_108 rfl ?_
    refine z_imul_ok (pc := 109) C.hx C.hb dX8_lose_109 ?_
    refine z_iload_n_ok (pc := 110) (i := 2) C.hx C.hb dX8_lose_110 rfl ?_
    refine z_iadd_ok (pc := 111) C.hx C.hb dX8_lose_111 ?_
    refine z_iald_ok (pc := 112) C dX8_lose_112 ?_
    exact z_iret_ok (pc := 113) C dX8_lose_113
  · refine z_iconst_ok (pc := 75) (v := 0) C.hx C.hb dX8_lose_75 (by decide) ?_
    exact z_iret_ok (pc := 76) C dX8_lose_76
def zb_X8_lose_21 : ZP := (z_push 1 (z_invV 8 2 sp_X8_fails (z_if (fun x => x = 0) (z_ald 0 (z_ild 3 (z_push 1 (z_push 99999 (z_invS 3 sp_X8_in (z_push 2 (z_invV 8 2 sp_X8_fails (z_if (fun x => x = 0) (z_ald 0 (z_ald 0 (z_gf 8 27 (z_push 6 (z_ild 1 (z_bin (fun x y => x * y) (z_ild 2 (z_bin (fun x y => x + y) (z_iald (z_ild 3 (z_cmp (fun x y => x < y) (z_push 0 zb_X8_lose_68) (z_push 1 zb_X8_lose_68)))))))))))) (z_push 0 (z_ret 1)))))))))) (z_push 0 (z_ret 1)))))
set_option maxRecDepth 20000 in
theorem zk_X8_lose_21 {X : ZX} (C : zCx X cX8_lose RX8 (some .int) 2 43 1 6) (hn : X.nL = 4) : ZOK X 21 (zb_X8_lose_21) := by
  unfold zb_X8_lose_21
  refine z_iconst_ok (pc := 21) (v := 1) C.hx C.hb dX8_lose_21 (by decide) ?_
  refine z_invV_ok (pc := 22) C (by decide +kernel) (zm_X8_fails X.l C.htr) ⟨rfl, rfl⟩ ⟨by decide, by decide⟩ (by decide) (by decide) zcl_X8_137 zw_1016 zw_25 zK8 dX8_lose_22 ?_
  refine z_if_eq_ok (pc := 25) (tgt := 30) C.hx C.hb dX8_lose_25 (by decide) ?_ ?_
  · refine z_aload_n_ok (pc := 30) (i := 0) C.hx C.hb dX8_lose_30 rfl ?_
    refine z_iload_n_ok (pc := 31) (i := 3) C.hx C.hb dX8_lose_31 rfl ?_
    refine z_iconst_ok (pc := 32) (v := 1) C.hx C.hb dX8_lose_32 (by decide) ?_
    refine z_ldc_ok (pc := 33) C zw_1121 dX8_lose_33 ?_
    refine z_invS_ok (pc := 35) C (by decide +kernel) (zm_X8_in X.l C.htr) ⟨rfl, rfl⟩ ⟨by decide, by decide⟩ (by decide) (by decide) zcl_X8_120 zw_1012 dX8_lose_35 ?_
    refine z_iconst_ok (pc := 38) (v := 2) C.hx C.hb dX8_lose_38 (by decide) ?_
    refine z_invV_ok (pc := 39) C (by decide +kernel) (zm_X8_fails X.l C.htr) ⟨rfl, rfl⟩ ⟨by decide, by decide⟩ (by decide) (by decide) zcl_X8_137 zw_1016 zw_25 zK8 dX8_lose_39 ?_
    refine z_if_eq_ok (pc := 42) (tgt := 47) C.hx C.hb dX8_lose_42 (by decide) ?_ ?_
    · refine z_aload_n_ok (pc := 47) (i := 0) C.hx C.hb dX8_lose_47 rfl ?_
      refine z_aload_n_ok (pc := 48) (i := 0) C.hx C.hb dX8_lose_48 rfl ?_
      refine z_gf_ok (pc := 49) C zK8 (f := 27) (by decide) zw_884 rfl dX8_lose_49 ?_
      refine z_bipush_ok (pc := 52) (v := 6) C.hx C.hb dX8_lose_52 (by decide) ?_
      refine z_iload_n_ok (pc := 54) (i := 1) C.hx C.hb dX8_lose_54 rfl ?_
      refine z_imul_ok (pc := 55) C.hx C.hb dX8_lose_55 ?_
      refine z_iload_n_ok (pc := 56) (i := 2) C.hx C.hb dX8_lose_56 rfl ?_
      refine z_iadd_ok (pc := 57) C.hx C.hb dX8_lose_57 ?_
      refine z_iald_ok (pc := 58) C dX8_lose_58 ?_
      refine z_iload_n_ok (pc := 59) (i := 3) C.hx C.hb dX8_lose_59 rfl ?_
      refine z_icmp_lt_ok (pc := 60) (tgt := 67) C.hx C.hb dX8_lose_60 (by decide) ?_ ?_
      · refine z_iconst_ok (pc := 67) (v := 0) C.hx C.hb dX8_lose_67 (by decide) ?_
        exact zk_X8_lose_68 C hn 
      · refine z_iconst_ok (pc := 63) (v := 1) C.hx C.hb dX8_lose_63 (by decide) ?_
        refine z_goto_ok (pc := 64) (tgt := 68) C.hx C.hb dX8_lose_64 (by decide) ?_
        exact zk_X8_lose_68 C hn 
    · refine z_iconst_ok (pc := 45) (v := 0) C.hx C.hb dX8_lose_45 (by decide) ?_
      exact z_iret_ok (pc := 46) C dX8_lose_46
  · refine z_iconst_ok (pc := 28) (v := 0) C.hx C.hb dX8_lose_28 (by decide) ?_
    exact z_iret_ok (pc := 29) C dX8_lose_29
def zb_X8_lose_20 : ZP := (z_push 0 zb_X8_lose_21)
set_option maxRecDepth 20000 in
theorem zk_X8_lose_20 {X : ZX} (C : zCx X cX8_lose RX8 (some .int) 2 43 1 6) (hn : X.nL = 4) : ZOK X 20 (zb_X8_lose_20) := by
  unfold zb_X8_lose_20
  refine z_iconst_ok (pc := 20) (v := 0) C.hx C.hb dX8_lose_20 (by decide) ?_
  exact zk_X8_lose_21 C hn 
def zb_X8_lose_0 : ZP := (z_ald 0 (z_ald 0 (z_ild 1 (z_invV 8 1 sp_X8_isDepot (z_if (fun x => x = 0) zb_X8_lose_20 (z_ild 2 (z_invS 1 sp_X8_isGood (z_if (fun x => x = 0) zb_X8_lose_20 (z_push 1 zb_X8_lose_21)))))))))
set_option maxRecDepth 20000 in
theorem zk_X8_lose_0 {X : ZX} (C : zCx X cX8_lose RX8 (some .int) 2 43 1 6) (hn : X.nL = 4) : ZOK X 0 (zb_X8_lose_0) := by
  unfold zb_X8_lose_0
  refine z_aload_n_ok (pc := 0) (i := 0) C.hx C.hb dX8_lose_0 rfl ?_
  refine z_aload_n_ok (pc := 1) (i := 0) C.hx C.hb dX8_lose_1 rfl ?_
  refine z_iload_n_ok (pc := 2) (i := 1) C.hx C.hb dX8_lose_2 rfl ?_
  refine z_invV_ok (pc := 3) C (by decide +kernel) (zm_X8_isDepot X.l C.htr) ⟨rfl, rfl⟩ ⟨by decide, by decide⟩ (by decide) (by decide) zcl_X8_173 zw_1111 zw_34 zK8 dX8_lose_3 ?_
  refine z_if_eq_ok (pc := 6) (tgt := 20) C.hx C.hb dX8_lose_6 (by decide) ?_ ?_
  · exact zk_X8_lose_20 C hn 
  · refine z_iload_n_ok (pc := 9) (i := 2) C.hx C.hb dX8_lose_9 rfl ?_
    refine z_invS_ok (pc := 10) C (by decide +kernel) (zm_X8_isGood X.l C.htr) ⟨rfl, rfl⟩ ⟨by decide, by decide⟩ (by decide) (by decide) zcl_X8_133 zw_1009 dX8_lose_10 ?_
    refine z_if_eq_ok (pc := 13) (tgt := 20) C.hx C.hb dX8_lose_13 (by decide) ?_ ?_
    · exact zk_X8_lose_20 C hn 
    · refine z_iconst_ok (pc := 16) (v := 1) C.hx C.hb dX8_lose_16 (by decide) ?_
      refine z_goto_ok (pc := 17) (tgt := 21) C.hx C.hb dX8_lose_17 (by decide) ?_
      exact zk_X8_lose_21 C hn 
def sp_X8_lose : ZSp := fun as S K => as.length ≤ 4 ∧ zsp 4 zb_X8_lose_0 as S K
theorem zm_X8_lose (l : Launch) (hl : l.stackTraces = false) : zMet l yX8_lose cX8_lose 4 (some .int) { frames := 2, cells := 1, slots := 6, locals := 43 } 0 0 sp_X8_lose := zMet_of hl (by decide +kernel) ⟨rfl, rfl⟩ (fun X C hn _ => zk_X8_lose_0 C hn)
theorem dX8_reprice_0 : decode cX8_reprice 0 = .ok (.aload_n 0, 1) := by decide +kernel
theorem dX8_reprice_1 : decode cX8_reprice 1 = .ok (.getfield 29, 3) := by decide +kernel
theorem dX8_reprice_4 : decode cX8_reprice 4 = .ok (.iload_n 1, 1) := by decide +kernel
theorem dX8_reprice_5 : decode cX8_reprice 5 = .ok (.iaload, 1) := by decide +kernel
theorem dX8_reprice_6 : decode cX8_reprice 6 = .ok (.aload_n 0, 1) := by decide +kernel
theorem dX8_reprice_7 : decode cX8_reprice 7 = .ok (.iload_n 1, 1) := by decide +kernel
theorem dX8_reprice_8 : decode cX8_reprice 8 = .ok (.invokevirtual 141, 3) := by decide +kernel
theorem dX8_reprice_11 : decode cX8_reprice 11 = .ok (.iadd, 1) := by decide +kernel
theorem dX8_reprice_12 : decode cX8_reprice 12 = .ok (.istore_n 2, 1) := by decide +kernel
theorem dX8_reprice_13 : decode cX8_reprice 13 = .ok (.aload_n 0, 1) := by decide +kernel
theorem dX8_reprice_14 : decode cX8_reprice 14 = .ok (.getfield 16, 3) := by decide +kernel
theorem dX8_reprice_17 : decode cX8_reprice 17 = .ok (.iload_n 1, 1) := by decide +kernel
theorem dX8_reprice_18 : decode cX8_reprice 18 = .ok (.iaload, 1) := by decide +kernel
theorem dX8_reprice_19 : decode cX8_reprice 19 = .ok (.iconst 1, 1) := by decide +kernel
theorem dX8_reprice_20 : decode cX8_reprice 20 = .ok (.if_icmp .ne 7, 3) := by decide +kernel
theorem dX8_reprice_23 : decode cX8_reprice 23 = .ok (.iload_n 2, 1) := by decide +kernel
theorem dX8_reprice_24 : decode cX8_reprice 24 = .ok (.ifCond .ne 4, 3) := by decide +kernel
theorem dX8_reprice_27 : decode cX8_reprice 27 = .ok (.return_, 1) := by decide +kernel
theorem dX8_reprice_28 : decode cX8_reprice 28 = .ok (.ldc2_w 212, 3) := by decide +kernel
theorem dX8_reprice_31 : decode cX8_reprice 31 = .ok (.aload_n 0, 1) := by decide +kernel
theorem dX8_reprice_32 : decode cX8_reprice 32 = .ok (.getfield 29, 3) := by decide +kernel
theorem dX8_reprice_35 : decode cX8_reprice 35 = .ok (.iload_n 1, 1) := by decide +kernel
theorem dX8_reprice_36 : decode cX8_reprice 36 = .ok (.iaload, 1) := by decide +kernel
theorem dX8_reprice_37 : decode cX8_reprice 37 = .ok (.i2l, 1) := by decide +kernel
theorem dX8_reprice_38 : decode cX8_reprice 38 = .ok (.lmul, 1) := by decide +kernel
theorem dX8_reprice_39 : decode cX8_reprice 39 = .ok (.iload_n 2, 1) := by decide +kernel
theorem dX8_reprice_40 : decode cX8_reprice 40 = .ok (.i2l, 1) := by decide +kernel
theorem dX8_reprice_41 : decode cX8_reprice 41 = .ok (.ldiv, 1) := by decide +kernel
theorem dX8_reprice_42 : decode cX8_reprice 42 = .ok (.l2i, 1) := by decide +kernel
theorem dX8_reprice_43 : decode cX8_reprice 43 = .ok (.istore_n 3, 1) := by decide +kernel
theorem dX8_reprice_44 : decode cX8_reprice 44 = .ok (.iload_n 3, 1) := by decide +kernel
theorem dX8_reprice_45 : decode cX8_reprice 45 = .ok (.bipush 7, 2) := by decide +kernel
theorem dX8_reprice_47 : decode cX8_reprice 47 = .ok (.if_icmp .le 17, 3) := by decide +kernel
theorem dX8_reprice_50 : decode cX8_reprice 50 = .ok (.iload_n 3, 1) := by decide +kernel
theorem dX8_reprice_51 : decode cX8_reprice 51 = .ok (.bipush 7, 2) := by decide +kernel
theorem dX8_reprice_53 : decode cX8_reprice 53 = .ok (.isub, 1) := by decide +kernel
theorem dX8_reprice_54 : decode cX8_reprice 54 = .ok (.aload_n 0, 1) := by decide +kernel
theorem dX8_reprice_55 : decode cX8_reprice 55 = .ok (.getfield 13, 3) := by decide +kernel
theorem dX8_reprice_58 : decode cX8_reprice 58 = .ok (.invokestatic 190, 3) := by decide +kernel
theorem dX8_reprice_61 : decode cX8_reprice 61 = .ok (.goto 23, 3) := by decide +kernel
theorem dX8_reprice_64 : decode cX8_reprice 64 = .ok (.iload_n 3, 1) := by decide +kernel
theorem dX8_reprice_65 : decode cX8_reprice 65 = .ok (.iconst 3, 1) := by decide +kernel
theorem dX8_reprice_66 : decode cX8_reprice 66 = .ok (.if_icmp .ge 17, 3) := by decide +kernel
theorem dX8_reprice_69 : decode cX8_reprice 69 = .ok (.iconst 3, 1) := by decide +kernel
theorem dX8_reprice_70 : decode cX8_reprice 70 = .ok (.iload_n 3, 1) := by decide +kernel
theorem dX8_reprice_71 : decode cX8_reprice 71 = .ok (.isub, 1) := by decide +kernel
theorem dX8_reprice_72 : decode cX8_reprice 72 = .ok (.aload_n 0, 1) := by decide +kernel
theorem dX8_reprice_73 : decode cX8_reprice 73 = .ok (.getfield 13, 3) := by decide +kernel
theorem dX8_reprice_76 : decode cX8_reprice 76 = .ok (.invokestatic 190, 3) := by decide +kernel
theorem dX8_reprice_79 : decode cX8_reprice 79 = .ok (.ineg, 1) := by decide +kernel
theorem dX8_reprice_80 : decode cX8_reprice 80 = .ok (.goto 4, 3) := by decide +kernel
theorem dX8_reprice_83 : decode cX8_reprice 83 = .ok (.iconst 0, 1) := by decide +kernel
theorem dX8_reprice_84 : decode cX8_reprice 84 = .ok (.istore 4, 2) := by decide +kernel
theorem dX8_reprice_86 : decode cX8_reprice 86 = .ok (.aload_n 0, 1) := by decide +kernel
theorem dX8_reprice_87 : decode cX8_reprice 87 = .ok (.getfield 23, 3) := by decide +kernel
theorem dX8_reprice_90 : decode cX8_reprice 90 = .ok (.iload_n 1, 1) := by decide +kernel
theorem dX8_reprice_91 : decode cX8_reprice 91 = .ok (.iaload, 1) := by decide +kernel
theorem dX8_reprice_92 : decode cX8_reprice 92 = .ok (.iload 4, 2) := by decide +kernel
theorem dX8_reprice_94 : decode cX8_reprice 94 = .ok (.iadd, 1) := by decide +kernel
theorem dX8_reprice_95 : decode cX8_reprice 95 = .ok (.istore 5, 2) := by decide +kernel
theorem dX8_reprice_97 : decode cX8_reprice 97 = .ok (.aload_n 0, 1) := by decide +kernel
theorem dX8_reprice_98 : decode cX8_reprice 98 = .ok (.getfield 23, 3) := by decide +kernel
theorem dX8_reprice_101 : decode cX8_reprice 101 = .ok (.iload_n 1, 1) := by decide +kernel
theorem dX8_reprice_102 : decode cX8_reprice 102 = .ok (.iload 5, 2) := by decide +kernel
theorem dX8_reprice_104 : decode cX8_reprice 104 = .ok (.iconst 1, 1) := by decide +kernel
theorem dX8_reprice_105 : decode cX8_reprice 105 = .ok (.if_icmp .ge 7, 3) := by decide +kernel
theorem dX8_reprice_108 : decode cX8_reprice 108 = .ok (.iconst 1, 1) := by decide +kernel
theorem dX8_reprice_109 : decode cX8_reprice 109 = .ok (.goto 10, 3) := by decide +kernel
theorem dX8_reprice_112 : decode cX8_reprice 112 = .ok (.iload 5, 2) := by decide +kernel
theorem dX8_reprice_114 : decode cX8_reprice 114 = .ok (.bipush 24, 2) := by decide +kernel
theorem dX8_reprice_116 : decode cX8_reprice 116 = .ok (.invokestatic 190, 3) := by decide +kernel
theorem dX8_reprice_119 : decode cX8_reprice 119 = .ok (.iastore, 1) := by decide +kernel
theorem dX8_reprice_120 : decode cX8_reprice 120 = .ok (.return_, 1) := by decide +kernel
def zb_X8_reprice_27 : ZP := (z_ret 0)
set_option maxRecDepth 20000 in
theorem zk_X8_reprice_27 {X : ZX} (C : zCx X cX8_reprice RX8 none 1 23 1 6) (hn : X.nL = 6) : ZOK X 27 (zb_X8_reprice_27) := by
  unfold zb_X8_reprice_27
  exact z_vret_ok (pc := 27) C dX8_reprice_27
def zb_X8_reprice_119 : ZP := (z_iast (z_ret 0))
set_option maxRecDepth 20000 in
theorem zk_X8_reprice_119 {X : ZX} (C : zCx X cX8_reprice RX8 none 1 23 1 6) (hn : X.nL = 6) : ZOK X 119 (zb_X8_reprice_119) := by
  unfold zb_X8_reprice_119
  refine z_iast_ok (pc := 119) C dX8_reprice_119 ?_
  exact z_vret_ok (pc := 120) C dX8_reprice_120
def zb_X8_reprice_84 : ZP := (z_ist 4 (z_ald 0 (z_gf 8 6 (z_ild 1 (z_iald (z_ild 4 (z_bin (fun x y => x + y) (z_ist 5 (z_ald 0 (z_gf 8 6 (z_ild 1 (z_ild 5 (z_push 1 (z_cmp (fun x y => y ≤ x) (z_ild 5 (z_push 24 (z_invS 2 sp_X8_lesser zb_X8_reprice_119))) (z_push 1 zb_X8_reprice_119)))))))))))))))
set_option maxRecDepth 20000 in
theorem zk_X8_reprice_84 {X : ZX} (C : zCx X cX8_reprice RX8 none 1 23 1 6) (hn : X.nL = 6) : ZOK X 84 (zb_X8_reprice_84) := by
  unfold zb_X8_reprice_84
  refine z_istore_ok (pc := 84) (i := 4) C.hx C.hb dX8_reprice_84 (zlt hn (by decide)) ?_
  refine z_aload_n_ok (pc := 86) (i := 0) C.hx C.hb dX8_reprice_86 rfl ?_
  refine z_gf_ok (pc := 87) C zK8 (f := 6) (by decide) zw_863 rfl dX8_reprice_87 ?_
  refine z_iload_n_ok (pc := 90) (i := 1) C.hx C.hb dX8_reprice_90 rfl ?_
  refine z_iald_ok (pc := 91) C dX8_reprice_91 ?_
  refine z_iload_ok (pc := 92) (i := 4) C.hx C.hb dX8_reprice_92 ?_
  refine z_iadd_ok (pc := 94) C.hx C.hb dX8_reprice_94 ?_
  refine z_istore_ok (pc := 95) (i := 5) C.hx C.hb dX8_reprice_95 (zlt hn (by decide)) ?_
  refine z_aload_n_ok (pc := 97) (i := 0) C.hx C.hb dX8_reprice_97 rfl ?_
  refine z_gf_ok (pc := 98) C zK8 (f := 6) (by decide) zw_863 rfl dX8_reprice_98 ?_
  refine z_iload_n_ok (pc := 101) (i := 1) C.hx C.hb dX8_reprice_101 rfl ?_
  refine z_iload_ok (pc := 102) (i := 5) C.hx C.hb dX8_reprice_102 ?_
  refine z_iconst_ok (pc := 104) (v := 1) C.hx C.hb dX8_reprice_104 (by decide) ?_
  refine z_icmp_ge_ok (pc := 105) (tgt := 112) C.hx C.hb dX8_reprice_105 (by decide) ?_ ?_
  · refine z_iload_ok (pc := 112) (i := 5) C.hx C.hb dX8_reprice_112 ?_
    refine z_bipush_ok (pc := 114) (v := 24) C.hx C.hb dX8_reprice_114 (by decide) ?_
    refine z_invS_ok (pc := 116) C (by decide +kernel) (zm_X8_lesser X.l C.htr) ⟨rfl, rfl⟩ ⟨by decide, by decide⟩ (by decide) (by decide) zcl_X8_190 zw_1147 dX8_reprice_116 ?_
    exact zk_X8_reprice_119 C hn 
  · refine z_iconst_ok (pc := 108) (v := 1) C.hx C.hb dX8_reprice_108 (by decide) ?_
    refine z_goto_ok (pc := 109) (tgt := 119) C.hx C.hb dX8_reprice_109 (by decide) ?_
    exact zk_X8_reprice_119 C hn 
def zb_X8_reprice_0 : ZP := (z_ald 0 (z_gf 8 8 (z_ild 1 (z_iald (z_ald 0 (z_ild 1 (z_invV 8 1 sp_X8_lies (z_bin (fun x y => x + y) (z_ist 2 (z_ald 0 (z_gf 8 4 (z_ild 1 (z_iald (z_push 1 (z_cmp (fun x y => x = y) (z_ild 2 (z_if (fun x => x = 0) zb_X8_reprice_27 (z_lpush 10 (z_ald 0 (z_gf 8 8 (z_ild 1 (z_iald (z_i2l (z_lbin (fun x y => x * y) (z_ild 2 (z_i2l (z_ldiv (z_l2i (z_ist 3 (z_ild 3 (z_push 7 (z_cmp (fun x y => x ≤ y) (z_ild 3 (z_push 3 (z_cmp (fun x y => y ≤ x) (z_push 0 zb_X8_reprice_84) (z_push 3 (z_ild 3 (z_bin (fun x y => x - y) (z_ald 0 (z_gf 8 2 (z_invS 2 sp_X8_lesser (z_un (fun x => -x) zb_X8_reprice_84)))))))))) (z_ild 3 (z_push 7 (z_bin (fun x y => x - y) (z_ald 0 (z_gf 8 2 (z_invS 2 sp_X8_lesser zb_X8_reprice_84))))))))))))))))))))))) zb_X8_reprice_27)))))))))))))))
set_option maxRecDepth 20000 in
theorem zk_X8_reprice_0 {X : ZX} (C : zCx X cX8_reprice RX8 none 1 23 1 6) (hn : X.nL = 6) : ZOK X 0 (zb_X8_reprice_0) := by
  unfold zb_X8_reprice_0
  refine z_aload_n_ok (pc := 0) (i := 0) C.hx C.hb dX8_reprice_0 rfl ?_
  refine z_gf_ok (pc := 1) C zK8 (f := 8) (by decide) zw_865 rfl dX8_reprice_1 ?_
  refine z_iload_n_ok (pc := 4) (i := 1) C.hx C.hb dX8_reprice_4 rfl ?_
  refine z_iald_ok (pc := 5) C dX8_reprice_5 ?_
  refine z_aload_n_ok (pc := 6) (i := 0) C.hx C.hb dX8_reprice_6 rfl ?_
  refine z_iload_n_ok (pc := 7) (i := 1) C.hx C.hb dX8_reprice_7 rfl ?_
  refine z_invV_ok (pc := 8) C (by decide +kernel) (zm_X8_lies X.l C.htr) ⟨rfl, rfl⟩ ⟨by decide, by decide⟩ (by decide) (by decide) zcl_X8_141 zw_1040 zw_26 zK8 dX8_reprice_8 ?_
  refine z_iadd_ok (pc := 11) C.hx C.hb dX8_reprice_11 ?_
  refine z_istore_n_ok (pc := 12) (i := 2) C.hx C.hb dX8_reprice_12 rfl (zlt hn (by decide)) ?_
  refine z_aload_n_ok (pc := 13) (i := 0) C.hx C.hb dX8_reprice_13 rfl ?_
  refine z_gf_ok (pc := 14) C zK8 (f := 4) (by decide) zw_861 rfl dX8_reprice_14 ?_
  refine z_iload_n_ok (pc := 17) (i := 1) C.hx C.hb dX8_reprice_17 rfl ?_
  refine z_iald_ok (pc := 18) C dX8_reprice_18 ?_
  refine z_iconst_ok (pc := 19) (v := 1) C.hx C.hb dX8_reprice_19 (by decide) ?_
  refine z_icmp_ne_ok (pc := 20) (tgt := 27) C.hx C.hb dX8_reprice_20 (by decide) ?_ ?_
  · exact zk_X8_reprice_27 C hn 
  · refine z_iload_n_ok (pc := 23) (i := 2) C.hx C.hb dX8_reprice_23 rfl ?_
    refine z_if_ne_ok (pc := 24) (tgt := 28) C.hx C.hb dX8_reprice_24 (by decide) ?_ ?_
    · refine z_ldc2_ok (pc := 28) C zw_1213 dX8_reprice_28 ?_
      refine z_aload_n_ok (pc := 31) (i := 0) C.hx C.hb dX8_reprice_31 rfl ?_
      refine z_gf_ok (pc := 32) C zK8 (f := 8) (by decide) zw_865 rfl dX8_reprice_32 ?_
      refine z_iload_n_ok (pc := 35) (i := 1) C.hx C.hb dX8_reprice_35 rfl ?_
      refine z_iald_ok (pc := 36) C dX8_reprice_36 ?_
      refine z_i2l_ok (pc := 37) C.hx C.hb dX8_reprice_37 ?_
      refine z_lmul_ok (pc := 38) C.hx C.hb dX8_reprice_38 ?_
      refine z_iload_n_ok (pc := 39) (i := 2) C.hx C.hb dX8_reprice_39 rfl ?_
      refine z_i2l_ok (pc := 40) C.hx C.hb dX8_reprice_40 ?_
      refine z_ldiv_ok (pc := 41) C.hx C.hb dX8_reprice_41 ?_
      refine z_l2i_ok (pc := 42) C.hx C.hb dX8_reprice_42 ?_
      refine z_istore_n_ok (pc := 43) (i := 3) C.hx C.hb dX8_reprice_43 rfl (zlt hn (by decide)) ?_
      refine z_iload_n_ok (pc := 44) (i := 3) C.hx C.hb dX8_reprice_44 rfl ?_
      refine z_bipush_ok (pc := 45) (v := 7) C.hx C.hb dX8_reprice_45 (by decide) ?_
      refine z_icmp_le_ok (pc := 47) (tgt := 64) C.hx C.hb dX8_reprice_47 (by decide) ?_ ?_
      · refine z_iload_n_ok (pc := 64) (i := 3) C.hx C.hb dX8_reprice_64 rfl ?_
        refine z_iconst_ok (pc := 65) (v := 3) C.hx C.hb dX8_reprice_65 (by decide) ?_
        refine z_icmp_ge_ok (pc := 66) (tgt := 83) C.hx C.hb dX8_reprice_66 (by decide) ?_ ?_
        · refine z_iconst_ok (pc := 83) (v := 0) C.hx C.hb dX8_reprice_83 (by decide) ?_
          exact zk_X8_reprice_84 C hn 
        · refine z_iconst_ok (pc := 69) (v := 3) C.hx C.hb dX8_reprice_69 (by decide) ?_
          refine z_iload_n_ok (pc := 70) (i := 3) C.hx C.hb dX8_reprice_70 rfl ?_
          refine z_isub_ok (pc := 71) C.hx C.hb dX8_reprice_71 ?_
          refine z_aload_n_ok (pc := 72) (i := 0) C.hx C.hb dX8_reprice_72 rfl ?_
          refine z_gf_ok (pc := 73) C zK8 (f := 2) (by decide) zw_859 rfl dX8_reprice_73 ?_
          refine z_invS_ok (pc := 76) C (by decide +kernel) (zm_X8_lesser X.l C.htr) ⟨rfl, rfl⟩ ⟨by decide, by decide⟩ (by decide) (by decide) zcl_X8_190 zw_1147 dX8_reprice_76 ?_
          refine z_ineg_ok (pc := 79) C.hx C.hb dX8_reprice_79 ?_
          refine z_goto_ok (pc := 80) (tgt := 84) C.hx C.hb dX8_reprice_80 (by decide) ?_
          exact zk_X8_reprice_84 C hn 
      · refine z_iload_n_ok (pc := 50) (i := 3) C.hx C.hb dX8_reprice_50 rfl ?_
        refine z_bipush_ok (pc := 51) (v := 7) C.hx C.hb dX8_reprice_51 (by decide) ?_
        refine z_isub_ok (pc := 53) C.hx C.hb dX8_reprice_53 ?_
        refine z_aload_n_ok (pc := 54) (i := 0) C.hx C.hb dX8_reprice_54 rfl ?_
        refine z_gf_ok (pc := 55) C zK8 (f := 2) (by decide) zw_859 rfl dX8_reprice_55 ?_
        refine z_invS_ok (pc := 58) C (by decide +kernel) (zm_X8_lesser X.l C.htr) ⟨rfl, rfl⟩ ⟨by decide, by decide⟩ (by decide) (by decide) zcl_X8_190 zw_1147 dX8_reprice_58 ?_
        refine z_goto_ok (pc := 61) (tgt := 84) C.hx C.hb dX8_reprice_61 (by decide) ?_
        exact zk_X8_reprice_84 C hn 
    · exact zk_X8_reprice_27 C hn 
def sp_X8_reprice : ZSp := fun as S K => as.length ≤ 6 ∧ zsp 6 zb_X8_reprice_0 as S K
theorem zm_X8_reprice (l : Launch) (hl : l.stackTraces = false) : zMet l yX8_reprice cX8_reprice 6 none { frames := 1, cells := 1, slots := 6, locals := 23 } 0 0 sp_X8_reprice := zMet_of hl (by decide +kernel) ⟨rfl, rfl⟩ (fun X C hn _ => zk_X8_reprice_0 C hn)
theorem dX8_month_0 : decode cX8_month 0 = .ok (.aload_n 0, 1) := by decide +kernel
theorem dX8_month_1 : decode cX8_month 1 = .ok (.aload_n 0, 1) := by decide +kernel
theorem dX8_month_2 : decode cX8_month 2 = .ok (.getfield 214, 3) := by decide +kernel
theorem dX8_month_5 : decode cX8_month 5 = .ok (.sipush 240, 3) := by decide +kernel
theorem dX8_month_8 : decode cX8_month 8 = .ok (.if_icmp .ge 7, 3) := by decide +kernel
theorem dX8_month_11 : decode cX8_month 11 = .ok (.iconst 1, 1) := by decide +kernel
theorem dX8_month_12 : decode cX8_month 12 = .ok (.goto 4, 3) := by decide +kernel
theorem dX8_month_15 : decode cX8_month 15 = .ok (.iconst 0, 1) := by decide +kernel
theorem dX8_month_16 : decode cX8_month 16 = .ok (.iconst 1, 1) := by decide +kernel
theorem dX8_month_17 : decode cX8_month 17 = .ok (.invokevirtual 137, 3) := by decide +kernel
theorem dX8_month_20 : decode cX8_month 20 = .ok (.ifCond .eq 5, 3) := by decide +kernel
theorem dX8_month_23 : decode cX8_month 23 = .ok (.iconst 0, 1) := by decide +kernel
theorem dX8_month_24 : decode cX8_month 24 = .ok (.ireturn, 1) := by decide +kernel
theorem dX8_month_25 : decode cX8_month 25 = .ok (.iconst 0, 1) := by decide +kernel
theorem dX8_month_26 : decode cX8_month 26 = .ok (.istore_n 1, 1) := by decide +kernel
theorem dX8_month_27 : decode cX8_month 27 = .ok (.iload_n 1, 1) := by decide +kernel
theorem dX8_month_28 : decode cX8_month 28 = .ok (.aload_n 0, 1) := by decide +kernel
theorem dX8_month_29 : decode cX8_month 29 = .ok (.getfield 206, 3) := by decide +kernel
theorem dX8_month_32 : decode cX8_month 32 = .ok (.if_icmp .ge 45, 3) := by decide +kernel
theorem dX8_month_35 : decode cX8_month 35 = .ok (.aload_n 0, 1) := by decide +kernel
theorem dX8_month_36 : decode cX8_month 36 = .ok (.getfield 111, 3) := by decide +kernel
theorem dX8_month_39 : decode cX8_month 39 = .ok (.iload_n 1, 1) := by decide +kernel
theorem dX8_month_40 : decode cX8_month 40 = .ok (.dup2, 1) := by decide +kernel
theorem dX8_month_41 : decode cX8_month 41 = .ok (.iaload, 1) := by decide +kernel
theorem dX8_month_42 : decode cX8_month 42 = .ok (.aload_n 0, 1) := by decide +kernel
theorem dX8_month_43 : decode cX8_month 43 = .ok (.getfield 108, 3) := by decide +kernel
theorem dX8_month_46 : decode cX8_month 46 = .ok (.iload_n 1, 1) := by decide +kernel
theorem dX8_month_47 : decode cX8_month 47 = .ok (.iaload, 1) := by decide +kernel
theorem dX8_month_48 : decode cX8_month 48 = .ok (.aload_n 0, 1) := by decide +kernel
theorem dX8_month_49 : decode cX8_month 49 = .ok (.getfield 105, 3) := by decide +kernel
theorem dX8_month_52 : decode cX8_month 52 = .ok (.iload_n 1, 1) := by decide +kernel
theorem dX8_month_53 : decode cX8_month 53 = .ok (.iaload, 1) := by decide +kernel
theorem dX8_month_54 : decode cX8_month 54 = .ok (.if_icmp .ge 7, 3) := by decide +kernel
theorem dX8_month_57 : decode cX8_month 57 = .ok (.iconst 1, 1) := by decide +kernel
theorem dX8_month_58 : decode cX8_month 58 = .ok (.goto 4, 3) := by decide +kernel
theorem dX8_month_61 : decode cX8_month 61 = .ok (.iconst 0, 1) := by decide +kernel
theorem dX8_month_62 : decode cX8_month 62 = .ok (.iadd, 1) := by decide +kernel
theorem dX8_month_63 : decode cX8_month 63 = .ok (.iastore, 1) := by decide +kernel
theorem dX8_month_64 : decode cX8_month 64 = .ok (.aload_n 0, 1) := by decide +kernel
theorem dX8_month_65 : decode cX8_month 65 = .ok (.getfield 108, 3) := by decide +kernel
theorem dX8_month_68 : decode cX8_month 68 = .ok (.iload_n 1, 1) := by decide +kernel
theorem dX8_month_69 : decode cX8_month 69 = .ok (.iconst 0, 1) := by decide +kernel
theorem dX8_month_70 : decode cX8_month 70 = .ok (.iastore, 1) := by decide +kernel
theorem dX8_month_71 : decode cX8_month 71 = .ok (.iinc 1 1, 3) := by decide +kernel
theorem dX8_month_74 : decode cX8_month 74 = .ok (.goto (-47), 3) := by decide +kernel
theorem dX8_month_77 : decode cX8_month 77 = .ok (.iconst 0, 1) := by decide +kernel
theorem dX8_month_78 : decode cX8_month 78 = .ok (.istore_n 1, 1) := by decide +kernel
theorem dX8_month_79 : decode cX8_month 79 = .ok (.iload_n 1, 1) := by decide +kernel
theorem dX8_month_80 : decode cX8_month 80 = .ok (.aload_n 0, 1) := by decide +kernel
theorem dX8_month_81 : decode cX8_month 81 = .ok (.getfield 124, 3) := by decide +kernel
theorem dX8_month_84 : decode cX8_month 84 = .ok (.if_icmp .ge 22, 3) := by decide +kernel
theorem dX8_month_87 : decode cX8_month 87 = .ok (.aload_n 0, 1) := by decide +kernel
theorem dX8_month_88 : decode cX8_month 88 = .ok (.iload_n 1, 1) := by decide +kernel
theorem dX8_month_89 : decode cX8_month 89 = .ok (.invokevirtual 151, 3) := by decide +kernel
theorem dX8_month_92 : decode cX8_month 92 = .ok (.ifCond .ne 8, 3) := by decide +kernel
theorem dX8_month_95 : decode cX8_month 95 = .ok (.aload_n 0, 1) := by decide +kernel
theorem dX8_month_96 : decode cX8_month 96 = .ok (.iload_n 1, 1) := by decide +kernel
theorem dX8_month_97 : decode cX8_month 97 = .ok (.invokevirtual 217, 3) := by decide +kernel
theorem dX8_month_100 : decode cX8_month 100 = .ok (.iinc 1 1, 3) := by decide +kernel
theorem dX8_month_103 : decode cX8_month 103 = .ok (.goto (-24), 3) := by decide +kernel
theorem dX8_month_106 : decode cX8_month 106 = .ok (.iconst 0, 1) := by decide +kernel
theorem dX8_month_107 : decode cX8_month 107 = .ok (.istore_n 1, 1) := by decide +kernel
theorem dX8_month_108 : decode cX8_month 108 = .ok (.iload_n 1, 1) := by decide +kernel
theorem dX8_month_109 : decode cX8_month 109 = .ok (.bipush 6, 2) := by decide +kernel
theorem dX8_month_111 : decode cX8_month 111 = .ok (.if_icmp .ge 21, 3) := by decide +kernel
theorem dX8_month_114 : decode cX8_month 114 = .ok (.aload_n 0, 1) := by decide +kernel
theorem dX8_month_115 : decode cX8_month 115 = .ok (.iload_n 1, 1) := by decide +kernel
theorem dX8_month_116 : decode cX8_month 116 = .ok (.invokevirtual 221, 3) := by decide +kernel
theorem dX8_month_119 : decode cX8_month 119 = .ok (.aload_n 0, 1) := by decide +kernel
theorem dX8_month_120 : decode cX8_month 120 = .ok (.getfield 29, 3) := by decide +kernel
theorem dX8_month_123 : decode cX8_month 123 = .ok (.iload_n 1, 1) := by decide +kernel
theorem dX8_month_124 : decode cX8_month 124 = .ok (.iconst 0, 1) := by decide +kernel
theorem dX8_month_125 : decode cX8_month 125 = .ok (.iastore, 1) := by decide +kernel
theorem dX8_month_126 : decode cX8_month 126 = .ok (.iinc 1 1, 3) := by decide +kernel
theorem dX8_month_129 : decode cX8_month 129 = .ok (.goto (-21), 3) := by decide +kernel
theorem dX8_month_132 : decode cX8_month 132 = .ok (.aload_n 0, 1) := by decide +kernel
theorem dX8_month_133 : decode cX8_month 133 = .ok (.dup, 1) := by decide +kernel
theorem dX8_month_134 : decode cX8_month 134 = .ok (.getfield 214, 3) := by decide +kernel
theorem dX8_month_137 : decode cX8_month 137 = .ok (.iconst 1, 1) := by decide +kernel
theorem dX8_month_138 : decode cX8_month 138 = .ok (.iadd, 1) := by decide +kernel
theorem dX8_month_139 : decode cX8_month 139 = .ok (.putfield 214, 3) := by decide +kernel
theorem dX8_month_142 : decode cX8_month 142 = .ok (.aload_n 0, 1) := by decide +kernel
theorem dX8_month_143 : decode cX8_month 143 = .ok (.iconst 0, 1) := by decide +kernel
theorem dX8_month_144 : decode cX8_month 144 = .ok (.putfield 200, 3) := by decide +kernel
theorem dX8_month_147 : decode cX8_month 147 = .ok (.aload_n 0, 1) := by decide +kernel
theorem dX8_month_148 : decode cX8_month 148 = .ok (.iconst 0, 1) := by decide +kernel
theorem dX8_month_149 : decode cX8_month 149 = .ok (.putfield 170, 3) := by decide +kernel
theorem dX8_month_152 : decode cX8_month 152 = .ok (.iconst 0, 1) := by decide +kernel
theorem dX8_month_153 : decode cX8_month 153 = .ok (.istore_n 1, 1) := by decide +kernel
theorem dX8_month_154 : decode cX8_month 154 = .ok (.iload_n 1, 1) := by decide +kernel
theorem dX8_month_155 : decode cX8_month 155 = .ok (.aload_n 0, 1) := by decide +kernel
theorem dX8_month_156 : decode cX8_month 156 = .ok (.getfield 124, 3) := by decide +kernel
theorem dX8_month_159 : decode cX8_month 159 = .ok (.if_icmp .ge 49, 3) := by decide +kernel
theorem dX8_month_162 : decode cX8_month 162 = .ok (.aload_n 0, 1) := by decide +kernel
theorem dX8_month_163 : decode cX8_month 163 = .ok (.getfield 38, 3) := by decide +kernel
theorem dX8_month_166 : decode cX8_month 166 = .ok (.iload_n 1, 1) := by decide +kernel
theorem dX8_month_167 : decode cX8_month 167 = .ok (.aload_n 0, 1) := by decide +kernel
theorem dX8_month_168 : decode cX8_month 168 = .ok (.getfield 41, 3) := by decide +kernel
theorem dX8_month_171 : decode cX8_month 171 = .ok (.iload_n 1, 1) := by decide +kernel
theorem dX8_month_172 : decode cX8_month 172 = .ok (.iaload, 1) := by decide +kernel
theorem dX8_month_173 : decode cX8_month 173 = .ok (.iastore, 1) := by decide +kernel
theorem dX8_month_174 : decode cX8_month 174 = .ok (.aload_n 0, 1) := by decide +kernel
theorem dX8_month_175 : decode cX8_month 175 = .ok (.getfield 50, 3) := by decide +kernel
theorem dX8_month_178 : decode cX8_month 178 = .ok (.iload_n 1, 1) := by decide +kernel
theorem dX8_month_179 : decode cX8_month 179 = .ok (.iconst 0, 1) := by decide +kernel
theorem dX8_month_180 : decode cX8_month 180 = .ok (.iastore, 1) := by decide +kernel
theorem dX8_month_181 : decode cX8_month 181 = .ok (.aload_n 0, 1) := by decide +kernel
theorem dX8_month_182 : decode cX8_month 182 = .ok (.getfield 53, 3) := by decide +kernel
theorem dX8_month_185 : decode cX8_month 185 = .ok (.iload_n 1, 1) := by decide +kernel
theorem dX8_month_186 : decode cX8_month 186 = .ok (.iconst 0, 1) := by decide +kernel
theorem dX8_month_187 : decode cX8_month 187 = .ok (.iastore, 1) := by decide +kernel
theorem dX8_month_188 : decode cX8_month 188 = .ok (.aload_n 0, 1) := by decide +kernel
theorem dX8_month_189 : decode cX8_month 189 = .ok (.getfield 56, 3) := by decide +kernel
theorem dX8_month_192 : decode cX8_month 192 = .ok (.iload_n 1, 1) := by decide +kernel
theorem dX8_month_193 : decode cX8_month 193 = .ok (.iconst 0, 1) := by decide +kernel
theorem dX8_month_194 : decode cX8_month 194 = .ok (.iastore, 1) := by decide +kernel
theorem dX8_month_195 : decode cX8_month 195 = .ok (.aload_n 0, 1) := by decide +kernel
theorem dX8_month_196 : decode cX8_month 196 = .ok (.getfield 59, 3) := by decide +kernel
theorem dX8_month_199 : decode cX8_month 199 = .ok (.iload_n 1, 1) := by decide +kernel
theorem dX8_month_200 : decode cX8_month 200 = .ok (.iconst 0, 1) := by decide +kernel
theorem dX8_month_201 : decode cX8_month 201 = .ok (.bastore, 1) := by decide +kernel
theorem dX8_month_202 : decode cX8_month 202 = .ok (.iinc 1 1, 3) := by decide +kernel
theorem dX8_month_205 : decode cX8_month 205 = .ok (.goto (-51), 3) := by decide +kernel
theorem dX8_month_208 : decode cX8_month 208 = .ok (.iconst 0, 1) := by decide +kernel
theorem dX8_month_209 : decode cX8_month 209 = .ok (.istore_n 1, 1) := by decide +kernel
theorem dX8_month_210 : decode cX8_month 210 = .ok (.iload_n 1, 1) := by decide +kernel
theorem dX8_month_211 : decode cX8_month 211 = .ok (.bipush 120, 2) := by decide +kernel
theorem dX8_month_213 : decode cX8_month 213 = .ok (.if_icmp .ge 16, 3) := by decide +kernel
theorem dX8_month_216 : decode cX8_month 216 = .ok (.aload_n 0, 1) := by decide +kernel
theorem dX8_month_217 : decode cX8_month 217 = .ok (.getfield 63, 3) := by decide +kernel
theorem dX8_month_220 : decode cX8_month 220 = .ok (.iload_n 1, 1) := by decide +kernel
theorem dX8_month_221 : decode cX8_month 221 = .ok (.iconst 0, 1) := by decide +kernel
theorem dX8_month_222 : decode cX8_month 222 = .ok (.iastore, 1) := by decide +kernel
theorem dX8_month_223 : decode cX8_month 223 = .ok (.iinc 1 1, 3) := by decide +kernel
theorem dX8_month_226 : decode cX8_month 226 = .ok (.goto (-16), 3) := by decide +kernel
theorem dX8_month_229 : decode cX8_month 229 = .ok (.aload_n 0, 1) := by decide +kernel
theorem dX8_month_230 : decode cX8_month 230 = .ok (.getfield 214, 3) := by decide +kernel
theorem dX8_month_233 : decode cX8_month 233 = .ok (.ireturn, 1) := by decide +kernel
def zb_X8_month_210 (J210 : ZP) : ZP := (z_ild 1 (z_push 120 (z_cmp (fun x y => y ≤ x) (z_ald 0 (z_gf 8 0 (z_ret 1))) (z_ald 0 (z_gf 8 20 (z_ild 1 (z_push 0 (z_iast (z_inc 1 (1) J210)))))))))
set_option maxRecDepth 20000 in
theorem zk_X8_month_210 {X : ZX} (C : zCx X cX8_month RX8 (some .int) 5 112 1 6) (hn : X.nL = 2) {J210 : ZP} (hJ210 : ZOK X 210 J210) : ZOK X 210 (zb_X8_month_210 J210) := by
  unfold zb_X8_month_210
  refine z_iload_n_ok (pc := 210) (i := 1) C.hx C.hb dX8_month_210 rfl ?_
  refine z_bipush_ok (pc := 211) (v := 120) C.hx C.hb dX8_month_211 (by decide) ?_
  refine z_icmp_ge_ok (pc := 213) (tgt := 229) C.hx C.hb dX8_month_213 (by decide) ?_ ?_
  · refine z_aload_n_ok (pc := 229) (i := 0) C.hx C.hb dX8_month_229 rfl ?_
    refine z_gf_ok (pc := 230) C zK8 (f := 0) (by decide) zw_857 rfl dX8_month_230 ?_
    exact z_iret_ok (pc := 233) C dX8_month_233
  · refine z_aload_n_ok (pc := 216) (i := 0) C.hx C.hb dX8_month_216 rfl ?_
    refine z_gf_ok (pc := 217) C zK8 (f := 20) (by decide) zw_877 rfl dX8_month_217 ?_
    refine z_iload_n_ok (pc := 220) (i := 1) C.hx C.hb dX8_month_220 rfl ?_
    refine z_iconst_ok (pc := 221) (v := 0) C.hx C.hb dX8_month_221 (by decide) ?_
    refine z_iast_ok (pc := 222) C dX8_month_222 ?_
    refine z_iinc_ok (pc := 223) (i := 1) (v := 1) C.hx C.hb dX8_month_223 (by decide) (zlt hn (by decide)) ?_
    refine z_goto_ok (pc := 226) (tgt := 210) C.hx C.hb dX8_month_226 (by decide) ?_
    exact hJ210
def zb_X8_month_154 (J154 : ZP) : ZP := (z_ild 1 (z_ald 0 (z_gf 8 10 (z_cmp (fun x y => y ≤ x) (z_push 0 (z_ist 1 (z_loop (fun J210 => zb_X8_month_210 J210)))) (z_ald 0 (z_gf 8 12 (z_ild 1 (z_ald 0 (z_gf 8 13 (z_ild 1 (z_iald (z_iast (z_ald 0 (z_gf 8 16 (z_ild 1 (z_push 0 (z_iast (z_ald 0 (z_gf 8 17 (z_ild 1 (z_push 0 (z_iast (z_ald 0 (z_gf 8 18 (z_ild 1 (z_push 0 (z_iast (z_ald 0 (z_gf 8 19 (z_ild 1 (z_push 0 (z_bast (z_inc 1 (1) J154)))))))))))))))))))))))))))))))))
set_option maxRecDepth 20000 in
theorem zk_X8_month_154 {X : ZX} (C : zCx X cX8_month RX8 (some .int) 5 112 1 6) (hn : X.nL = 2) {J154 : ZP} (hJ154 : ZOK X 154 J154) : ZOK X 154 (zb_X8_month_154 J154) := by
  unfold zb_X8_month_154
  refine z_iload_n_ok (pc := 154) (i := 1) C.hx C.hb dX8_month_154 rfl ?_
  refine z_aload_n_ok (pc := 155) (i := 0) C.hx C.hb dX8_month_155 rfl ?_
  refine z_gf_ok (pc := 156) C zK8 (f := 10) (by decide) zw_867 rfl dX8_month_156 ?_
  refine z_icmp_ge_ok (pc := 159) (tgt := 208) C.hx C.hb dX8_month_159 (by decide) ?_ ?_
  · refine z_iconst_ok (pc := 208) (v := 0) C.hx C.hb dX8_month_208 (by decide) ?_
    refine z_istore_n_ok (pc := 209) (i := 1) C.hx C.hb dX8_month_209 rfl (zlt hn (by decide)) ?_
    exact z_loop_ok (fun J210 hJ210 => zk_X8_month_210 C hn hJ210)
  · refine z_aload_n_ok (pc := 162) (i := 0) C.hx C.hb dX8_month_162 rfl ?_
    refine z_gf_ok (pc := 163) C zK8 (f := 12) (by decide) zw_869 rfl dX8_month_163 ?_
    refine z_iload_n_ok (pc := 166) (i := 1) C.hx C.hb dX8_month_166 rfl ?_
    refine z_aload_n_ok (pc := 167) (i := 0) C.hx C.hb dX8_month_167 rfl ?_
    refine z_gf_ok (pc := 168) C zK8 (f := 13) (by decide) zw_870 rfl dX8_month_168 ?_
    refine z_iload_n_ok (pc := 171) (i := 1) C.hx C.hb dX8_month_171 rfl ?_
    refine z_iald_ok (pc := 172) C dX8_month_172 ?_
    refine z_iast_ok (pc := 173) C dX8_month_173 ?_
    refine z_aload_n_ok (pc := 174) (i := 0) C.hx C.hb dX8_month_174 rfl ?_
    refine z_gf_ok (pc := 175) C zK8 (f := 16) (by decide) zw_873 rfl dX8_month_175 ?_
    refine z_iload_n_ok (pc := 178) (i := 1) C.hx C.hb dX8_month_178 rfl ?_
    refine z_iconst_ok (pc := 179) (v := 0) C.hx C.hb dX8_month_179 (by decide) ?_
    refine z_iast_ok (pc := 180) C dX8_month_180 ?_
    refine z_aload_n_ok (pc := 181) (i := 0) C.hx C.hb dX8_month_181 rfl ?_
    refine z_gf_ok (pc := 182) C zK8 (f := 17) (by decide) zw_874 rfl dX8_month_182 ?_
    refine z_iload_n_ok (pc := 185) (i := 1) C.hx C.hb dX8_month_185 rfl ?_
    refine z_iconst_ok (pc := 186) (v := 0) C.hx C.hb dX8_month_186 (by decide) ?_
    refine z_iast_ok (pc := 187) C dX8_month_187 ?_
    refine z_aload_n_ok (pc := 188) (i := 0) C.hx C.hb dX8_month_188 rfl ?_
    refine z_gf_ok (pc := 189) C zK8 (f := 18) (by decide) zw_875 rfl dX8_month_189 ?_
    refine z_iload_n_ok (pc := 192) (i := 1) C.hx C.hb dX8_month_192 rfl ?_
    refine z_iconst_ok (pc := 193) (v := 0) C.hx C.hb dX8_month_193 (by decide) ?_
    refine z_iast_ok (pc := 194) C dX8_month_194 ?_
    refine z_aload_n_ok (pc := 195) (i := 0) C.hx C.hb dX8_month_195 rfl ?_
    refine z_gf_ok (pc := 196) C zK8 (f := 19) (by decide) zw_876 rfl dX8_month_196 ?_
    refine z_iload_n_ok (pc := 199) (i := 1) C.hx C.hb dX8_month_199 rfl ?_
    refine z_iconst_ok (pc := 200) (v := 0) C.hx C.hb dX8_month_200 (by decide) ?_
    refine z_bast_ok (pc := 201) C dX8_month_201 ?_
    refine z_iinc_ok (pc := 202) (i := 1) (v := 1) C.hx C.hb dX8_month_202 (by decide) (zlt hn (by decide)) ?_
    refine z_goto_ok (pc := 205) (tgt := 154) C.hx C.hb dX8_month_205 (by decide) ?_
    exact hJ154
def zb_X8_month_108 (J108 : ZP) : ZP := (z_ild 1 (z_push 6 (z_cmp (fun x y => y ≤ x) (z_ald 0 (z_dup (z_gf 8 0 (z_push 1 (z_bin (fun x y => x + y) (z_pf 8 0 (z_ald 0 (z_push 0 (z_pf 8 3 (z_ald 0 (z_push 0 (z_pf 8 21 (z_push 0 (z_ist 1 (z_loop (fun J154 => zb_X8_month_154 J154)))))))))))))))) (z_ald 0 (z_ild 1 (z_invV 8 1 sp_X8_reprice (z_ald 0 (z_gf 8 8 (z_ild 1 (z_push 0 (z_iast (z_inc 1 (1) J108))))))))))))
set_option maxRecDepth 20000 in
theorem zk_X8_month_108 {X : ZX} (C : zCx X cX8_month RX8 (some .int) 5 112 1 6) (hn : X.nL = 2) {J108 : ZP} (hJ108 : ZOK X 108 J108) : ZOK X 108 (zb_X8_month_108 J108) := by
  unfold zb_X8_month_108
  refine z_iload_n_ok (pc := 108) (i := 1) C.hx C.hb dX8_month_108 rfl ?_
  refine z_bipush_ok (pc := 109) (v := 6) C.hx C.hb dX8_month_109 (by decide) ?_
  refine z_icmp_ge_ok (pc := 111) (tgt := 132) C.hx C.hb dX8_month_111 (by decide) ?_ ?_
  · refine z_aload_n_ok (pc := 132) (i := 0) C.hx C.hb dX8_month_132 rfl ?_
    refine z_dup_ok (pc := 133) C.hx C.hb dX8_month_133 ?_
    refine z_gf_ok (pc := 134) C zK8 (f := 0) (by decide) zw_857 rfl dX8_month_134 ?_
    refine z_iconst_ok (pc := 137) (v := 1) C.hx C.hb dX8_month_137 (by decide) ?_
    refine z_iadd_ok (pc := 138) C.hx C.hb dX8_month_138 ?_
    refine z_pf_ok (pc := 139) C zK8 rfl rfl (f := 0) (by decide) zw_857 rfl rfl (by decide +kernel) dX8_month_139 ?_
    refine z_aload_n_ok (pc := 142) (i := 0) C.hx C.hb dX8_month_142 rfl ?_
    refine z_iconst_ok (pc := 143) (v := 0) C.hx C.hb dX8_month_143 (by decide) ?_
    refine z_pf_ok (pc := 144) C zK8 rfl rfl (f := 3) (by decide) zw_860 rfl rfl (by decide +kernel) dX8_month_144 ?_
    refine z_aload_n_ok (pc := 147) (i := 0) C.hx C.hb dX8_month_147 rfl ?_
    refine z_iconst_ok (pc := 148) (v := 0) C.hx C.hb dX8_month_148 (by decide) ?_
    refine z_pf_ok (pc := 149) C zK8 rfl rfl (f := 21) (by decide) zw_878 rfl rfl (by decide +kernel) dX8_month_149 ?_
    refine z_iconst_ok (pc := 152) (v := 0) C.hx C.hb dX8_month_152 (by decide) ?_
    refine z_istore_n_ok (pc := 153) (i := 1) C.hx C.hb dX8_month_153 rfl (zlt hn (by decide)) ?_
    exact z_loop_ok (fun J154 hJ154 => zk_X8_month_154 C hn hJ154)
  · refine z_aload_n_ok (pc := 114) (i := 0) C.hx C.hb dX8_month_114 rfl ?_
    refine z_iload_n_ok (pc := 115) (i := 1) C.hx C.hb dX8_month_115 rfl ?_
    refine z_invV_ok (pc := 116) C (by decide +kernel) (zm_X8_reprice X.l C.htr) ⟨rfl, rfl⟩ ⟨by decide, by decide⟩ (by decide) (by decide) zcl_X8_221 zw_1211 zw_40 zK8 dX8_month_116 ?_
    refine z_aload_n_ok (pc := 119) (i := 0) C.hx C.hb dX8_month_119 rfl ?_
    refine z_gf_ok (pc := 120) C zK8 (f := 8) (by decide) zw_865 rfl dX8_month_120 ?_
    refine z_iload_n_ok (pc := 123) (i := 1) C.hx C.hb dX8_month_123 rfl ?_
    refine z_iconst_ok (pc := 124) (v := 0) C.hx C.hb dX8_month_124 (by decide) ?_
    refine z_iast_ok (pc := 125) C dX8_month_125 ?_
    refine z_iinc_ok (pc := 126) (i := 1) (v := 1) C.hx C.hb dX8_month_126 (by decide) (zlt hn (by decide)) ?_
    refine z_goto_ok (pc := 129) (tgt := 108) C.hx C.hb dX8_month_129 (by decide) ?_
    exact hJ108
def zb_X8_month_100 (J79 : ZP) : ZP := (z_inc 1 (1) J79)
set_option maxRecDepth 20000 in
theorem zk_X8_month_100 {X : ZX} (C : zCx X cX8_month RX8 (some .int) 5 112 1 6) (hn : X.nL = 2) {J79 : ZP} (hJ79 : ZOK X 79 J79) : ZOK X 100 (zb_X8_month_100 J79) := by
  unfold zb_X8_month_100
  refine z_iinc_ok (pc := 100) (i := 1) (v := 1) C.hx C.hb dX8_month_100 (by decide) (zlt hn (by decide)) ?_
  refine z_goto_ok (pc := 103) (tgt := 79) C.hx C.hb dX8_month_103 (by decide) ?_
  exact hJ79
def zb_X8_month_79 (J79 : ZP) : ZP := (z_ild 1 (z_ald 0 (z_gf 8 10 (z_cmp (fun x y => y ≤ x) (z_push 0 (z_ist 1 (z_loop (fun J108 => zb_X8_month_108 J108)))) (z_ald 0 (z_ild 1 (z_invV 8 1 sp_X8_isDead (z_if (fun x => x = 0) (z_ald 0 (z_ild 1 (z_invV 8 1 sp_X8_age (zb_X8_month_100 J79)))) (zb_X8_month_100 J79)))))))))
set_option maxRecDepth 20000 in
theorem zk_X8_month_79 {X : ZX} (C : zCx X cX8_month RX8 (some .int) 5 112 1 6) (hn : X.nL = 2) {J79 : ZP} (hJ79 : ZOK X 79 J79) : ZOK X 79 (zb_X8_month_79 J79) := by
  unfold zb_X8_month_79
  refine z_iload_n_ok (pc := 79) (i := 1) C.hx C.hb dX8_month_79 rfl ?_
  refine z_aload_n_ok (pc := 80) (i := 0) C.hx C.hb dX8_month_80 rfl ?_
  refine z_gf_ok (pc := 81) C zK8 (f := 10) (by decide) zw_867 rfl dX8_month_81 ?_
  refine z_icmp_ge_ok (pc := 84) (tgt := 106) C.hx C.hb dX8_month_84 (by decide) ?_ ?_
  · refine z_iconst_ok (pc := 106) (v := 0) C.hx C.hb dX8_month_106 (by decide) ?_
    refine z_istore_n_ok (pc := 107) (i := 1) C.hx C.hb dX8_month_107 rfl (zlt hn (by decide)) ?_
    exact z_loop_ok (fun J108 hJ108 => zk_X8_month_108 C hn hJ108)
  · refine z_aload_n_ok (pc := 87) (i := 0) C.hx C.hb dX8_month_87 rfl ?_
    refine z_iload_n_ok (pc := 88) (i := 1) C.hx C.hb dX8_month_88 rfl ?_
    refine z_invV_ok (pc := 89) C (by decide +kernel) (zm_X8_isDead X.l C.htr) ⟨rfl, rfl⟩ ⟨by decide, by decide⟩ (by decide) (by decide) zcl_X8_151 zw_1060 zw_29 zK8 dX8_month_89 ?_
    refine z_if_ne_ok (pc := 92) (tgt := 100) C.hx C.hb dX8_month_92 (by decide) ?_ ?_
    · exact zk_X8_month_100 C hn hJ79
    · refine z_aload_n_ok (pc := 95) (i := 0) C.hx C.hb dX8_month_95 rfl ?_
      refine z_iload_n_ok (pc := 96) (i := 1) C.hx C.hb dX8_month_96 rfl ?_
      refine z_invV_ok (pc := 97) C (by decide +kernel) (zm_X8_age X.l C.htr) ⟨rfl, rfl⟩ ⟨by decide, by decide⟩ (by decide) (by decide) zcl_X8_217 zw_1203 zw_38 zK8 dX8_month_97 ?_
      exact zk_X8_month_100 C hn hJ79
def zb_X8_month_62 (J27 : ZP) : ZP := (z_bin (fun x y => x + y) (z_iast (z_ald 0 (z_gf 8 39 (z_ild 1 (z_push 0 (z_iast (z_inc 1 (1) J27))))))))
set_option maxRecDepth 20000 in
theorem zk_X8_month_62 {X : ZX} (C : zCx X cX8_month RX8 (some .int) 5 112 1 6) (hn : X.nL = 2) {J27 : ZP} (hJ27 : ZOK X 27 J27) : ZOK X 62 (zb_X8_month_62 J27) := by
  unfold zb_X8_month_62
  refine z_iadd_ok (pc := 62) C.hx C.hb dX8_month_62 ?_
  refine z_iast_ok (pc := 63) C dX8_month_63 ?_
  refine z_aload_n_ok (pc := 64) (i := 0) C.hx C.hb dX8_month_64 rfl ?_
  refine z_gf_ok (pc := 65) C zK8 (f := 39) (by decide) zw_896 rfl dX8_month_65 ?_
  refine z_iload_n_ok (pc := 68) (i := 1) C.hx C.hb dX8_month_68 rfl ?_
  refine z_iconst_ok (pc := 69) (v := 0) C.hx C.hb dX8_month_69 (by decide) ?_
  refine z_iast_ok (pc := 70) C dX8_month_70 ?_
  refine z_iinc_ok (pc := 71) (i := 1) (v := 1) C.hx C.hb dX8_month_71 (by decide) (zlt hn (by decide)) ?_
  refine z_goto_ok (pc := 74) (tgt := 27) C.hx C.hb dX8_month_74 (by decide) ?_
  exact hJ27
def zb_X8_month_27 (J27 : ZP) : ZP := (z_ild 1 (z_ald 0 (z_gf 8 35 (z_cmp (fun x y => y ≤ x) (z_push 0 (z_ist 1 (z_loop (fun J79 => zb_X8_month_79 J79)))) (z_ald 0 (z_gf 8 40 (z_ild 1 (z_dup2 (z_iald (z_ald 0 (z_gf 8 39 (z_ild 1 (z_iald (z_ald 0 (z_gf 8 38 (z_ild 1 (z_iald (z_cmp (fun x y => y ≤ x) (z_push 0 (zb_X8_month_62 J27)) (z_push 1 (zb_X8_month_62 J27))))))))))))))))))))
set_option maxRecDepth 20000 in
theorem zk_X8_month_27 {X : ZX} (C : zCx X cX8_month RX8 (some .int) 5 112 1 6) (hn : X.nL = 2) {J27 : ZP} (hJ27 : ZOK X 27 J27) : ZOK X 27 (zb_X8_month_27 J27) := by
  unfold zb_X8_month_27
  refine z_iload_n_ok (pc := 27) (i := 1) C.hx C.hb dX8_month_27 rfl ?_
  refine z_aload_n_ok (pc := 28) (i := 0) C.hx C.hb dX8_month_28 rfl ?_
  refine z_gf_ok (pc := 29) C zK8 (f := 35) (by decide) zw_892 rfl dX8_month_29 ?_
  refine z_icmp_ge_ok (pc := 32) (tgt := 77) C.hx C.hb dX8_month_32 (by decide) ?_ ?_
  · refine z_iconst_ok (pc := 77) (v := 0) C.hx C.hb dX8_month_77 (by decide) ?_
    refine z_istore_n_ok (pc := 78) (i := 1) C.hx C.hb dX8_month_78 rfl (zlt hn (by decide)) ?_
    exact z_loop_ok (fun J79 hJ79 => zk_X8_month_79 C hn hJ79)
  · refine z_aload_n_ok (pc := 35) (i := 0) C.hx C.hb dX8_month_35 rfl ?_
    refine z_gf_ok (pc := 36) C zK8 (f := 40) (by decide) zw_897 rfl dX8_month_36 ?_
    refine z_iload_n_ok (pc := 39) (i := 1) C.hx C.hb dX8_month_39 rfl ?_
    refine z_dup2_ok (pc := 40) C.hx C.hb dX8_month_40 ?_
    refine z_iald_ok (pc := 41) C dX8_month_41 ?_
    refine z_aload_n_ok (pc := 42) (i := 0) C.hx C.hb dX8_month_42 rfl ?_
    refine z_gf_ok (pc := 43) C zK8 (f := 39) (by decide) zw_896 rfl dX8_month_43 ?_
    refine z_iload_n_ok (pc := 46) (i := 1) C.hx C.hb dX8_month_46 rfl ?_
    refine z_iald_ok (pc := 47) C dX8_month_47 ?_
    refine z_aload_n_ok (pc := 48) (i := 0) C.hx C.hb dX8_month_48 rfl ?_
    refine z_gf_ok (pc := 49) C zK8 (f := 38) (by decide) zw_895 rfl dX8_month_49 ?_
    refine z_iload_n_ok (pc := 52) (i := 1) C.hx C.hb dX8_month_52 rfl ?_
    refine z_iald_ok (pc := 53) C dX8_month_53 ?_
    refine z_icmp_ge_ok (pc := 54) (tgt := 61) C.hx C.hb dX8_month_54 (by decide) ?_ ?_
    · refine z_iconst_ok (pc := 61) (v := 0) C.hx C.hb dX8_month_61 (by decide) ?_
      exact zk_X8_month_62 C hn hJ27
    · refine z_iconst_ok (pc := 57) (v := 1) C.hx C.hb dX8_month_57 (by decide) ?_
      refine z_goto_ok (pc := 58) (tgt := 62) C.hx C.hb dX8_month_58 (by decide) ?_
      exact zk_X8_month_62 C hn hJ27
def zb_X8_month_16 : ZP := (z_push 1 (z_invV 8 2 sp_X8_fails (z_if (fun x => x = 0) (z_push 0 (z_ist 1 (z_loop (fun J27 => zb_X8_month_27 J27)))) (z_push 0 (z_ret 1)))))
set_option maxRecDepth 20000 in
theorem zk_X8_month_16 {X : ZX} (C : zCx X cX8_month RX8 (some .int) 5 112 1 6) (hn : X.nL = 2) : ZOK X 16 (zb_X8_month_16) := by
  unfold zb_X8_month_16
  refine z_iconst_ok (pc := 16) (v := 1) C.hx C.hb dX8_month_16 (by decide) ?_
  refine z_invV_ok (pc := 17) C (by decide +kernel) (zm_X8_fails X.l C.htr) ⟨rfl, rfl⟩ ⟨by decide, by decide⟩ (by decide) (by decide) zcl_X8_137 zw_1016 zw_25 zK8 dX8_month_17 ?_
  refine z_if_eq_ok (pc := 20) (tgt := 25) C.hx C.hb dX8_month_20 (by decide) ?_ ?_
  · refine z_iconst_ok (pc := 25) (v := 0) C.hx C.hb dX8_month_25 (by decide) ?_
    refine z_istore_n_ok (pc := 26) (i := 1) C.hx C.hb dX8_month_26 rfl (zlt hn (by decide)) ?_
    exact z_loop_ok (fun J27 hJ27 => zk_X8_month_27 C hn hJ27)
  · refine z_iconst_ok (pc := 23) (v := 0) C.hx C.hb dX8_month_23 (by decide) ?_
    exact z_iret_ok (pc := 24) C dX8_month_24
def zb_X8_month_0 : ZP := (z_ald 0 (z_ald 0 (z_gf 8 0 (z_push 240 (z_cmp (fun x y => y ≤ x) (z_push 0 zb_X8_month_16) (z_push 1 zb_X8_month_16))))))
set_option maxRecDepth 20000 in
theorem zk_X8_month_0 {X : ZX} (C : zCx X cX8_month RX8 (some .int) 5 112 1 6) (hn : X.nL = 2) : ZOK X 0 (zb_X8_month_0) := by
  unfold zb_X8_month_0
  refine z_aload_n_ok (pc := 0) (i := 0) C.hx C.hb dX8_month_0 rfl ?_
  refine z_aload_n_ok (pc := 1) (i := 0) C.hx C.hb dX8_month_1 rfl ?_
  refine z_gf_ok (pc := 2) C zK8 (f := 0) (by decide) zw_857 rfl dX8_month_2 ?_
  refine z_sipush_ok (pc := 5) (v := 240) C.hx C.hb dX8_month_5 (by decide) ?_
  refine z_icmp_ge_ok (pc := 8) (tgt := 15) C.hx C.hb dX8_month_8 (by decide) ?_ ?_
  · refine z_iconst_ok (pc := 15) (v := 0) C.hx C.hb dX8_month_15 (by decide) ?_
    exact zk_X8_month_16 C hn 
  · refine z_iconst_ok (pc := 11) (v := 1) C.hx C.hb dX8_month_11 (by decide) ?_
    refine z_goto_ok (pc := 12) (tgt := 16) C.hx C.hb dX8_month_12 (by decide) ?_
    exact zk_X8_month_16 C hn 
def sp_X8_month : ZSp := fun as S K => as.length ≤ 2 ∧ zsp 2 zb_X8_month_0 as S K
theorem zm_X8_month (l : Launch) (hl : l.stackTraces = false) : zMet l yX8_month cX8_month 2 (some .int) { frames := 5, cells := 1, slots := 6, locals := 112 } 0 0 sp_X8_month := zMet_of hl (by decide +kernel) ⟨rfl, rfl⟩ (fun X C hn _ => zk_X8_month_0 C hn)
theorem dX8_moves_0 : decode cX8_moves 0 = .ok (.aload_n 0, 1) := by decide +kernel
theorem dX8_moves_1 : decode cX8_moves 1 = .ok (.aload_n 0, 1) := by decide +kernel
theorem dX8_moves_2 : decode cX8_moves 2 = .ok (.iload_n 1, 1) := by decide +kernel
theorem dX8_moves_3 : decode cX8_moves 3 = .ok (.invokevirtual 148, 3) := by decide +kernel
theorem dX8_moves_6 : decode cX8_moves 6 = .ok (.ifCond .eq 15, 3) := by decide +kernel
theorem dX8_moves_9 : decode cX8_moves 9 = .ok (.aload_n 0, 1) := by decide +kernel
theorem dX8_moves_10 : decode cX8_moves 10 = .ok (.iload_n 2, 1) := by decide +kernel
theorem dX8_moves_11 : decode cX8_moves 11 = .ok (.invokevirtual 145, 3) := by decide +kernel
theorem dX8_moves_14 : decode cX8_moves 14 = .ok (.ifCond .eq 7, 3) := by decide +kernel
theorem dX8_moves_17 : decode cX8_moves 17 = .ok (.iconst 1, 1) := by decide +kernel
theorem dX8_moves_18 : decode cX8_moves 18 = .ok (.goto 4, 3) := by decide +kernel
theorem dX8_moves_21 : decode cX8_moves 21 = .ok (.iconst 0, 1) := by decide +kernel
theorem dX8_moves_22 : decode cX8_moves 22 = .ok (.iconst 1, 1) := by decide +kernel
theorem dX8_moves_23 : decode cX8_moves 23 = .ok (.invokevirtual 137, 3) := by decide +kernel
theorem dX8_moves_26 : decode cX8_moves 26 = .ok (.ifCond .eq 5, 3) := by decide +kernel
theorem dX8_moves_29 : decode cX8_moves 29 = .ok (.iconst 0, 1) := by decide +kernel
theorem dX8_moves_30 : decode cX8_moves 30 = .ok (.ireturn, 1) := by decide +kernel
theorem dX8_moves_31 : decode cX8_moves 31 = .ok (.aload_n 0, 1) := by decide +kernel
theorem dX8_moves_32 : decode cX8_moves 32 = .ok (.aload_n 0, 1) := by decide +kernel
theorem dX8_moves_33 : decode cX8_moves 33 = .ok (.iload_n 1, 1) := by decide +kernel
theorem dX8_moves_34 : decode cX8_moves 34 = .ok (.invokevirtual 151, 3) := by decide +kernel
theorem dX8_moves_37 : decode cX8_moves 37 = .ok (.ifCond .ne 7, 3) := by decide +kernel
theorem dX8_moves_40 : decode cX8_moves 40 = .ok (.iconst 1, 1) := by decide +kernel
theorem dX8_moves_41 : decode cX8_moves 41 = .ok (.goto 4, 3) := by decide +kernel
theorem dX8_moves_44 : decode cX8_moves 44 = .ok (.iconst 0, 1) := by decide +kernel
theorem dX8_moves_45 : decode cX8_moves 45 = .ok (.iconst 2, 1) := by decide +kernel
theorem dX8_moves_46 : decode cX8_moves 46 = .ok (.invokevirtual 137, 3) := by decide +kernel
theorem dX8_moves_49 : decode cX8_moves 49 = .ok (.ifCond .eq 5, 3) := by decide +kernel
theorem dX8_moves_52 : decode cX8_moves 52 = .ok (.iconst 0, 1) := by decide +kernel
theorem dX8_moves_53 : decode cX8_moves 53 = .ok (.ireturn, 1) := by decide +kernel
theorem dX8_moves_54 : decode cX8_moves 54 = .ok (.aload_n 0, 1) := by decide +kernel
theorem dX8_moves_55 : decode cX8_moves 55 = .ok (.getfield 41, 3) := by decide +kernel
theorem dX8_moves_58 : decode cX8_moves 58 = .ok (.iload_n 1, 1) := by decide +kernel
theorem dX8_moves_59 : decode cX8_moves 59 = .ok (.iload_n 2, 1) := by decide +kernel
theorem dX8_moves_60 : decode cX8_moves 60 = .ok (.iastore, 1) := by decide +kernel
theorem dX8_moves_61 : decode cX8_moves 61 = .ok (.aload_n 0, 1) := by decide +kernel
theorem dX8_moves_62 : decode cX8_moves 62 = .ok (.getfield 38, 3) := by decide +kernel
theorem dX8_moves_65 : decode cX8_moves 65 = .ok (.iload_n 1, 1) := by decide +kernel
theorem dX8_moves_66 : decode cX8_moves 66 = .ok (.iaload, 1) := by decide +kernel
theorem dX8_moves_67 : decode cX8_moves 67 = .ok (.ireturn, 1) := by decide +kernel
def zb_X8_moves_45 : ZP := (z_push 2 (z_invV 8 2 sp_X8_fails (z_if (fun x => x = 0) (z_ald 0 (z_gf 8 13 (z_ild 1 (z_ild 2 (z_iast (z_ald 0 (z_gf 8 12 (z_ild 1 (z_iald (z_ret 1)))))))))) (z_push 0 (z_ret 1)))))
set_option maxRecDepth 20000 in
theorem zk_X8_moves_45 {X : ZX} (C : zCx X cX8_moves RX8 (some .int) 2 43 1 6) (hn : X.nL = 3) : ZOK X 45 (zb_X8_moves_45) := by
  unfold zb_X8_moves_45
  refine z_iconst_ok (pc := 45) (v := 2) C.hx C.hb dX8_moves_45 (by decide) ?_
  refine z_invV_ok (pc := 46) C (by decide +kernel) (zm_X8_fails X.l C.htr) ⟨rfl, rfl⟩ ⟨by decide, by decide⟩ (by decide) (by decide) zcl_X8_137 zw_1016 zw_25 zK8 dX8_moves_46 ?_
  refine z_if_eq_ok (pc := 49) (tgt := 54) C.hx C.hb dX8_moves_49 (by decide) ?_ ?_
  · refine z_aload_n_ok (pc := 54) (i := 0) C.hx C.hb dX8_moves_54 rfl ?_
    refine z_gf_ok (pc := 55) C zK8 (f := 13) (by decide) zw_870 rfl dX8_moves_55 ?_
    refine z_iload_n_ok (pc := 58) (i := 1) C.hx C.hb dX8_moves_58 rfl ?_
    refine z_iload_n_ok (pc := 59) (i := 2) C.hx C.hb dX8_moves_59 rfl ?_
    refine z_iast_ok (pc := 60) C dX8_moves_60 ?_
    refine z_aload_n_ok (pc := 61) (i := 0) C.hx C.hb dX8_moves_61 rfl ?_
    refine z_gf_ok (pc := 62) C zK8 (f := 12) (by decide) zw_869 rfl dX8_moves_62 ?_
    refine z_iload_n_ok (pc := 65) (i := 1) C.hx C.hb dX8_moves_65 rfl ?_
    refine z_iald_ok (pc := 66) C dX8_moves_66 ?_
    exact z_iret_ok (pc := 67) C dX8_moves_67
  · refine z_iconst_ok (pc := 52) (v := 0) C.hx C.hb dX8_moves_52 (by decide) ?_
    exact z_iret_ok (pc := 53) C dX8_moves_53
def zb_X8_moves_22 : ZP := (z_push 1 (z_invV 8 2 sp_X8_fails (z_if (fun x => x = 0) (z_ald 0 (z_ald 0 (z_ild 1 (z_invV 8 1 sp_X8_isDead (z_if (fun x => x = 0) (z_push 1 zb_X8_moves_45) (z_push 0 zb_X8_moves_45)))))) (z_push 0 (z_ret 1)))))
set_option maxRecDepth 20000 in
theorem zk_X8_moves_22 {X : ZX} (C : zCx X cX8_moves RX8 (some .int) 2 43 1 6) (hn : X.nL = 3) : ZOK X 22 (zb_X8_moves_22) := by
  unfold zb_X8_moves_22
  refine z_iconst_ok (pc := 22) (v := 1) C.hx C.hb dX8_moves_22 (by decide) ?_
  refine z_invV_ok (pc := 23) C (by decide +kernel) (zm_X8_fails X.l C.htr) ⟨rfl, rfl⟩ ⟨by decide, by decide⟩ (by decide) (by decide) zcl_X8_137 zw_1016 zw_25 zK8 dX8_moves_23 ?_
  refine z_if_eq_ok (pc := 26) (tgt := 31) C.hx C.hb dX8_moves_26 (by decide) ?_ ?_
  · refine z_aload_n_ok (pc := 31) (i := 0) C.hx C.hb dX8_moves_31 rfl ?_
    refine z_aload_n_ok (pc := 32) (i := 0) C.hx C.hb dX8_moves_32 rfl ?_
    refine z_iload_n_ok (pc := 33) (i := 1) C.hx C.hb dX8_moves_33 rfl ?_
    refine z_invV_ok (pc := 34) C (by decide +kernel) (zm_X8_isDead X.l C.htr) ⟨rfl, rfl⟩ ⟨by decide, by decide⟩ (by decide) (by decide) zcl_X8_151 zw_1060 zw_29 zK8 dX8_moves_34 ?_
    refine z_if_ne_ok (pc := 37) (tgt := 44) C.hx C.hb dX8_moves_37 (by decide) ?_ ?_
    · refine z_iconst_ok (pc := 44) (v := 0) C.hx C.hb dX8_moves_44 (by decide) ?_
      exact zk_X8_moves_45 C hn 
    · refine z_iconst_ok (pc := 40) (v := 1) C.hx C.hb dX8_moves_40 (by decide) ?_
      refine z_goto_ok (pc := 41) (tgt := 45) C.hx C.hb dX8_moves_41 (by decide) ?_
      exact zk_X8_moves_45 C hn 
  · refine z_iconst_ok (pc := 29) (v := 0) C.hx C.hb dX8_moves_29 (by decide) ?_
    exact z_iret_ok (pc := 30) C dX8_moves_30
def zb_X8_moves_21 : ZP := (z_push 0 zb_X8_moves_22)
set_option maxRecDepth 20000 in
theorem zk_X8_moves_21 {X : ZX} (C : zCx X cX8_moves RX8 (some .int) 2 43 1 6) (hn : X.nL = 3) : ZOK X 21 (zb_X8_moves_21) := by
  unfold zb_X8_moves_21
  refine z_iconst_ok (pc := 21) (v := 0) C.hx C.hb dX8_moves_21 (by decide) ?_
  exact zk_X8_moves_22 C hn 
def zb_X8_moves_0 : ZP := (z_ald 0 (z_ald 0 (z_ild 1 (z_invV 8 1 sp_X8_isOne (z_if (fun x => x = 0) zb_X8_moves_21 (z_ald 0 (z_ild 2 (z_invV 8 1 sp_X8_isShop (z_if (fun x => x = 0) zb_X8_moves_21 (z_push 1 zb_X8_moves_22))))))))))
set_option maxRecDepth 20000 in
theorem zk_X8_moves_0 {X : ZX} (C : zCx X cX8_moves RX8 (some .int) 2 43 1 6) (hn : X.nL = 3) : ZOK X 0 (zb_X8_moves_0) := by
  unfold zb_X8_moves_0
  refine z_aload_n_ok (pc := 0) (i := 0) C.hx C.hb dX8_moves_0 rfl ?_
  refine z_aload_n_ok (pc := 1) (i := 0) C.hx C.hb dX8_moves_1 rfl ?_
  refine z_iload_n_ok (pc := 2) (i := 1) C.hx C.hb dX8_moves_2 rfl ?_
  refine z_invV_ok (pc := 3) C (by decide +kernel) (zm_X8_isOne X.l C.htr) ⟨rfl, rfl⟩ ⟨by decide, by decide⟩ (by decide) (by decide) zcl_X8_148 zw_1056 zw_28 zK8 dX8_moves_3 ?_
  refine z_if_eq_ok (pc := 6) (tgt := 21) C.hx C.hb dX8_moves_6 (by decide) ?_ ?_
  · exact zk_X8_moves_21 C hn 
  · refine z_aload_n_ok (pc := 9) (i := 0) C.hx C.hb dX8_moves_9 rfl ?_
    refine z_iload_n_ok (pc := 10) (i := 2) C.hx C.hb dX8_moves_10 rfl ?_
    refine z_invV_ok (pc := 11) C (by decide +kernel) (zm_X8_isShop X.l C.htr) ⟨rfl, rfl⟩ ⟨by decide, by decide⟩ (by decide) (by decide) zcl_X8_145 zw_1048 zw_27 zK8 dX8_moves_11 ?_
    refine z_if_eq_ok (pc := 14) (tgt := 21) C.hx C.hb dX8_moves_14 (by decide) ?_ ?_
    · exact zk_X8_moves_21 C hn 
    · refine z_iconst_ok (pc := 17) (v := 1) C.hx C.hb dX8_moves_17 (by decide) ?_
      refine z_goto_ok (pc := 18) (tgt := 22) C.hx C.hb dX8_moves_18 (by decide) ?_
      exact zk_X8_moves_22 C hn 
def sp_X8_moves : ZSp := fun as S K => as.length ≤ 3 ∧ zsp 3 zb_X8_moves_0 as S K
theorem zm_X8_moves (l : Launch) (hl : l.stackTraces = false) : zMet l yX8_moves cX8_moves 3 (some .int) { frames := 2, cells := 1, slots := 6, locals := 43 } 0 0 sp_X8_moves := zMet_of hl (by decide +kernel) ⟨rfl, rfl⟩ (fun X C hn _ => zk_X8_moves_0 C hn)
theorem dX8_onPoints_0 : decode cX8_onPoints 0 = .ok (.aload_n 0, 1) := by decide +kernel
theorem dX8_onPoints_1 : decode cX8_onPoints 1 = .ok (.iload_n 1, 1) := by decide +kernel
theorem dX8_onPoints_2 : decode cX8_onPoints 2 = .ok (.invokestatic 133, 3) := by decide +kernel
theorem dX8_onPoints_5 : decode cX8_onPoints 5 = .ok (.iconst 1, 1) := by decide +kernel
theorem dX8_onPoints_6 : decode cX8_onPoints 6 = .ok (.invokevirtual 137, 3) := by decide +kernel
theorem dX8_onPoints_9 : decode cX8_onPoints 9 = .ok (.ifCond .eq 5, 3) := by decide +kernel
theorem dX8_onPoints_12 : decode cX8_onPoints 12 = .ok (.iconst 0, 1) := by decide +kernel
theorem dX8_onPoints_13 : decode cX8_onPoints 13 = .ok (.ireturn, 1) := by decide +kernel
theorem dX8_onPoints_14 : decode cX8_onPoints 14 = .ok (.aload_n 0, 1) := by decide +kernel
theorem dX8_onPoints_15 : decode cX8_onPoints 15 = .ok (.iload_n 2, 1) := by decide +kernel
theorem dX8_onPoints_16 : decode cX8_onPoints 16 = .ok (.iconst 1, 1) := by decide +kernel
theorem dX8_onPoints_17 : decode cX8_onPoints 17 = .ok (.bipush 24, 2) := by decide +kernel
theorem dX8_onPoints_19 : decode cX8_onPoints 19 = .ok (.invokestatic 120, 3) := by decide +kernel
theorem dX8_onPoints_22 : decode cX8_onPoints 22 = .ok (.iconst 2, 1) := by decide +kernel
theorem dX8_onPoints_23 : decode cX8_onPoints 23 = .ok (.invokevirtual 137, 3) := by decide +kernel
theorem dX8_onPoints_26 : decode cX8_onPoints 26 = .ok (.ifCond .eq 5, 3) := by decide +kernel
theorem dX8_onPoints_29 : decode cX8_onPoints 29 = .ok (.iconst 0, 1) := by decide +kernel
theorem dX8_onPoints_30 : decode cX8_onPoints 30 = .ok (.ireturn, 1) := by decide +kernel
theorem dX8_onPoints_31 : decode cX8_onPoints 31 = .ok (.aload_n 0, 1) := by decide +kernel
theorem dX8_onPoints_32 : decode cX8_onPoints 32 = .ok (.getfield 16, 3) := by decide +kernel
theorem dX8_onPoints_35 : decode cX8_onPoints 35 = .ok (.iload_n 1, 1) := by decide +kernel
theorem dX8_onPoints_36 : decode cX8_onPoints 36 = .ok (.iaload, 1) := by decide +kernel
theorem dX8_onPoints_37 : decode cX8_onPoints 37 = .ok (.istore_n 3, 1) := by decide +kernel
theorem dX8_onPoints_38 : decode cX8_onPoints 38 = .ok (.aload_n 0, 1) := by decide +kernel
theorem dX8_onPoints_39 : decode cX8_onPoints 39 = .ok (.getfield 16, 3) := by decide +kernel
theorem dX8_onPoints_42 : decode cX8_onPoints 42 = .ok (.iload_n 1, 1) := by decide +kernel
theorem dX8_onPoints_43 : decode cX8_onPoints 43 = .ok (.iconst 1, 1) := by decide +kernel
theorem dX8_onPoints_44 : decode cX8_onPoints 44 = .ok (.iastore, 1) := by decide +kernel
theorem dX8_onPoints_45 : decode cX8_onPoints 45 = .ok (.aload_n 0, 1) := by decide +kernel
theorem dX8_onPoints_46 : decode cX8_onPoints 46 = .ok (.getfield 23, 3) := by decide +kernel
theorem dX8_onPoints_49 : decode cX8_onPoints 49 = .ok (.iload_n 1, 1) := by decide +kernel
theorem dX8_onPoints_50 : decode cX8_onPoints 50 = .ok (.iload_n 2, 1) := by decide +kernel
theorem dX8_onPoints_51 : decode cX8_onPoints 51 = .ok (.iastore, 1) := by decide +kernel
theorem dX8_onPoints_52 : decode cX8_onPoints 52 = .ok (.iload_n 3, 1) := by decide +kernel
theorem dX8_onPoints_53 : decode cX8_onPoints 53 = .ok (.ireturn, 1) := by decide +kernel
def zb_X8_onPoints_0 : ZP := (z_ald 0 (z_ild 1 (z_invS 1 sp_X8_isGood (z_push 1 (z_invV 8 2 sp_X8_fails (z_if (fun x => x = 0) (z_ald 0 (z_ild 2 (z_push 1 (z_push 24 (z_invS 3 sp_X8_in (z_push 2 (z_invV 8 2 sp_X8_fails (z_if (fun x => x = 0) (z_ald 0 (z_gf 8 4 (z_ild 1 (z_iald (z_ist 3 (z_ald 0 (z_gf 8 4 (z_ild 1 (z_push 1 (z_iast (z_ald 0 (z_gf 8 6 (z_ild 1 (z_ild 2 (z_iast (z_ild 3 (z_ret 1))))))))))))))))) (z_push 0 (z_ret 1)))))))))) (z_push 0 (z_ret 1))))))))
set_option maxRecDepth 20000 in
theorem zk_X8_onPoints_0 {X : ZX} (C : zCx X cX8_onPoints RX8 (some .int) 2 42 1 6) (hn : X.nL = 4) : ZOK X 0 (zb_X8_onPoints_0) := by
  unfold zb_X8_onPoints_0
  refine z_aload_n_ok (pc := 0) (i := 0) C.hx C.hb dX8_onPoints_0 rfl ?_
  refine z_iload_n_ok (pc := 1) (i := 1) C.hx C.hb dX8_onPoints_1 rfl ?_
  refine z_invS_ok (pc := 2) C (by decide +kernel) (zm_X8_isGood X.l C.htr) ⟨rfl, rfl⟩ ⟨by decide, by decide⟩ (by decide) (by decide) zcl_X8_133 zw_1009 dX8_onPoints_2 ?_
  refine z_iconst_ok (pc := 5) (v := 1) C.hx C.hb dX8_onPoints_5 (by decide) ?_
  refine z_invV_ok (pc := 6) C (by decide +kernel) (zm_X8_fails X.l C.htr) ⟨rfl, rfl⟩ ⟨by decide, by decide⟩ (by decide) (by decide) zcl_X8_137 zw_1016 zw_25 zK8 dX8_onPoints_6 ?_
  refine z_if_eq_ok (pc := 9) (tgt := 14) C.hx C.hb dX8_onPoints_9 (by decide) ?_ ?_
  · refine z_aload_n_ok (pc := 14) (i := 0) C.hx C.hb dX8_onPoints_14 rfl ?_
    refine z_iload_n_ok (pc := 15) (i := 2) C.hx C.hb dX8_onPoints_15 rfl ?_
    refine z_iconst_ok (pc := 16) (v := 1) C.hx C.hb dX8_onPoints_16 (by decide) ?_
    refine z_bipush_ok (pc := 17) (v := 24) C.hx C.hb dX8_onPoints_17 (by decide) ?_
    refine z_invS_ok (pc := 19) C (by decide +kernel) (zm_X8_in X.l C.htr) ⟨rfl, rfl⟩ ⟨by decide, by decide⟩ (by decide) (by decide) zcl_X8_120 zw_1012 dX8_onPoints_19 ?_
    refine z_iconst_ok (pc := 22) (v := 2) C.hx C.hb dX8_onPoints_22 (by decide) ?_
    refine z_invV_ok (pc := 23) C (by decide +kernel) (zm_X8_fails X.l C.htr) ⟨rfl, rfl⟩ ⟨by decide, by decide⟩ (by decide) (by decide) zcl_X8_137 zw_1016 zw_25 zK8 dX8_onPoints_23 ?_
    refine z_if_eq_ok (pc := 26) (tgt := 31) C.hx C.hb dX8_onPoints_26 (by decide) ?_ ?_
    · refine z_aload_n_ok (pc := 31) (i := 0) C.hx C.hb dX8_onPoints_31 rfl ?_
      refine z_gf_ok (pc := 32) C zK8 (f := 4) (by decide) zw_861 rfl dX8_onPoints_32 ?_
      refine z_iload_n_ok (pc := 35) (i := 1) C.hx C.hb dX8_onPoints_35 rfl ?_
      refine z_iald_ok (pc := 36) C dX8_onPoints_36 ?_
      refine z_istore_n_ok (pc := 37) (i := 3) C.hx C.hb dX8_onPoints_37 rfl (zlt hn (by decide)) ?_
      refine z_aload_n_ok (pc := 38) (i := 0) C.hx C.hb dX8_onPoints_38 rfl ?_
      refine z_gf_ok (pc := 39) C zK8 (f := 4) (by decide) zw_861 rfl dX8_onPoints_39 ?_
      refine z_iload_n_ok (pc := 42) (i := 1) C.hx C.hb dX8_onPoints_42 rfl ?_
      refine z_iconst_ok (pc := 43) (v := 1) C.hx C.hb dX8_onPoints_43 (by decide) ?_
      refine z_iast_ok (pc := 44) C dX8_onPoints_44 ?_
      refine z_aload_n_ok (pc := 45) (i := 0) C.hx C.hb dX8_onPoints_45 rfl ?_
      refine z_gf_ok (pc := 46) C zK8 (f := 6) (by decide) zw_863 rfl dX8_onPoints_46 ?_
      refine z_iload_n_ok (pc := 49) (i := 1) C.hx C.hb dX8_onPoints_49 rfl ?_
      refine z_iload_n_ok (pc := 50) (i := 2) C.hx C.hb dX8_onPoints_50 rfl ?_
      refine z_iast_ok (pc := 51) C dX8_onPoints_51 ?_
      refine z_iload_n_ok (pc := 52) (i := 3) C.hx C.hb dX8_onPoints_52 rfl ?_
      exact z_iret_ok (pc := 53) C dX8_onPoints_53
    · refine z_iconst_ok (pc := 29) (v := 0) C.hx C.hb dX8_onPoints_29 (by decide) ?_
      exact z_iret_ok (pc := 30) C dX8_onPoints_30
  · refine z_iconst_ok (pc := 12) (v := 0) C.hx C.hb dX8_onPoints_12 (by decide) ?_
    exact z_iret_ok (pc := 13) C dX8_onPoints_13
def sp_X8_onPoints : ZSp := fun as S K => as.length ≤ 4 ∧ zsp 4 zb_X8_onPoints_0 as S K
theorem zm_X8_onPoints (l : Launch) (hl : l.stackTraces = false) : zMet l yX8_onPoints cX8_onPoints 4 (some .int) { frames := 2, cells := 1, slots := 6, locals := 42 } 0 0 sp_X8_onPoints := zMet_of hl (by decide +kernel) ⟨rfl, rfl⟩ (fun X C hn _ => zk_X8_onPoints_0 C hn)
theorem dX8_over_0 : decode cX8_over 0 = .ok (.iconst 0, 1) := by decide +kernel
theorem dX8_over_1 : decode cX8_over 1 = .ok (.istore_n 2, 1) := by decide +kernel
theorem dX8_over_2 : decode cX8_over 2 = .ok (.iconst 0, 1) := by decide +kernel
theorem dX8_over_3 : decode cX8_over 3 = .ok (.istore_n 3, 1) := by decide +kernel
theorem dX8_over_4 : decode cX8_over 4 = .ok (.iload_n 3, 1) := by decide +kernel
theorem dX8_over_5 : decode cX8_over 5 = .ok (.bipush 36, 2) := by decide +kernel
theorem dX8_over_7 : decode cX8_over 7 = .ok (.if_icmp .ge 31, 3) := by decide +kernel
theorem dX8_over_10 : decode cX8_over 10 = .ok (.iload_n 2, 1) := by decide +kernel
theorem dX8_over_11 : decode cX8_over 11 = .ok (.iload_n 1, 1) := by decide +kernel
theorem dX8_over_12 : decode cX8_over 12 = .ok (.ifCond .eq 12, 3) := by decide +kernel
theorem dX8_over_15 : decode cX8_over 15 = .ok (.aload_n 0, 1) := by decide +kernel
theorem dX8_over_16 : decode cX8_over 16 = .ok (.getfield 84, 3) := by decide +kernel
theorem dX8_over_19 : decode cX8_over 19 = .ok (.iload_n 3, 1) := by decide +kernel
theorem dX8_over_20 : decode cX8_over 20 = .ok (.iaload, 1) := by decide +kernel
theorem dX8_over_21 : decode cX8_over 21 = .ok (.goto 9, 3) := by decide +kernel
theorem dX8_over_24 : decode cX8_over 24 = .ok (.aload_n 0, 1) := by decide +kernel
theorem dX8_over_25 : decode cX8_over 25 = .ok (.getfield 78, 3) := by decide +kernel
theorem dX8_over_28 : decode cX8_over 28 = .ok (.iload_n 3, 1) := by decide +kernel
theorem dX8_over_29 : decode cX8_over 29 = .ok (.iaload, 1) := by decide +kernel
theorem dX8_over_30 : decode cX8_over 30 = .ok (.iadd, 1) := by decide +kernel
theorem dX8_over_31 : decode cX8_over 31 = .ok (.istore_n 2, 1) := by decide +kernel
theorem dX8_over_32 : decode cX8_over 32 = .ok (.iinc 3 1, 3) := by decide +kernel
theorem dX8_over_35 : decode cX8_over 35 = .ok (.goto (-31), 3) := by decide +kernel
theorem dX8_over_38 : decode cX8_over 38 = .ok (.iload_n 2, 1) := by decide +kernel
theorem dX8_over_39 : decode cX8_over 39 = .ok (.ireturn, 1) := by decide +kernel
def zb_X8_over_30 (J4 : ZP) : ZP := (z_bin (fun x y => x + y) (z_ist 2 (z_inc 3 (1) J4)))
set_option maxRecDepth 20000 in
theorem zk_X8_over_30 {X : ZX} (C : zCx X cX8_over RX8 (some .int) 0 0 1 6) (hn : X.nL = 4) {J4 : ZP} (hJ4 : ZOK X 4 J4) : ZOK X 30 (zb_X8_over_30 J4) := by
  unfold zb_X8_over_30
  refine z_iadd_ok (pc := 30) C.hx C.hb dX8_over_30 ?_
  refine z_istore_n_ok (pc := 31) (i := 2) C.hx C.hb dX8_over_31 rfl (zlt hn (by decide)) ?_
  refine z_iinc_ok (pc := 32) (i := 3) (v := 1) C.hx C.hb dX8_over_32 (by decide) (zlt hn (by decide)) ?_
  refine z_goto_ok (pc := 35) (tgt := 4) C.hx C.hb dX8_over_35 (by decide) ?_
  exact hJ4
def zb_X8_over_4 (J4 : ZP) : ZP := (z_ild 3 (z_push 36 (z_cmp (fun x y => y ≤ x) (z_ild 2 (z_ret 1)) (z_ild 2 (z_ild 1 (z_if (fun x => x = 0) (z_ald 0 (z_gf 8 27 (z_ild 3 (z_iald (zb_X8_over_30 J4))))) (z_ald 0 (z_gf 8 30 (z_ild 3 (z_iald (zb_X8_over_30 J4)))))))))))
set_option maxRecDepth 20000 in
theorem zk_X8_over_4 {X : ZX} (C : zCx X cX8_over RX8 (some .int) 0 0 1 6) (hn : X.nL = 4) {J4 : ZP} (hJ4 : ZOK X 4 J4) : ZOK X 4 (zb_X8_over_4 J4) := by
  unfold zb_X8_over_4
  refine z_iload_n_ok (pc := 4) (i := 3) C.hx C.hb dX8_over_4 rfl ?_
  refine z_bipush_ok (pc := 5) (v := 36) C.hx C.hb dX8_over_5 (by decide) ?_
  refine z_icmp_ge_ok (pc := 7) (tgt := 38) C.hx C.hb dX8_over_7 (by decide) ?_ ?_
  · refine z_iload_n_ok (pc := 38) (i := 2) C.hx C.hb dX8_over_38 rfl ?_
    exact z_iret_ok (pc := 39) C dX8_over_39
  · refine z_iload_n_ok (pc := 10) (i := 2) C.hx C.hb dX8_over_10 rfl ?_
    refine z_iload_n_ok (pc := 11) (i := 1) C.hx C.hb dX8_over_11 rfl ?_
    refine z_if_eq_ok (pc := 12) (tgt := 24) C.hx C.hb dX8_over_12 (by decide) ?_ ?_
    · refine z_aload_n_ok (pc := 24) (i := 0) C.hx C.hb dX8_over_24 rfl ?_
      refine z_gf_ok (pc := 25) C zK8 (f := 27) (by decide) zw_884 rfl dX8_over_25 ?_
      refine z_iload_n_ok (pc := 28) (i := 3) C.hx C.hb dX8_over_28 rfl ?_
      refine z_iald_ok (pc := 29) C dX8_over_29 ?_
      exact zk_X8_over_30 C hn hJ4
    · refine z_aload_n_ok (pc := 15) (i := 0) C.hx C.hb dX8_over_15 rfl ?_
      refine z_gf_ok (pc := 16) C zK8 (f := 30) (by decide) zw_887 rfl dX8_over_16 ?_
      refine z_iload_n_ok (pc := 19) (i := 3) C.hx C.hb dX8_over_19 rfl ?_
      refine z_iald_ok (pc := 20) C dX8_over_20 ?_
      refine z_goto_ok (pc := 21) (tgt := 30) C.hx C.hb dX8_over_21 (by decide) ?_
      exact zk_X8_over_30 C hn hJ4
def zb_X8_over_0 : ZP := (z_push 0 (z_ist 2 (z_push 0 (z_ist 3 (z_loop (fun J4 => zb_X8_over_4 J4))))))
set_option maxRecDepth 20000 in
theorem zk_X8_over_0 {X : ZX} (C : zCx X cX8_over RX8 (some .int) 0 0 1 6) (hn : X.nL = 4) : ZOK X 0 (zb_X8_over_0) := by
  unfold zb_X8_over_0
  refine z_iconst_ok (pc := 0) (v := 0) C.hx C.hb dX8_over_0 (by decide) ?_
  refine z_istore_n_ok (pc := 1) (i := 2) C.hx C.hb dX8_over_1 rfl (zlt hn (by decide)) ?_
  refine z_iconst_ok (pc := 2) (v := 0) C.hx C.hb dX8_over_2 (by decide) ?_
  refine z_istore_n_ok (pc := 3) (i := 3) C.hx C.hb dX8_over_3 rfl (zlt hn (by decide)) ?_
  exact z_loop_ok (fun J4 hJ4 => zk_X8_over_4 C hn hJ4)
def sp_X8_over : ZSp := fun as S K => as.length ≤ 4 ∧ zsp 4 zb_X8_over_0 as S K
theorem zm_X8_over (l : Launch) (hl : l.stackTraces = false) : zMet l yX8_over cX8_over 4 (some .int) { frames := 0, cells := 1, slots := 6, locals := 0 } 0 0 sp_X8_over := zMet_of hl (by decide +kernel) ⟨rfl, rfl⟩ (fun X C hn _ => zk_X8_over_0 C hn)
