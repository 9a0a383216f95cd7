theorem dX7_free_0 : decode cX7_free 0 = .ok (.aload_n 0, 1) := by decide +kernel
theorem dX7_free_1 : decode cX7_free 1 = .ok (.iload_n 1, 1) := by decide +kernel
theorem dX7_free_2 : decode cX7_free 2 = .ok (.invokevirtual 88, 3) := by decide +kernel
theorem dX7_free_5 : decode cX7_free 5 = .ok (.iconst 2, 1) := by decide +kernel
theorem dX7_free_6 : decode cX7_free 6 = .ok (.iconst 0, 1) := by decide +kernel
theorem dX7_free_7 : decode cX7_free 7 = .ok (.invokestatic 96, 3) := by decide +kernel
theorem dX7_free_10 : decode cX7_free 10 = .ok (.ireturn, 1) := by decide +kernel
def zb_X7_free_0 : ZP := (z_ald 0 (z_ild 1 (z_invV 7 1 sp_X7_knownGood (z_push 2 (z_push 0 (z_invS 3 sp_X7_changeGood (z_ret 1)))))))
set_option maxRecDepth 20000 in
theorem zk_X7_free_0 {X : ZX} (C : zCx X cX7_free RX7 (some .int) 7 111 1 6) (hn : X.nL = 2) : ZOK X 0 (zb_X7_free_0) := by
  unfold zb_X7_free_0
  refine z_aload_n_ok (pc := 0) (i := 0) C.hx C.hb dX7_free_0 rfl ?_
  refine z_iload_n_ok (pc := 1) (i := 1) C.hx C.hb dX7_free_1 rfl ?_
  refine z_invV_ok (pc := 2) C (by decide +kernel) (zm_X7_knownGood X.l C.htr) ⟨rfl, rfl⟩ ⟨by decide, by decide⟩ (by decide) (by decide) zcl_X7_88 zw_172 zw_0 zK7 dX7_free_2 ?_
  refine z_iconst_ok (pc := 5) (v := 2) C.hx C.hb dX7_free_5 (by decide) ?_
  refine z_iconst_ok (pc := 6) (v := 0) C.hx C.hb dX7_free_6 (by decide) ?_
  refine z_invS_ok (pc := 7) C (by decide +kernel) (zm_X7_changeGood X.l C.htr) ⟨rfl, rfl⟩ ⟨by decide, by decide⟩ (by decide) (by decide) zcl_X7_96 zw_262 dX7_free_7 ?_
  exact z_iret_ok (pc := 10) C dX7_free_10
def sp_X7_free : ZSp := fun as S K => as.length ≤ 2 ∧ zsp 2 zb_X7_free_0 as S K
theorem zm_X7_free (l : Launch) (hl : l.stackTraces = false) : zMet l yX7_free cX7_free 2 (some .int) { frames := 7, cells := 1, slots := 6, locals := 111 } 0 0 sp_X7_free := zMet_of hl (by decide +kernel) ⟨rfl, rfl⟩ (fun X C hn _ => zk_X7_free_0 C hn)
theorem dX7_requireBook_0 : decode cX7_requireBook 0 = .ok (.aload_n 0, 1) := by decide +kernel
theorem dX7_requireBook_1 : decode cX7_requireBook 1 = .ok (.invokevirtual 352, 3) := by decide +kernel
theorem dX7_requireBook_4 : decode cX7_requireBook 4 = .ok (.ifCond .eq 14, 3) := by decide +kernel
theorem dX7_requireBook_7 : decode cX7_requireBook 7 = .ok (.new 165, 3) := by decide +kernel
theorem dX7_requireBook_10 : decode cX7_requireBook 10 = .ok (.dup, 1) := by decide +kernel
theorem dX7_requireBook_11 : decode cX7_requireBook 11 = .ok (.ldc_w 355, 3) := by decide +kernel
theorem dX7_requireBook_14 : decode cX7_requireBook 14 = .ok (.invokespecial 169, 3) := by decide +kernel
theorem dX7_requireBook_17 : decode cX7_requireBook 17 = .ok (.athrow, 1) := by decide +kernel
theorem dX7_requireBook_18 : decode cX7_requireBook 18 = .ok (.return_, 1) := by decide +kernel
def zb_X7_requireBook_0 : ZP := (z_ald 0 (z_invV 3 0 sp_X3_isWithoutBook (z_if (fun x => x = 0) (z_ret 0) (z_throw 3))))
set_option maxRecDepth 20000 in
theorem zk_X7_requireBook_0 {X : ZX} (C : zCx X cX7_requireBook RX7 none 6 90 1 6) (hn : X.nL = 1) : ZOK X 0 (zb_X7_requireBook_0) := by
  unfold zb_X7_requireBook_0
  refine z_aload_n_ok (pc := 0) (i := 0) C.hx C.hb dX7_requireBook_0 rfl ?_
  refine z_invV_ok (pc := 1) C (by decide +kernel) (zm_X3_isWithoutBook X.l C.htr) ⟨rfl, rfl⟩ ⟨by decide, by decide⟩ (by decide) (by decide) zcl_X7_352 zw_376 zw_377 zK3 dX7_requireBook_1 ?_
  refine z_if_eq_ok (pc := 4) (tgt := 18) C.hx C.hb dX7_requireBook_4 (by decide) ?_ ?_
  · exact z_vret_ok (pc := 18) C dX7_requireBook_18
  · exact z_throwSW_ok (pc := 7) (text := "they are dead, or the book is stolen") C zth_165_169 (by decide +kernel) dX7_requireBook_7 dX7_requireBook_10 dX7_requireBook_11 dX7_requireBook_14 dX7_requireBook_17 (by decide +kernel) (by decide) (by decide) (by decide) (by decide)
def sp_X7_requireBook : ZSp := fun as S K => as.length ≤ 1 ∧ zsp 1 zb_X7_requireBook_0 as S K
theorem zm_X7_requireBook (l : Launch) (hl : l.stackTraces = false) : zMet l yX7_requireBook cX7_requireBook 1 none { frames := 6, cells := 1, slots := 6, locals := 90 } 0 0 sp_X7_requireBook := zMet_of hl (by decide +kernel) ⟨rfl, rfl⟩ (fun X C hn _ => zk_X7_requireBook_0 C hn)
theorem dX7_give_0 : decode cX7_give 0 = .ok (.aload_n 0, 1) := by decide +kernel
theorem dX7_give_1 : decode cX7_give 1 = .ok (.iload_n 1, 1) := by decide +kernel
theorem dX7_give_2 : decode cX7_give 2 = .ok (.invokevirtual 130, 3) := by decide +kernel
theorem dX7_give_5 : decode cX7_give 5 = .ok (.astore 4, 2) := by decide +kernel
theorem dX7_give_7 : decode cX7_give 7 = .ok (.aload_n 0, 1) := by decide +kernel
theorem dX7_give_8 : decode cX7_give 8 = .ok (.iload_n 2, 1) := by decide +kernel
theorem dX7_give_9 : decode cX7_give 9 = .ok (.invokevirtual 130, 3) := by decide +kernel
theorem dX7_give_12 : decode cX7_give 12 = .ok (.astore 5, 2) := by decide +kernel
theorem dX7_give_14 : decode cX7_give 14 = .ok (.iload_n 1, 1) := by decide +kernel
theorem dX7_give_15 : decode cX7_give 15 = .ok (.iload_n 2, 1) := by decide +kernel
theorem dX7_give_16 : decode cX7_give 16 = .ok (.if_icmp .ne 13, 3) := by decide +kernel
theorem dX7_give_19 : decode cX7_give 19 = .ok (.new 151, 3) := by decide +kernel
theorem dX7_give_22 : decode cX7_give 22 = .ok (.dup, 1) := by decide +kernel
theorem dX7_give_23 : decode cX7_give 23 = .ok (.ldc 153, 2) := by decide +kernel
theorem dX7_give_25 : decode cX7_give 25 = .ok (.invokespecial 155, 3) := by decide +kernel
theorem dX7_give_28 : decode cX7_give 28 = .ok (.athrow, 1) := by decide +kernel
theorem dX7_give_29 : decode cX7_give 29 = .ok (.iload_n 3, 1) := by decide +kernel
theorem dX7_give_30 : decode cX7_give 30 = .ok (.iconst 1, 1) := by decide +kernel
theorem dX7_give_31 : decode cX7_give 31 = .ok (.bipush 99, 2) := by decide +kernel
theorem dX7_give_33 : decode cX7_give 33 = .ok (.invokestatic 92, 3) := by decide +kernel
theorem dX7_give_36 : decode cX7_give 36 = .ok (.aload 4, 2) := by decide +kernel
theorem dX7_give_38 : decode cX7_give 38 = .ok (.invokestatic 158, 3) := by decide +kernel
theorem dX7_give_41 : decode cX7_give 41 = .ok (.aload 5, 2) := by decide +kernel
theorem dX7_give_43 : decode cX7_give 43 = .ok (.invokestatic 158, 3) := by decide +kernel
theorem dX7_give_46 : decode cX7_give 46 = .ok (.aload_n 0, 1) := by decide +kernel
theorem dX7_give_47 : decode cX7_give 47 = .ok (.aload 4, 2) := by decide +kernel
theorem dX7_give_49 : decode cX7_give 49 = .ok (.invokevirtual 161, 3) := by decide +kernel
theorem dX7_give_52 : decode cX7_give 52 = .ok (.iload_n 3, 1) := by decide +kernel
theorem dX7_give_53 : decode cX7_give 53 = .ok (.if_icmp .ge 13, 3) := by decide +kernel
theorem dX7_give_56 : decode cX7_give 56 = .ok (.new 165, 3) := by decide +kernel
theorem dX7_give_59 : decode cX7_give 59 = .ok (.dup, 1) := by decide +kernel
theorem dX7_give_60 : decode cX7_give 60 = .ok (.ldc 167, 2) := by decide +kernel
theorem dX7_give_62 : decode cX7_give 62 = .ok (.invokespecial 169, 3) := by decide +kernel
theorem dX7_give_65 : decode cX7_give 65 = .ok (.athrow, 1) := by decide +kernel
theorem dX7_give_66 : decode cX7_give 66 = .ok (.aload 4, 2) := by decide +kernel
theorem dX7_give_68 : decode cX7_give 68 = .ok (.dup, 1) := by decide +kernel
theorem dX7_give_69 : decode cX7_give 69 = .ok (.getfield 170, 3) := by decide +kernel
theorem dX7_give_72 : decode cX7_give 72 = .ok (.iload_n 3, 1) := by decide +kernel
theorem dX7_give_73 : decode cX7_give 73 = .ok (.iadd, 1) := by decide +kernel
theorem dX7_give_74 : decode cX7_give 74 = .ok (.putfield 170, 3) := by decide +kernel
theorem dX7_give_77 : decode cX7_give 77 = .ok (.aload 5, 2) := by decide +kernel
theorem dX7_give_79 : decode cX7_give 79 = .ok (.dup, 1) := by decide +kernel
theorem dX7_give_80 : decode cX7_give 80 = .ok (.getfield 173, 3) := by decide +kernel
theorem dX7_give_83 : decode cX7_give 83 = .ok (.iload_n 3, 1) := by decide +kernel
theorem dX7_give_84 : decode cX7_give 84 = .ok (.iadd, 1) := by decide +kernel
theorem dX7_give_85 : decode cX7_give 85 = .ok (.putfield 173, 3) := by decide +kernel
theorem dX7_give_88 : decode cX7_give 88 = .ok (.aload_n 0, 1) := by decide +kernel
theorem dX7_give_89 : decode cX7_give 89 = .ok (.aload 5, 2) := by decide +kernel
theorem dX7_give_91 : decode cX7_give 91 = .ok (.invokevirtual 161, 3) := by decide +kernel
theorem dX7_give_94 : decode cX7_give 94 = .ok (.ireturn, 1) := by decide +kernel
def zb_X7_give_0 : ZP := (z_ald 0 (z_ild 1 (z_invV 7 1 sp_X7_knownPerson (z_ast 4 (z_ald 0 (z_ild 2 (z_invV 7 1 sp_X7_knownPerson (z_ast 5 (z_ild 1 (z_ild 2 (z_cmp (fun x y => x = y) (z_throw 2) (z_ild 3 (z_push 1 (z_push 99 (z_invS 3 sp_X7_requireRange (z_ald 4 (z_invS 1 sp_X7_requireBook (z_ald 5 (z_invS 1 sp_X7_requireBook (z_ald 0 (z_ald 4 (z_invV 7 1 sp_X7_pointsLeft (z_ild 3 (z_cmp (fun x y => y ≤ x) (z_ald 4 (z_dup (z_gf 3 8 (z_ild 3 (z_bin (fun x y => x + y) (z_pf 3 8 (z_ald 5 (z_dup (z_gf 3 7 (z_ild 3 (z_bin (fun x y => x + y) (z_pf 3 7 (z_ald 0 (z_ald 5 (z_invV 7 1 sp_X7_pointsLeft (z_ret 1)))))))))))))))) (z_throw 3)))))))))))))))))))))))))
set_option maxRecDepth 20000 in
theorem zk_X7_give_0 {X : ZX} (C : zCx X cX7_give RX7 (some .int) 7 112 1 6) (hn : X.nL = 6) : ZOK X 0 (zb_X7_give_0) := by
  unfold zb_X7_give_0
  refine z_aload_n_ok (pc := 0) (i := 0) C.hx C.hb dX7_give_0 rfl ?_
  refine z_iload_n_ok (pc := 1) (i := 1) C.hx C.hb dX7_give_1 rfl ?_
  refine z_invV_ok (pc := 2) C (by decide +kernel) (zm_X7_knownPerson X.l C.htr) ⟨rfl, rfl⟩ ⟨by decide, by decide⟩ (by decide) (by decide) zcl_X7_130 zw_368 zw_4 zK7 dX7_give_2 ?_
  refine z_astore_ok (pc := 5) (i := 4) C.hx C.hb dX7_give_5 (zlt hn (by decide)) ?_
  refine z_aload_n_ok (pc := 7) (i := 0) C.hx C.hb dX7_give_7 rfl ?_
  refine z_iload_n_ok (pc := 8) (i := 2) C.hx C.hb dX7_give_8 rfl ?_
  refine z_invV_ok (pc := 9) C (by decide +kernel) (zm_X7_knownPerson X.l C.htr) ⟨rfl, rfl⟩ ⟨by decide, by decide⟩ (by decide) (by decide) zcl_X7_130 zw_368 zw_4 zK7 dX7_give_9 ?_
  refine z_astore_ok (pc := 12) (i := 5) C.hx C.hb dX7_give_12 (zlt hn (by decide)) ?_
  refine z_iload_n_ok (pc := 14) (i := 1) C.hx C.hb dX7_give_14 rfl ?_
  refine z_iload_n_ok (pc := 15) (i := 2) C.hx C.hb dX7_give_15 rfl ?_
  refine z_icmp_ne_ok (pc := 16) (tgt := 29) C.hx C.hb dX7_give_16 (by decide) ?_ ?_
  · refine z_iload_n_ok (pc := 29) (i := 3) C.hx C.hb dX7_give_29 rfl ?_
    refine z_iconst_ok (pc := 30) (v := 1) C.hx C.hb dX7_give_30 (by decide) ?_
    refine z_bipush_ok (pc := 31) (v := 99) C.hx C.hb dX7_give_31 (by decide) ?_
    refine z_invS_ok (pc := 33) C (by decide +kernel) (zm_X7_requireRange X.l C.htr) ⟨rfl, rfl⟩ ⟨by decide, by decide⟩ (by decide) (by decide) zcl_X7_92 zw_243 dX7_give_33 ?_
    refine z_aload_ok (pc := 36) (i := 4) C.hx C.hb dX7_give_36 ?_
    refine z_invS_ok (pc := 38) C (by decide +kernel) (zm_X7_requireBook X.l C.htr) ⟨rfl, rfl⟩ ⟨by decide, by decide⟩ (by decide) (by decide) zcl_X7_158 zw_702 dX7_give_38 ?_
    refine z_aload_ok (pc := 41) (i := 5) C.hx C.hb dX7_give_41 ?_
    refine z_invS_ok (pc := 43) C (by decide +kernel) (zm_X7_requireBook X.l C.htr) ⟨rfl, rfl⟩ ⟨by decide, by decide⟩ (by decide) (by decide) zcl_X7_158 zw_702 dX7_give_43 ?_
    refine z_aload_n_ok (pc := 46) (i := 0) C.hx C.hb dX7_give_46 rfl ?_
    refine z_aload_ok (pc := 47) (i := 4) C.hx C.hb dX7_give_47 ?_
    refine z_invV_ok (pc := 49) C (by decide +kernel) (zm_X7_pointsLeft X.l C.htr) ⟨rfl, rfl⟩ ⟨by decide, by decide⟩ (by decide) (by decide) zcl_X7_161 zw_373 zw_5 zK7 dX7_give_49 ?_
    refine z_iload_n_ok (pc := 52) (i := 3) C.hx C.hb dX7_give_52 rfl ?_
    refine z_icmp_ge_ok (pc := 53) (tgt := 66) C.hx C.hb dX7_give_53 (by decide) ?_ ?_
    · refine z_aload_ok (pc := 66) (i := 4) C.hx C.hb dX7_give_66 ?_
      refine z_dup_ok (pc := 68) C.hx C.hb dX7_give_68 ?_
      refine z_gf_ok (pc := 69) C zK3 (f := 8) (by decide) zw_334 rfl dX7_give_69 ?_
      refine z_iload_n_ok (pc := 72) (i := 3) C.hx C.hb dX7_give_72 rfl ?_
      refine z_iadd_ok (pc := 73) C.hx C.hb dX7_give_73 ?_
      refine z_pf_ok (pc := 74) C zK3 rfl rfl (f := 8) (by decide) zw_334 rfl rfl (by decide +kernel) dX7_give_74 ?_
      refine z_aload_ok (pc := 77) (i := 5) C.hx C.hb dX7_give_77 ?_
      refine z_dup_ok (pc := 79) C.hx C.hb dX7_give_79 ?_
      refine z_gf_ok (pc := 80) C zK3 (f := 7) (by decide) zw_332 rfl dX7_give_80 ?_
      refine z_iload_n_ok (pc := 83) (i := 3) C.hx C.hb dX7_give_83 rfl ?_
      refine z_iadd_ok (pc := 84) C.hx C.hb dX7_give_84 ?_
      refine z_pf_ok (pc := 85) C zK3 rfl rfl (f := 7) (by decide) zw_332 rfl rfl (by decide +kernel) dX7_give_85 ?_
      refine z_aload_n_ok (pc := 88) (i := 0) C.hx C.hb dX7_give_88 rfl ?_
      refine z_aload_ok (pc := 89) (i := 5) C.hx C.hb dX7_give_89 ?_
      refine z_invV_ok (pc := 91) C (by decide +kernel) (zm_X7_pointsLeft X.l C.htr) ⟨rfl, rfl⟩ ⟨by decide, by decide⟩ (by decide) (by decide) zcl_X7_161 zw_373 zw_5 zK7 dX7_give_91 ?_
      exact z_iret_ok (pc := 94) C dX7_give_94
    · exact z_throwS_ok (pc := 56) (text := "fewer points are left") C zth_165_169 (by decide +kernel) dX7_give_56 dX7_give_59 dX7_give_60 dX7_give_62 dX7_give_65 (by decide +kernel) (by decide) (by decide) (by decide) (by decide)
  · exact z_throwS_ok (pc := 19) (text := "nobody gives points to themselves") C zth_151_155 (by decide +kernel) dX7_give_19 dX7_give_22 dX7_give_23 dX7_give_25 dX7_give_28 (by decide +kernel) (by decide) (by decide) (by decide) (by decide)
def sp_X7_give : ZSp := fun as S K => as.length ≤ 6 ∧ zsp 6 zb_X7_give_0 as S K
theorem zm_X7_give (l : Launch) (hl : l.stackTraces = false) : zMet l yX7_give cX7_give 6 (some .int) { frames := 7, cells := 1, slots := 6, locals := 112 } 0 0 sp_X7_give := zMet_of hl (by decide +kernel) ⟨rfl, rfl⟩ (fun X C hn _ => zk_X7_give_0 C hn)
theorem dX7_liesInShops_0 : decode cX7_liesInShops 0 = .ok (.iconst 0, 1) := by decide +kernel
theorem dX7_liesInShops_1 : decode cX7_liesInShops 1 = .ok (.istore_n 2, 1) := by decide +kernel
theorem dX7_liesInShops_2 : decode cX7_liesInShops 2 = .ok (.iconst 0, 1) := by decide +kernel
theorem dX7_liesInShops_3 : decode cX7_liesInShops 3 = .ok (.istore_n 3, 1) := by decide +kernel
theorem dX7_liesInShops_4 : decode cX7_liesInShops 4 = .ok (.iload_n 3, 1) := by decide +kernel
theorem dX7_liesInShops_5 : decode cX7_liesInShops 5 = .ok (.aload_n 0, 1) := by decide +kernel
theorem dX7_liesInShops_6 : decode cX7_liesInShops 6 = .ok (.getfield 57, 3) := by decide +kernel
theorem dX7_liesInShops_9 : decode cX7_liesInShops 9 = .ok (.if_icmp .ge 26, 3) := by decide +kernel
theorem dX7_liesInShops_12 : decode cX7_liesInShops 12 = .ok (.iload_n 2, 1) := by decide +kernel
theorem dX7_liesInShops_13 : decode cX7_liesInShops 13 = .ok (.aload_n 0, 1) := by decide +kernel
theorem dX7_liesInShops_14 : decode cX7_liesInShops 14 = .ok (.getfield 29, 3) := by decide +kernel
theorem dX7_liesInShops_17 : decode cX7_liesInShops 17 = .ok (.iload_n 3, 1) := by decide +kernel
theorem dX7_liesInShops_18 : decode cX7_liesInShops 18 = .ok (.aaload, 1) := by decide +kernel
theorem dX7_liesInShops_19 : decode cX7_liesInShops 19 = .ok (.getfield 231, 3) := by decide +kernel
theorem dX7_liesInShops_22 : decode cX7_liesInShops 22 = .ok (.iload_n 1, 1) := by decide +kernel
theorem dX7_liesInShops_23 : decode cX7_liesInShops 23 = .ok (.aaload, 1) := by decide +kernel
theorem dX7_liesInShops_24 : decode cX7_liesInShops 24 = .ok (.getfield 235, 3) := by decide +kernel
theorem dX7_liesInShops_27 : decode cX7_liesInShops 27 = .ok (.iadd, 1) := by decide +kernel
theorem dX7_liesInShops_28 : decode cX7_liesInShops 28 = .ok (.istore_n 2, 1) := by decide +kernel
theorem dX7_liesInShops_29 : decode cX7_liesInShops 29 = .ok (.iinc 3 1, 3) := by decide +kernel
theorem dX7_liesInShops_32 : decode cX7_liesInShops 32 = .ok (.goto (-28), 3) := by decide +kernel
theorem dX7_liesInShops_35 : decode cX7_liesInShops 35 = .ok (.iload_n 2, 1) := by decide +kernel
theorem dX7_liesInShops_36 : decode cX7_liesInShops 36 = .ok (.ireturn, 1) := by decide +kernel
def zb_X7_liesInShops_4 (J4 : ZP) : ZP := (z_ild 3 (z_ald 0 (z_gf 7 9 (z_cmp (fun x y => y ≤ x) (z_ild 2 (z_ret 1)) (z_ild 2 (z_ald 0 (z_gf 7 3 (z_ild 3 (z_aald (z_gf 6 2 (z_ild 1 (z_aald (z_gf 5 0 (z_bin (fun x y => x + y) (z_ist 2 (z_inc 3 (1) J4))))))))))))))))
set_option maxRecDepth 20000 in
theorem zk_X7_liesInShops_4 {X : ZX} (C : zCx X cX7_liesInShops RX7 (some .int) 0 0 1 6) (hn : X.nL = 4) {J4 : ZP} (hJ4 : ZOK X 4 J4) : ZOK X 4 (zb_X7_liesInShops_4 J4) := by
  unfold zb_X7_liesInShops_4
  refine z_iload_n_ok (pc := 4) (i := 3) C.hx C.hb dX7_liesInShops_4 rfl ?_
  refine z_aload_n_ok (pc := 5) (i := 0) C.hx C.hb dX7_liesInShops_5 rfl ?_
  refine z_gf_ok (pc := 6) C zK7 (f := 9) (by decide) zw_117 rfl dX7_liesInShops_6 ?_
  refine z_icmp_ge_ok (pc := 9) (tgt := 35) C.hx C.hb dX7_liesInShops_9 (by decide) ?_ ?_
  · refine z_iload_n_ok (pc := 35) (i := 2) C.hx C.hb dX7_liesInShops_35 rfl ?_
    exact z_iret_ok (pc := 36) C dX7_liesInShops_36
  · refine z_iload_n_ok (pc := 12) (i := 2) C.hx C.hb dX7_liesInShops_12 rfl ?_
    refine z_aload_n_ok (pc := 13) (i := 0) C.hx C.hb dX7_liesInShops_13 rfl ?_
    refine z_gf_ok (pc := 14) C zK7 (f := 3) (by decide) zw_111 rfl dX7_liesInShops_14 ?_
    refine z_iload_n_ok (pc := 17) (i := 3) C.hx C.hb dX7_liesInShops_17 rfl ?_
    refine z_aald_ok (pc := 18) C dX7_liesInShops_18 ?_
    refine z_gf_ok (pc := 19) C zK6 (f := 2) (by decide) zw_476 rfl dX7_liesInShops_19 ?_
    refine z_iload_n_ok (pc := 22) (i := 1) C.hx C.hb dX7_liesInShops_22 rfl ?_
    refine z_aald_ok (pc := 23) C dX7_liesInShops_23 ?_
    refine z_gf_ok (pc := 24) C zK5 (f := 0) (by decide) zw_447 rfl dX7_liesInShops_24 ?_
    refine z_iadd_ok (pc := 27) C.hx C.hb dX7_liesInShops_27 ?_
    refine z_istore_n_ok (pc := 28) (i := 2) C.hx C.hb dX7_liesInShops_28 rfl (zlt hn (by decide)) ?_
    refine z_iinc_ok (pc := 29) (i := 3) (v := 1) C.hx C.hb dX7_liesInShops_29 (by decide) (zlt hn (by decide)) ?_
    refine z_goto_ok (pc := 32) (tgt := 4) C.hx C.hb dX7_liesInShops_32 (by decide) ?_
    exact hJ4
def zb_X7_liesInShops_0 : ZP := (z_push 0 (z_ist 2 (z_push 0 (z_ist 3 (z_loop (fun J4 => zb_X7_liesInShops_4 J4))))))
set_option maxRecDepth 20000 in
theorem zk_X7_liesInShops_0 {X : ZX} (C : zCx X cX7_liesInShops RX7 (some .int) 0 0 1 6) (hn : X.nL = 4) : ZOK X 0 (zb_X7_liesInShops_0) := by
  unfold zb_X7_liesInShops_0
  refine z_iconst_ok (pc := 0) (v := 0) C.hx C.hb dX7_liesInShops_0 (by decide) ?_
  refine z_istore_n_ok (pc := 1) (i := 2) C.hx C.hb dX7_liesInShops_1 rfl (zlt hn (by decide)) ?_
  refine z_iconst_ok (pc := 2) (v := 0) C.hx C.hb dX7_liesInShops_2 (by decide) ?_
  refine z_istore_n_ok (pc := 3) (i := 3) C.hx C.hb dX7_liesInShops_3 rfl (zlt hn (by decide)) ?_
  exact z_loop_ok (fun J4 hJ4 => zk_X7_liesInShops_4 C hn hJ4)
def sp_X7_liesInShops : ZSp := fun as S K => as.length ≤ 4 ∧ zsp 4 zb_X7_liesInShops_0 as S K
theorem zm_X7_liesInShops (l : Launch) (hl : l.stackTraces = false) : zMet l yX7_liesInShops cX7_liesInShops 4 (some .int) { frames := 0, cells := 1, slots := 6, locals := 0 } 0 0 sp_X7_liesInShops := zMet_of hl (by decide +kernel) ⟨rfl, rfl⟩ (fun X C hn _ => zk_X7_liesInShops_0 C hn)
theorem dX7_goodIs_0 : decode cX7_goodIs 0 = .ok (.aload_n 0, 1) := by decide +kernel
theorem dX7_goodIs_1 : decode cX7_goodIs 1 = .ok (.iload_n 1, 1) := by decide +kernel
theorem dX7_goodIs_2 : decode cX7_goodIs 2 = .ok (.invokevirtual 88, 3) := by decide +kernel
theorem dX7_goodIs_5 : decode cX7_goodIs 5 = .ok (.astore_n 3, 1) := by decide +kernel
theorem dX7_goodIs_6 : decode cX7_goodIs 6 = .ok (.iload_n 2, 1) := by decide +kernel
theorem dX7_goodIs_7 : decode cX7_goodIs 7 = .ok (.iconst 0, 1) := by decide +kernel
theorem dX7_goodIs_8 : decode cX7_goodIs 8 = .ok (.iconst 5, 1) := by decide +kernel
theorem dX7_goodIs_9 : decode cX7_goodIs 9 = .ok (.invokestatic 92, 3) := by decide +kernel
theorem dX7_goodIs_12 : decode cX7_goodIs 12 = .ok (.iload_n 2, 1) := by decide +kernel
theorem dX7_goodIs_13 : decode cX7_goodIs 13 = .ok (.tableswitch 61 0 4 #[35, 40, 45, 50, 55], 35) := by decide +kernel
theorem dX7_goodIs_48 : decode cX7_goodIs 48 = .ok (.aload_n 3, 1) := by decide +kernel
theorem dX7_goodIs_49 : decode cX7_goodIs 49 = .ok (.getfield 103, 3) := by decide +kernel
theorem dX7_goodIs_52 : decode cX7_goodIs 52 = .ok (.ireturn, 1) := by decide +kernel
theorem dX7_goodIs_53 : decode cX7_goodIs 53 = .ok (.aload_n 3, 1) := by decide +kernel
theorem dX7_goodIs_54 : decode cX7_goodIs 54 = .ok (.getfield 106, 3) := by decide +kernel
theorem dX7_goodIs_57 : decode cX7_goodIs 57 = .ok (.ireturn, 1) := by decide +kernel
theorem dX7_goodIs_58 : decode cX7_goodIs 58 = .ok (.aload_n 3, 1) := by decide +kernel
theorem dX7_goodIs_59 : decode cX7_goodIs 59 = .ok (.getfield 100, 3) := by decide +kernel
theorem dX7_goodIs_62 : decode cX7_goodIs 62 = .ok (.ireturn, 1) := by decide +kernel
theorem dX7_goodIs_63 : decode cX7_goodIs 63 = .ok (.aload_n 3, 1) := by decide +kernel
theorem dX7_goodIs_64 : decode cX7_goodIs 64 = .ok (.getfield 109, 3) := by decide +kernel
theorem dX7_goodIs_67 : decode cX7_goodIs 67 = .ok (.ireturn, 1) := by decide +kernel
theorem dX7_goodIs_68 : decode cX7_goodIs 68 = .ok (.aload_n 0, 1) := by decide +kernel
theorem dX7_goodIs_69 : decode cX7_goodIs 69 = .ok (.iload_n 1, 1) := by decide +kernel
theorem dX7_goodIs_70 : decode cX7_goodIs 70 = .ok (.invokevirtual 112, 3) := by decide +kernel
theorem dX7_goodIs_73 : decode cX7_goodIs 73 = .ok (.ireturn, 1) := by decide +kernel
theorem dX7_goodIs_74 : decode cX7_goodIs 74 = .ok (.aload_n 3, 1) := by decide +kernel
theorem dX7_goodIs_75 : decode cX7_goodIs 75 = .ok (.getfield 116, 3) := by decide +kernel
theorem dX7_goodIs_78 : decode cX7_goodIs 78 = .ok (.ireturn, 1) := by decide +kernel
def zb_X7_goodIs_0 : ZP := (z_ald 0 (z_ild 1 (z_invV 7 1 sp_X7_knownGood (z_ast 3 (z_ild 2 (z_push 0 (z_push 5 (z_invS 3 sp_X7_requireRange (z_ild 2 (z_sw [(0, (z_ald 3 (z_gf 2 0 (z_ret 1)))), (1, (z_ald 3 (z_gf 2 1 (z_ret 1)))), (2, (z_ald 3 (z_gf 2 2 (z_ret 1)))), (3, (z_ald 3 (z_gf 2 3 (z_ret 1)))), (4, (z_ald 0 (z_ild 1 (z_invV 7 1 sp_X7_liesInShops (z_ret 1)))))] (z_ald 3 (z_gf 2 4 (z_ret 1)))))))))))))
set_option maxRecDepth 20000 in
theorem zk_X7_goodIs_0 {X : ZX} (C : zCx X cX7_goodIs RX7 (some .int) 7 112 1 6) (hn : X.nL = 4) : ZOK X 0 (zb_X7_goodIs_0) := by
  unfold zb_X7_goodIs_0
  refine z_aload_n_ok (pc := 0) (i := 0) C.hx C.hb dX7_goodIs_0 rfl ?_
  refine z_iload_n_ok (pc := 1) (i := 1) C.hx C.hb dX7_goodIs_1 rfl ?_
  refine z_invV_ok (pc := 2) C (by decide +kernel) (zm_X7_knownGood X.l C.htr) ⟨rfl, rfl⟩ ⟨by decide, by decide⟩ (by decide) (by decide) zcl_X7_88 zw_172 zw_0 zK7 dX7_goodIs_2 ?_
  refine z_astore_n_ok (pc := 5) (i := 3) C.hx C.hb dX7_goodIs_5 rfl (zlt hn (by decide)) ?_
  refine z_iload_n_ok (pc := 6) (i := 2) C.hx C.hb dX7_goodIs_6 rfl ?_
  refine z_iconst_ok (pc := 7) (v := 0) C.hx C.hb dX7_goodIs_7 (by decide) ?_
  refine z_iconst_ok (pc := 8) (v := 5) C.hx C.hb dX7_goodIs_8 (by decide) ?_
  refine z_invS_ok (pc := 9) C (by decide +kernel) (zm_X7_requireRange X.l C.htr) ⟨rfl, rfl⟩ ⟨by decide, by decide⟩ (by decide) (by decide) zcl_X7_92 zw_243 dX7_goodIs_9 ?_
  refine z_iload_n_ok (pc := 12) (i := 2) C.hx C.hb dX7_goodIs_12 rfl ?_
  refine z_sw_ok (pc := 13) (tgt := 74) C.hx C.hb dX7_goodIs_13 (by decide) ?_ ⟨⟨by decide, 35, 48, by decide, by decide, ?_⟩, ⟨⟨by decide, 40, 53, by decide, by decide, ?_⟩, ⟨⟨by decide, 45, 58, by decide, by decide, ?_⟩, ⟨⟨by decide, 50, 63, by decide, by decide, ?_⟩, ⟨⟨by decide, 55, 68, by decide, by decide, ?_⟩, trivial⟩⟩⟩⟩⟩ (by decide)
  · refine z_aload_n_ok (pc := 74) (i := 3) C.hx C.hb dX7_goodIs_74 rfl ?_
    refine z_gf_ok (pc := 75) C zK2 (f := 4) (by decide) zw_96 rfl dX7_goodIs_75 ?_
    exact z_iret_ok (pc := 78) C dX7_goodIs_78
  · refine z_aload_n_ok (pc := 48) (i := 3) C.hx C.hb dX7_goodIs_48 rfl ?_
    refine z_gf_ok (pc := 49) C zK2 (f := 0) (by decide) zw_88 rfl dX7_goodIs_49 ?_
    exact z_iret_ok (pc := 52) C dX7_goodIs_52
  · refine z_aload_n_ok (pc := 53) (i := 3) C.hx C.hb dX7_goodIs_53 rfl ?_
    refine z_gf_ok (pc := 54) C zK2 (f := 1) (by decide) zw_90 rfl dX7_goodIs_54 ?_
    exact z_iret_ok (pc := 57) C dX7_goodIs_57
  · refine z_aload_n_ok (pc := 58) (i := 3) C.hx C.hb dX7_goodIs_58 rfl ?_
    refine z_gf_ok (pc := 59) C zK2 (f := 2) (by decide) zw_92 rfl dX7_goodIs_59 ?_
    exact z_iret_ok (pc := 62) C dX7_goodIs_62
  · refine z_aload_n_ok (pc := 63) (i := 3) C.hx C.hb dX7_goodIs_63 rfl ?_
    refine z_gf_ok (pc := 64) C zK2 (f := 3) (by decide) zw_94 rfl dX7_goodIs_64 ?_
    exact z_iret_ok (pc := 67) C dX7_goodIs_67
  · refine z_aload_n_ok (pc := 68) (i := 0) C.hx C.hb dX7_goodIs_68 rfl ?_
    refine z_iload_n_ok (pc := 69) (i := 1) C.hx C.hb dX7_goodIs_69 rfl ?_
    refine z_invV_ok (pc := 70) C (by decide +kernel) (zm_X7_liesInShops X.l C.htr) ⟨rfl, rfl⟩ ⟨by decide, by decide⟩ (by decide) (by decide) zcl_X7_112 zw_282 zw_2 zK7 dX7_goodIs_70 ?_
    exact z_iret_ok (pc := 73) C dX7_goodIs_73
def sp_X7_goodIs : ZSp := fun as S K => as.length ≤ 4 ∧ zsp 4 zb_X7_goodIs_0 as S K
theorem zm_X7_goodIs (l : Launch) (hl : l.stackTraces = false) : zMet l yX7_goodIs cX7_goodIs 4 (some .int) { frames := 7, cells := 1, slots := 6, locals := 112 } 0 0 sp_X7_goodIs := zMet_of hl (by decide +kernel) ⟨rfl, rfl⟩ (fun X C hn _ => zk_X7_goodIs_0 C hn)
theorem dX7_gramsInDepots_0 : decode cX7_gramsInDepots 0 = .ok (.iconst 0, 1) := by decide +kernel
theorem dX7_gramsInDepots_1 : decode cX7_gramsInDepots 1 = .ok (.istore_n 1, 1) := by decide +kernel
theorem dX7_gramsInDepots_2 : decode cX7_gramsInDepots 2 = .ok (.iconst 0, 1) := by decide +kernel
theorem dX7_gramsInDepots_3 : decode cX7_gramsInDepots 3 = .ok (.istore_n 2, 1) := by decide +kernel
theorem dX7_gramsInDepots_4 : decode cX7_gramsInDepots 4 = .ok (.iload_n 2, 1) := by decide +kernel
theorem dX7_gramsInDepots_5 : decode cX7_gramsInDepots 5 = .ok (.aload_n 0, 1) := by decide +kernel
theorem dX7_gramsInDepots_6 : decode cX7_gramsInDepots 6 = .ok (.getfield 54, 3) := by decide +kernel
theorem dX7_gramsInDepots_9 : decode cX7_gramsInDepots 9 = .ok (.if_icmp .ge 37, 3) := by decide +kernel
theorem dX7_gramsInDepots_12 : decode cX7_gramsInDepots 12 = .ok (.iconst 0, 1) := by decide +kernel
theorem dX7_gramsInDepots_13 : decode cX7_gramsInDepots 13 = .ok (.istore_n 3, 1) := by decide +kernel
theorem dX7_gramsInDepots_14 : decode cX7_gramsInDepots 14 = .ok (.iload_n 3, 1) := by decide +kernel
theorem dX7_gramsInDepots_15 : decode cX7_gramsInDepots 15 = .ok (.bipush 6, 2) := by decide +kernel
theorem dX7_gramsInDepots_17 : decode cX7_gramsInDepots 17 = .ok (.if_icmp .ge 23, 3) := by decide +kernel
theorem dX7_gramsInDepots_20 : decode cX7_gramsInDepots 20 = .ok (.iload_n 1, 1) := by decide +kernel
theorem dX7_gramsInDepots_21 : decode cX7_gramsInDepots 21 = .ok (.aload_n 0, 1) := by decide +kernel
theorem dX7_gramsInDepots_22 : decode cX7_gramsInDepots 22 = .ok (.getfield 23, 3) := by decide +kernel
theorem dX7_gramsInDepots_25 : decode cX7_gramsInDepots 25 = .ok (.iload_n 2, 1) := by decide +kernel
theorem dX7_gramsInDepots_26 : decode cX7_gramsInDepots 26 = .ok (.aaload, 1) := by decide +kernel
theorem dX7_gramsInDepots_27 : decode cX7_gramsInDepots 27 = .ok (.getfield 219, 3) := by decide +kernel
theorem dX7_gramsInDepots_30 : decode cX7_gramsInDepots 30 = .ok (.iload_n 3, 1) := by decide +kernel
theorem dX7_gramsInDepots_31 : decode cX7_gramsInDepots 31 = .ok (.iaload, 1) := by decide +kernel
theorem dX7_gramsInDepots_32 : decode cX7_gramsInDepots 32 = .ok (.iadd, 1) := by decide +kernel
theorem dX7_gramsInDepots_33 : decode cX7_gramsInDepots 33 = .ok (.istore_n 1, 1) := by decide +kernel
theorem dX7_gramsInDepots_34 : decode cX7_gramsInDepots 34 = .ok (.iinc 3 1, 3) := by decide +kernel
theorem dX7_gramsInDepots_37 : decode cX7_gramsInDepots 37 = .ok (.goto (-23), 3) := by decide +kernel
theorem dX7_gramsInDepots_40 : decode cX7_gramsInDepots 40 = .ok (.iinc 2 1, 3) := by decide +kernel
theorem dX7_gramsInDepots_43 : decode cX7_gramsInDepots 43 = .ok (.goto (-39), 3) := by decide +kernel
theorem dX7_gramsInDepots_46 : decode cX7_gramsInDepots 46 = .ok (.iload_n 1, 1) := by decide +kernel
theorem dX7_gramsInDepots_47 : decode cX7_gramsInDepots 47 = .ok (.ireturn, 1) := by decide +kernel
def zb_X7_gramsInDepots_14 (J4 : ZP) (J14 : ZP) : ZP := (z_ild 3 (z_push 6 (z_cmp (fun x y => y ≤ x) (z_inc 2 (1) J4) (z_ild 1 (z_ald 0 (z_gf 7 2 (z_ild 2 (z_aald (z_gf 0 2 (z_ild 3 (z_iald (z_bin (fun x y => x + y) (z_ist 1 (z_inc 3 (1) J14))))))))))))))
set_option maxRecDepth 20000 in
theorem zk_X7_gramsInDepots_14 {X : ZX} (C : zCx X cX7_gramsInDepots RX7 (some .int) 0 0 1 6) (hn : X.nL = 4) {J4 : ZP} (hJ4 : ZOK X 4 J4) {J14 : ZP} (hJ14 : ZOK X 14 J14) : ZOK X 14 (zb_X7_gramsInDepots_14 J4 J14) := by
  unfold zb_X7_gramsInDepots_14
  refine z_iload_n_ok (pc := 14) (i := 3) C.hx C.hb dX7_gramsInDepots_14 rfl ?_
  refine z_bipush_ok (pc := 15) (v := 6) C.hx C.hb dX7_gramsInDepots_15 (by decide) ?_
  refine z_icmp_ge_ok (pc := 17) (tgt := 40) C.hx C.hb dX7_gramsInDepots_17 (by decide) ?_ ?_
  · refine z_iinc_ok (pc := 40) (i := 2) (v := 1) C.hx C.hb dX7_gramsInDepots_40 (by decide) (zlt hn (by decide)) ?_
    refine z_goto_ok (pc := 43) (tgt := 4) C.hx C.hb dX7_gramsInDepots_43 (by decide) ?_
    exact hJ4
  · refine z_iload_n_ok (pc := 20) (i := 1) C.hx C.hb dX7_gramsInDepots_20 rfl ?_
    refine z_aload_n_ok (pc := 21) (i := 0) C.hx C.hb dX7_gramsInDepots_21 rfl ?_
    refine z_gf_ok (pc := 22) C zK7 (f := 2) (by decide) zw_110 rfl dX7_gramsInDepots_22 ?_
    refine z_iload_n_ok (pc := 25) (i := 2) C.hx C.hb dX7_gramsInDepots_25 rfl ?_
    refine z_aald_ok (pc := 26) C dX7_gramsInDepots_26 ?_
    refine z_gf_ok (pc := 27) C zK0 (f := 2) (by decide) zw_422 rfl dX7_gramsInDepots_27 ?_
    refine z_iload_n_ok (pc := 30) (i := 3) C.hx C.hb dX7_gramsInDepots_30 rfl ?_
    refine z_iald_ok (pc := 31) C dX7_gramsInDepots_31 ?_
    refine z_iadd_ok (pc := 32) C.hx C.hb dX7_gramsInDepots_32 ?_
    refine z_istore_n_ok (pc := 33) (i := 1) C.hx C.hb dX7_gramsInDepots_33 rfl (zlt hn (by decide)) ?_
    refine z_iinc_ok (pc := 34) (i := 3) (v := 1) C.hx C.hb dX7_gramsInDepots_34 (by decide) (zlt hn (by decide)) ?_
    refine z_goto_ok (pc := 37) (tgt := 14) C.hx C.hb dX7_gramsInDepots_37 (by decide) ?_
    exact hJ14
def zb_X7_gramsInDepots_4 (J4 : ZP) : ZP := (z_ild 2 (z_ald 0 (z_gf 7 8 (z_cmp (fun x y => y ≤ x) (z_ild 1 (z_ret 1)) (z_push 0 (z_ist 3 (z_loop (fun J14 => zb_X7_gramsInDepots_14 J4 J14))))))))
set_option maxRecDepth 20000 in
theorem zk_X7_gramsInDepots_4 {X : ZX} (C : zCx X cX7_gramsInDepots RX7 (some .int) 0 0 1 6) (hn : X.nL = 4) {J4 : ZP} (hJ4 : ZOK X 4 J4) : ZOK X 4 (zb_X7_gramsInDepots_4 J4) := by
  unfold zb_X7_gramsInDepots_4
  refine z_iload_n_ok (pc := 4) (i := 2) C.hx C.hb dX7_gramsInDepots_4 rfl ?_
  refine z_aload_n_ok (pc := 5) (i := 0) C.hx C.hb dX7_gramsInDepots_5 rfl ?_
  refine z_gf_ok (pc := 6) C zK7 (f := 8) (by decide) zw_116 rfl dX7_gramsInDepots_6 ?_
  refine z_icmp_ge_ok (pc := 9) (tgt := 46) C.hx C.hb dX7_gramsInDepots_9 (by decide) ?_ ?_
  · refine z_iload_n_ok (pc := 46) (i := 1) C.hx C.hb dX7_gramsInDepots_46 rfl ?_
    exact z_iret_ok (pc := 47) C dX7_gramsInDepots_47
  · refine z_iconst_ok (pc := 12) (v := 0) C.hx C.hb dX7_gramsInDepots_12 (by decide) ?_
    refine z_istore_n_ok (pc := 13) (i := 3) C.hx C.hb dX7_gramsInDepots_13 rfl (zlt hn (by decide)) ?_
    exact z_loop_ok (fun J14 hJ14 => zk_X7_gramsInDepots_14 C hn hJ4 hJ14)
def zb_X7_gramsInDepots_0 : ZP := (z_push 0 (z_ist 1 (z_push 0 (z_ist 2 (z_loop (fun J4 => zb_X7_gramsInDepots_4 J4))))))
set_option maxRecDepth 20000 in
theorem zk_X7_gramsInDepots_0 {X : ZX} (C : zCx X cX7_gramsInDepots RX7 (some .int) 0 0 1 6) (hn : X.nL = 4) : ZOK X 0 (zb_X7_gramsInDepots_0) := by
  unfold zb_X7_gramsInDepots_0
  refine z_iconst_ok (pc := 0) (v := 0) C.hx C.hb dX7_gramsInDepots_0 (by decide) ?_
  refine z_istore_n_ok (pc := 1) (i := 1) C.hx C.hb dX7_gramsInDepots_1 rfl (zlt hn (by decide)) ?_
  refine z_iconst_ok (pc := 2) (v := 0) C.hx C.hb dX7_gramsInDepots_2 (by decide) ?_
  refine z_istore_n_ok (pc := 3) (i := 2) C.hx C.hb dX7_gramsInDepots_3 rfl (zlt hn (by decide)) ?_
  exact z_loop_ok (fun J4 hJ4 => zk_X7_gramsInDepots_4 C hn hJ4)
def sp_X7_gramsInDepots : ZSp := fun as S K => as.length ≤ 4 ∧ zsp 4 zb_X7_gramsInDepots_0 as S K
theorem zm_X7_gramsInDepots (l : Launch) (hl : l.stackTraces = false) : zMet l yX7_gramsInDepots cX7_gramsInDepots 4 (some .int) { frames := 0, cells := 1, slots := 6, locals := 0 } 0 0 sp_X7_gramsInDepots := zMet_of hl (by decide +kernel) ⟨rfl, rfl⟩ (fun X C hn _ => zk_X7_gramsInDepots_0 C hn)
theorem dX7_gramsInShops_0 : decode cX7_gramsInShops 0 = .ok (.iconst 0, 1) := by decide +kernel
theorem dX7_gramsInShops_1 : decode cX7_gramsInShops 1 = .ok (.istore_n 1, 1) := by decide +kernel
theorem dX7_gramsInShops_2 : decode cX7_gramsInShops 2 = .ok (.iconst 0, 1) := by decide +kernel
theorem dX7_gramsInShops_3 : decode cX7_gramsInShops 3 = .ok (.istore_n 2, 1) := by decide +kernel
theorem dX7_gramsInShops_4 : decode cX7_gramsInShops 4 = .ok (.iload_n 2, 1) := by decide +kernel
theorem dX7_gramsInShops_5 : decode cX7_gramsInShops 5 = .ok (.bipush 6, 2) := by decide +kernel
theorem dX7_gramsInShops_7 : decode cX7_gramsInShops 7 = .ok (.if_icmp .ge 17, 3) := by decide +kernel
theorem dX7_gramsInShops_10 : decode cX7_gramsInShops 10 = .ok (.iload_n 1, 1) := by decide +kernel
theorem dX7_gramsInShops_11 : decode cX7_gramsInShops 11 = .ok (.aload_n 0, 1) := by decide +kernel
theorem dX7_gramsInShops_12 : decode cX7_gramsInShops 12 = .ok (.iload_n 2, 1) := by decide +kernel
theorem dX7_gramsInShops_13 : decode cX7_gramsInShops 13 = .ok (.invokevirtual 112, 3) := by decide +kernel
theorem dX7_gramsInShops_16 : decode cX7_gramsInShops 16 = .ok (.iadd, 1) := by decide +kernel
theorem dX7_gramsInShops_17 : decode cX7_gramsInShops 17 = .ok (.istore_n 1, 1) := by decide +kernel
theorem dX7_gramsInShops_18 : decode cX7_gramsInShops 18 = .ok (.iinc 2 1, 3) := by decide +kernel
theorem dX7_gramsInShops_21 : decode cX7_gramsInShops 21 = .ok (.goto (-17), 3) := by decide +kernel
theorem dX7_gramsInShops_24 : decode cX7_gramsInShops 24 = .ok (.iload_n 1, 1) := by decide +kernel
theorem dX7_gramsInShops_25 : decode cX7_gramsInShops 25 = .ok (.ireturn, 1) := by decide +kernel
def zb_X7_gramsInShops_4 (J4 : ZP) : ZP := (z_ild 2 (z_push 6 (z_cmp (fun x y => y ≤ x) (z_ild 1 (z_ret 1)) (z_ild 1 (z_ald 0 (z_ild 2 (z_invV 7 1 sp_X7_liesInShops (z_bin (fun x y => x + y) (z_ist 1 (z_inc 2 (1) J4))))))))))
set_option maxRecDepth 20000 in
theorem zk_X7_gramsInShops_4 {X : ZX} (C : zCx X cX7_gramsInShops RX7 (some .int) 1 23 1 6) (hn : X.nL = 3) {J4 : ZP} (hJ4 : ZOK X 4 J4) : ZOK X 4 (zb_X7_gramsInShops_4 J4) := by
  unfold zb_X7_gramsInShops_4
  refine z_iload_n_ok (pc := 4) (i := 2) C.hx C.hb dX7_gramsInShops_4 rfl ?_
  refine z_bipush_ok (pc := 5) (v := 6) C.hx C.hb dX7_gramsInShops_5 (by decide) ?_
  refine z_icmp_ge_ok (pc := 7) (tgt := 24) C.hx C.hb dX7_gramsInShops_7 (by decide) ?_ ?_
  · refine z_iload_n_ok (pc := 24) (i := 1) C.hx C.hb dX7_gramsInShops_24 rfl ?_
    exact z_iret_ok (pc := 25) C dX7_gramsInShops_25
  · refine z_iload_n_ok (pc := 10) (i := 1) C.hx C.hb dX7_gramsInShops_10 rfl ?_
    refine z_aload_n_ok (pc := 11) (i := 0) C.hx C.hb dX7_gramsInShops_11 rfl ?_
    refine z_iload_n_ok (pc := 12) (i := 2) C.hx C.hb dX7_gramsInShops_12 rfl ?_
    refine z_invV_ok (pc := 13) C (by decide +kernel) (zm_X7_liesInShops X.l C.htr) ⟨rfl, rfl⟩ ⟨by decide, by decide⟩ (by decide) (by decide) zcl_X7_112 zw_282 zw_2 zK7 dX7_gramsInShops_13 ?_
    refine z_iadd_ok (pc := 16) C.hx C.hb dX7_gramsInShops_16 ?_
    refine z_istore_n_ok (pc := 17) (i := 1) C.hx C.hb dX7_gramsInShops_17 rfl (zlt hn (by decide)) ?_
    refine z_iinc_ok (pc := 18) (i := 2) (v := 1) C.hx C.hb dX7_gramsInShops_18 (by decide) (zlt hn (by decide)) ?_
    refine z_goto_ok (pc := 21) (tgt := 4) C.hx C.hb dX7_gramsInShops_21 (by decide) ?_
    exact hJ4
def zb_X7_gramsInShops_0 : ZP := (z_push 0 (z_ist 1 (z_push 0 (z_ist 2 (z_loop (fun J4 => zb_X7_gramsInShops_4 J4))))))
set_option maxRecDepth 20000 in
theorem zk_X7_gramsInShops_0 {X : ZX} (C : zCx X cX7_gramsInShops RX7 (some .int) 1 23 1 6) (hn : X.nL = 3) : ZOK X 0 (zb_X7_gramsInShops_0) := by
  unfold zb_X7_gramsInShops_0
  refine z_iconst_ok (pc := 0) (v := 0) C.hx C.hb dX7_gramsInShops_0 (by decide) ?_
  refine z_istore_n_ok (pc := 1) (i := 1) C.hx C.hb dX7_gramsInShops_1 rfl (zlt hn (by decide)) ?_
  refine z_iconst_ok (pc := 2) (v := 0) C.hx C.hb dX7_gramsInShops_2 (by decide) ?_
  refine z_istore_n_ok (pc := 3) (i := 2) C.hx C.hb dX7_gramsInShops_3 rfl (zlt hn (by decide)) ?_
  exact z_loop_ok (fun J4 hJ4 => zk_X7_gramsInShops_4 C hn hJ4)
def sp_X7_gramsInShops : ZSp := fun as S K => as.length ≤ 3 ∧ zsp 3 zb_X7_gramsInShops_0 as S K
theorem zm_X7_gramsInShops (l : Launch) (hl : l.stackTraces = false) : zMet l yX7_gramsInShops cX7_gramsInShops 3 (some .int) { frames := 1, cells := 1, slots := 6, locals := 23 } 0 0 sp_X7_gramsInShops := zMet_of hl (by decide +kernel) ⟨rfl, rfl⟩ (fun X C hn _ => zk_X7_gramsInShops_0 C hn)
theorem dX7_gramsOnBlackMarket_0 : decode cX7_gramsOnBlackMarket 0 = .ok (.iconst 0, 1) := by decide +kernel
theorem dX7_gramsOnBlackMarket_1 : decode cX7_gramsOnBlackMarket 1 = .ok (.istore_n 1, 1) := by decide +kernel
theorem dX7_gramsOnBlackMarket_2 : decode cX7_gramsOnBlackMarket 2 = .ok (.iconst 0, 1) := by decide +kernel
theorem dX7_gramsOnBlackMarket_3 : decode cX7_gramsOnBlackMarket 3 = .ok (.istore_n 2, 1) := by decide +kernel
theorem dX7_gramsOnBlackMarket_4 : decode cX7_gramsOnBlackMarket 4 = .ok (.iload_n 2, 1) := by decide +kernel
theorem dX7_gramsOnBlackMarket_5 : decode cX7_gramsOnBlackMarket 5 = .ok (.bipush 6, 2) := by decide +kernel
theorem dX7_gramsOnBlackMarket_7 : decode cX7_gramsOnBlackMarket 7 = .ok (.if_icmp .ge 21, 3) := by decide +kernel
theorem dX7_gramsOnBlackMarket_10 : decode cX7_gramsOnBlackMarket 10 = .ok (.iload_n 1, 1) := by decide +kernel
theorem dX7_gramsOnBlackMarket_11 : decode cX7_gramsOnBlackMarket 11 = .ok (.aload_n 0, 1) := by decide +kernel
theorem dX7_gramsOnBlackMarket_12 : decode cX7_gramsOnBlackMarket 12 = .ok (.getfield 11, 3) := by decide +kernel
theorem dX7_gramsOnBlackMarket_15 : decode cX7_gramsOnBlackMarket 15 = .ok (.iload_n 2, 1) := by decide +kernel
theorem dX7_gramsOnBlackMarket_16 : decode cX7_gramsOnBlackMarket 16 = .ok (.aaload, 1) := by decide +kernel
theorem dX7_gramsOnBlackMarket_17 : decode cX7_gramsOnBlackMarket 17 = .ok (.getfield 116, 3) := by decide +kernel
theorem dX7_gramsOnBlackMarket_20 : decode cX7_gramsOnBlackMarket 20 = .ok (.iadd, 1) := by decide +kernel
theorem dX7_gramsOnBlackMarket_21 : decode cX7_gramsOnBlackMarket 21 = .ok (.istore_n 1, 1) := by decide +kernel
theorem dX7_gramsOnBlackMarket_22 : decode cX7_gramsOnBlackMarket 22 = .ok (.iinc 2 1, 3) := by decide +kernel
theorem dX7_gramsOnBlackMarket_25 : decode cX7_gramsOnBlackMarket 25 = .ok (.goto (-21), 3) := by decide +kernel
theorem dX7_gramsOnBlackMarket_28 : decode cX7_gramsOnBlackMarket 28 = .ok (.iload_n 1, 1) := by decide +kernel
theorem dX7_gramsOnBlackMarket_29 : decode cX7_gramsOnBlackMarket 29 = .ok (.ireturn, 1) := by decide +kernel
def zb_X7_gramsOnBlackMarket_4 (J4 : ZP) : ZP := (z_ild 2 (z_push 6 (z_cmp (fun x y => y ≤ x) (z_ild 1 (z_ret 1)) (z_ild 1 (z_ald 0 (z_gf 7 0 (z_ild 2 (z_aald (z_gf 2 4 (z_bin (fun x y => x + y) (z_ist 1 (z_inc 2 (1) J4))))))))))))
set_option maxRecDepth 20000 in
theorem zk_X7_gramsOnBlackMarket_4 {X : ZX} (C : zCx X cX7_gramsOnBlackMarket RX7 (some .int) 0 0 1 6) (hn : X.nL = 3) {J4 : ZP} (hJ4 : ZOK X 4 J4) : ZOK X 4 (zb_X7_gramsOnBlackMarket_4 J4) := by
  unfold zb_X7_gramsOnBlackMarket_4
  refine z_iload_n_ok (pc := 4) (i := 2) C.hx C.hb dX7_gramsOnBlackMarket_4 rfl ?_
  refine z_bipush_ok (pc := 5) (v := 6) C.hx C.hb dX7_gramsOnBlackMarket_5 (by decide) ?_
  refine z_icmp_ge_ok (pc := 7) (tgt := 28) C.hx C.hb dX7_gramsOnBlackMarket_7 (by decide) ?_ ?_
  · refine z_iload_n_ok (pc := 28) (i := 1) C.hx C.hb dX7_gramsOnBlackMarket_28 rfl ?_
    exact z_iret_ok (pc := 29) C dX7_gramsOnBlackMarket_29
  · refine z_iload_n_ok (pc := 10) (i := 1) C.hx C.hb dX7_gramsOnBlackMarket_10 rfl ?_
    refine z_aload_n_ok (pc := 11) (i := 0) C.hx C.hb dX7_gramsOnBlackMarket_11 rfl ?_
    refine z_gf_ok (pc := 12) C zK7 (f := 0) (by decide) zw_108 rfl dX7_gramsOnBlackMarket_12 ?_
    refine z_iload_n_ok (pc := 15) (i := 2) C.hx C.hb dX7_gramsOnBlackMarket_15 rfl ?_
    refine z_aald_ok (pc := 16) C dX7_gramsOnBlackMarket_16 ?_
    refine z_gf_ok (pc := 17) C zK2 (f := 4) (by decide) zw_96 rfl dX7_gramsOnBlackMarket_17 ?_
    refine z_iadd_ok (pc := 20) C.hx C.hb dX7_gramsOnBlackMarket_20 ?_
    refine z_istore_n_ok (pc := 21) (i := 1) C.hx C.hb dX7_gramsOnBlackMarket_21 rfl (zlt hn (by decide)) ?_
    refine z_iinc_ok (pc := 22) (i := 2) (v := 1) C.hx C.hb dX7_gramsOnBlackMarket_22 (by decide) (zlt hn (by decide)) ?_
    refine z_goto_ok (pc := 25) (tgt := 4) C.hx C.hb dX7_gramsOnBlackMarket_25 (by decide) ?_
    exact hJ4
def zb_X7_gramsOnBlackMarket_0 : ZP := (z_push 0 (z_ist 1 (z_push 0 (z_ist 2 (z_loop (fun J4 => zb_X7_gramsOnBlackMarket_4 J4))))))
set_option maxRecDepth 20000 in
theorem zk_X7_gramsOnBlackMarket_0 {X : ZX} (C : zCx X cX7_gramsOnBlackMarket RX7 (some .int) 0 0 1 6) (hn : X.nL = 3) : ZOK X 0 (zb_X7_gramsOnBlackMarket_0) := by
  unfold zb_X7_gramsOnBlackMarket_0
  refine z_iconst_ok (pc := 0) (v := 0) C.hx C.hb dX7_gramsOnBlackMarket_0 (by decide) ?_
  refine z_istore_n_ok (pc := 1) (i := 1) C.hx C.hb dX7_gramsOnBlackMarket_1 rfl (zlt hn (by decide)) ?_
  refine z_iconst_ok (pc := 2) (v := 0) C.hx C.hb dX7_gramsOnBlackMarket_2 (by decide) ?_
  refine z_istore_n_ok (pc := 3) (i := 2) C.hx C.hb dX7_gramsOnBlackMarket_3 rfl (zlt hn (by decide)) ?_
  exact z_loop_ok (fun J4 hJ4 => zk_X7_gramsOnBlackMarket_4 C hn hJ4)
def sp_X7_gramsOnBlackMarket : ZSp := fun as S K => as.length ≤ 3 ∧ zsp 3 zb_X7_gramsOnBlackMarket_0 as S K
theorem zm_X7_gramsOnBlackMarket (l : Launch) (hl : l.stackTraces = false) : zMet l yX7_gramsOnBlackMarket cX7_gramsOnBlackMarket 3 (some .int) { frames := 0, cells := 1, slots := 6, locals := 0 } 0 0 sp_X7_gramsOnBlackMarket := zMet_of hl (by decide +kernel) ⟨rfl, rfl⟩ (fun X C hn _ => zk_X7_gramsOnBlackMarket_0 C hn)
theorem dX7_inspect_0 : decode cX7_inspect 0 = .ok (.aload_n 0, 1) := by decide +kernel
theorem dX7_inspect_1 : decode cX7_inspect 1 = .ok (.iload_n 1, 1) := by decide +kernel
theorem dX7_inspect_2 : decode cX7_inspect 2 = .ok (.invokevirtual 119, 3) := by decide +kernel
theorem dX7_inspect_5 : decode cX7_inspect 5 = .ok (.astore_n 2, 1) := by decide +kernel
theorem dX7_inspect_6 : decode cX7_inspect 6 = .ok (.aload_n 0, 1) := by decide +kernel
theorem dX7_inspect_7 : decode cX7_inspect 7 = .ok (.dup, 1) := by decide +kernel
theorem dX7_inspect_8 : decode cX7_inspect 8 = .ok (.getfield 72, 3) := by decide +kernel
theorem dX7_inspect_11 : decode cX7_inspect 11 = .ok (.iconst 1, 1) := by decide +kernel
theorem dX7_inspect_12 : decode cX7_inspect 12 = .ok (.iadd, 1) := by decide +kernel
theorem dX7_inspect_13 : decode cX7_inspect 13 = .ok (.putfield 72, 3) := by decide +kernel
theorem dX7_inspect_16 : decode cX7_inspect 16 = .ok (.iconst 0, 1) := by decide +kernel
theorem dX7_inspect_17 : decode cX7_inspect 17 = .ok (.istore_n 3, 1) := by decide +kernel
theorem dX7_inspect_18 : decode cX7_inspect 18 = .ok (.iconst 0, 1) := by decide +kernel
theorem dX7_inspect_19 : decode cX7_inspect 19 = .ok (.istore 4, 2) := by decide +kernel
theorem dX7_inspect_21 : decode cX7_inspect 21 = .ok (.iload 4, 2) := by decide +kernel
theorem dX7_inspect_23 : decode cX7_inspect 23 = .ok (.aload_n 2, 1) := by decide +kernel
theorem dX7_inspect_24 : decode cX7_inspect 24 = .ok (.getfield 231, 3) := by decide +kernel
theorem dX7_inspect_27 : decode cX7_inspect 27 = .ok (.arraylength, 1) := by decide +kernel
theorem dX7_inspect_28 : decode cX7_inspect 28 = .ok (.if_icmp .ge 62, 3) := by decide +kernel
theorem dX7_inspect_31 : decode cX7_inspect 31 = .ok (.aload_n 2, 1) := by decide +kernel
theorem dX7_inspect_32 : decode cX7_inspect 32 = .ok (.getfield 231, 3) := by decide +kernel
theorem dX7_inspect_35 : decode cX7_inspect 35 = .ok (.iload 4, 2) := by decide +kernel
theorem dX7_inspect_37 : decode cX7_inspect 37 = .ok (.aaload, 1) := by decide +kernel
theorem dX7_inspect_38 : decode cX7_inspect 38 = .ok (.astore 5, 2) := by decide +kernel
theorem dX7_inspect_40 : decode cX7_inspect 40 = .ok (.aload 5, 2) := by decide +kernel
theorem dX7_inspect_42 : decode cX7_inspect 42 = .ok (.getfield 282, 3) := by decide +kernel
theorem dX7_inspect_45 : decode cX7_inspect 45 = .ok (.aload 5, 2) := by decide +kernel
theorem dX7_inspect_47 : decode cX7_inspect 47 = .ok (.getfield 251, 3) := by decide +kernel
theorem dX7_inspect_50 : decode cX7_inspect 50 = .ok (.invokestatic 264, 3) := by decide +kernel
theorem dX7_inspect_53 : decode cX7_inspect 53 = .ok (.istore 6, 2) := by decide +kernel
theorem dX7_inspect_55 : decode cX7_inspect 55 = .ok (.aload 5, 2) := by decide +kernel
theorem dX7_inspect_57 : decode cX7_inspect 57 = .ok (.dup, 1) := by decide +kernel
theorem dX7_inspect_58 : decode cX7_inspect 58 = .ok (.getfield 282, 3) := by decide +kernel
theorem dX7_inspect_61 : decode cX7_inspect 61 = .ok (.iload 6, 2) := by decide +kernel
theorem dX7_inspect_63 : decode cX7_inspect 63 = .ok (.isub, 1) := by decide +kernel
theorem dX7_inspect_64 : decode cX7_inspect 64 = .ok (.putfield 282, 3) := by decide +kernel
theorem dX7_inspect_67 : decode cX7_inspect 67 = .ok (.aload 5, 2) := by decide +kernel
theorem dX7_inspect_69 : decode cX7_inspect 69 = .ok (.dup, 1) := by decide +kernel
theorem dX7_inspect_70 : decode cX7_inspect 70 = .ok (.getfield 251, 3) := by decide +kernel
theorem dX7_inspect_73 : decode cX7_inspect 73 = .ok (.iload 6, 2) := by decide +kernel
theorem dX7_inspect_75 : decode cX7_inspect 75 = .ok (.isub, 1) := by decide +kernel
theorem dX7_inspect_76 : decode cX7_inspect 76 = .ok (.putfield 251, 3) := by decide +kernel
theorem dX7_inspect_79 : decode cX7_inspect 79 = .ok (.iload_n 3, 1) := by decide +kernel
theorem dX7_inspect_80 : decode cX7_inspect 80 = .ok (.iload 6, 2) := by decide +kernel
theorem dX7_inspect_82 : decode cX7_inspect 82 = .ok (.iadd, 1) := by decide +kernel
theorem dX7_inspect_83 : decode cX7_inspect 83 = .ok (.istore_n 3, 1) := by decide +kernel
theorem dX7_inspect_84 : decode cX7_inspect 84 = .ok (.iinc 4 1, 3) := by decide +kernel
theorem dX7_inspect_87 : decode cX7_inspect 87 = .ok (.goto (-66), 3) := by decide +kernel
theorem dX7_inspect_90 : decode cX7_inspect 90 = .ok (.iload_n 3, 1) := by decide +kernel
theorem dX7_inspect_91 : decode cX7_inspect 91 = .ok (.ireturn, 1) := by decide +kernel
def zb_X7_inspect_21 (J21 : ZP) : ZP := (z_ild 4 (z_ald 2 (z_gf 6 2 (z_alen (z_cmp (fun x y => y ≤ x) (z_ild 3 (z_ret 1)) (z_ald 2 (z_gf 6 2 (z_ild 4 (z_aald (z_ast 5 (z_ald 5 (z_gf 5 5 (z_ald 5 (z_gf 5 1 (z_mm (fun x y => if y < x then y else x) (z_ist 6 (z_ald 5 (z_dup (z_gf 5 5 (z_ild 6 (z_bin (fun x y => x - y) (z_pf 5 5 (z_ald 5 (z_dup (z_gf 5 1 (z_ild 6 (z_bin (fun x y => x - y) (z_pf 5 1 (z_ild 3 (z_ild 6 (z_bin (fun x y => x + y) (z_ist 3 (z_inc 4 (1) J21)))))))))))))))))))))))))))))))))
set_option maxRecDepth 20000 in
theorem zk_X7_inspect_21 {X : ZX} (C : zCx X cX7_inspect RX7 (some .int) 7 111 1 6) (hn : X.nL = 7) {J21 : ZP} (hJ21 : ZOK X 21 J21) : ZOK X 21 (zb_X7_inspect_21 J21) := by
  unfold zb_X7_inspect_21
  refine z_iload_ok (pc := 21) (i := 4) C.hx C.hb dX7_inspect_21 ?_
  refine z_aload_n_ok (pc := 23) (i := 2) C.hx C.hb dX7_inspect_23 rfl ?_
  refine z_gf_ok (pc := 24) C zK6 (f := 2) (by decide) zw_476 rfl dX7_inspect_24 ?_
  refine z_alen_ok (pc := 27) C dX7_inspect_27 ?_
  refine z_icmp_ge_ok (pc := 28) (tgt := 90) C.hx C.hb dX7_inspect_28 (by decide) ?_ ?_
  · refine z_iload_n_ok (pc := 90) (i := 3) C.hx C.hb dX7_inspect_90 rfl ?_
    exact z_iret_ok (pc := 91) C dX7_inspect_91
  · refine z_aload_n_ok (pc := 31) (i := 2) C.hx C.hb dX7_inspect_31 rfl ?_
    refine z_gf_ok (pc := 32) C zK6 (f := 2) (by decide) zw_476 rfl dX7_inspect_32 ?_
    refine z_iload_ok (pc := 35) (i := 4) C.hx C.hb dX7_inspect_35 ?_
    refine z_aald_ok (pc := 37) C dX7_inspect_37 ?_
    refine z_astore_ok (pc := 38) (i := 5) C.hx C.hb dX7_inspect_38 (zlt hn (by decide)) ?_
    refine z_aload_ok (pc := 40) (i := 5) C.hx C.hb dX7_inspect_40 ?_
    refine z_gf_ok (pc := 42) C zK5 (f := 5) (by decide) zw_457 rfl dX7_inspect_42 ?_
    refine z_aload_ok (pc := 45) (i := 5) C.hx C.hb dX7_inspect_45 ?_
    refine z_gf_ok (pc := 47) C zK5 (f := 1) (by decide) zw_449 rfl dX7_inspect_47 ?_
    refine z_min_ok (pc := 50) C (by decide) (by decide) zw_497 zw_498 zw_40 zw_499 dX7_inspect_50 ?_
    refine z_istore_ok (pc := 53) (i := 6) C.hx C.hb dX7_inspect_53 (zlt hn (by decide)) ?_
    refine z_aload_ok (pc := 55) (i := 5) C.hx C.hb dX7_inspect_55 ?_
    refine z_dup_ok (pc := 57) C.hx C.hb dX7_inspect_57 ?_
    refine z_gf_ok (pc := 58) C zK5 (f := 5) (by decide) zw_457 rfl dX7_inspect_58 ?_
    refine z_iload_ok (pc := 61) (i := 6) C.hx C.hb dX7_inspect_61 ?_
    refine z_isub_ok (pc := 63) C.hx C.hb dX7_inspect_63 ?_
    refine z_pf_ok (pc := 64) C zK5 rfl rfl (f := 5) (by decide) zw_457 rfl rfl (by decide +kernel) dX7_inspect_64 ?_
    refine z_aload_ok (pc := 67) (i := 5) C.hx C.hb dX7_inspect_67 ?_
    refine z_dup_ok (pc := 69) C.hx C.hb dX7_inspect_69 ?_
    refine z_gf_ok (pc := 70) C zK5 (f := 1) (by decide) zw_449 rfl dX7_inspect_70 ?_
    refine z_iload_ok (pc := 73) (i := 6) C.hx C.hb dX7_inspect_73 ?_
    refine z_isub_ok (pc := 75) C.hx C.hb dX7_inspect_75 ?_
    refine z_pf_ok (pc := 76) C zK5 rfl rfl (f := 1) (by decide) zw_449 rfl rfl (by decide +kernel) dX7_inspect_76 ?_
    refine z_iload_n_ok (pc := 79) (i := 3) C.hx C.hb dX7_inspect_79 rfl ?_
    refine z_iload_ok (pc := 80) (i := 6) C.hx C.hb dX7_inspect_80 ?_
    refine z_iadd_ok (pc := 82) C.hx C.hb dX7_inspect_82 ?_
    refine z_istore_n_ok (pc := 83) (i := 3) C.hx C.hb dX7_inspect_83 rfl (zlt hn (by decide)) ?_
    refine z_iinc_ok (pc := 84) (i := 4) (v := 1) C.hx C.hb dX7_inspect_84 (by decide) (zlt hn (by decide)) ?_
    refine z_goto_ok (pc := 87) (tgt := 21) C.hx C.hb dX7_inspect_87 (by decide) ?_
    exact hJ21
def zb_X7_inspect_0 : ZP := (z_ald 0 (z_ild 1 (z_invV 7 1 sp_X7_knownShop (z_ast 2 (z_ald 0 (z_dup (z_gf 7 14 (z_push 1 (z_bin (fun x y => x + y) (z_pf 7 14 (z_push 0 (z_ist 3 (z_push 0 (z_ist 4 (z_loop (fun J21 => zb_X7_inspect_21 J21))))))))))))))))
set_option maxRecDepth 20000 in
theorem zk_X7_inspect_0 {X : ZX} (C : zCx X cX7_inspect RX7 (some .int) 7 111 1 6) (hn : X.nL = 7) : ZOK X 0 (zb_X7_inspect_0) := by
  unfold zb_X7_inspect_0
  refine z_aload_n_ok (pc := 0) (i := 0) C.hx C.hb dX7_inspect_0 rfl ?_
  refine z_iload_n_ok (pc := 1) (i := 1) C.hx C.hb dX7_inspect_1 rfl ?_
  refine z_invV_ok (pc := 2) C (by decide +kernel) (zm_X7_knownShop X.l C.htr) ⟨rfl, rfl⟩ ⟨by decide, by decide⟩ (by decide) (by decide) zcl_X7_119 zw_290 zw_3 zK7 dX7_inspect_2 ?_
  refine z_astore_n_ok (pc := 5) (i := 2) C.hx C.hb dX7_inspect_5 rfl (zlt hn (by decide)) ?_
  refine z_aload_n_ok (pc := 6) (i := 0) C.hx C.hb dX7_inspect_6 rfl ?_
  refine z_dup_ok (pc := 7) C.hx C.hb dX7_inspect_7 ?_
  refine z_gf_ok (pc := 8) C zK7 (f := 14) (by decide) zw_122 rfl dX7_inspect_8 ?_
  refine z_iconst_ok (pc := 11) (v := 1) C.hx C.hb dX7_inspect_11 (by decide) ?_
  refine z_iadd_ok (pc := 12) C.hx C.hb dX7_inspect_12 ?_
  refine z_pf_ok (pc := 13) C zK7 rfl rfl (f := 14) (by decide) zw_122 rfl rfl (by decide +kernel) dX7_inspect_13 ?_
  refine z_iconst_ok (pc := 16) (v := 0) C.hx C.hb dX7_inspect_16 (by decide) ?_
  refine z_istore_n_ok (pc := 17) (i := 3) C.hx C.hb dX7_inspect_17 rfl (zlt hn (by decide)) ?_
  refine z_iconst_ok (pc := 18) (v := 0) C.hx C.hb dX7_inspect_18 (by decide) ?_
  refine z_istore_ok (pc := 19) (i := 4) C.hx C.hb dX7_inspect_19 (zlt hn (by decide)) ?_
  exact z_loop_ok (fun J21 hJ21 => zk_X7_inspect_21 C hn hJ21)
def sp_X7_inspect : ZSp := fun as S K => as.length ≤ 7 ∧ zsp 7 zb_X7_inspect_0 as S K
theorem zm_X7_inspect (l : Launch) (hl : l.stackTraces = false) : zMet l yX7_inspect cX7_inspect 7 (some .int) { frames := 7, cells := 1, slots := 6, locals := 111 } 0 0 sp_X7_inspect := zMet_of hl (by decide +kernel) ⟨rfl, rfl⟩ (fun X C hn _ => zk_X7_inspect_0 C hn)
theorem dX7_knownDepot_0 : decode cX7_knownDepot 0 = .ok (.iload_n 1, 1) := by decide +kernel
theorem dX7_knownDepot_1 : decode cX7_knownDepot 1 = .ok (.ifCond .lt 11, 3) := by decide +kernel
theorem dX7_knownDepot_4 : decode cX7_knownDepot 4 = .ok (.iload_n 1, 1) := by decide +kernel
theorem dX7_knownDepot_5 : decode cX7_knownDepot 5 = .ok (.aload_n 0, 1) := by decide +kernel
theorem dX7_knownDepot_6 : decode cX7_knownDepot 6 = .ok (.getfield 54, 3) := by decide +kernel
theorem dX7_knownDepot_9 : decode cX7_knownDepot 9 = .ok (.if_icmp .lt 14, 3) := by decide +kernel
theorem dX7_knownDepot_12 : decode cX7_knownDepot 12 = .ok (.new 333, 3) := by decide +kernel
theorem dX7_knownDepot_15 : decode cX7_knownDepot 15 = .ok (.dup, 1) := by decide +kernel
theorem dX7_knownDepot_16 : decode cX7_knownDepot 16 = .ok (.ldc_w 340, 3) := by decide +kernel
theorem dX7_knownDepot_19 : decode cX7_knownDepot 19 = .ok (.invokespecial 337, 3) := by decide +kernel
theorem dX7_knownDepot_22 : decode cX7_knownDepot 22 = .ok (.athrow, 1) := by decide +kernel
theorem dX7_knownDepot_23 : decode cX7_knownDepot 23 = .ok (.aload_n 0, 1) := by decide +kernel
theorem dX7_knownDepot_24 : decode cX7_knownDepot 24 = .ok (.getfield 23, 3) := by decide +kernel
theorem dX7_knownDepot_27 : decode cX7_knownDepot 27 = .ok (.iload_n 1, 1) := by decide +kernel
theorem dX7_knownDepot_28 : decode cX7_knownDepot 28 = .ok (.aaload, 1) := by decide +kernel
theorem dX7_knownDepot_29 : decode cX7_knownDepot 29 = .ok (.areturn, 1) := by decide +kernel
def zb_X7_knownDepot_12 : ZP := (z_throw 1)
set_option maxRecDepth 20000 in
theorem zk_X7_knownDepot_12 {X : ZX} (C : zCx X cX7_knownDepot RX7 (some (.object "Pointsbook$Depot")) 6 90 1 6) (hn : X.nL = 2) : ZOK X 12 (zb_X7_knownDepot_12) := by
  unfold zb_X7_knownDepot_12
  exact z_throwSW_ok (pc := 12) (text := "no such depot") C zth_333_337 (by decide +kernel) dX7_knownDepot_12 dX7_knownDepot_15 dX7_knownDepot_16 dX7_knownDepot_19 dX7_knownDepot_22 (by decide +kernel) (by decide) (by decide) (by decide) (by decide)
def zb_X7_knownDepot_0 : ZP := (z_ild 1 (z_if (fun x => x < 0) zb_X7_knownDepot_12 (z_ild 1 (z_ald 0 (z_gf 7 8 (z_cmp (fun x y => x < y) (z_ald 0 (z_gf 7 2 (z_ild 1 (z_aald (z_ret 3))))) zb_X7_knownDepot_12))))))
set_option maxRecDepth 20000 in
theorem zk_X7_knownDepot_0 {X : ZX} (C : zCx X cX7_knownDepot RX7 (some (.object "Pointsbook$Depot")) 6 90 1 6) (hn : X.nL = 2) : ZOK X 0 (zb_X7_knownDepot_0) := by
  unfold zb_X7_knownDepot_0
  refine z_iload_n_ok (pc := 0) (i := 1) C.hx C.hb dX7_knownDepot_0 rfl ?_
  refine z_if_lt_ok (pc := 1) (tgt := 12) C.hx C.hb dX7_knownDepot_1 (by decide) ?_ ?_
  · exact zk_X7_knownDepot_12 C hn 
  · refine z_iload_n_ok (pc := 4) (i := 1) C.hx C.hb dX7_knownDepot_4 rfl ?_
    refine z_aload_n_ok (pc := 5) (i := 0) C.hx C.hb dX7_knownDepot_5 rfl ?_
    refine z_gf_ok (pc := 6) C zK7 (f := 8) (by decide) zw_116 rfl dX7_knownDepot_6 ?_
    refine z_icmp_lt_ok (pc := 9) (tgt := 23) C.hx C.hb dX7_knownDepot_9 (by decide) ?_ ?_
    · refine z_aload_n_ok (pc := 23) (i := 0) C.hx C.hb dX7_knownDepot_23 rfl ?_
      refine z_gf_ok (pc := 24) C zK7 (f := 2) (by decide) zw_110 rfl dX7_knownDepot_24 ?_
      refine z_iload_n_ok (pc := 27) (i := 1) C.hx C.hb dX7_knownDepot_27 rfl ?_
      refine z_aald_ok (pc := 28) C dX7_knownDepot_28 ?_
      exact z_aret_ok (pc := 29) C dX7_knownDepot_29
    · exact zk_X7_knownDepot_12 C hn 
def sp_X7_knownDepot : ZSp := fun as S K => as.length ≤ 2 ∧ zsp 2 zb_X7_knownDepot_0 as S K
theorem zm_X7_knownDepot (l : Launch) (hl : l.stackTraces = false) : zMet l yX7_knownDepot cX7_knownDepot 2 (some (.object "Pointsbook$Depot")) { frames := 6, cells := 1, slots := 6, locals := 90 } 0 0 sp_X7_knownDepot := zMet_of hl (by decide +kernel) ⟨rfl, rfl⟩ (fun X C hn _ => zk_X7_knownDepot_0 C hn)
theorem dX7_lacks_0 : decode cX7_lacks 0 = .ok (.aload_n 0, 1) := by decide +kernel
theorem dX7_lacks_1 : decode cX7_lacks 1 = .ok (.iload_n 1, 1) := by decide +kernel
theorem dX7_lacks_2 : decode cX7_lacks 2 = .ok (.invokevirtual 119, 3) := by decide +kernel
theorem dX7_lacks_5 : decode cX7_lacks 5 = .ok (.astore 5, 2) := by decide +kernel
theorem dX7_lacks_7 : decode cX7_lacks 7 = .ok (.aload_n 0, 1) := by decide +kernel
theorem dX7_lacks_8 : decode cX7_lacks 8 = .ok (.iload_n 2, 1) := by decide +kernel
theorem dX7_lacks_9 : decode cX7_lacks 9 = .ok (.invokevirtual 88, 3) := by decide +kernel
theorem dX7_lacks_12 : decode cX7_lacks 12 = .ok (.pop, 1) := by decide +kernel
theorem dX7_lacks_13 : decode cX7_lacks 13 = .ok (.iload_n 3, 1) := by decide +kernel
theorem dX7_lacks_14 : decode cX7_lacks 14 = .ok (.iconst 1, 1) := by decide +kernel
theorem dX7_lacks_15 : decode cX7_lacks 15 = .ok (.ldc 214, 2) := by decide +kernel
theorem dX7_lacks_17 : decode cX7_lacks 17 = .ok (.invokestatic 92, 3) := by decide +kernel
theorem dX7_lacks_20 : decode cX7_lacks 20 = .ok (.iload 4, 2) := by decide +kernel
theorem dX7_lacks_22 : decode cX7_lacks 22 = .ok (.iconst 0, 1) := by decide +kernel
theorem dX7_lacks_23 : decode cX7_lacks 23 = .ok (.iconst 2, 1) := by decide +kernel
theorem dX7_lacks_24 : decode cX7_lacks 24 = .ok (.invokestatic 92, 3) := by decide +kernel
theorem dX7_lacks_27 : decode cX7_lacks 27 = .ok (.iconst 0, 1) := by decide +kernel
theorem dX7_lacks_28 : decode cX7_lacks 28 = .ok (.istore 6, 2) := by decide +kernel
theorem dX7_lacks_30 : decode cX7_lacks 30 = .ok (.iconst 0, 1) := by decide +kernel
theorem dX7_lacks_31 : decode cX7_lacks 31 = .ok (.istore 7, 2) := by decide +kernel
theorem dX7_lacks_33 : decode cX7_lacks 33 = .ok (.iconst (-1), 1) := by decide +kernel
theorem dX7_lacks_34 : decode cX7_lacks 34 = .ok (.istore 8, 2) := by decide +kernel
theorem dX7_lacks_36 : decode cX7_lacks 36 = .ok (.iload_n 3, 1) := by decide +kernel
theorem dX7_lacks_37 : decode cX7_lacks 37 = .ok (.istore 9, 2) := by decide +kernel
theorem dX7_lacks_39 : decode cX7_lacks 39 = .ok (.aload 5, 2) := by decide +kernel
theorem dX7_lacks_41 : decode cX7_lacks 41 = .ok (.getfield 270, 3) := by decide +kernel
theorem dX7_lacks_44 : decode cX7_lacks 44 = .ok (.astore 10, 2) := by decide +kernel
theorem dX7_lacks_46 : decode cX7_lacks 46 = .ok (.aload 10, 2) := by decide +kernel
theorem dX7_lacks_48 : decode cX7_lacks 48 = .ok (.ifnull 51, 3) := by decide +kernel
theorem dX7_lacks_51 : decode cX7_lacks 51 = .ok (.aload 10, 2) := by decide +kernel
theorem dX7_lacks_53 : decode cX7_lacks 53 = .ok (.getfield 219, 3) := by decide +kernel
theorem dX7_lacks_56 : decode cX7_lacks 56 = .ok (.iload_n 2, 1) := by decide +kernel
theorem dX7_lacks_57 : decode cX7_lacks 57 = .ok (.iaload, 1) := by decide +kernel
theorem dX7_lacks_58 : decode cX7_lacks 58 = .ok (.iload 9, 2) := by decide +kernel
theorem dX7_lacks_60 : decode cX7_lacks 60 = .ok (.if_icmp .ge 39, 3) := by decide +kernel
theorem dX7_lacks_63 : decode cX7_lacks 63 = .ok (.iload 9, 2) := by decide +kernel
theorem dX7_lacks_65 : decode cX7_lacks 65 = .ok (.aload 10, 2) := by decide +kernel
theorem dX7_lacks_67 : decode cX7_lacks 67 = .ok (.getfield 219, 3) := by decide +kernel
theorem dX7_lacks_70 : decode cX7_lacks 70 = .ok (.iload_n 2, 1) := by decide +kernel
theorem dX7_lacks_71 : decode cX7_lacks 71 = .ok (.iaload, 1) := by decide +kernel
theorem dX7_lacks_72 : decode cX7_lacks 72 = .ok (.isub, 1) := by decide +kernel
theorem dX7_lacks_73 : decode cX7_lacks 73 = .ok (.istore 9, 2) := by decide +kernel
theorem dX7_lacks_75 : decode cX7_lacks 75 = .ok (.iinc 6 1, 3) := by decide +kernel
theorem dX7_lacks_78 : decode cX7_lacks 78 = .ok (.iload 9, 2) := by decide +kernel
theorem dX7_lacks_80 : decode cX7_lacks 80 = .ok (.istore 7, 2) := by decide +kernel
theorem dX7_lacks_82 : decode cX7_lacks 82 = .ok (.aload 10, 2) := by decide +kernel
theorem dX7_lacks_84 : decode cX7_lacks 84 = .ok (.getfield 274, 3) := by decide +kernel
theorem dX7_lacks_87 : decode cX7_lacks 87 = .ok (.istore 8, 2) := by decide +kernel
theorem dX7_lacks_89 : decode cX7_lacks 89 = .ok (.aload 10, 2) := by decide +kernel
theorem dX7_lacks_91 : decode cX7_lacks 91 = .ok (.getfield 275, 3) := by decide +kernel
theorem dX7_lacks_94 : decode cX7_lacks 94 = .ok (.astore 10, 2) := by decide +kernel
theorem dX7_lacks_96 : decode cX7_lacks 96 = .ok (.goto (-50), 3) := by decide +kernel
theorem dX7_lacks_99 : decode cX7_lacks 99 = .ok (.iload 4, 2) := by decide +kernel
theorem dX7_lacks_101 : decode cX7_lacks 101 = .ok (.ifCond .ne 8, 3) := by decide +kernel
theorem dX7_lacks_104 : decode cX7_lacks 104 = .ok (.iload 6, 2) := by decide +kernel
theorem dX7_lacks_106 : decode cX7_lacks 106 = .ok (.goto 16, 3) := by decide +kernel
theorem dX7_lacks_109 : decode cX7_lacks 109 = .ok (.iload 4, 2) := by decide +kernel
theorem dX7_lacks_111 : decode cX7_lacks 111 = .ok (.iconst 1, 1) := by decide +kernel
theorem dX7_lacks_112 : decode cX7_lacks 112 = .ok (.if_icmp .ne 8, 3) := by decide +kernel
theorem dX7_lacks_115 : decode cX7_lacks 115 = .ok (.iload 7, 2) := by decide +kernel
theorem dX7_lacks_117 : decode cX7_lacks 117 = .ok (.goto 5, 3) := by decide +kernel
theorem dX7_lacks_120 : decode cX7_lacks 120 = .ok (.iload 8, 2) := by decide +kernel
theorem dX7_lacks_122 : decode cX7_lacks 122 = .ok (.ireturn, 1) := by decide +kernel
def zb_X7_lacks_122 : ZP := (z_ret 1)
set_option maxRecDepth 20000 in
theorem zk_X7_lacks_122 {X : ZX} (C : zCx X cX7_lacks RX7 (some .int) 7 112 1 6) (hn : X.nL = 11) : ZOK X 122 (zb_X7_lacks_122) := by
  unfold zb_X7_lacks_122
  exact z_iret_ok (pc := 122) C dX7_lacks_122
def zb_X7_lacks_99 : ZP := (z_ild 4 (z_if (fun x => x = 0) (z_ild 6 zb_X7_lacks_122) (z_ild 4 (z_push 1 (z_cmp (fun x y => x = y) (z_ild 7 zb_X7_lacks_122) (z_ild 8 zb_X7_lacks_122))))))
set_option maxRecDepth 20000 in
theorem zk_X7_lacks_99 {X : ZX} (C : zCx X cX7_lacks RX7 (some .int) 7 112 1 6) (hn : X.nL = 11) : ZOK X 99 (zb_X7_lacks_99) := by
  unfold zb_X7_lacks_99
  refine z_iload_ok (pc := 99) (i := 4) C.hx C.hb dX7_lacks_99 ?_
  refine z_if_ne_ok (pc := 101) (tgt := 109) C.hx C.hb dX7_lacks_101 (by decide) ?_ ?_
  · refine z_iload_ok (pc := 109) (i := 4) C.hx C.hb dX7_lacks_109 ?_
    refine z_iconst_ok (pc := 111) (v := 1) C.hx C.hb dX7_lacks_111 (by decide) ?_
    refine z_icmp_ne_ok (pc := 112) (tgt := 120) C.hx C.hb dX7_lacks_112 (by decide) ?_ ?_
    · refine z_iload_ok (pc := 120) (i := 8) C.hx C.hb dX7_lacks_120 ?_
      exact zk_X7_lacks_122 C hn 
    · refine z_iload_ok (pc := 115) (i := 7) C.hx C.hb dX7_lacks_115 ?_
      refine z_goto_ok (pc := 117) (tgt := 122) C.hx C.hb dX7_lacks_117 (by decide) ?_
      exact zk_X7_lacks_122 C hn 
  · refine z_iload_ok (pc := 104) (i := 6) C.hx C.hb dX7_lacks_104 ?_
    refine z_goto_ok (pc := 106) (tgt := 122) C.hx C.hb dX7_lacks_106 (by decide) ?_
    exact zk_X7_lacks_122 C hn 
def zb_X7_lacks_46 (J46 : ZP) : ZP := (z_ald 10 (z_ifnull zb_X7_lacks_99 (z_ald 10 (z_gf 0 2 (z_ild 2 (z_iald (z_ild 9 (z_cmp (fun x y => y ≤ x) zb_X7_lacks_99 (z_ild 9 (z_ald 10 (z_gf 0 2 (z_ild 2 (z_iald (z_bin (fun x y => x - y) (z_ist 9 (z_inc 6 (1) (z_ild 9 (z_ist 7 (z_ald 10 (z_gf 0 0 (z_ist 8 (z_ald 10 (z_gfn 0 1 0 (z_ast 10 J46))))))))))))))))))))))))
set_option maxRecDepth 20000 in
theorem zk_X7_lacks_46 {X : ZX} (C : zCx X cX7_lacks RX7 (some .int) 7 112 1 6) (hn : X.nL = 11) {J46 : ZP} (hJ46 : ZOK X 46 J46) : ZOK X 46 (zb_X7_lacks_46 J46) := by
  unfold zb_X7_lacks_46
  refine z_aload_ok (pc := 46) (i := 10) C.hx C.hb dX7_lacks_46 ?_
  refine z_ifnull_ok (pc := 48) (tgt := 99) C.hx C.hb dX7_lacks_48 (by decide) ?_ ?_
  · exact zk_X7_lacks_99 C hn 
  · refine z_aload_ok (pc := 51) (i := 10) C.hx C.hb dX7_lacks_51 ?_
    refine z_gf_ok (pc := 53) C zK0 (f := 2) (by decide) zw_422 rfl dX7_lacks_53 ?_
    refine z_iload_n_ok (pc := 56) (i := 2) C.hx C.hb dX7_lacks_56 rfl ?_
    refine z_iald_ok (pc := 57) C dX7_lacks_57 ?_
    refine z_iload_ok (pc := 58) (i := 9) C.hx C.hb dX7_lacks_58 ?_
    refine z_icmp_ge_ok (pc := 60) (tgt := 99) C.hx C.hb dX7_lacks_60 (by decide) ?_ ?_
    · exact zk_X7_lacks_99 C hn 
    · refine z_iload_ok (pc := 63) (i := 9) C.hx C.hb dX7_lacks_63 ?_
      refine z_aload_ok (pc := 65) (i := 10) C.hx C.hb dX7_lacks_65 ?_
      refine z_gf_ok (pc := 67) C zK0 (f := 2) (by decide) zw_422 rfl dX7_lacks_67 ?_
      refine z_iload_n_ok (pc := 70) (i := 2) C.hx C.hb dX7_lacks_70 rfl ?_
      refine z_iald_ok (pc := 71) C dX7_lacks_71 ?_
      refine z_isub_ok (pc := 72) C.hx C.hb dX7_lacks_72 ?_
      refine z_istore_ok (pc := 73) (i := 9) C.hx C.hb dX7_lacks_73 (zlt hn (by decide)) ?_
      refine z_iinc_ok (pc := 75) (i := 6) (v := 1) C.hx C.hb dX7_lacks_75 (by decide) (zlt hn (by decide)) ?_
      refine z_iload_ok (pc := 78) (i := 9) C.hx C.hb dX7_lacks_78 ?_
      refine z_istore_ok (pc := 80) (i := 7) C.hx C.hb dX7_lacks_80 (zlt hn (by decide)) ?_
      refine z_aload_ok (pc := 82) (i := 10) C.hx C.hb dX7_lacks_82 ?_
      refine z_gf_ok (pc := 84) C zK0 (f := 0) (by decide) zw_418 rfl dX7_lacks_84 ?_
      refine z_istore_ok (pc := 87) (i := 8) C.hx C.hb dX7_lacks_87 (zlt hn (by decide)) ?_
      refine z_aload_ok (pc := 89) (i := 10) C.hx C.hb dX7_lacks_89 ?_
      refine z_gfn_ok (pc := 91) C zK0 rfl (f := 1) (by decide) zw_420 rfl dX7_lacks_91 ?_
      refine z_astore_ok (pc := 94) (i := 10) C.hx C.hb dX7_lacks_94 (zlt hn (by decide)) ?_
      refine z_goto_ok (pc := 96) (tgt := 46) C.hx C.hb dX7_lacks_96 (by decide) ?_
      exact hJ46
def zb_X7_lacks_0 : ZP := (z_ald 0 (z_ild 1 (z_invV 7 1 sp_X7_knownShop (z_ast 5 (z_ald 0 (z_ild 2 (z_invV 7 1 sp_X7_knownGood (z_pop (z_ild 3 (z_push 1 (z_push 99999 (z_invS 3 sp_X7_requireRange (z_ild 4 (z_push 0 (z_push 2 (z_invS 3 sp_X7_requireRange (z_push 0 (z_ist 6 (z_push 0 (z_ist 7 (z_push (-1) (z_ist 8 (z_ild 3 (z_ist 9 (z_ald 5 (z_gf 6 1 (z_ast 10 (z_loop (fun J46 => zb_X7_lacks_46 J46)))))))))))))))))))))))))))))
set_option maxRecDepth 20000 in
theorem zk_X7_lacks_0 {X : ZX} (C : zCx X cX7_lacks RX7 (some .int) 7 112 1 6) (hn : X.nL = 11) : ZOK X 0 (zb_X7_lacks_0) := by
  unfold zb_X7_lacks_0
  refine z_aload_n_ok (pc := 0) (i := 0) C.hx C.hb dX7_lacks_0 rfl ?_
  refine z_iload_n_ok (pc := 1) (i := 1) C.hx C.hb dX7_lacks_1 rfl ?_
  refine z_invV_ok (pc := 2) C (by decide +kernel) (zm_X7_knownShop X.l C.htr) ⟨rfl, rfl⟩ ⟨by decide, by decide⟩ (by decide) (by decide) zcl_X7_119 zw_290 zw_3 zK7 dX7_lacks_2 ?_
  refine z_astore_ok (pc := 5) (i := 5) C.hx C.hb dX7_lacks_5 (zlt hn (by decide)) ?_
  refine z_aload_n_ok (pc := 7) (i := 0) C.hx C.hb dX7_lacks_7 rfl ?_
  refine z_iload_n_ok (pc := 8) (i := 2) C.hx C.hb dX7_lacks_8 rfl ?_
  refine z_invV_ok (pc := 9) C (by decide +kernel) (zm_X7_knownGood X.l C.htr) ⟨rfl, rfl⟩ ⟨by decide, by decide⟩ (by decide) (by decide) zcl_X7_88 zw_172 zw_0 zK7 dX7_lacks_9 ?_
  refine z_pop_ok (pc := 12) C.hx C.hb dX7_lacks_12 ?_
  refine z_iload_n_ok (pc := 13) (i := 3) C.hx C.hb dX7_lacks_13 rfl ?_
  refine z_iconst_ok (pc := 14) (v := 1) C.hx C.hb dX7_lacks_14 (by decide) ?_
  refine z_ldc_ok (pc := 15) C zw_488 dX7_lacks_15 ?_
  refine z_invS_ok (pc := 17) C (by decide +kernel) (zm_X7_requireRange X.l C.htr) ⟨rfl, rfl⟩ ⟨by decide, by decide⟩ (by decide) (by decide) zcl_X7_92 zw_243 dX7_lacks_17 ?_
  refine z_iload_ok (pc := 20) (i := 4) C.hx C.hb dX7_lacks_20 ?_
  refine z_iconst_ok (pc := 22) (v := 0) C.hx C.hb dX7_lacks_22 (by decide) ?_
  refine z_iconst_ok (pc := 23) (v := 2) C.hx C.hb dX7_lacks_23 (by decide) ?_
  refine z_invS_ok (pc := 24) C (by decide +kernel) (zm_X7_requireRange X.l C.htr) ⟨rfl, rfl⟩ ⟨by decide, by decide⟩ (by decide) (by decide) zcl_X7_92 zw_243 dX7_lacks_24 ?_
  refine z_iconst_ok (pc := 27) (v := 0) C.hx C.hb dX7_lacks_27 (by decide) ?_
  refine z_istore_ok (pc := 28) (i := 6) C.hx C.hb dX7_lacks_28 (zlt hn (by decide)) ?_
  refine z_iconst_ok (pc := 30) (v := 0) C.hx C.hb dX7_lacks_30 (by decide) ?_
  refine z_istore_ok (pc := 31) (i := 7) C.hx C.hb dX7_lacks_31 (zlt hn (by decide)) ?_
  refine z_iconst_ok (pc := 33) (v := -1) C.hx C.hb dX7_lacks_33 (by decide) ?_
  refine z_istore_ok (pc := 34) (i := 8) C.hx C.hb dX7_lacks_34 (zlt hn (by decide)) ?_
  refine z_iload_n_ok (pc := 36) (i := 3) C.hx C.hb dX7_lacks_36 rfl ?_
  refine z_istore_ok (pc := 37) (i := 9) C.hx C.hb dX7_lacks_37 (zlt hn (by decide)) ?_
  refine z_aload_ok (pc := 39) (i := 5) C.hx C.hb dX7_lacks_39 ?_
  refine z_gf_ok (pc := 41) C zK6 (f := 1) (by decide) zw_474 rfl dX7_lacks_41 ?_
  refine z_astore_ok (pc := 44) (i := 10) C.hx C.hb dX7_lacks_44 (zlt hn (by decide)) ?_
  exact z_loop_ok (fun J46 hJ46 => zk_X7_lacks_46 C hn hJ46)
def sp_X7_lacks : ZSp := fun as S K => as.length ≤ 11 ∧ zsp 11 zb_X7_lacks_0 as S K
theorem zm_X7_lacks (l : Launch) (hl : l.stackTraces = false) : zMet l yX7_lacks cX7_lacks 11 (some .int) { frames := 7, cells := 1, slots := 6, locals := 112 } 0 0 sp_X7_lacks := zMet_of hl (by decide +kernel) ⟨rfl, rfl⟩ (fun X C hn _ => zk_X7_lacks_0 C hn)
theorem dX7_left_0 : decode cX7_left 0 = .ok (.aload_n 0, 1) := by decide +kernel
theorem dX7_left_1 : decode cX7_left 1 = .ok (.iload_n 1, 1) := by decide +kernel
theorem dX7_left_2 : decode cX7_left 2 = .ok (.invokevirtual 130, 3) := by decide +kernel
theorem dX7_left_5 : decode cX7_left 5 = .ok (.astore_n 3, 1) := by decide +kernel
theorem dX7_left_6 : decode cX7_left 6 = .ok (.aload_n 0, 1) := by decide +kernel
theorem dX7_left_7 : decode cX7_left 7 = .ok (.iload_n 2, 1) := by decide +kernel
theorem dX7_left_8 : decode cX7_left 8 = .ok (.invokevirtual 88, 3) := by decide +kernel
theorem dX7_left_11 : decode cX7_left 11 = .ok (.pop, 1) := by decide +kernel
theorem dX7_left_12 : decode cX7_left 12 = .ok (.aload_n 0, 1) := by decide +kernel
theorem dX7_left_13 : decode cX7_left 13 = .ok (.aload_n 3, 1) := by decide +kernel
theorem dX7_left_14 : decode cX7_left 14 = .ok (.iload_n 2, 1) := by decide +kernel
theorem dX7_left_15 : decode cX7_left 15 = .ok (.invokevirtual 193, 3) := by decide +kernel
theorem dX7_left_18 : decode cX7_left 18 = .ok (.ireturn, 1) := by decide +kernel
def zb_X7_left_0 : ZP := (z_ald 0 (z_ild 1 (z_invV 7 1 sp_X7_knownPerson (z_ast 3 (z_ald 0 (z_ild 2 (z_invV 7 1 sp_X7_knownGood (z_pop (z_ald 0 (z_ald 3 (z_ild 2 (z_invV 7 2 sp_X7_gramsLeft (z_ret 1)))))))))))))
set_option maxRecDepth 20000 in
theorem zk_X7_left_0 {X : ZX} (C : zCx X cX7_left RX7 (some .int) 7 111 1 6) (hn : X.nL = 4) : ZOK X 0 (zb_X7_left_0) := by
  unfold zb_X7_left_0
  refine z_aload_n_ok (pc := 0) (i := 0) C.hx C.hb dX7_left_0 rfl ?_
  refine z_iload_n_ok (pc := 1) (i := 1) C.hx C.hb dX7_left_1 rfl ?_
  refine z_invV_ok (pc := 2) C (by decide +kernel) (zm_X7_knownPerson X.l C.htr) ⟨rfl, rfl⟩ ⟨by decide, by decide⟩ (by decide) (by decide) zcl_X7_130 zw_368 zw_4 zK7 dX7_left_2 ?_
  refine z_astore_n_ok (pc := 5) (i := 3) C.hx C.hb dX7_left_5 rfl (zlt hn (by decide)) ?_
  refine z_aload_n_ok (pc := 6) (i := 0) C.hx C.hb dX7_left_6 rfl ?_
  refine z_iload_n_ok (pc := 7) (i := 2) C.hx C.hb dX7_left_7 rfl ?_
  refine z_invV_ok (pc := 8) C (by decide +kernel) (zm_X7_knownGood X.l C.htr) ⟨rfl, rfl⟩ ⟨by decide, by decide⟩ (by decide) (by decide) zcl_X7_88 zw_172 zw_0 zK7 dX7_left_8 ?_
  refine z_pop_ok (pc := 11) C.hx C.hb dX7_left_11 ?_
  refine z_aload_n_ok (pc := 12) (i := 0) C.hx C.hb dX7_left_12 rfl ?_
  refine z_aload_n_ok (pc := 13) (i := 3) C.hx C.hb dX7_left_13 rfl ?_
  refine z_iload_n_ok (pc := 14) (i := 2) C.hx C.hb dX7_left_14 rfl ?_
  refine z_invV_ok (pc := 15) C (by decide +kernel) (zm_X7_gramsLeft X.l C.htr) ⟨rfl, rfl⟩ ⟨by decide, by decide⟩ (by decide) (by decide) zcl_X7_193 zw_392 zw_6 zK7 dX7_left_15 ?_
  exact z_iret_ok (pc := 18) C dX7_left_18
def sp_X7_left : ZSp := fun as S K => as.length ≤ 4 ∧ zsp 4 zb_X7_left_0 as S K
theorem zm_X7_left (l : Launch) (hl : l.stackTraces = false) : zMet l yX7_left cX7_left 4 (some .int) { frames := 7, cells := 1, slots := 6, locals := 111 } 0 0 sp_X7_left := zMet_of hl (by decide +kernel) ⟨rfl, rfl⟩ (fun X C hn _ => zk_X7_left_0 C hn)
theorem dX7_leftAnew_0 : decode cX7_leftAnew 0 = .ok (.aload_n 0, 1) := by decide +kernel
theorem dX7_leftAnew_1 : decode cX7_leftAnew 1 = .ok (.iload_n 1, 1) := by decide +kernel
theorem dX7_leftAnew_2 : decode cX7_leftAnew 2 = .ok (.invokevirtual 130, 3) := by decide +kernel
theorem dX7_leftAnew_5 : decode cX7_leftAnew 5 = .ok (.astore_n 3, 1) := by decide +kernel
theorem dX7_leftAnew_6 : decode cX7_leftAnew 6 = .ok (.aload_n 0, 1) := by decide +kernel
theorem dX7_leftAnew_7 : decode cX7_leftAnew 7 = .ok (.iload_n 2, 1) := by decide +kernel
theorem dX7_leftAnew_8 : decode cX7_leftAnew 8 = .ok (.invokevirtual 88, 3) := by decide +kernel
theorem dX7_leftAnew_11 : decode cX7_leftAnew 11 = .ok (.astore 4, 2) := by decide +kernel
theorem dX7_leftAnew_13 : decode cX7_leftAnew 13 = .ok (.aload_n 3, 1) := by decide +kernel
theorem dX7_leftAnew_14 : decode cX7_leftAnew 14 = .ok (.aload 4, 2) := by decide +kernel
theorem dX7_leftAnew_16 : decode cX7_leftAnew 16 = .ok (.aload_n 0, 1) := by decide +kernel
theorem dX7_leftAnew_17 : decode cX7_leftAnew 17 = .ok (.getfield 42, 3) := by decide +kernel
theorem dX7_leftAnew_20 : decode cX7_leftAnew 20 = .ok (.aload_n 0, 1) := by decide +kernel
theorem dX7_leftAnew_21 : decode cX7_leftAnew 21 = .ok (.getfield 69, 3) := by decide +kernel
theorem dX7_leftAnew_24 : decode cX7_leftAnew 24 = .ok (.aload_n 3, 1) := by decide +kernel
theorem dX7_leftAnew_25 : decode cX7_leftAnew 25 = .ok (.getfield 197, 3) := by decide +kernel
theorem dX7_leftAnew_28 : decode cX7_leftAnew 28 = .ok (.iload_n 2, 1) := by decide +kernel
theorem dX7_leftAnew_29 : decode cX7_leftAnew 29 = .ok (.invokevirtual 198, 3) := by decide +kernel
theorem dX7_leftAnew_32 : decode cX7_leftAnew 32 = .ok (.invokestatic 202, 3) := by decide +kernel
theorem dX7_leftAnew_35 : decode cX7_leftAnew 35 = .ok (.ireturn, 1) := by decide +kernel
def zb_X7_leftAnew_0 : ZP := (z_ald 0 (z_ild 1 (z_invV 7 1 sp_X7_knownPerson (z_ast 3 (z_ald 0 (z_ild 2 (z_invV 7 1 sp_X7_knownGood (z_ast 4 (z_ald 3 (z_ald 4 (z_ald 0 (z_gf 7 5 (z_ald 0 (z_gf 7 13 (z_ald 3 (z_gf 3 0 (z_ild 2 (z_invV 4 3 sp_X4_boughtIn (z_invS 3 sp_X7_gramsLeftAfter (z_ret 1))))))))))))))))))))
set_option maxRecDepth 20000 in
theorem zk_X7_leftAnew_0 {X : ZX} (C : zCx X cX7_leftAnew RX7 (some .int) 7 111 1 6) (hn : X.nL = 5) : ZOK X 0 (zb_X7_leftAnew_0) := by
  unfold zb_X7_leftAnew_0
  refine z_aload_n_ok (pc := 0) (i := 0) C.hx C.hb dX7_leftAnew_0 rfl ?_
  refine z_iload_n_ok (pc := 1) (i := 1) C.hx C.hb dX7_leftAnew_1 rfl ?_
  refine z_invV_ok (pc := 2) C (by decide +kernel) (zm_X7_knownPerson X.l C.htr) ⟨rfl, rfl⟩ ⟨by decide, by decide⟩ (by decide) (by decide) zcl_X7_130 zw_368 zw_4 zK7 dX7_leftAnew_2 ?_
  refine z_astore_n_ok (pc := 5) (i := 3) C.hx C.hb dX7_leftAnew_5 rfl (zlt hn (by decide)) ?_
  refine z_aload_n_ok (pc := 6) (i := 0) C.hx C.hb dX7_leftAnew_6 rfl ?_
  refine z_iload_n_ok (pc := 7) (i := 2) C.hx C.hb dX7_leftAnew_7 rfl ?_
  refine z_invV_ok (pc := 8) C (by decide +kernel) (zm_X7_knownGood X.l C.htr) ⟨rfl, rfl⟩ ⟨by decide, by decide⟩ (by decide) (by decide) zcl_X7_88 zw_172 zw_0 zK7 dX7_leftAnew_8 ?_
  refine z_astore_ok (pc := 11) (i := 4) C.hx C.hb dX7_leftAnew_11 (zlt hn (by decide)) ?_
  refine z_aload_n_ok (pc := 13) (i := 3) C.hx C.hb dX7_leftAnew_13 rfl ?_
  refine z_aload_ok (pc := 14) (i := 4) C.hx C.hb dX7_leftAnew_14 ?_
  refine z_aload_n_ok (pc := 16) (i := 0) C.hx C.hb dX7_leftAnew_16 rfl ?_
  refine z_gf_ok (pc := 17) C zK7 (f := 5) (by decide) zw_113 rfl dX7_leftAnew_17 ?_
  refine z_aload_n_ok (pc := 20) (i := 0) C.hx C.hb dX7_leftAnew_20 rfl ?_
  refine z_gf_ok (pc := 21) C zK7 (f := 13) (by decide) zw_121 rfl dX7_leftAnew_21 ?_
  refine z_aload_n_ok (pc := 24) (i := 3) C.hx C.hb dX7_leftAnew_24 rfl ?_
  refine z_gf_ok (pc := 25) C zK3 (f := 0) (by decide) zw_318 rfl dX7_leftAnew_25 ?_
  refine z_iload_n_ok (pc := 28) (i := 2) C.hx C.hb dX7_leftAnew_28 rfl ?_
  refine z_invV_ok (pc := 29) C (by decide +kernel) (zm_X4_boughtIn X.l C.htr) ⟨rfl, rfl⟩ ⟨by decide, by decide⟩ (by decide) (by decide) zcl_X7_198 zw_725 zw_726 zK4 dX7_leftAnew_29 ?_
  refine z_invS_ok (pc := 32) C (by decide +kernel) (zm_X7_gramsLeftAfter X.l C.htr) ⟨rfl, rfl⟩ ⟨by decide, by decide⟩ (by decide) (by decide) zcl_X7_202 zw_395 dX7_leftAnew_32 ?_
  exact z_iret_ok (pc := 35) C dX7_leftAnew_35
def sp_X7_leftAnew : ZSp := fun as S K => as.length ≤ 5 ∧ zsp 5 zb_X7_leftAnew_0 as S K
theorem zm_X7_leftAnew (l : Launch) (hl : l.stackTraces = false) : zMet l yX7_leftAnew cX7_leftAnew 5 (some .int) { frames := 7, cells := 1, slots := 6, locals := 111 } 0 0 sp_X7_leftAnew := zMet_of hl (by decide +kernel) ⟨rfl, rfl⟩ (fun X C hn _ => zk_X7_leftAnew_0 C hn)
theorem dX7_repriceGood_0 : decode cX7_repriceGood 0 = .ok (.aload_n 1, 1) := by decide +kernel
theorem dX7_repriceGood_1 : decode cX7_repriceGood 1 = .ok (.getfield 109, 3) := by decide +kernel
theorem dX7_repriceGood_4 : decode cX7_repriceGood 4 = .ok (.iload_n 2, 1) := by decide +kernel
theorem dX7_repriceGood_5 : decode cX7_repriceGood 5 = .ok (.iadd, 1) := by decide +kernel
theorem dX7_repriceGood_6 : decode cX7_repriceGood 6 = .ok (.istore_n 3, 1) := by decide +kernel
theorem dX7_repriceGood_7 : decode cX7_repriceGood 7 = .ok (.iload_n 3, 1) := by decide +kernel
theorem dX7_repriceGood_8 : decode cX7_repriceGood 8 = .ok (.ifCond .gt 4, 3) := by decide +kernel
theorem dX7_repriceGood_11 : decode cX7_repriceGood 11 = .ok (.return_, 1) := by decide +kernel
theorem dX7_repriceGood_12 : decode cX7_repriceGood 12 = .ok (.bipush 10, 2) := by decide +kernel
theorem dX7_repriceGood_14 : decode cX7_repriceGood 14 = .ok (.aload_n 1, 1) := by decide +kernel
theorem dX7_repriceGood_15 : decode cX7_repriceGood 15 = .ok (.getfield 109, 3) := by decide +kernel
theorem dX7_repriceGood_18 : decode cX7_repriceGood 18 = .ok (.imul, 1) := by decide +kernel
theorem dX7_repriceGood_19 : decode cX7_repriceGood 19 = .ok (.iload_n 3, 1) := by decide +kernel
theorem dX7_repriceGood_20 : decode cX7_repriceGood 20 = .ok (.idiv, 1) := by decide +kernel
theorem dX7_repriceGood_21 : decode cX7_repriceGood 21 = .ok (.istore 4, 2) := by decide +kernel
theorem dX7_repriceGood_23 : decode cX7_repriceGood 23 = .ok (.aload_n 0, 1) := by decide +kernel
theorem dX7_repriceGood_24 : decode cX7_repriceGood 24 = .ok (.getfield 66, 3) := by decide +kernel
theorem dX7_repriceGood_27 : decode cX7_repriceGood 27 = .ok (.iconst 0, 1) := by decide +kernel
theorem dX7_repriceGood_28 : decode cX7_repriceGood 28 = .ok (.iload 4, 2) := by decide +kernel
theorem dX7_repriceGood_30 : decode cX7_repriceGood 30 = .ok (.bipush 7, 2) := by decide +kernel
theorem dX7_repriceGood_32 : decode cX7_repriceGood 32 = .ok (.isub, 1) := by decide +kernel
theorem dX7_repriceGood_33 : decode cX7_repriceGood 33 = .ok (.invokestatic 367, 3) := by decide +kernel
theorem dX7_repriceGood_36 : decode cX7_repriceGood 36 = .ok (.invokestatic 264, 3) := by decide +kernel
theorem dX7_repriceGood_39 : decode cX7_repriceGood 39 = .ok (.istore 5, 2) := by decide +kernel
theorem dX7_repriceGood_41 : decode cX7_repriceGood 41 = .ok (.aload_n 0, 1) := by decide +kernel
theorem dX7_repriceGood_42 : decode cX7_repriceGood 42 = .ok (.getfield 66, 3) := by decide +kernel
theorem dX7_repriceGood_45 : decode cX7_repriceGood 45 = .ok (.iconst 0, 1) := by decide +kernel
theorem dX7_repriceGood_46 : decode cX7_repriceGood 46 = .ok (.iconst 3, 1) := by decide +kernel
theorem dX7_repriceGood_47 : decode cX7_repriceGood 47 = .ok (.iload 4, 2) := by decide +kernel
theorem dX7_repriceGood_49 : decode cX7_repriceGood 49 = .ok (.isub, 1) := by decide +kernel
theorem dX7_repriceGood_50 : decode cX7_repriceGood 50 = .ok (.invokestatic 367, 3) := by decide +kernel
theorem dX7_repriceGood_53 : decode cX7_repriceGood 53 = .ok (.invokestatic 264, 3) := by decide +kernel
theorem dX7_repriceGood_56 : decode cX7_repriceGood 56 = .ok (.istore 6, 2) := by decide +kernel
theorem dX7_repriceGood_58 : decode cX7_repriceGood 58 = .ok (.aload_n 1, 1) := by decide +kernel
theorem dX7_repriceGood_59 : decode cX7_repriceGood 59 = .ok (.iconst 1, 1) := by decide +kernel
theorem dX7_repriceGood_60 : decode cX7_repriceGood 60 = .ok (.bipush 24, 2) := by decide +kernel
theorem dX7_repriceGood_62 : decode cX7_repriceGood 62 = .ok (.aload_n 1, 1) := by decide +kernel
theorem dX7_repriceGood_63 : decode cX7_repriceGood 63 = .ok (.getfield 106, 3) := by decide +kernel
theorem dX7_repriceGood_66 : decode cX7_repriceGood 66 = .ok (.iload 5, 2) := by decide +kernel
theorem dX7_repriceGood_68 : decode cX7_repriceGood 68 = .ok (.iadd, 1) := by decide +kernel
theorem dX7_repriceGood_69 : decode cX7_repriceGood 69 = .ok (.iload 6, 2) := by decide +kernel
theorem dX7_repriceGood_71 : decode cX7_repriceGood 71 = .ok (.isub, 1) := by decide +kernel
theorem dX7_repriceGood_72 : decode cX7_repriceGood 72 = .ok (.invokestatic 264, 3) := by decide +kernel
theorem dX7_repriceGood_75 : decode cX7_repriceGood 75 = .ok (.invokestatic 367, 3) := by decide +kernel
theorem dX7_repriceGood_78 : decode cX7_repriceGood 78 = .ok (.putfield 106, 3) := by decide +kernel
theorem dX7_repriceGood_81 : decode cX7_repriceGood 81 = .ok (.return_, 1) := by decide +kernel
def zb_X7_repriceGood_0 : ZP := (z_ald 1 (z_gf 2 3 (z_ild 2 (z_bin (fun x y => x + y) (z_ist 3 (z_ild 3 (z_if (fun x => 0 < x) (z_push 10 (z_ald 1 (z_gf 2 3 (z_bin (fun x y => x * y) (z_ild 3 (z_dvn (fun x y => x / y) (z_ist 4 (z_ald 0 (z_gf 7 12 (z_push 0 (z_ild 4 (z_push 7 (z_bin (fun x y => x - y) (z_mm (fun x y => if x < y then y else x) (z_mm (fun x y => if y < x then y else x) (z_ist 5 (z_ald 0 (z_gf 7 12 (z_push 0 (z_push 3 (z_ild 4 (z_bin (fun x y => x - y) (z_mm (fun x y => if x < y then y else x) (z_mm (fun x y => if y < x then y else x) (z_ist 6 (z_ald 1 (z_push 1 (z_push 24 (z_ald 1 (z_gf 2 1 (z_ild 5 (z_bin (fun x y => x + y) (z_ild 6 (z_bin (fun x y => x - y) (z_mm (fun x y => if y < x then y else x) (z_mm (fun x y => if x < y then y else x) (z_pf 2 1 (z_ret 0)))))))))))))))))))))))))))))))))))))) (z_ret 0))))))))
set_option maxRecDepth 20000 in
theorem zk_X7_repriceGood_0 {X : ZX} (C : zCx X cX7_repriceGood RX7 none 1 21 1 6) (hn : X.nL = 7) : ZOK X 0 (zb_X7_repriceGood_0) := by
  unfold zb_X7_repriceGood_0
  refine z_aload_n_ok (pc := 0) (i := 1) C.hx C.hb dX7_repriceGood_0 rfl ?_
  refine z_gf_ok (pc := 1) C zK2 (f := 3) (by decide) zw_94 rfl dX7_repriceGood_1 ?_
  refine z_iload_n_ok (pc := 4) (i := 2) C.hx C.hb dX7_repriceGood_4 rfl ?_
  refine z_iadd_ok (pc := 5) C.hx C.hb dX7_repriceGood_5 ?_
  refine z_istore_n_ok (pc := 6) (i := 3) C.hx C.hb dX7_repriceGood_6 rfl (zlt hn (by decide)) ?_
  refine z_iload_n_ok (pc := 7) (i := 3) C.hx C.hb dX7_repriceGood_7 rfl ?_
  refine z_if_gt_ok (pc := 8) (tgt := 12) C.hx C.hb dX7_repriceGood_8 (by decide) ?_ ?_
  · refine z_bipush_ok (pc := 12) (v := 10) C.hx C.hb dX7_repriceGood_12 (by decide) ?_
    refine z_aload_n_ok (pc := 14) (i := 1) C.hx C.hb dX7_repriceGood_14 rfl ?_
    refine z_gf_ok (pc := 15) C zK2 (f := 3) (by decide) zw_94 rfl dX7_repriceGood_15 ?_
    refine z_imul_ok (pc := 18) C.hx C.hb dX7_repriceGood_18 ?_
    refine z_iload_n_ok (pc := 19) (i := 3) C.hx C.hb dX7_repriceGood_19 rfl ?_
    refine z_idiv_ok (pc := 20) C.hx C.hb dX7_repriceGood_20 ?_
    refine z_istore_ok (pc := 21) (i := 4) C.hx C.hb dX7_repriceGood_21 (zlt hn (by decide)) ?_
    refine z_aload_n_ok (pc := 23) (i := 0) C.hx C.hb dX7_repriceGood_23 rfl ?_
    refine z_gf_ok (pc := 24) C zK7 (f := 12) (by decide) zw_120 rfl dX7_repriceGood_24 ?_
    refine z_iconst_ok (pc := 27) (v := 0) C.hx C.hb dX7_repriceGood_27 (by decide) ?_
    refine z_iload_ok (pc := 28) (i := 4) C.hx C.hb dX7_repriceGood_28 ?_
    refine z_bipush_ok (pc := 30) (v := 7) C.hx C.hb dX7_repriceGood_30 (by decide) ?_
    refine z_isub_ok (pc := 32) C.hx C.hb dX7_repriceGood_32 ?_
    refine z_max_ok (pc := 33) C (by decide) (by decide) zw_379 zw_380 zw_40 zw_381 dX7_repriceGood_33 ?_
    refine z_min_ok (pc := 36) C (by decide) (by decide) zw_497 zw_498 zw_40 zw_499 dX7_repriceGood_36 ?_
    refine z_istore_ok (pc := 39) (i := 5) C.hx C.hb dX7_repriceGood_39 (zlt hn (by decide)) ?_
    refine z_aload_n_ok (pc := 41) (i := 0) C.hx C.hb dX7_repriceGood_41 rfl ?_
    refine z_gf_ok (pc := 42) C zK7 (f := 12) (by decide) zw_120 rfl dX7_repriceGood_42 ?_
    refine z_iconst_ok (pc := 45) (v := 0) C.hx C.hb dX7_repriceGood_45 (by decide) ?_
    refine z_iconst_ok (pc := 46) (v := 3) C.hx C.hb dX7_repriceGood_46 (by decide) ?_
    refine z_iload_ok (pc := 47) (i := 4) C.hx C.hb dX7_repriceGood_47 ?_
    refine z_isub_ok (pc := 49) C.hx C.hb dX7_repriceGood_49 ?_
    refine z_max_ok (pc := 50) C (by decide) (by decide) zw_379 zw_380 zw_40 zw_381 dX7_repriceGood_50 ?_
    refine z_min_ok (pc := 53) C (by decide) (by decide) zw_497 zw_498 zw_40 zw_499 dX7_repriceGood_53 ?_
    refine z_istore_ok (pc := 56) (i := 6) C.hx C.hb dX7_repriceGood_56 (zlt hn (by decide)) ?_
    refine z_aload_n_ok (pc := 58) (i := 1) C.hx C.hb dX7_repriceGood_58 rfl ?_
    refine z_iconst_ok (pc := 59) (v := 1) C.hx C.hb dX7_repriceGood_59 (by decide) ?_
    refine z_bipush_ok (pc := 60) (v := 24) C.hx C.hb dX7_repriceGood_60 (by decide) ?_
    refine z_aload_n_ok (pc := 62) (i := 1) C.hx C.hb dX7_repriceGood_62 rfl ?_
    refine z_gf_ok (pc := 63) C zK2 (f := 1) (by decide) zw_90 rfl dX7_repriceGood_63 ?_
    refine z_iload_ok (pc := 66) (i := 5) C.hx C.hb dX7_repriceGood_66 ?_
    refine z_iadd_ok (pc := 68) C.hx C.hb dX7_repriceGood_68 ?_
    refine z_iload_ok (pc := 69) (i := 6) C.hx C.hb dX7_repriceGood_69 ?_
    refine z_isub_ok (pc := 71) C.hx C.hb dX7_repriceGood_71 ?_
    refine z_min_ok (pc := 72) C (by decide) (by decide) zw_497 zw_498 zw_40 zw_499 dX7_repriceGood_72 ?_
    refine z_max_ok (pc := 75) C (by decide) (by decide) zw_379 zw_380 zw_40 zw_381 dX7_repriceGood_75 ?_
    refine z_pf_ok (pc := 78) C zK2 rfl rfl (f := 1) (by decide) zw_90 rfl rfl (by decide +kernel) dX7_repriceGood_78 ?_
    exact z_vret_ok (pc := 81) C dX7_repriceGood_81
  · exact z_vret_ok (pc := 11) C dX7_repriceGood_11
def sp_X7_repriceGood : ZSp := fun as S K => as.length ≤ 7 ∧ zsp 7 zb_X7_repriceGood_0 as S K
theorem zm_X7_repriceGood (l : Launch) (hl : l.stackTraces = false) : zMet l yX7_repriceGood cX7_repriceGood 7 none { frames := 1, cells := 1, slots := 6, locals := 21 } 0 0 sp_X7_repriceGood := zMet_of hl (by decide +kernel) ⟨rfl, rfl⟩ (fun X C hn _ => zk_X7_repriceGood_0 C hn)
theorem dX7_repriceGoods_0 : decode cX7_repriceGoods 0 = .ok (.iconst 0, 1) := by decide +kernel
theorem dX7_repriceGoods_1 : decode cX7_repriceGoods 1 = .ok (.istore_n 1, 1) := by decide +kernel
theorem dX7_repriceGoods_2 : decode cX7_repriceGoods 2 = .ok (.iload_n 1, 1) := by decide +kernel
theorem dX7_repriceGoods_3 : decode cX7_repriceGoods 3 = .ok (.bipush 6, 2) := by decide +kernel
theorem dX7_repriceGoods_5 : decode cX7_repriceGoods 5 = .ok (.if_icmp .ge 37, 3) := by decide +kernel
theorem dX7_repriceGoods_8 : decode cX7_repriceGoods 8 = .ok (.aload_n 0, 1) := by decide +kernel
theorem dX7_repriceGoods_9 : decode cX7_repriceGoods 9 = .ok (.getfield 11, 3) := by decide +kernel
theorem dX7_repriceGoods_12 : decode cX7_repriceGoods 12 = .ok (.iload_n 1, 1) := by decide +kernel
theorem dX7_repriceGoods_13 : decode cX7_repriceGoods 13 = .ok (.aaload, 1) := by decide +kernel
theorem dX7_repriceGoods_14 : decode cX7_repriceGoods 14 = .ok (.getfield 103, 3) := by decide +kernel
theorem dX7_repriceGoods_17 : decode cX7_repriceGoods 17 = .ok (.iconst 1, 1) := by decide +kernel
theorem dX7_repriceGoods_18 : decode cX7_repriceGoods 18 = .ok (.if_icmp .ne 18, 3) := by decide +kernel
theorem dX7_repriceGoods_21 : decode cX7_repriceGoods 21 = .ok (.aload_n 0, 1) := by decide +kernel
theorem dX7_repriceGoods_22 : decode cX7_repriceGoods 22 = .ok (.aload_n 0, 1) := by decide +kernel
theorem dX7_repriceGoods_23 : decode cX7_repriceGoods 23 = .ok (.getfield 11, 3) := by decide +kernel
theorem dX7_repriceGoods_26 : decode cX7_repriceGoods 26 = .ok (.iload_n 1, 1) := by decide +kernel
theorem dX7_repriceGoods_27 : decode cX7_repriceGoods 27 = .ok (.aaload, 1) := by decide +kernel
theorem dX7_repriceGoods_28 : decode cX7_repriceGoods 28 = .ok (.aload_n 0, 1) := by decide +kernel
theorem dX7_repriceGoods_29 : decode cX7_repriceGoods 29 = .ok (.iload_n 1, 1) := by decide +kernel
theorem dX7_repriceGoods_30 : decode cX7_repriceGoods 30 = .ok (.invokevirtual 112, 3) := by decide +kernel
theorem dX7_repriceGoods_33 : decode cX7_repriceGoods 33 = .ok (.invokevirtual 389, 3) := by decide +kernel
theorem dX7_repriceGoods_36 : decode cX7_repriceGoods 36 = .ok (.iinc 1 1, 3) := by decide +kernel
theorem dX7_repriceGoods_39 : decode cX7_repriceGoods 39 = .ok (.goto (-37), 3) := by decide +kernel
theorem dX7_repriceGoods_42 : decode cX7_repriceGoods 42 = .ok (.return_, 1) := by decide +kernel
def zb_X7_repriceGoods_36 (J2 : ZP) : ZP := (z_inc 1 (1) J2)
set_option maxRecDepth 20000 in
theorem zk_X7_repriceGoods_36 {X : ZX} (C : zCx X cX7_repriceGoods RX7 none 2 47 1 6) (hn : X.nL = 2) {J2 : ZP} (hJ2 : ZOK X 2 J2) : ZOK X 36 (zb_X7_repriceGoods_36 J2) := by
  unfold zb_X7_repriceGoods_36
  refine z_iinc_ok (pc := 36) (i := 1) (v := 1) C.hx C.hb dX7_repriceGoods_36 (by decide) (zlt hn (by decide)) ?_
  refine z_goto_ok (pc := 39) (tgt := 2) C.hx C.hb dX7_repriceGoods_39 (by decide) ?_
  exact hJ2
def zb_X7_repriceGoods_2 (J2 : ZP) : ZP := (z_ild 1 (z_push 6 (z_cmp (fun x y => y ≤ x) (z_ret 0) (z_ald 0 (z_gf 7 0 (z_ild 1 (z_aald (z_gf 2 0 (z_push 1 (z_cmp (fun x y => x = y) (z_ald 0 (z_ald 0 (z_gf 7 0 (z_ild 1 (z_aald (z_ald 0 (z_ild 1 (z_invV 7 1 sp_X7_liesInShops (z_invV 7 2 sp_X7_repriceGood (zb_X7_repriceGoods_36 J2)))))))))) (zb_X7_repriceGoods_36 J2)))))))))))
set_option maxRecDepth 20000 in
theorem zk_X7_repriceGoods_2 {X : ZX} (C : zCx X cX7_repriceGoods RX7 none 2 47 1 6) (hn : X.nL = 2) {J2 : ZP} (hJ2 : ZOK X 2 J2) : ZOK X 2 (zb_X7_repriceGoods_2 J2) := by
  unfold zb_X7_repriceGoods_2
  refine z_iload_n_ok (pc := 2) (i := 1) C.hx C.hb dX7_repriceGoods_2 rfl ?_
  refine z_bipush_ok (pc := 3) (v := 6) C.hx C.hb dX7_repriceGoods_3 (by decide) ?_
  refine z_icmp_ge_ok (pc := 5) (tgt := 42) C.hx C.hb dX7_repriceGoods_5 (by decide) ?_ ?_
  · exact z_vret_ok (pc := 42) C dX7_repriceGoods_42
  · refine z_aload_n_ok (pc := 8) (i := 0) C.hx C.hb dX7_repriceGoods_8 rfl ?_
    refine z_gf_ok (pc := 9) C zK7 (f := 0) (by decide) zw_108 rfl dX7_repriceGoods_9 ?_
    refine z_iload_n_ok (pc := 12) (i := 1) C.hx C.hb dX7_repriceGoods_12 rfl ?_
    refine z_aald_ok (pc := 13) C dX7_repriceGoods_13 ?_
    refine z_gf_ok (pc := 14) C zK2 (f := 0) (by decide) zw_88 rfl dX7_repriceGoods_14 ?_
    refine z_iconst_ok (pc := 17) (v := 1) C.hx C.hb dX7_repriceGoods_17 (by decide) ?_
    refine z_icmp_ne_ok (pc := 18) (tgt := 36) C.hx C.hb dX7_repriceGoods_18 (by decide) ?_ ?_
    · exact zk_X7_repriceGoods_36 C hn hJ2
    · refine z_aload_n_ok (pc := 21) (i := 0) C.hx C.hb dX7_repriceGoods_21 rfl ?_
      refine z_aload_n_ok (pc := 22) (i := 0) C.hx C.hb dX7_repriceGoods_22 rfl ?_
      refine z_gf_ok (pc := 23) C zK7 (f := 0) (by decide) zw_108 rfl dX7_repriceGoods_23 ?_
      refine z_iload_n_ok (pc := 26) (i := 1) C.hx C.hb dX7_repriceGoods_26 rfl ?_
      refine z_aald_ok (pc := 27) C dX7_repriceGoods_27 ?_
      refine z_aload_n_ok (pc := 28) (i := 0) C.hx C.hb dX7_repriceGoods_28 rfl ?_
      refine z_iload_n_ok (pc := 29) (i := 1) C.hx C.hb dX7_repriceGoods_29 rfl ?_
      refine z_invV_ok (pc := 30) C (by decide +kernel) (zm_X7_liesInShops X.l C.htr) ⟨rfl, rfl⟩ ⟨by decide, by decide⟩ (by decide) (by decide) zcl_X7_112 zw_282 zw_2 zK7 dX7_repriceGoods_30 ?_
      refine z_invV_ok (pc := 33) C (by decide +kernel) (zm_X7_repriceGood X.l C.htr) ⟨rfl, rfl⟩ ⟨by decide, by decide⟩ (by decide) (by decide) zcl_X7_389 zw_582 zw_15 zK7 dX7_repriceGoods_33 ?_
      exact zk_X7_repriceGoods_36 C hn hJ2
def zb_X7_repriceGoods_0 : ZP := (z_push 0 (z_ist 1 (z_loop (fun J2 => zb_X7_repriceGoods_2 J2))))
set_option maxRecDepth 20000 in
theorem zk_X7_repriceGoods_0 {X : ZX} (C : zCx X cX7_repriceGoods RX7 none 2 47 1 6) (hn : X.nL = 2) : ZOK X 0 (zb_X7_repriceGoods_0) := by
  unfold zb_X7_repriceGoods_0
  refine z_iconst_ok (pc := 0) (v := 0) C.hx C.hb dX7_repriceGoods_0 (by decide) ?_
  refine z_istore_n_ok (pc := 1) (i := 1) C.hx C.hb dX7_repriceGoods_1 rfl (zlt hn (by decide)) ?_
  exact z_loop_ok (fun J2 hJ2 => zk_X7_repriceGoods_2 C hn hJ2)
def sp_X7_repriceGoods : ZSp := fun as S K => as.length ≤ 2 ∧ zsp 2 zb_X7_repriceGoods_0 as S K
theorem zm_X7_repriceGoods (l : Launch) (hl : l.stackTraces = false) : zMet l yX7_repriceGoods cX7_repriceGoods 2 none { frames := 2, cells := 1, slots := 6, locals := 47 } 0 0 sp_X7_repriceGoods := zMet_of hl (by decide +kernel) ⟨rfl, rfl⟩ (fun X C hn _ => zk_X7_repriceGoods_0 C hn)
theorem dX7_openNewMonth_0 : decode cX7_openNewMonth 0 = .ok (.aload_n 0, 1) := by decide +kernel
theorem dX7_openNewMonth_1 : decode cX7_openNewMonth 1 = .ok (.dup, 1) := by decide +kernel
theorem dX7_openNewMonth_2 : decode cX7_openNewMonth 2 = .ok (.getfield 69, 3) := by decide +kernel
theorem dX7_openNewMonth_5 : decode cX7_openNewMonth 5 = .ok (.iconst 1, 1) := by decide +kernel
theorem dX7_openNewMonth_6 : decode cX7_openNewMonth 6 = .ok (.iadd, 1) := by decide +kernel
theorem dX7_openNewMonth_7 : decode cX7_openNewMonth 7 = .ok (.putfield 69, 3) := by decide +kernel
theorem dX7_openNewMonth_10 : decode cX7_openNewMonth 10 = .ok (.aload_n 0, 1) := by decide +kernel
theorem dX7_openNewMonth_11 : decode cX7_openNewMonth 11 = .ok (.iconst 0, 1) := by decide +kernel
theorem dX7_openNewMonth_12 : decode cX7_openNewMonth 12 = .ok (.putfield 72, 3) := by decide +kernel
theorem dX7_openNewMonth_15 : decode cX7_openNewMonth 15 = .ok (.iconst 0, 1) := by decide +kernel
theorem dX7_openNewMonth_16 : decode cX7_openNewMonth 16 = .ok (.istore_n 1, 1) := by decide +kernel
theorem dX7_openNewMonth_17 : decode cX7_openNewMonth 17 = .ok (.iload_n 1, 1) := by decide +kernel
theorem dX7_openNewMonth_18 : decode cX7_openNewMonth 18 = .ok (.bipush 6, 2) := by decide +kernel
theorem dX7_openNewMonth_20 : decode cX7_openNewMonth 20 = .ok (.if_icmp .ge 19, 3) := by decide +kernel
theorem dX7_openNewMonth_23 : decode cX7_openNewMonth 23 = .ok (.aload_n 0, 1) := by decide +kernel
theorem dX7_openNewMonth_24 : decode cX7_openNewMonth 24 = .ok (.getfield 11, 3) := by decide +kernel
theorem dX7_openNewMonth_27 : decode cX7_openNewMonth 27 = .ok (.iload_n 1, 1) := by decide +kernel
theorem dX7_openNewMonth_28 : decode cX7_openNewMonth 28 = .ok (.aaload, 1) := by decide +kernel
theorem dX7_openNewMonth_29 : decode cX7_openNewMonth 29 = .ok (.iconst 0, 1) := by decide +kernel
theorem dX7_openNewMonth_30 : decode cX7_openNewMonth 30 = .ok (.putfield 109, 3) := by decide +kernel
theorem dX7_openNewMonth_33 : decode cX7_openNewMonth 33 = .ok (.iinc 1 1, 3) := by decide +kernel
theorem dX7_openNewMonth_36 : decode cX7_openNewMonth 36 = .ok (.goto (-19), 3) := by decide +kernel
theorem dX7_openNewMonth_39 : decode cX7_openNewMonth 39 = .ok (.iconst 0, 1) := by decide +kernel
theorem dX7_openNewMonth_40 : decode cX7_openNewMonth 40 = .ok (.istore_n 1, 1) := by decide +kernel
theorem dX7_openNewMonth_41 : decode cX7_openNewMonth 41 = .ok (.iload_n 1, 1) := by decide +kernel
theorem dX7_openNewMonth_42 : decode cX7_openNewMonth 42 = .ok (.aload_n 0, 1) := by decide +kernel
theorem dX7_openNewMonth_43 : decode cX7_openNewMonth 43 = .ok (.getfield 50, 3) := by decide +kernel
theorem dX7_openNewMonth_46 : decode cX7_openNewMonth 46 = .ok (.if_icmp .ge 18, 3) := by decide +kernel
theorem dX7_openNewMonth_49 : decode cX7_openNewMonth 49 = .ok (.aload_n 0, 1) := by decide +kernel
theorem dX7_openNewMonth_50 : decode cX7_openNewMonth 50 = .ok (.getfield 17, 3) := by decide +kernel
theorem dX7_openNewMonth_53 : decode cX7_openNewMonth 53 = .ok (.iload_n 1, 1) := by decide +kernel
theorem dX7_openNewMonth_54 : decode cX7_openNewMonth 54 = .ok (.aaload, 1) := by decide +kernel
theorem dX7_openNewMonth_55 : decode cX7_openNewMonth 55 = .ok (.invokevirtual 393, 3) := by decide +kernel
theorem dX7_openNewMonth_58 : decode cX7_openNewMonth 58 = .ok (.iinc 1 1, 3) := by decide +kernel
theorem dX7_openNewMonth_61 : decode cX7_openNewMonth 61 = .ok (.goto (-20), 3) := by decide +kernel
theorem dX7_openNewMonth_64 : decode cX7_openNewMonth 64 = .ok (.return_, 1) := by decide +kernel
def zb_X7_openNewMonth_41 (J41 : ZP) : ZP := (z_ild 1 (z_ald 0 (z_gf 7 7 (z_cmp (fun x y => y ≤ x) (z_ret 0) (z_ald 0 (z_gf 7 1 (z_ild 1 (z_aald (z_invV 3 0 sp_X3_openNewBook (z_inc 1 (1) J41))))))))))
set_option maxRecDepth 20000 in
theorem zk_X7_openNewMonth_41 {X : ZX} (C : zCx X cX7_openNewMonth RX7 none 1 21 1 6) (hn : X.nL = 2) {J41 : ZP} (hJ41 : ZOK X 41 J41) : ZOK X 41 (zb_X7_openNewMonth_41 J41) := by
  unfold zb_X7_openNewMonth_41
  refine z_iload_n_ok (pc := 41) (i := 1) C.hx C.hb dX7_openNewMonth_41 rfl ?_
  refine z_aload_n_ok (pc := 42) (i := 0) C.hx C.hb dX7_openNewMonth_42 rfl ?_
  refine z_gf_ok (pc := 43) C zK7 (f := 7) (by decide) zw_115 rfl dX7_openNewMonth_43 ?_
  refine z_icmp_ge_ok (pc := 46) (tgt := 64) C.hx C.hb dX7_openNewMonth_46 (by decide) ?_ ?_
  · exact z_vret_ok (pc := 64) C dX7_openNewMonth_64
  · refine z_aload_n_ok (pc := 49) (i := 0) C.hx C.hb dX7_openNewMonth_49 rfl ?_
    refine z_gf_ok (pc := 50) C zK7 (f := 1) (by decide) zw_109 rfl dX7_openNewMonth_50 ?_
    refine z_iload_n_ok (pc := 53) (i := 1) C.hx C.hb dX7_openNewMonth_53 rfl ?_
    refine z_aald_ok (pc := 54) C dX7_openNewMonth_54 ?_
    refine z_invV_ok (pc := 55) C (by decide +kernel) (zm_X3_openNewBook X.l C.htr) ⟨rfl, rfl⟩ ⟨by decide, by decide⟩ (by decide) (by decide) zcl_X7_393 zw_589 zw_590 zK3 dX7_openNewMonth_55 ?_
    refine z_iinc_ok (pc := 58) (i := 1) (v := 1) C.hx C.hb dX7_openNewMonth_58 (by decide) (zlt hn (by decide)) ?_
    refine z_goto_ok (pc := 61) (tgt := 41) C.hx C.hb dX7_openNewMonth_61 (by decide) ?_
    exact hJ41
def zb_X7_openNewMonth_17 (J17 : ZP) : ZP := (z_ild 1 (z_push 6 (z_cmp (fun x y => y ≤ x) (z_push 0 (z_ist 1 (z_loop (fun J41 => zb_X7_openNewMonth_41 J41)))) (z_ald 0 (z_gf 7 0 (z_ild 1 (z_aald (z_push 0 (z_pf 2 3 (z_inc 1 (1) J17))))))))))
set_option maxRecDepth 20000 in
theorem zk_X7_openNewMonth_17 {X : ZX} (C : zCx X cX7_openNewMonth RX7 none 1 21 1 6) (hn : X.nL = 2) {J17 : ZP} (hJ17 : ZOK X 17 J17) : ZOK X 17 (zb_X7_openNewMonth_17 J17) := by
  unfold zb_X7_openNewMonth_17
  refine z_iload_n_ok (pc := 17) (i := 1) C.hx C.hb dX7_openNewMonth_17 rfl ?_
  refine z_bipush_ok (pc := 18) (v := 6) C.hx C.hb dX7_openNewMonth_18 (by decide) ?_
  refine z_icmp_ge_ok (pc := 20) (tgt := 39) C.hx C.hb dX7_openNewMonth_20 (by decide) ?_ ?_
  · refine z_iconst_ok (pc := 39) (v := 0) C.hx C.hb dX7_openNewMonth_39 (by decide) ?_
    refine z_istore_n_ok (pc := 40) (i := 1) C.hx C.hb dX7_openNewMonth_40 rfl (zlt hn (by decide)) ?_
    exact z_loop_ok (fun J41 hJ41 => zk_X7_openNewMonth_41 C hn hJ41)
  · refine z_aload_n_ok (pc := 23) (i := 0) C.hx C.hb dX7_openNewMonth_23 rfl ?_
    refine z_gf_ok (pc := 24) C zK7 (f := 0) (by decide) zw_108 rfl dX7_openNewMonth_24 ?_
    refine z_iload_n_ok (pc := 27) (i := 1) C.hx C.hb dX7_openNewMonth_27 rfl ?_
    refine z_aald_ok (pc := 28) C dX7_openNewMonth_28 ?_
    refine z_iconst_ok (pc := 29) (v := 0) C.hx C.hb dX7_openNewMonth_29 (by decide) ?_
    refine z_pf_ok (pc := 30) C zK2 rfl rfl (f := 3) (by decide) zw_94 rfl rfl (by decide +kernel) dX7_openNewMonth_30 ?_
    refine z_iinc_ok (pc := 33) (i := 1) (v := 1) C.hx C.hb dX7_openNewMonth_33 (by decide) (zlt hn (by decide)) ?_
    refine z_goto_ok (pc := 36) (tgt := 17) C.hx C.hb dX7_openNewMonth_36 (by decide) ?_
    exact hJ17
def zb_X7_openNewMonth_0 : ZP := (z_ald 0 (z_dup (z_gf 7 13 (z_push 1 (z_bin (fun x y => x + y) (z_pf 7 13 (z_ald 0 (z_push 0 (z_pf 7 14 (z_push 0 (z_ist 1 (z_loop (fun J17 => zb_X7_openNewMonth_17 J17)))))))))))))
set_option maxRecDepth 20000 in
theorem zk_X7_openNewMonth_0 {X : ZX} (C : zCx X cX7_openNewMonth RX7 none 1 21 1 6) (hn : X.nL = 2) : ZOK X 0 (zb_X7_openNewMonth_0) := by
  unfold zb_X7_openNewMonth_0
  refine z_aload_n_ok (pc := 0) (i := 0) C.hx C.hb dX7_openNewMonth_0 rfl ?_
  refine z_dup_ok (pc := 1) C.hx C.hb dX7_openNewMonth_1 ?_
  refine z_gf_ok (pc := 2) C zK7 (f := 13) (by decide) zw_121 rfl dX7_openNewMonth_2 ?_
  refine z_iconst_ok (pc := 5) (v := 1) C.hx C.hb dX7_openNewMonth_5 (by decide) ?_
  refine z_iadd_ok (pc := 6) C.hx C.hb dX7_openNewMonth_6 ?_
  refine z_pf_ok (pc := 7) C zK7 rfl rfl (f := 13) (by decide) zw_121 rfl rfl (by decide +kernel) dX7_openNewMonth_7 ?_
  refine z_aload_n_ok (pc := 10) (i := 0) C.hx C.hb dX7_openNewMonth_10 rfl ?_
  refine z_iconst_ok (pc := 11) (v := 0) C.hx C.hb dX7_openNewMonth_11 (by decide) ?_
  refine z_pf_ok (pc := 12) C zK7 rfl rfl (f := 14) (by decide) zw_122 rfl rfl (by decide +kernel) dX7_openNewMonth_12 ?_
  refine z_iconst_ok (pc := 15) (v := 0) C.hx C.hb dX7_openNewMonth_15 (by decide) ?_
  refine z_istore_n_ok (pc := 16) (i := 1) C.hx C.hb dX7_openNewMonth_16 rfl (zlt hn (by decide)) ?_
  exact z_loop_ok (fun J17 hJ17 => zk_X7_openNewMonth_17 C hn hJ17)
def sp_X7_openNewMonth : ZSp := fun as S K => as.length ≤ 2 ∧ zsp 2 zb_X7_openNewMonth_0 as S K
theorem zm_X7_openNewMonth (l : Launch) (hl : l.stackTraces = false) : zMet l yX7_openNewMonth cX7_openNewMonth 2 none { frames := 1, cells := 1, slots := 6, locals := 21 } 0 0 sp_X7_openNewMonth := zMet_of hl (by decide +kernel) ⟨rfl, rfl⟩ (fun X C hn _ => zk_X7_openNewMonth_0 C hn)
