theorem dX8_in_0 : decode cX8_in 0 = .ok (.iload_n 0, 1) := by decide +kernel
theorem dX8_in_1 : decode cX8_in 1 = .ok (.iload_n 1, 1) := by decide +kernel
theorem dX8_in_2 : decode cX8_in 2 = .ok (.if_icmp .lt 12, 3) := by decide +kernel
theorem dX8_in_5 : decode cX8_in 5 = .ok (.iload_n 0, 1) := by decide +kernel
theorem dX8_in_6 : decode cX8_in 6 = .ok (.iload_n 2, 1) := by decide +kernel
theorem dX8_in_7 : decode cX8_in 7 = .ok (.if_icmp .gt 7, 3) := by decide +kernel
theorem dX8_in_10 : decode cX8_in 10 = .ok (.iconst 1, 1) := by decide +kernel
theorem dX8_in_11 : decode cX8_in 11 = .ok (.goto 4, 3) := by decide +kernel
theorem dX8_in_14 : decode cX8_in 14 = .ok (.iconst 0, 1) := by decide +kernel
theorem dX8_in_15 : decode cX8_in 15 = .ok (.ireturn, 1) := by decide +kernel
def zb_X8_in_15 : ZP := (z_ret 2)
set_option maxRecDepth 20000 in
theorem zk_X8_in_15 {X : ZX} (C : zCx X cX8_in RX8 (some .boolean) 0 0 1 6) (hn : X.nL = 3) : ZOK X 15 (zb_X8_in_15) := by
  unfold zb_X8_in_15
  exact z_zret_ok (pc := 15) C dX8_in_15
def zb_X8_in_14 : ZP := (z_push 0 zb_X8_in_15)
set_option maxRecDepth 20000 in
theorem zk_X8_in_14 {X : ZX} (C : zCx X cX8_in RX8 (some .boolean) 0 0 1 6) (hn : X.nL = 3) : ZOK X 14 (zb_X8_in_14) := by
  unfold zb_X8_in_14
  refine z_iconst_ok (pc := 14) (v := 0) C.hx C.hb dX8_in_14 (by decide) ?_
  exact zk_X8_in_15 C hn 
def zb_X8_in_0 : ZP := (z_ild 0 (z_ild 1 (z_cmp (fun x y => x < y) zb_X8_in_14 (z_ild 0 (z_ild 2 (z_cmp (fun x y => y < x) zb_X8_in_14 (z_push 1 zb_X8_in_15)))))))
set_option maxRecDepth 20000 in
theorem zk_X8_in_0 {X : ZX} (C : zCx X cX8_in RX8 (some .boolean) 0 0 1 6) (hn : X.nL = 3) : ZOK X 0 (zb_X8_in_0) := by
  unfold zb_X8_in_0
  refine z_iload_n_ok (pc := 0) (i := 0) C.hx C.hb dX8_in_0 rfl ?_
  refine z_iload_n_ok (pc := 1) (i := 1) C.hx C.hb dX8_in_1 rfl ?_
  refine z_icmp_lt_ok (pc := 2) (tgt := 14) C.hx C.hb dX8_in_2 (by decide) ?_ ?_
  · exact zk_X8_in_14 C hn 
  · refine z_iload_n_ok (pc := 5) (i := 0) C.hx C.hb dX8_in_5 rfl ?_
    refine z_iload_n_ok (pc := 6) (i := 2) C.hx C.hb dX8_in_6 rfl ?_
    refine z_icmp_gt_ok (pc := 7) (tgt := 14) C.hx C.hb dX8_in_7 (by decide) ?_ ?_
    · exact zk_X8_in_14 C hn 
    · refine z_iconst_ok (pc := 10) (v := 1) C.hx C.hb dX8_in_10 (by decide) ?_
      refine z_goto_ok (pc := 11) (tgt := 15) C.hx C.hb dX8_in_11 (by decide) ?_
      exact zk_X8_in_15 C hn 
def sp_X8_in : ZSp := fun as S K => as.length ≤ 3 ∧ zsp 3 zb_X8_in_0 as S K
theorem zm_X8_in (l : Launch) (hl : l.stackTraces = false) : zMet l yX8_in cX8_in 3 (some .boolean) { frames := 0, cells := 1, slots := 6, locals := 0 } 0 0 sp_X8_in := zMet_of hl (by decide +kernel) ⟨rfl, rfl⟩ (fun X C hn _ => zk_X8_in_0 C hn)
theorem dX8_isShop_0 : decode cX8_isShop 0 = .ok (.iload_n 1, 1) := by decide +kernel
theorem dX8_isShop_1 : decode cX8_isShop 1 = .ok (.iconst 0, 1) := by decide +kernel
theorem dX8_isShop_2 : decode cX8_isShop 2 = .ok (.aload_n 0, 1) := by decide +kernel
theorem dX8_isShop_3 : decode cX8_isShop 3 = .ok (.getfield 127, 3) := by decide +kernel
theorem dX8_isShop_6 : decode cX8_isShop 6 = .ok (.iconst 1, 1) := by decide +kernel
theorem dX8_isShop_7 : decode cX8_isShop 7 = .ok (.isub, 1) := by decide +kernel
theorem dX8_isShop_8 : decode cX8_isShop 8 = .ok (.invokestatic 120, 3) := by decide +kernel
theorem dX8_isShop_11 : decode cX8_isShop 11 = .ok (.ireturn, 1) := by decide +kernel
def zb_X8_isShop_0 : ZP := (z_ild 1 (z_push 0 (z_ald 0 (z_gf 8 28 (z_push 1 (z_bin (fun x y => x - y) (z_invS 3 sp_X8_in (z_ret 2))))))))
set_option maxRecDepth 20000 in
theorem zk_X8_isShop_0 {X : ZX} (C : zCx X cX8_isShop RX8 (some .boolean) 1 22 1 6) (hn : X.nL = 2) : ZOK X 0 (zb_X8_isShop_0) := by
  unfold zb_X8_isShop_0
  refine z_iload_n_ok (pc := 0) (i := 1) C.hx C.hb dX8_isShop_0 rfl ?_
  refine z_iconst_ok (pc := 1) (v := 0) C.hx C.hb dX8_isShop_1 (by decide) ?_
  refine z_aload_n_ok (pc := 2) (i := 0) C.hx C.hb dX8_isShop_2 rfl ?_
  refine z_gf_ok (pc := 3) C zK8 (f := 28) (by decide) zw_885 rfl dX8_isShop_3 ?_
  refine z_iconst_ok (pc := 6) (v := 1) C.hx C.hb dX8_isShop_6 (by decide) ?_
  refine z_isub_ok (pc := 7) C.hx C.hb dX8_isShop_7 ?_
  refine z_invS_ok (pc := 8) C (by decide +kernel) (zm_X8_in X.l C.htr) ⟨rfl, rfl⟩ ⟨by decide, by decide⟩ (by decide) (by decide) zcl_X8_120 zw_1012 dX8_isShop_8 ?_
  exact z_zret_ok (pc := 11) C dX8_isShop_11
def sp_X8_isShop : ZSp := fun as S K => as.length ≤ 2 ∧ zsp 2 zb_X8_isShop_0 as S K
theorem zm_X8_isShop (l : Launch) (hl : l.stackTraces = false) : zMet l yX8_isShop cX8_isShop 2 (some .boolean) { frames := 1, cells := 1, slots := 6, locals := 22 } 0 0 sp_X8_isShop := zMet_of hl (by decide +kernel) ⟨rfl, rfl⟩ (fun X C hn _ => zk_X8_isShop_0 C hn)
theorem dX8_isGood_0 : decode cX8_isGood 0 = .ok (.iload_n 0, 1) := by decide +kernel
theorem dX8_isGood_1 : decode cX8_isGood 1 = .ok (.iconst 0, 1) := by decide +kernel
theorem dX8_isGood_2 : decode cX8_isGood 2 = .ok (.iconst 5, 1) := by decide +kernel
theorem dX8_isGood_3 : decode cX8_isGood 3 = .ok (.invokestatic 120, 3) := by decide +kernel
theorem dX8_isGood_6 : decode cX8_isGood 6 = .ok (.ireturn, 1) := by decide +kernel
def zb_X8_isGood_0 : ZP := (z_ild 0 (z_push 0 (z_push 5 (z_invS 3 sp_X8_in (z_ret 2)))))
set_option maxRecDepth 20000 in
theorem zk_X8_isGood_0 {X : ZX} (C : zCx X cX8_isGood RX8 (some .boolean) 1 22 1 6) (hn : X.nL = 1) : ZOK X 0 (zb_X8_isGood_0) := by
  unfold zb_X8_isGood_0
  refine z_iload_n_ok (pc := 0) (i := 0) C.hx C.hb dX8_isGood_0 rfl ?_
  refine z_iconst_ok (pc := 1) (v := 0) C.hx C.hb dX8_isGood_1 (by decide) ?_
  refine z_iconst_ok (pc := 2) (v := 5) C.hx C.hb dX8_isGood_2 (by decide) ?_
  refine z_invS_ok (pc := 3) C (by decide +kernel) (zm_X8_in X.l C.htr) ⟨rfl, rfl⟩ ⟨by decide, by decide⟩ (by decide) (by decide) zcl_X8_120 zw_1012 dX8_isGood_3 ?_
  exact z_zret_ok (pc := 6) C dX8_isGood_6
def sp_X8_isGood : ZSp := fun as S K => as.length ≤ 1 ∧ zsp 1 zb_X8_isGood_0 as S K
theorem zm_X8_isGood (l : Launch) (hl : l.stackTraces = false) : zMet l yX8_isGood cX8_isGood 1 (some .boolean) { frames := 1, cells := 1, slots := 6, locals := 22 } 0 0 sp_X8_isGood := zMet_of hl (by decide +kernel) ⟨rfl, rfl⟩ (fun X C hn _ => zk_X8_isGood_0 C hn)
theorem dX8_fails_0 : decode cX8_fails 0 = .ok (.aload_n 0, 1) := by decide +kernel
theorem dX8_fails_1 : decode cX8_fails 1 = .ok (.iload_n 1, 1) := by decide +kernel
theorem dX8_fails_2 : decode cX8_fails 2 = .ok (.ifCond .eq 7, 3) := by decide +kernel
theorem dX8_fails_5 : decode cX8_fails 5 = .ok (.iconst 0, 1) := by decide +kernel
theorem dX8_fails_6 : decode cX8_fails 6 = .ok (.goto 4, 3) := by decide +kernel
theorem dX8_fails_9 : decode cX8_fails 9 = .ok (.iload_n 2, 1) := by decide +kernel
theorem dX8_fails_10 : decode cX8_fails 10 = .ok (.putfield 117, 3) := by decide +kernel
theorem dX8_fails_13 : decode cX8_fails 13 = .ok (.iload_n 1, 1) := by decide +kernel
theorem dX8_fails_14 : decode cX8_fails 14 = .ok (.ifCond .ne 7, 3) := by decide +kernel
theorem dX8_fails_17 : decode cX8_fails 17 = .ok (.iconst 1, 1) := by decide +kernel
theorem dX8_fails_18 : decode cX8_fails 18 = .ok (.goto 4, 3) := by decide +kernel
theorem dX8_fails_21 : decode cX8_fails 21 = .ok (.iconst 0, 1) := by decide +kernel
theorem dX8_fails_22 : decode cX8_fails 22 = .ok (.ireturn, 1) := by decide +kernel
def zb_X8_fails_22 : ZP := (z_ret 2)
set_option maxRecDepth 20000 in
theorem zk_X8_fails_22 {X : ZX} (C : zCx X cX8_fails RX8 (some .boolean) 0 0 1 6) (hn : X.nL = 3) : ZOK X 22 (zb_X8_fails_22) := by
  unfold zb_X8_fails_22
  exact z_zret_ok (pc := 22) C dX8_fails_22
def zb_X8_fails_10 : ZP := (z_pf 8 46 (z_ild 1 (z_if (fun x => x = 0) (z_push 1 zb_X8_fails_22) (z_push 0 zb_X8_fails_22))))
set_option maxRecDepth 20000 in
theorem zk_X8_fails_10 {X : ZX} (C : zCx X cX8_fails RX8 (some .boolean) 0 0 1 6) (hn : X.nL = 3) : ZOK X 10 (zb_X8_fails_10) := by
  unfold zb_X8_fails_10
  refine z_pf_ok (pc := 10) C zK8 rfl rfl (f := 46) (by decide) zw_903 rfl rfl (by decide +kernel) dX8_fails_10 ?_
  refine z_iload_n_ok (pc := 13) (i := 1) C.hx C.hb dX8_fails_13 rfl ?_
  refine z_if_ne_ok (pc := 14) (tgt := 21) C.hx C.hb dX8_fails_14 (by decide) ?_ ?_
  · refine z_iconst_ok (pc := 21) (v := 0) C.hx C.hb dX8_fails_21 (by decide) ?_
    exact zk_X8_fails_22 C hn 
  · refine z_iconst_ok (pc := 17) (v := 1) C.hx C.hb dX8_fails_17 (by decide) ?_
    refine z_goto_ok (pc := 18) (tgt := 22) C.hx C.hb dX8_fails_18 (by decide) ?_
    exact zk_X8_fails_22 C hn 
def zb_X8_fails_0 : ZP := (z_ald 0 (z_ild 1 (z_if (fun x => x = 0) (z_ild 2 zb_X8_fails_10) (z_push 0 zb_X8_fails_10))))
set_option maxRecDepth 20000 in
theorem zk_X8_fails_0 {X : ZX} (C : zCx X cX8_fails RX8 (some .boolean) 0 0 1 6) (hn : X.nL = 3) : ZOK X 0 (zb_X8_fails_0) := by
  unfold zb_X8_fails_0
  refine z_aload_n_ok (pc := 0) (i := 0) C.hx C.hb dX8_fails_0 rfl ?_
  refine z_iload_n_ok (pc := 1) (i := 1) C.hx C.hb dX8_fails_1 rfl ?_
  refine z_if_eq_ok (pc := 2) (tgt := 9) C.hx C.hb dX8_fails_2 (by decide) ?_ ?_
  · refine z_iload_n_ok (pc := 9) (i := 2) C.hx C.hb dX8_fails_9 rfl ?_
    exact zk_X8_fails_10 C hn 
  · refine z_iconst_ok (pc := 5) (v := 0) C.hx C.hb dX8_fails_5 (by decide) ?_
    refine z_goto_ok (pc := 6) (tgt := 10) C.hx C.hb dX8_fails_6 (by decide) ?_
    exact zk_X8_fails_10 C hn 
def sp_X8_fails : ZSp := fun as S K => as.length ≤ 3 ∧ zsp 3 zb_X8_fails_0 as S K
theorem zm_X8_fails (l : Launch) (hl : l.stackTraces = false) : zMet l yX8_fails cX8_fails 3 (some .boolean) { frames := 0, cells := 1, slots := 6, locals := 0 } 0 0 sp_X8_fails := zMet_of hl (by decide +kernel) ⟨rfl, rfl⟩ (fun X C hn _ => zk_X8_fails_0 C hn)
theorem dX8_lesser_0 : decode cX8_lesser 0 = .ok (.iload_n 0, 1) := by decide +kernel
theorem dX8_lesser_1 : decode cX8_lesser 1 = .ok (.iload_n 1, 1) := by decide +kernel
theorem dX8_lesser_2 : decode cX8_lesser 2 = .ok (.if_icmp .ge 7, 3) := by decide +kernel
theorem dX8_lesser_5 : decode cX8_lesser 5 = .ok (.iload_n 0, 1) := by decide +kernel
theorem dX8_lesser_6 : decode cX8_lesser 6 = .ok (.goto 4, 3) := by decide +kernel
theorem dX8_lesser_9 : decode cX8_lesser 9 = .ok (.iload_n 1, 1) := by decide +kernel
theorem dX8_lesser_10 : decode cX8_lesser 10 = .ok (.ireturn, 1) := by decide +kernel
def zb_X8_lesser_10 : ZP := (z_ret 1)
set_option maxRecDepth 20000 in
theorem zk_X8_lesser_10 {X : ZX} (C : zCx X cX8_lesser RX8 (some .int) 0 0 1 6) (hn : X.nL = 2) : ZOK X 10 (zb_X8_lesser_10) := by
  unfold zb_X8_lesser_10
  exact z_iret_ok (pc := 10) C dX8_lesser_10
def zb_X8_lesser_0 : ZP := (z_ild 0 (z_ild 1 (z_cmp (fun x y => y ≤ x) (z_ild 1 zb_X8_lesser_10) (z_ild 0 zb_X8_lesser_10))))
set_option maxRecDepth 20000 in
theorem zk_X8_lesser_0 {X : ZX} (C : zCx X cX8_lesser RX8 (some .int) 0 0 1 6) (hn : X.nL = 2) : ZOK X 0 (zb_X8_lesser_0) := by
  unfold zb_X8_lesser_0
  refine z_iload_n_ok (pc := 0) (i := 0) C.hx C.hb dX8_lesser_0 rfl ?_
  refine z_iload_n_ok (pc := 1) (i := 1) C.hx C.hb dX8_lesser_1 rfl ?_
  refine z_icmp_ge_ok (pc := 2) (tgt := 9) C.hx C.hb dX8_lesser_2 (by decide) ?_ ?_
  · refine z_iload_n_ok (pc := 9) (i := 1) C.hx C.hb dX8_lesser_9 rfl ?_
    exact zk_X8_lesser_10 C hn 
  · refine z_iload_n_ok (pc := 5) (i := 0) C.hx C.hb dX8_lesser_5 rfl ?_
    refine z_goto_ok (pc := 6) (tgt := 10) C.hx C.hb dX8_lesser_6 (by decide) ?_
    exact zk_X8_lesser_10 C hn 
def sp_X8_lesser : ZSp := fun as S K => as.length ≤ 2 ∧ zsp 2 zb_X8_lesser_0 as S K
theorem zm_X8_lesser (l : Launch) (hl : l.stackTraces = false) : zMet l yX8_lesser cX8_lesser 2 (some .int) { frames := 0, cells := 1, slots := 6, locals := 0 } 0 0 sp_X8_lesser := zMet_of hl (by decide +kernel) ⟨rfl, rfl⟩ (fun X C hn _ => zk_X8_lesser_0 C hn)
theorem dX8_lacking_0 : decode cX8_lacking 0 = .ok (.iload_n 3, 1) := by decide +kernel
theorem dX8_lacking_1 : decode cX8_lacking 1 = .ok (.istore 4, 2) := by decide +kernel
theorem dX8_lacking_3 : decode cX8_lacking 3 = .ok (.iload_n 1, 1) := by decide +kernel
theorem dX8_lacking_4 : decode cX8_lacking 4 = .ok (.istore 5, 2) := by decide +kernel
theorem dX8_lacking_6 : decode cX8_lacking 6 = .ok (.iload 5, 2) := by decide +kernel
theorem dX8_lacking_8 : decode cX8_lacking 8 = .ok (.iconst (-1), 1) := by decide +kernel
theorem dX8_lacking_9 : decode cX8_lacking 9 = .ok (.if_icmp .eq 42, 3) := by decide +kernel
theorem dX8_lacking_12 : decode cX8_lacking 12 = .ok (.iload 4, 2) := by decide +kernel
theorem dX8_lacking_14 : decode cX8_lacking 14 = .ok (.ifCond .le 37, 3) := by decide +kernel
theorem dX8_lacking_17 : decode cX8_lacking 17 = .ok (.iload 4, 2) := by decide +kernel
theorem dX8_lacking_19 : decode cX8_lacking 19 = .ok (.iload 4, 2) := by decide +kernel
theorem dX8_lacking_21 : decode cX8_lacking 21 = .ok (.aload_n 0, 1) := by decide +kernel
theorem dX8_lacking_22 : decode cX8_lacking 22 = .ok (.getfield 78, 3) := by decide +kernel
theorem dX8_lacking_25 : decode cX8_lacking 25 = .ok (.bipush 6, 2) := by decide +kernel
theorem dX8_lacking_27 : decode cX8_lacking 27 = .ok (.iload 5, 2) := by decide +kernel
theorem dX8_lacking_29 : decode cX8_lacking 29 = .ok (.imul, 1) := by decide +kernel
theorem dX8_lacking_30 : decode cX8_lacking 30 = .ok (.iload_n 2, 1) := by decide +kernel
theorem dX8_lacking_31 : decode cX8_lacking 31 = .ok (.iadd, 1) := by decide +kernel
theorem dX8_lacking_32 : decode cX8_lacking 32 = .ok (.iaload, 1) := by decide +kernel
theorem dX8_lacking_33 : decode cX8_lacking 33 = .ok (.invokestatic 190, 3) := by decide +kernel
theorem dX8_lacking_36 : decode cX8_lacking 36 = .ok (.isub, 1) := by decide +kernel
theorem dX8_lacking_37 : decode cX8_lacking 37 = .ok (.istore 4, 2) := by decide +kernel
theorem dX8_lacking_39 : decode cX8_lacking 39 = .ok (.aload_n 0, 1) := by decide +kernel
theorem dX8_lacking_40 : decode cX8_lacking 40 = .ok (.getfield 75, 3) := by decide +kernel
theorem dX8_lacking_43 : decode cX8_lacking 43 = .ok (.iload 5, 2) := by decide +kernel
theorem dX8_lacking_45 : decode cX8_lacking 45 = .ok (.iaload, 1) := by decide +kernel
theorem dX8_lacking_46 : decode cX8_lacking 46 = .ok (.istore 5, 2) := by decide +kernel
theorem dX8_lacking_48 : decode cX8_lacking 48 = .ok (.goto (-42), 3) := by decide +kernel
theorem dX8_lacking_51 : decode cX8_lacking 51 = .ok (.iload 4, 2) := by decide +kernel
theorem dX8_lacking_53 : decode cX8_lacking 53 = .ok (.ireturn, 1) := by decide +kernel
def zb_X8_lacking_51 : ZP := (z_ild 4 (z_ret 1))
set_option maxRecDepth 20000 in
theorem zk_X8_lacking_51 {X : ZX} (C : zCx X cX8_lacking RX8 (some .int) 1 21 1 6) (hn : X.nL = 6) : ZOK X 51 (zb_X8_lacking_51) := by
  unfold zb_X8_lacking_51
  refine z_iload_ok (pc := 51) (i := 4) C.hx C.hb dX8_lacking_51 ?_
  exact z_iret_ok (pc := 53) C dX8_lacking_53
def zb_X8_lacking_6 (J6 : ZP) : ZP := (z_ild 5 (z_push (-1) (z_cmp (fun x y => x = y) zb_X8_lacking_51 (z_ild 4 (z_if (fun x => x ≤ 0) zb_X8_lacking_51 (z_ild 4 (z_ild 4 (z_ald 0 (z_gf 8 27 (z_push 6 (z_ild 5 (z_bin (fun x y => x * y) (z_ild 2 (z_bin (fun x y => x + y) (z_iald (z_invS 2 sp_X8_lesser (z_bin (fun x y => x - y) (z_ist 4 (z_ald 0 (z_gf 8 26 (z_ild 5 (z_iald (z_ist 5 J6)))))))))))))))))))))))
set_option maxRecDepth 20000 in
theorem zk_X8_lacking_6 {X : ZX} (C : zCx X cX8_lacking RX8 (some .int) 1 21 1 6) (hn : X.nL = 6) {J6 : ZP} (hJ6 : ZOK X 6 J6) : ZOK X 6 (zb_X8_lacking_6 J6) := by
  unfold zb_X8_lacking_6
  refine z_iload_ok (pc := 6) (i := 5) C.hx C.hb dX8_lacking_6 ?_
  refine z_iconst_ok (pc := 8) (v := -1) C.hx C.hb dX8_lacking_8 (by decide) ?_
  refine z_icmp_eq_ok (pc := 9) (tgt := 51) C.hx C.hb dX8_lacking_9 (by decide) ?_ ?_
  · exact zk_X8_lacking_51 C hn 
  · refine z_iload_ok (pc := 12) (i := 4) C.hx C.hb dX8_lacking_12 ?_
    refine z_if_le_ok (pc := 14) (tgt := 51) C.hx C.hb dX8_lacking_14 (by decide) ?_ ?_
    · exact zk_X8_lacking_51 C hn 
    · refine z_iload_ok (pc := 17) (i := 4) C.hx C.hb dX8_lacking_17 ?_
      refine z_iload_ok (pc := 19) (i := 4) C.hx C.hb dX8_lacking_19 ?_
      refine z_aload_n_ok (pc := 21) (i := 0) C.hx C.hb dX8_lacking_21 rfl ?_
      refine z_gf_ok (pc := 22) C zK8 (f := 27) (by decide) zw_884 rfl dX8_lacking_22 ?_
      refine z_bipush_ok (pc := 25) (v := 6) C.hx C.hb dX8_lacking_25 (by decide) ?_
      refine z_iload_ok (pc := 27) (i := 5) C.hx C.hb dX8_lacking_27 ?_
      refine z_imul_ok (pc := 29) C.hx C.hb dX8_lacking_29 ?_
      refine z_iload_n_ok (pc := 30) (i := 2) C.hx C.hb dX8_lacking_30 rfl ?_
      refine z_iadd_ok (pc := 31) C.hx C.hb dX8_lacking_31 ?_
      refine z_iald_ok (pc := 32) C dX8_lacking_32 ?_
      refine z_invS_ok (pc := 33) C (by decide +kernel) (zm_X8_lesser X.l C.htr) ⟨rfl, rfl⟩ ⟨by decide, by decide⟩ (by decide) (by decide) zcl_X8_190 zw_1147 dX8_lacking_33 ?_
      refine z_isub_ok (pc := 36) C.hx C.hb dX8_lacking_36 ?_
      refine z_istore_ok (pc := 37) (i := 4) C.hx C.hb dX8_lacking_37 (zlt hn (by decide)) ?_
      refine z_aload_n_ok (pc := 39) (i := 0) C.hx C.hb dX8_lacking_39 rfl ?_
      refine z_gf_ok (pc := 40) C zK8 (f := 26) (by decide) zw_883 rfl dX8_lacking_40 ?_
      refine z_iload_ok (pc := 43) (i := 5) C.hx C.hb dX8_lacking_43 ?_
      refine z_iald_ok (pc := 45) C dX8_lacking_45 ?_
      refine z_istore_ok (pc := 46) (i := 5) C.hx C.hb dX8_lacking_46 (zlt hn (by decide)) ?_
      refine z_goto_ok (pc := 48) (tgt := 6) C.hx C.hb dX8_lacking_48 (by decide) ?_
      exact hJ6
def zb_X8_lacking_0 : ZP := (z_ild 3 (z_ist 4 (z_ild 1 (z_ist 5 (z_loop (fun J6 => zb_X8_lacking_6 J6))))))
set_option maxRecDepth 20000 in
theorem zk_X8_lacking_0 {X : ZX} (C : zCx X cX8_lacking RX8 (some .int) 1 21 1 6) (hn : X.nL = 6) : ZOK X 0 (zb_X8_lacking_0) := by
  unfold zb_X8_lacking_0
  refine z_iload_n_ok (pc := 0) (i := 3) C.hx C.hb dX8_lacking_0 rfl ?_
  refine z_istore_ok (pc := 1) (i := 4) C.hx C.hb dX8_lacking_1 (zlt hn (by decide)) ?_
  refine z_iload_n_ok (pc := 3) (i := 1) C.hx C.hb dX8_lacking_3 rfl ?_
  refine z_istore_ok (pc := 4) (i := 5) C.hx C.hb dX8_lacking_4 (zlt hn (by decide)) ?_
  exact z_loop_ok (fun J6 hJ6 => zk_X8_lacking_6 C hn hJ6)
def sp_X8_lacking : ZSp := fun as S K => as.length ≤ 6 ∧ zsp 6 zb_X8_lacking_0 as S K
theorem zm_X8_lacking (l : Launch) (hl : l.stackTraces = false) : zMet l yX8_lacking cX8_lacking 6 (some .int) { frames := 1, cells := 1, slots := 6, locals := 21 } 0 0 sp_X8_lacking := zMet_of hl (by decide +kernel) ⟨rfl, rfl⟩ (fun X C hn _ => zk_X8_lacking_0 C hn)
theorem dX8_supply_0 : decode cX8_supply 0 = .ok (.iload_n 3, 1) := by decide +kernel
theorem dX8_supply_1 : decode cX8_supply 1 = .ok (.istore 4, 2) := by decide +kernel
theorem dX8_supply_3 : decode cX8_supply 3 = .ok (.aload_n 0, 1) := by decide +kernel
theorem dX8_supply_4 : decode cX8_supply 4 = .ok (.getfield 81, 3) := by decide +kernel
theorem dX8_supply_7 : decode cX8_supply 7 = .ok (.iload_n 1, 1) := by decide +kernel
theorem dX8_supply_8 : decode cX8_supply 8 = .ok (.iaload, 1) := by decide +kernel
theorem dX8_supply_9 : decode cX8_supply 9 = .ok (.istore 5, 2) := by decide +kernel
theorem dX8_supply_11 : decode cX8_supply 11 = .ok (.iload 5, 2) := by decide +kernel
theorem dX8_supply_13 : decode cX8_supply 13 = .ok (.iconst (-1), 1) := by decide +kernel
theorem dX8_supply_14 : decode cX8_supply 14 = .ok (.if_icmp .eq 58, 3) := by decide +kernel
theorem dX8_supply_17 : decode cX8_supply 17 = .ok (.iload 4, 2) := by decide +kernel
theorem dX8_supply_19 : decode cX8_supply 19 = .ok (.aload_n 0, 1) := by decide +kernel
theorem dX8_supply_20 : decode cX8_supply 20 = .ok (.getfield 78, 3) := by decide +kernel
theorem dX8_supply_23 : decode cX8_supply 23 = .ok (.bipush 6, 2) := by decide +kernel
theorem dX8_supply_25 : decode cX8_supply 25 = .ok (.iload 5, 2) := by decide +kernel
theorem dX8_supply_27 : decode cX8_supply 27 = .ok (.imul, 1) := by decide +kernel
theorem dX8_supply_28 : decode cX8_supply 28 = .ok (.iload_n 2, 1) := by decide +kernel
theorem dX8_supply_29 : decode cX8_supply 29 = .ok (.iadd, 1) := by decide +kernel
theorem dX8_supply_30 : decode cX8_supply 30 = .ok (.iaload, 1) := by decide +kernel
theorem dX8_supply_31 : decode cX8_supply 31 = .ok (.invokestatic 190, 3) := by decide +kernel
theorem dX8_supply_34 : decode cX8_supply 34 = .ok (.istore 6, 2) := by decide +kernel
theorem dX8_supply_36 : decode cX8_supply 36 = .ok (.aload_n 0, 1) := by decide +kernel
theorem dX8_supply_37 : decode cX8_supply 37 = .ok (.getfield 78, 3) := by decide +kernel
theorem dX8_supply_40 : decode cX8_supply 40 = .ok (.bipush 6, 2) := by decide +kernel
theorem dX8_supply_42 : decode cX8_supply 42 = .ok (.iload 5, 2) := by decide +kernel
theorem dX8_supply_44 : decode cX8_supply 44 = .ok (.imul, 1) := by decide +kernel
theorem dX8_supply_45 : decode cX8_supply 45 = .ok (.iload_n 2, 1) := by decide +kernel
theorem dX8_supply_46 : decode cX8_supply 46 = .ok (.iadd, 1) := by decide +kernel
theorem dX8_supply_47 : decode cX8_supply 47 = .ok (.dup2, 1) := by decide +kernel
theorem dX8_supply_48 : decode cX8_supply 48 = .ok (.iaload, 1) := by decide +kernel
theorem dX8_supply_49 : decode cX8_supply 49 = .ok (.iload 6, 2) := by decide +kernel
theorem dX8_supply_51 : decode cX8_supply 51 = .ok (.isub, 1) := by decide +kernel
theorem dX8_supply_52 : decode cX8_supply 52 = .ok (.iastore, 1) := by decide +kernel
theorem dX8_supply_53 : decode cX8_supply 53 = .ok (.iload 4, 2) := by decide +kernel
theorem dX8_supply_55 : decode cX8_supply 55 = .ok (.iload 6, 2) := by decide +kernel
theorem dX8_supply_57 : decode cX8_supply 57 = .ok (.isub, 1) := by decide +kernel
theorem dX8_supply_58 : decode cX8_supply 58 = .ok (.istore 4, 2) := by decide +kernel
theorem dX8_supply_60 : decode cX8_supply 60 = .ok (.aload_n 0, 1) := by decide +kernel
theorem dX8_supply_61 : decode cX8_supply 61 = .ok (.getfield 75, 3) := by decide +kernel
theorem dX8_supply_64 : decode cX8_supply 64 = .ok (.iload 5, 2) := by decide +kernel
theorem dX8_supply_66 : decode cX8_supply 66 = .ok (.iaload, 1) := by decide +kernel
theorem dX8_supply_67 : decode cX8_supply 67 = .ok (.istore 5, 2) := by decide +kernel
theorem dX8_supply_69 : decode cX8_supply 69 = .ok (.goto (-58), 3) := by decide +kernel
theorem dX8_supply_72 : decode cX8_supply 72 = .ok (.aload_n 0, 1) := by decide +kernel
theorem dX8_supply_73 : decode cX8_supply 73 = .ok (.getfield 84, 3) := by decide +kernel
theorem dX8_supply_76 : decode cX8_supply 76 = .ok (.bipush 6, 2) := by decide +kernel
theorem dX8_supply_78 : decode cX8_supply 78 = .ok (.iload_n 1, 1) := by decide +kernel
theorem dX8_supply_79 : decode cX8_supply 79 = .ok (.imul, 1) := by decide +kernel
theorem dX8_supply_80 : decode cX8_supply 80 = .ok (.iload_n 2, 1) := by decide +kernel
theorem dX8_supply_81 : decode cX8_supply 81 = .ok (.iadd, 1) := by decide +kernel
theorem dX8_supply_82 : decode cX8_supply 82 = .ok (.dup2, 1) := by decide +kernel
theorem dX8_supply_83 : decode cX8_supply 83 = .ok (.iaload, 1) := by decide +kernel
theorem dX8_supply_84 : decode cX8_supply 84 = .ok (.iload_n 3, 1) := by decide +kernel
theorem dX8_supply_85 : decode cX8_supply 85 = .ok (.iadd, 1) := by decide +kernel
theorem dX8_supply_86 : decode cX8_supply 86 = .ok (.iastore, 1) := by decide +kernel
theorem dX8_supply_87 : decode cX8_supply 87 = .ok (.return_, 1) := by decide +kernel
def zb_X8_supply_11 (J11 : ZP) : ZP := (z_ild 5 (z_push (-1) (z_cmp (fun x y => x = y) (z_ald 0 (z_gf 8 30 (z_push 6 (z_ild 1 (z_bin (fun x y => x * y) (z_ild 2 (z_bin (fun x y => x + y) (z_dup2 (z_iald (z_ild 3 (z_bin (fun x y => x + y) (z_iast (z_ret 0))))))))))))) (z_ild 4 (z_ald 0 (z_gf 8 27 (z_push 6 (z_ild 5 (z_bin (fun x y => x * y) (z_ild 2 (z_bin (fun x y => x + y) (z_iald (z_invS 2 sp_X8_lesser (z_ist 6 (z_ald 0 (z_gf 8 27 (z_push 6 (z_ild 5 (z_bin (fun x y => x * y) (z_ild 2 (z_bin (fun x y => x + y) (z_dup2 (z_iald (z_ild 6 (z_bin (fun x y => x - y) (z_iast (z_ild 4 (z_ild 6 (z_bin (fun x y => x - y) (z_ist 4 (z_ald 0 (z_gf 8 26 (z_ild 5 (z_iald (z_ist 5 J11)))))))))))))))))))))))))))))))))))
set_option maxRecDepth 20000 in
theorem zk_X8_supply_11 {X : ZX} (C : zCx X cX8_supply RX8 none 1 21 1 6) (hn : X.nL = 7) {J11 : ZP} (hJ11 : ZOK X 11 J11) : ZOK X 11 (zb_X8_supply_11 J11) := by
  unfold zb_X8_supply_11
  refine z_iload_ok (pc := 11) (i := 5) C.hx C.hb dX8_supply_11 ?_
  refine z_iconst_ok (pc := 13) (v := -1) C.hx C.hb dX8_supply_13 (by decide) ?_
  refine z_icmp_eq_ok (pc := 14) (tgt := 72) C.hx C.hb dX8_supply_14 (by decide) ?_ ?_
  · refine z_aload_n_ok (pc := 72) (i := 0) C.hx C.hb dX8_supply_72 rfl ?_
    refine z_gf_ok (pc := 73) C zK8 (f := 30) (by decide) zw_887 rfl dX8_supply_73 ?_
    refine z_bipush_ok (pc := 76) (v := 6) C.hx C.hb dX8_supply_76 (by decide) ?_
    refine z_iload_n_ok (pc := 78) (i := 1) C.hx C.hb dX8_supply_78 rfl ?_
    refine z_imul_ok (pc := 79) C.hx C.hb dX8_supply_79 ?_
    refine z_iload_n_ok (pc := 80) (i := 2) C.hx C.hb dX8_supply_80 rfl ?_
    refine z_iadd_ok (pc := 81) C.hx C.hb dX8_supply_81 ?_
    refine z_dup2_ok (pc := 82) C.hx C.hb dX8_supply_82 ?_
    refine z_iald_ok (pc := 83) C dX8_supply_83 ?_
    refine z_iload_n_ok (pc := 84) (i := 3) C.hx C.hb dX8_supply_84 rfl ?_
    refine z_iadd_ok (pc := 85) C.hx C.hb dX8_supply_85 ?_
    refine z_iast_ok (pc := 86) C dX8_supply_86 ?_
    exact z_vret_ok (pc := 87) C dX8_supply_87
  · refine z_iload_ok (pc := 17) (i := 4) C.hx C.hb dX8_supply_17 ?_
    refine z_aload_n_ok (pc := 19) (i := 0) C.hx C.hb dX8_supply_19 rfl ?_
    refine z_gf_ok (pc := 20) C zK8 (f := 27) (by decide) zw_884 rfl dX8_supply_20 ?_
    refine z_bipush_ok (pc := 23) (v := 6) C.hx C.hb dX8_supply_23 (by decide) ?_
    refine z_iload_ok (pc := 25) (i := 5) C.hx C.hb dX8_supply_25 ?_
    refine z_imul_ok (pc := 27) C.hx C.hb dX8_supply_27 ?_
    refine z_iload_n_ok (pc := 28) (i := 2) C.hx C.hb dX8_supply_28 rfl ?_
    refine z_iadd_ok (pc := 29) C.hx C.hb dX8_supply_29 ?_
    refine z_iald_ok (pc := 30) C dX8_supply_30 ?_
    refine z_invS_ok (pc := 31) C (by decide +kernel) (zm_X8_lesser X.l C.htr) ⟨rfl, rfl⟩ ⟨by decide, by decide⟩ (by decide) (by decide) zcl_X8_190 zw_1147 dX8_supply_31 ?_
    refine z_istore_ok (pc := 34) (i := 6) C.hx C.hb dX8_supply_34 (zlt hn (by decide)) ?_
    refine z_aload_n_ok (pc := 36) (i := 0) C.hx C.hb dX8_supply_36 rfl ?_
    refine z_gf_ok (pc := 37) C zK8 (f := 27) (by decide) zw_884 rfl dX8_supply_37 ?_
    refine z_bipush_ok (pc := 40) (v := 6) C.hx C.hb dX8_supply_40 (by decide) ?_
    refine z_iload_ok (pc := 42) (i := 5) C.hx C.hb dX8_supply_42 ?_
    refine z_imul_ok (pc := 44) C.hx C.hb dX8_supply_44 ?_
    refine z_iload_n_ok (pc := 45) (i := 2) C.hx C.hb dX8_supply_45 rfl ?_
    refine z_iadd_ok (pc := 46) C.hx C.hb dX8_supply_46 ?_
    refine z_dup2_ok (pc := 47) C.hx C.hb dX8_supply_47 ?_
    refine z_iald_ok (pc := 48) C dX8_supply_48 ?_
    refine z_iload_ok (pc := 49) (i := 6) C.hx C.hb dX8_supply_49 ?_
    refine z_isub_ok (pc := 51) C.hx C.hb dX8_supply_51 ?_
    refine z_iast_ok (pc := 52) C dX8_supply_52 ?_
    refine z_iload_ok (pc := 53) (i := 4) C.hx C.hb dX8_supply_53 ?_
    refine z_iload_ok (pc := 55) (i := 6) C.hx C.hb dX8_supply_55 ?_
    refine z_isub_ok (pc := 57) C.hx C.hb dX8_supply_57 ?_
    refine z_istore_ok (pc := 58) (i := 4) C.hx C.hb dX8_supply_58 (zlt hn (by decide)) ?_
    refine z_aload_n_ok (pc := 60) (i := 0) C.hx C.hb dX8_supply_60 rfl ?_
    refine z_gf_ok (pc := 61) C zK8 (f := 26) (by decide) zw_883 rfl dX8_supply_61 ?_
    refine z_iload_ok (pc := 64) (i := 5) C.hx C.hb dX8_supply_64 ?_
    refine z_iald_ok (pc := 66) C dX8_supply_66 ?_
    refine z_istore_ok (pc := 67) (i := 5) C.hx C.hb dX8_supply_67 (zlt hn (by decide)) ?_
    refine z_goto_ok (pc := 69) (tgt := 11) C.hx C.hb dX8_supply_69 (by decide) ?_
    exact hJ11
def zb_X8_supply_0 : ZP := (z_ild 3 (z_ist 4 (z_ald 0 (z_gf 8 29 (z_ild 1 (z_iald (z_ist 5 (z_loop (fun J11 => zb_X8_supply_11 J11)))))))))
set_option maxRecDepth 20000 in
theorem zk_X8_supply_0 {X : ZX} (C : zCx X cX8_supply RX8 none 1 21 1 6) (hn : X.nL = 7) : ZOK X 0 (zb_X8_supply_0) := by
  unfold zb_X8_supply_0
  refine z_iload_n_ok (pc := 0) (i := 3) C.hx C.hb dX8_supply_0 rfl ?_
  refine z_istore_ok (pc := 1) (i := 4) C.hx C.hb dX8_supply_1 (zlt hn (by decide)) ?_
  refine z_aload_n_ok (pc := 3) (i := 0) C.hx C.hb dX8_supply_3 rfl ?_
  refine z_gf_ok (pc := 4) C zK8 (f := 29) (by decide) zw_886 rfl dX8_supply_4 ?_
  refine z_iload_n_ok (pc := 7) (i := 1) C.hx C.hb dX8_supply_7 rfl ?_
  refine z_iald_ok (pc := 8) C dX8_supply_8 ?_
  refine z_istore_ok (pc := 9) (i := 5) C.hx C.hb dX8_supply_9 (zlt hn (by decide)) ?_
  exact z_loop_ok (fun J11 hJ11 => zk_X8_supply_11 C hn hJ11)
def sp_X8_supply : ZSp := fun as S K => as.length ≤ 7 ∧ zsp 7 zb_X8_supply_0 as S K
theorem zm_X8_supply (l : Launch) (hl : l.stackTraces = false) : zMet l yX8_supply cX8_supply 7 none { frames := 1, cells := 1, slots := 6, locals := 21 } 0 0 sp_X8_supply := zMet_of hl (by decide +kernel) ⟨rfl, rfl⟩ (fun X C hn _ => zk_X8_supply_0 C hn)
theorem dX8_advance_0 : decode cX8_advance 0 = .ok (.aload_n 0, 1) := by decide +kernel
theorem dX8_advance_1 : decode cX8_advance 1 = .ok (.aload_n 0, 1) := by decide +kernel
theorem dX8_advance_2 : decode cX8_advance 2 = .ok (.iload_n 1, 1) := by decide +kernel
theorem dX8_advance_3 : decode cX8_advance 3 = .ok (.invokevirtual 145, 3) := by decide +kernel
theorem dX8_advance_6 : decode cX8_advance 6 = .ok (.ifCond .eq 14, 3) := by decide +kernel
theorem dX8_advance_9 : decode cX8_advance 9 = .ok (.iload_n 2, 1) := by decide +kernel
theorem dX8_advance_10 : decode cX8_advance 10 = .ok (.invokestatic 133, 3) := by decide +kernel
theorem dX8_advance_13 : decode cX8_advance 13 = .ok (.ifCond .eq 7, 3) := by decide +kernel
theorem dX8_advance_16 : decode cX8_advance 16 = .ok (.iconst 1, 1) := by decide +kernel
theorem dX8_advance_17 : decode cX8_advance 17 = .ok (.goto 4, 3) := by decide +kernel
theorem dX8_advance_20 : decode cX8_advance 20 = .ok (.iconst 0, 1) := by decide +kernel
theorem dX8_advance_21 : decode cX8_advance 21 = .ok (.iconst 1, 1) := by decide +kernel
theorem dX8_advance_22 : decode cX8_advance 22 = .ok (.invokevirtual 137, 3) := by decide +kernel
theorem dX8_advance_25 : decode cX8_advance 25 = .ok (.ifCond .eq 5, 3) := by decide +kernel
theorem dX8_advance_28 : decode cX8_advance 28 = .ok (.iconst 0, 1) := by decide +kernel
theorem dX8_advance_29 : decode cX8_advance 29 = .ok (.ireturn, 1) := by decide +kernel
theorem dX8_advance_30 : decode cX8_advance 30 = .ok (.aload_n 0, 1) := by decide +kernel
theorem dX8_advance_31 : decode cX8_advance 31 = .ok (.iload_n 3, 1) := by decide +kernel
theorem dX8_advance_32 : decode cX8_advance 32 = .ok (.iconst 1, 1) := by decide +kernel
theorem dX8_advance_33 : decode cX8_advance 33 = .ok (.ldc 176, 2) := by decide +kernel
theorem dX8_advance_35 : decode cX8_advance 35 = .ok (.invokestatic 120, 3) := by decide +kernel
theorem dX8_advance_38 : decode cX8_advance 38 = .ok (.iconst 2, 1) := by decide +kernel
theorem dX8_advance_39 : decode cX8_advance 39 = .ok (.invokevirtual 137, 3) := by decide +kernel
theorem dX8_advance_42 : decode cX8_advance 42 = .ok (.ifCond .eq 5, 3) := by decide +kernel
theorem dX8_advance_45 : decode cX8_advance 45 = .ok (.iconst 0, 1) := by decide +kernel
theorem dX8_advance_46 : decode cX8_advance 46 = .ok (.ireturn, 1) := by decide +kernel
theorem dX8_advance_47 : decode cX8_advance 47 = .ok (.aload_n 0, 1) := by decide +kernel
theorem dX8_advance_48 : decode cX8_advance 48 = .ok (.aload_n 0, 1) := by decide +kernel
theorem dX8_advance_49 : decode cX8_advance 49 = .ok (.aload_n 0, 1) := by decide +kernel
theorem dX8_advance_50 : decode cX8_advance 50 = .ok (.getfield 81, 3) := by decide +kernel
theorem dX8_advance_53 : decode cX8_advance 53 = .ok (.iload_n 1, 1) := by decide +kernel
theorem dX8_advance_54 : decode cX8_advance 54 = .ok (.iaload, 1) := by decide +kernel
theorem dX8_advance_55 : decode cX8_advance 55 = .ok (.iload_n 2, 1) := by decide +kernel
theorem dX8_advance_56 : decode cX8_advance 56 = .ok (.iload_n 3, 1) := by decide +kernel
theorem dX8_advance_57 : decode cX8_advance 57 = .ok (.invokevirtual 193, 3) := by decide +kernel
theorem dX8_advance_60 : decode cX8_advance 60 = .ok (.ifCond .ne 7, 3) := by decide +kernel
theorem dX8_advance_63 : decode cX8_advance 63 = .ok (.iconst 1, 1) := by decide +kernel
theorem dX8_advance_64 : decode cX8_advance 64 = .ok (.goto 4, 3) := by decide +kernel
theorem dX8_advance_67 : decode cX8_advance 67 = .ok (.iconst 0, 1) := by decide +kernel
theorem dX8_advance_68 : decode cX8_advance 68 = .ok (.iconst 3, 1) := by decide +kernel
theorem dX8_advance_69 : decode cX8_advance 69 = .ok (.invokevirtual 137, 3) := by decide +kernel
theorem dX8_advance_72 : decode cX8_advance 72 = .ok (.ifCond .eq 5, 3) := by decide +kernel
theorem dX8_advance_75 : decode cX8_advance 75 = .ok (.iconst 0, 1) := by decide +kernel
theorem dX8_advance_76 : decode cX8_advance 76 = .ok (.ireturn, 1) := by decide +kernel
theorem dX8_advance_77 : decode cX8_advance 77 = .ok (.aload_n 0, 1) := by decide +kernel
theorem dX8_advance_78 : decode cX8_advance 78 = .ok (.iload_n 1, 1) := by decide +kernel
theorem dX8_advance_79 : decode cX8_advance 79 = .ok (.iload_n 2, 1) := by decide +kernel
theorem dX8_advance_80 : decode cX8_advance 80 = .ok (.iload_n 3, 1) := by decide +kernel
theorem dX8_advance_81 : decode cX8_advance 81 = .ok (.invokevirtual 197, 3) := by decide +kernel
theorem dX8_advance_84 : decode cX8_advance 84 = .ok (.aload_n 0, 1) := by decide +kernel
theorem dX8_advance_85 : decode cX8_advance 85 = .ok (.getfield 90, 3) := by decide +kernel
theorem dX8_advance_88 : decode cX8_advance 88 = .ok (.bipush 6, 2) := by decide +kernel
theorem dX8_advance_90 : decode cX8_advance 90 = .ok (.iload_n 1, 1) := by decide +kernel
theorem dX8_advance_91 : decode cX8_advance 91 = .ok (.imul, 1) := by decide +kernel
theorem dX8_advance_92 : decode cX8_advance 92 = .ok (.iload_n 2, 1) := by decide +kernel
theorem dX8_advance_93 : decode cX8_advance 93 = .ok (.iadd, 1) := by decide +kernel
theorem dX8_advance_94 : decode cX8_advance 94 = .ok (.dup2, 1) := by decide +kernel
theorem dX8_advance_95 : decode cX8_advance 95 = .ok (.iaload, 1) := by decide +kernel
theorem dX8_advance_96 : decode cX8_advance 96 = .ok (.iload_n 3, 1) := by decide +kernel
theorem dX8_advance_97 : decode cX8_advance 97 = .ok (.iadd, 1) := by decide +kernel
theorem dX8_advance_98 : decode cX8_advance 98 = .ok (.iastore, 1) := by decide +kernel
theorem dX8_advance_99 : decode cX8_advance 99 = .ok (.aload_n 0, 1) := by decide +kernel
theorem dX8_advance_100 : decode cX8_advance 100 = .ok (.getfield 90, 3) := by decide +kernel
theorem dX8_advance_103 : decode cX8_advance 103 = .ok (.bipush 6, 2) := by decide +kernel
theorem dX8_advance_105 : decode cX8_advance 105 = .ok (.iload_n 1, 1) := by decide +kernel
theorem dX8_advance_106 : decode cX8_advance 106 = .ok (.imul, 1) := by decide +kernel
theorem dX8_advance_107 : decode cX8_advance 107 = .ok (.iload_n 2, 1) := by decide +kernel
theorem dX8_advance_108 : decode cX8_advance 108 = .ok (.iadd, 1) := by decide +kernel
theorem dX8_advance_109 : decode cX8_advance 109 = .ok (.iaload, 1) := by decide +kernel
theorem dX8_advance_110 : decode cX8_advance 110 = .ok (.ireturn, 1) := by decide +kernel
def zb_X8_advance_68 : ZP := (z_push 3 (z_invV 8 2 sp_X8_fails (z_if (fun x => x = 0) (z_ald 0 (z_ild 1 (z_ild 2 (z_ild 3 (z_invV 8 3 sp_X8_supply (z_ald 0 (z_gf 8 32 (z_push 6 (z_ild 1 (z_bin (fun x y => x * y) (z_ild 2 (z_bin (fun x y => x + y) (z_dup2 (z_iald (z_ild 3 (z_bin (fun x y => x + y) (z_iast (z_ald 0 (z_gf 8 32 (z_push 6 (z_ild 1 (z_bin (fun x y => x * y) (z_ild 2 (z_bin (fun x y => x + y) (z_iald (z_ret 1)))))))))))))))))))))))))) (z_push 0 (z_ret 1)))))
set_option maxRecDepth 20000 in
theorem zk_X8_advance_68 {X : ZX} (C : zCx X cX8_advance RX8 (some .int) 2 47 1 6) (hn : X.nL = 4) : ZOK X 68 (zb_X8_advance_68) := by
  unfold zb_X8_advance_68
  refine z_iconst_ok (pc := 68) (v := 3) C.hx C.hb dX8_advance_68 (by decide) ?_
  refine z_invV_ok (pc := 69) C (by decide +kernel) (zm_X8_fails X.l C.htr) ⟨rfl, rfl⟩ ⟨by decide, by decide⟩ (by decide) (by decide) zcl_X8_137 zw_1016 zw_25 zK8 dX8_advance_69 ?_
  refine z_if_eq_ok (pc := 72) (tgt := 77) C.hx C.hb dX8_advance_72 (by decide) ?_ ?_
  · refine z_aload_n_ok (pc := 77) (i := 0) C.hx C.hb dX8_advance_77 rfl ?_
    refine z_iload_n_ok (pc := 78) (i := 1) C.hx C.hb dX8_advance_78 rfl ?_
    refine z_iload_n_ok (pc := 79) (i := 2) C.hx C.hb dX8_advance_79 rfl ?_
    refine z_iload_n_ok (pc := 80) (i := 3) C.hx C.hb dX8_advance_80 rfl ?_
    refine z_invV_ok (pc := 81) C (by decide +kernel) (zm_X8_supply X.l C.htr) ⟨rfl, rfl⟩ ⟨by decide, by decide⟩ (by decide) (by decide) zcl_X8_197 zw_1151 zw_37 zK8 dX8_advance_81 ?_
    refine z_aload_n_ok (pc := 84) (i := 0) C.hx C.hb dX8_advance_84 rfl ?_
    refine z_gf_ok (pc := 85) C zK8 (f := 32) (by decide) zw_889 rfl dX8_advance_85 ?_
    refine z_bipush_ok (pc := 88) (v := 6) C.hx C.hb dX8_advance_88 (by decide) ?_
    refine z_iload_n_ok (pc := 90) (i := 1) C.hx C.hb dX8_advance_90 rfl ?_
    refine z_imul_ok (pc := 91) C.hx C.hb dX8_advance_91 ?_
    refine z_iload_n_ok (pc := 92) (i := 2) C.hx C.hb dX8_advance_92 rfl ?_
    refine z_iadd_ok (pc := 93) C.hx C.hb dX8_advance_93 ?_
    refine z_dup2_ok (pc := 94) C.hx C.hb dX8_advance_94 ?_
    refine z_iald_ok (pc := 95) C dX8_advance_95 ?_
    refine z_iload_n_ok (pc := 96) (i := 3) C.hx C.hb dX8_advance_96 rfl ?_
    refine z_iadd_ok (pc := 97) C.hx C.hb dX8_advance_97 ?_
    refine z_iast_ok (pc := 98) C dX8_advance_98 ?_
    refine z_aload_n_ok (pc := 99) (i := 0) C.hx C.hb dX8_advance_99 rfl ?_
    refine z_gf_ok (pc := 100) C zK8 (f := 32) (by decide) zw_889 rfl dX8_advance_100 ?_
    refine z_bipush_ok (pc := 103) (v := 6) C.hx C.hb dX8_advance_103 (by decide) ?_
    refine z_iload_n_ok (pc := 105) (i := 1) C.hx C.hb dX8_advance_105 rfl ?_
    refine z_imul_ok (pc := 106) C.hx C.hb dX8_advance_106 ?_
    refine z_iload_n_ok (pc := 107) (i := 2) C.hx C.hb dX8_advance_107 rfl ?_
    refine z_iadd_ok (pc := 108) C.hx C.hb dX8_advance_108 ?_
    refine z_iald_ok (pc := 109) C dX8_advance_109 ?_
    exact z_iret_ok (pc := 110) C dX8_advance_110
  · refine z_iconst_ok (pc := 75) (v := 0) C.hx C.hb dX8_advance_75 (by decide) ?_
    exact z_iret_ok (pc := 76) C dX8_advance_76
def zb_X8_advance_21 : ZP := (z_push 1 (z_invV 8 2 sp_X8_fails (z_if (fun x => x = 0) (z_ald 0 (z_ild 3 (z_push 1 (z_push 99999 (z_invS 3 sp_X8_in (z_push 2 (z_invV 8 2 sp_X8_fails (z_if (fun x => x = 0) (z_ald 0 (z_ald 0 (z_ald 0 (z_gf 8 29 (z_ild 1 (z_iald (z_ild 2 (z_ild 3 (z_invV 8 3 sp_X8_lacking (z_if (fun x => x = 0) (z_push 1 zb_X8_advance_68) (z_push 0 zb_X8_advance_68))))))))))) (z_push 0 (z_ret 1)))))))))) (z_push 0 (z_ret 1)))))
set_option maxRecDepth 20000 in
theorem zk_X8_advance_21 {X : ZX} (C : zCx X cX8_advance RX8 (some .int) 2 47 1 6) (hn : X.nL = 4) : ZOK X 21 (zb_X8_advance_21) := by
  unfold zb_X8_advance_21
  refine z_iconst_ok (pc := 21) (v := 1) C.hx C.hb dX8_advance_21 (by decide) ?_
  refine z_invV_ok (pc := 22) C (by decide +kernel) (zm_X8_fails X.l C.htr) ⟨rfl, rfl⟩ ⟨by decide, by decide⟩ (by decide) (by decide) zcl_X8_137 zw_1016 zw_25 zK8 dX8_advance_22 ?_
  refine z_if_eq_ok (pc := 25) (tgt := 30) C.hx C.hb dX8_advance_25 (by decide) ?_ ?_
  · refine z_aload_n_ok (pc := 30) (i := 0) C.hx C.hb dX8_advance_30 rfl ?_
    refine z_iload_n_ok (pc := 31) (i := 3) C.hx C.hb dX8_advance_31 rfl ?_
    refine z_iconst_ok (pc := 32) (v := 1) C.hx C.hb dX8_advance_32 (by decide) ?_
    refine z_ldc_ok (pc := 33) C zw_1121 dX8_advance_33 ?_
    refine z_invS_ok (pc := 35) C (by decide +kernel) (zm_X8_in X.l C.htr) ⟨rfl, rfl⟩ ⟨by decide, by decide⟩ (by decide) (by decide) zcl_X8_120 zw_1012 dX8_advance_35 ?_
    refine z_iconst_ok (pc := 38) (v := 2) C.hx C.hb dX8_advance_38 (by decide) ?_
    refine z_invV_ok (pc := 39) C (by decide +kernel) (zm_X8_fails X.l C.htr) ⟨rfl, rfl⟩ ⟨by decide, by decide⟩ (by decide) (by decide) zcl_X8_137 zw_1016 zw_25 zK8 dX8_advance_39 ?_
    refine z_if_eq_ok (pc := 42) (tgt := 47) C.hx C.hb dX8_advance_42 (by decide) ?_ ?_
    · refine z_aload_n_ok (pc := 47) (i := 0) C.hx C.hb dX8_advance_47 rfl ?_
      refine z_aload_n_ok (pc := 48) (i := 0) C.hx C.hb dX8_advance_48 rfl ?_
      refine z_aload_n_ok (pc := 49) (i := 0) C.hx C.hb dX8_advance_49 rfl ?_
      refine z_gf_ok (pc := 50) C zK8 (f := 29) (by decide) zw_886 rfl dX8_advance_50 ?_
      refine z_iload_n_ok (pc := 53) (i := 1) C.hx C.hb dX8_advance_53 rfl ?_
      refine z_iald_ok (pc := 54) C dX8_advance_54 ?_
      refine z_iload_n_ok (pc := 55) (i := 2) C.hx C.hb dX8_advance_55 rfl ?_
      refine z_iload_n_ok (pc := 56) (i := 3) C.hx C.hb dX8_advance_56 rfl ?_
      refine z_invV_ok (pc := 57) C (by decide +kernel) (zm_X8_lacking X.l C.htr) ⟨rfl, rfl⟩ ⟨by decide, by decide⟩ (by decide) (by decide) zcl_X8_193 zw_1144 zw_36 zK8 dX8_advance_57 ?_
      refine z_if_ne_ok (pc := 60) (tgt := 67) C.hx C.hb dX8_advance_60 (by decide) ?_ ?_
      · refine z_iconst_ok (pc := 67) (v := 0) C.hx C.hb dX8_advance_67 (by decide) ?_
        exact zk_X8_advance_68 C hn 
      · refine z_iconst_ok (pc := 63) (v := 1) C.hx C.hb dX8_advance_63 (by decide) ?_
        refine z_goto_ok (pc := 64) (tgt := 68) C.hx C.hb dX8_advance_64 (by decide) ?_
        exact zk_X8_advance_68 C hn 
    · refine z_iconst_ok (pc := 45) (v := 0) C.hx C.hb dX8_advance_45 (by decide) ?_
      exact z_iret_ok (pc := 46) C dX8_advance_46
  · refine z_iconst_ok (pc := 28) (v := 0) C.hx C.hb dX8_advance_28 (by decide) ?_
    exact z_iret_ok (pc := 29) C dX8_advance_29
def zb_X8_advance_20 : ZP := (z_push 0 zb_X8_advance_21)
set_option maxRecDepth 20000 in
theorem zk_X8_advance_20 {X : ZX} (C : zCx X cX8_advance RX8 (some .int) 2 47 1 6) (hn : X.nL = 4) : ZOK X 20 (zb_X8_advance_20) := by
  unfold zb_X8_advance_20
  refine z_iconst_ok (pc := 20) (v := 0) C.hx C.hb dX8_advance_20 (by decide) ?_
  exact zk_X8_advance_21 C hn 
def zb_X8_advance_0 : ZP := (z_ald 0 (z_ald 0 (z_ild 1 (z_invV 8 1 sp_X8_isShop (z_if (fun x => x = 0) zb_X8_advance_20 (z_ild 2 (z_invS 1 sp_X8_isGood (z_if (fun x => x = 0) zb_X8_advance_20 (z_push 1 zb_X8_advance_21)))))))))
set_option maxRecDepth 20000 in
theorem zk_X8_advance_0 {X : ZX} (C : zCx X cX8_advance RX8 (some .int) 2 47 1 6) (hn : X.nL = 4) : ZOK X 0 (zb_X8_advance_0) := by
  unfold zb_X8_advance_0
  refine z_aload_n_ok (pc := 0) (i := 0) C.hx C.hb dX8_advance_0 rfl ?_
  refine z_aload_n_ok (pc := 1) (i := 0) C.hx C.hb dX8_advance_1 rfl ?_
  refine z_iload_n_ok (pc := 2) (i := 1) C.hx C.hb dX8_advance_2 rfl ?_
  refine z_invV_ok (pc := 3) C (by decide +kernel) (zm_X8_isShop X.l C.htr) ⟨rfl, rfl⟩ ⟨by decide, by decide⟩ (by decide) (by decide) zcl_X8_145 zw_1048 zw_27 zK8 dX8_advance_3 ?_
  refine z_if_eq_ok (pc := 6) (tgt := 20) C.hx C.hb dX8_advance_6 (by decide) ?_ ?_
  · exact zk_X8_advance_20 C hn 
  · refine z_iload_n_ok (pc := 9) (i := 2) C.hx C.hb dX8_advance_9 rfl ?_
    refine z_invS_ok (pc := 10) C (by decide +kernel) (zm_X8_isGood X.l C.htr) ⟨rfl, rfl⟩ ⟨by decide, by decide⟩ (by decide) (by decide) zcl_X8_133 zw_1009 dX8_advance_10 ?_
    refine z_if_eq_ok (pc := 13) (tgt := 20) C.hx C.hb dX8_advance_13 (by decide) ?_ ?_
    · exact zk_X8_advance_20 C hn 
    · refine z_iconst_ok (pc := 16) (v := 1) C.hx C.hb dX8_advance_16 (by decide) ?_
      refine z_goto_ok (pc := 17) (tgt := 21) C.hx C.hb dX8_advance_17 (by decide) ?_
      exact zk_X8_advance_21 C hn 
def sp_X8_advance : ZSp := fun as S K => as.length ≤ 4 ∧ zsp 4 zb_X8_advance_0 as S K
theorem zm_X8_advance (l : Launch) (hl : l.stackTraces = false) : zMet l yX8_advance cX8_advance 4 (some .int) { frames := 2, cells := 1, slots := 6, locals := 47 } 0 0 sp_X8_advance := zMet_of hl (by decide +kernel) ⟨rfl, rfl⟩ (fun X C hn _ => zk_X8_advance_0 C hn)
theorem dX8_quarters_0 : decode cX8_quarters 0 = .ok (.iload_n 0, 1) := by decide +kernel
theorem dX8_quarters_1 : decode cX8_quarters 1 = .ok (.ifCond .ne 7, 3) := by decide +kernel
theorem dX8_quarters_4 : decode cX8_quarters 4 = .ok (.iconst 2, 1) := by decide +kernel
theorem dX8_quarters_5 : decode cX8_quarters 5 = .ok (.goto 23, 3) := by decide +kernel
theorem dX8_quarters_8 : decode cX8_quarters 8 = .ok (.iload_n 0, 1) := by decide +kernel
theorem dX8_quarters_9 : decode cX8_quarters 9 = .ok (.iconst 1, 1) := by decide +kernel
theorem dX8_quarters_10 : decode cX8_quarters 10 = .ok (.if_icmp .ne 7, 3) := by decide +kernel
theorem dX8_quarters_13 : decode cX8_quarters 13 = .ok (.iconst 4, 1) := by decide +kernel
theorem dX8_quarters_14 : decode cX8_quarters 14 = .ok (.goto 14, 3) := by decide +kernel
theorem dX8_quarters_17 : decode cX8_quarters 17 = .ok (.iload_n 0, 1) := by decide +kernel
theorem dX8_quarters_18 : decode cX8_quarters 18 = .ok (.iconst 2, 1) := by decide +kernel
theorem dX8_quarters_19 : decode cX8_quarters 19 = .ok (.if_icmp .ne 8, 3) := by decide +kernel
theorem dX8_quarters_22 : decode cX8_quarters 22 = .ok (.bipush 6, 2) := by decide +kernel
theorem dX8_quarters_24 : decode cX8_quarters 24 = .ok (.goto 4, 3) := by decide +kernel
theorem dX8_quarters_27 : decode cX8_quarters 27 = .ok (.iconst 5, 1) := by decide +kernel
theorem dX8_quarters_28 : decode cX8_quarters 28 = .ok (.ireturn, 1) := by decide +kernel
def zb_X8_quarters_28 : ZP := (z_ret 1)
set_option maxRecDepth 20000 in
theorem zk_X8_quarters_28 {X : ZX} (C : zCx X cX8_quarters RX8 (some .int) 0 0 1 6) (hn : X.nL = 1) : ZOK X 28 (zb_X8_quarters_28) := by
  unfold zb_X8_quarters_28
  exact z_iret_ok (pc := 28) C dX8_quarters_28
def zb_X8_quarters_0 : ZP := (z_ild 0 (z_if (fun x => x = 0) (z_push 2 zb_X8_quarters_28) (z_ild 0 (z_push 1 (z_cmp (fun x y => x = y) (z_push 4 zb_X8_quarters_28) (z_ild 0 (z_push 2 (z_cmp (fun x y => x = y) (z_push 6 zb_X8_quarters_28) (z_push 5 zb_X8_quarters_28)))))))))
set_option maxRecDepth 20000 in
theorem zk_X8_quarters_0 {X : ZX} (C : zCx X cX8_quarters RX8 (some .int) 0 0 1 6) (hn : X.nL = 1) : ZOK X 0 (zb_X8_quarters_0) := by
  unfold zb_X8_quarters_0
  refine z_iload_n_ok (pc := 0) (i := 0) C.hx C.hb dX8_quarters_0 rfl ?_
  refine z_if_ne_ok (pc := 1) (tgt := 8) C.hx C.hb dX8_quarters_1 (by decide) ?_ ?_
  · refine z_iload_n_ok (pc := 8) (i := 0) C.hx C.hb dX8_quarters_8 rfl ?_
    refine z_iconst_ok (pc := 9) (v := 1) C.hx C.hb dX8_quarters_9 (by decide) ?_
    refine z_icmp_ne_ok (pc := 10) (tgt := 17) C.hx C.hb dX8_quarters_10 (by decide) ?_ ?_
    · refine z_iload_n_ok (pc := 17) (i := 0) C.hx C.hb dX8_quarters_17 rfl ?_
      refine z_iconst_ok (pc := 18) (v := 2) C.hx C.hb dX8_quarters_18 (by decide) ?_
      refine z_icmp_ne_ok (pc := 19) (tgt := 27) C.hx C.hb dX8_quarters_19 (by decide) ?_ ?_
      · refine z_iconst_ok (pc := 27) (v := 5) C.hx C.hb dX8_quarters_27 (by decide) ?_
        exact zk_X8_quarters_28 C hn 
      · refine z_bipush_ok (pc := 22) (v := 6) C.hx C.hb dX8_quarters_22 (by decide) ?_
        refine z_goto_ok (pc := 24) (tgt := 28) C.hx C.hb dX8_quarters_24 (by decide) ?_
        exact zk_X8_quarters_28 C hn 
    · refine z_iconst_ok (pc := 13) (v := 4) C.hx C.hb dX8_quarters_13 (by decide) ?_
      refine z_goto_ok (pc := 14) (tgt := 28) C.hx C.hb dX8_quarters_14 (by decide) ?_
      exact zk_X8_quarters_28 C hn 
  · refine z_iconst_ok (pc := 4) (v := 2) C.hx C.hb dX8_quarters_4 (by decide) ?_
    refine z_goto_ok (pc := 5) (tgt := 28) C.hx C.hb dX8_quarters_5 (by decide) ?_
    exact zk_X8_quarters_28 C hn 
def sp_X8_quarters : ZSp := fun as S K => as.length ≤ 1 ∧ zsp 1 zb_X8_quarters_0 as S K
theorem zm_X8_quarters (l : Launch) (hl : l.stackTraces = false) : zMet l yX8_quarters cX8_quarters 1 (some .int) { frames := 0, cells := 1, slots := 6, locals := 0 } 0 0 sp_X8_quarters := zMet_of hl (by decide +kernel) ⟨rfl, rfl⟩ (fun X C hn _ => zk_X8_quarters_0 C hn)
theorem dX8_share_0 : decode cX8_share 0 = .ok (.aload_n 0, 1) := by decide +kernel
theorem dX8_share_1 : decode cX8_share 1 = .ok (.getfield 20, 3) := by decide +kernel
theorem dX8_share_4 : decode cX8_share 4 = .ok (.iload_n 2, 1) := by decide +kernel
theorem dX8_share_5 : decode cX8_share 5 = .ok (.iaload, 1) := by decide +kernel
theorem dX8_share_6 : decode cX8_share 6 = .ok (.aload_n 0, 1) := by decide +kernel
theorem dX8_share_7 : decode cX8_share 7 = .ok (.getfield 35, 3) := by decide +kernel
theorem dX8_share_10 : decode cX8_share 10 = .ok (.iload_n 1, 1) := by decide +kernel
theorem dX8_share_11 : decode cX8_share 11 = .ok (.iaload, 1) := by decide +kernel
theorem dX8_share_12 : decode cX8_share 12 = .ok (.invokestatic 157, 3) := by decide +kernel
theorem dX8_share_15 : decode cX8_share 15 = .ok (.imul, 1) := by decide +kernel
theorem dX8_share_16 : decode cX8_share 16 = .ok (.iconst 4, 1) := by decide +kernel
theorem dX8_share_17 : decode cX8_share 17 = .ok (.idiv, 1) := by decide +kernel
theorem dX8_share_18 : decode cX8_share 18 = .ok (.ireturn, 1) := by decide +kernel
def zb_X8_share_0 : ZP := (z_ald 0 (z_gf 8 5 (z_ild 2 (z_iald (z_ald 0 (z_gf 8 11 (z_ild 1 (z_iald (z_invS 1 sp_X8_quarters (z_bin (fun x y => x * y) (z_push 4 (z_dvn (fun x y => x / y) (z_ret 1)))))))))))))
set_option maxRecDepth 20000 in
theorem zk_X8_share_0 {X : ZX} (C : zCx X cX8_share RX8 (some .int) 1 20 1 6) (hn : X.nL = 3) : ZOK X 0 (zb_X8_share_0) := by
  unfold zb_X8_share_0
  refine z_aload_n_ok (pc := 0) (i := 0) C.hx C.hb dX8_share_0 rfl ?_
  refine z_gf_ok (pc := 1) C zK8 (f := 5) (by decide) zw_862 rfl dX8_share_1 ?_
  refine z_iload_n_ok (pc := 4) (i := 2) C.hx C.hb dX8_share_4 rfl ?_
  refine z_iald_ok (pc := 5) C dX8_share_5 ?_
  refine z_aload_n_ok (pc := 6) (i := 0) C.hx C.hb dX8_share_6 rfl ?_
  refine z_gf_ok (pc := 7) C zK8 (f := 11) (by decide) zw_868 rfl dX8_share_7 ?_
  refine z_iload_n_ok (pc := 10) (i := 1) C.hx C.hb dX8_share_10 rfl ?_
  refine z_iald_ok (pc := 11) C dX8_share_11 ?_
  refine z_invS_ok (pc := 12) C (by decide +kernel) (zm_X8_quarters X.l C.htr) ⟨rfl, rfl⟩ ⟨by decide, by decide⟩ (by decide) (by decide) zcl_X8_157 zw_1099 dX8_share_12 ?_
  refine z_imul_ok (pc := 15) C.hx C.hb dX8_share_15 ?_
  refine z_iconst_ok (pc := 16) (v := 4) C.hx C.hb dX8_share_16 (by decide) ?_
  refine z_idiv_ok (pc := 17) C.hx C.hb dX8_share_17 ?_
  exact z_iret_ok (pc := 18) C dX8_share_18
def sp_X8_share : ZSp := fun as S K => as.length ≤ 3 ∧ zsp 3 zb_X8_share_0 as S K
theorem zm_X8_share (l : Launch) (hl : l.stackTraces = false) : zMet l yX8_share cX8_share 3 (some .int) { frames := 1, cells := 1, slots := 6, locals := 20 } 0 0 sp_X8_share := zMet_of hl (by decide +kernel) ⟨rfl, rfl⟩ (fun X C hn _ => zk_X8_share_0 C hn)
theorem dX8_isDead_0 : decode cX8_isDead 0 = .ok (.aload_n 0, 1) := by decide +kernel
theorem dX8_isDead_1 : decode cX8_isDead 1 = .ok (.getfield 44, 3) := by decide +kernel
theorem dX8_isDead_4 : decode cX8_isDead 4 = .ok (.iload_n 1, 1) := by decide +kernel
theorem dX8_isDead_5 : decode cX8_isDead 5 = .ok (.iaload, 1) := by decide +kernel
theorem dX8_isDead_6 : decode cX8_isDead 6 = .ok (.ifCond .gt 7, 3) := by decide +kernel
theorem dX8_isDead_9 : decode cX8_isDead 9 = .ok (.iconst 1, 1) := by decide +kernel
theorem dX8_isDead_10 : decode cX8_isDead 10 = .ok (.goto 4, 3) := by decide +kernel
theorem dX8_isDead_13 : decode cX8_isDead 13 = .ok (.iconst 0, 1) := by decide +kernel
theorem dX8_isDead_14 : decode cX8_isDead 14 = .ok (.ireturn, 1) := by decide +kernel
def zb_X8_isDead_14 : ZP := (z_ret 2)
set_option maxRecDepth 20000 in
theorem zk_X8_isDead_14 {X : ZX} (C : zCx X cX8_isDead RX8 (some .boolean) 0 0 1 6) (hn : X.nL = 2) : ZOK X 14 (zb_X8_isDead_14) := by
  unfold zb_X8_isDead_14
  exact z_zret_ok (pc := 14) C dX8_isDead_14
def zb_X8_isDead_0 : ZP := (z_ald 0 (z_gf 8 14 (z_ild 1 (z_iald (z_if (fun x => 0 < x) (z_push 0 zb_X8_isDead_14) (z_push 1 zb_X8_isDead_14))))))
set_option maxRecDepth 20000 in
theorem zk_X8_isDead_0 {X : ZX} (C : zCx X cX8_isDead RX8 (some .boolean) 0 0 1 6) (hn : X.nL = 2) : ZOK X 0 (zb_X8_isDead_0) := by
  unfold zb_X8_isDead_0
  refine z_aload_n_ok (pc := 0) (i := 0) C.hx C.hb dX8_isDead_0 rfl ?_
  refine z_gf_ok (pc := 1) C zK8 (f := 14) (by decide) zw_871 rfl dX8_isDead_1 ?_
  refine z_iload_n_ok (pc := 4) (i := 1) C.hx C.hb dX8_isDead_4 rfl ?_
  refine z_iald_ok (pc := 5) C dX8_isDead_5 ?_
  refine z_if_gt_ok (pc := 6) (tgt := 13) C.hx C.hb dX8_isDead_6 (by decide) ?_ ?_
  · refine z_iconst_ok (pc := 13) (v := 0) C.hx C.hb dX8_isDead_13 (by decide) ?_
    exact zk_X8_isDead_14 C hn 
  · refine z_iconst_ok (pc := 9) (v := 1) C.hx C.hb dX8_isDead_9 (by decide) ?_
    refine z_goto_ok (pc := 10) (tgt := 14) C.hx C.hb dX8_isDead_10 (by decide) ?_
    exact zk_X8_isDead_14 C hn 
def sp_X8_isDead : ZSp := fun as S K => as.length ≤ 2 ∧ zsp 2 zb_X8_isDead_0 as S K
theorem zm_X8_isDead (l : Launch) (hl : l.stackTraces = false) : zMet l yX8_isDead cX8_isDead 2 (some .boolean) { frames := 0, cells := 1, slots := 6, locals := 0 } 0 0 sp_X8_isDead := zMet_of hl (by decide +kernel) ⟨rfl, rfl⟩ (fun X C hn _ => zk_X8_isDead_0 C hn)
theorem dX8_hasBook_0 : decode cX8_hasBook 0 = .ok (.aload_n 0, 1) := by decide +kernel
theorem dX8_hasBook_1 : decode cX8_hasBook 1 = .ok (.iload_n 1, 1) := by decide +kernel
theorem dX8_hasBook_2 : decode cX8_hasBook 2 = .ok (.invokevirtual 151, 3) := by decide +kernel
theorem dX8_hasBook_5 : decode cX8_hasBook 5 = .ok (.ifCond .ne 16, 3) := by decide +kernel
theorem dX8_hasBook_8 : decode cX8_hasBook 8 = .ok (.aload_n 0, 1) := by decide +kernel
theorem dX8_hasBook_9 : decode cX8_hasBook 9 = .ok (.getfield 59, 3) := by decide +kernel
theorem dX8_hasBook_12 : decode cX8_hasBook 12 = .ok (.iload_n 1, 1) := by decide +kernel
theorem dX8_hasBook_13 : decode cX8_hasBook 13 = .ok (.baload, 1) := by decide +kernel
theorem dX8_hasBook_14 : decode cX8_hasBook 14 = .ok (.ifCond .ne 7, 3) := by decide +kernel
theorem dX8_hasBook_17 : decode cX8_hasBook 17 = .ok (.iconst 1, 1) := by decide +kernel
theorem dX8_hasBook_18 : decode cX8_hasBook 18 = .ok (.goto 4, 3) := by decide +kernel
theorem dX8_hasBook_21 : decode cX8_hasBook 21 = .ok (.iconst 0, 1) := by decide +kernel
theorem dX8_hasBook_22 : decode cX8_hasBook 22 = .ok (.ireturn, 1) := by decide +kernel
def zb_X8_hasBook_22 : ZP := (z_ret 2)
set_option maxRecDepth 20000 in
theorem zk_X8_hasBook_22 {X : ZX} (C : zCx X cX8_hasBook RX8 (some .boolean) 1 21 1 6) (hn : X.nL = 2) : ZOK X 22 (zb_X8_hasBook_22) := by
  unfold zb_X8_hasBook_22
  exact z_zret_ok (pc := 22) C dX8_hasBook_22
def zb_X8_hasBook_21 : ZP := (z_push 0 zb_X8_hasBook_22)
set_option maxRecDepth 20000 in
theorem zk_X8_hasBook_21 {X : ZX} (C : zCx X cX8_hasBook RX8 (some .boolean) 1 21 1 6) (hn : X.nL = 2) : ZOK X 21 (zb_X8_hasBook_21) := by
  unfold zb_X8_hasBook_21
  refine z_iconst_ok (pc := 21) (v := 0) C.hx C.hb dX8_hasBook_21 (by decide) ?_
  exact zk_X8_hasBook_22 C hn 
def zb_X8_hasBook_0 : ZP := (z_ald 0 (z_ild 1 (z_invV 8 1 sp_X8_isDead (z_if (fun x => x = 0) (z_ald 0 (z_gf 8 19 (z_ild 1 (z_bald (z_if (fun x => x = 0) (z_push 1 zb_X8_hasBook_22) zb_X8_hasBook_21))))) zb_X8_hasBook_21))))
set_option maxRecDepth 20000 in
theorem zk_X8_hasBook_0 {X : ZX} (C : zCx X cX8_hasBook RX8 (some .boolean) 1 21 1 6) (hn : X.nL = 2) : ZOK X 0 (zb_X8_hasBook_0) := by
  unfold zb_X8_hasBook_0
  refine z_aload_n_ok (pc := 0) (i := 0) C.hx C.hb dX8_hasBook_0 rfl ?_
  refine z_iload_n_ok (pc := 1) (i := 1) C.hx C.hb dX8_hasBook_1 rfl ?_
  refine z_invV_ok (pc := 2) C (by decide +kernel) (zm_X8_isDead X.l C.htr) ⟨rfl, rfl⟩ ⟨by decide, by decide⟩ (by decide) (by decide) zcl_X8_151 zw_1060 zw_29 zK8 dX8_hasBook_2 ?_
  refine z_if_ne_ok (pc := 5) (tgt := 21) C.hx C.hb dX8_hasBook_5 (by decide) ?_ ?_
  · exact zk_X8_hasBook_21 C hn 
  · refine z_aload_n_ok (pc := 8) (i := 0) C.hx C.hb dX8_hasBook_8 rfl ?_
    refine z_gf_ok (pc := 9) C zK8 (f := 19) (by decide) zw_876 rfl dX8_hasBook_9 ?_
    refine z_iload_n_ok (pc := 12) (i := 1) C.hx C.hb dX8_hasBook_12 rfl ?_
    refine z_bald_ok (pc := 13) C dX8_hasBook_13 ?_
    refine z_if_ne_ok (pc := 14) (tgt := 21) C.hx C.hb dX8_hasBook_14 (by decide) ?_ ?_
    · exact zk_X8_hasBook_21 C hn 
    · refine z_iconst_ok (pc := 17) (v := 1) C.hx C.hb dX8_hasBook_17 (by decide) ?_
      refine z_goto_ok (pc := 18) (tgt := 22) C.hx C.hb dX8_hasBook_18 (by decide) ?_
      exact zk_X8_hasBook_22 C hn 
def sp_X8_hasBook : ZSp := fun as S K => as.length ≤ 2 ∧ zsp 2 zb_X8_hasBook_0 as S K
theorem zm_X8_hasBook (l : Launch) (hl : l.stackTraces = false) : zMet l yX8_hasBook cX8_hasBook 2 (some .boolean) { frames := 1, cells := 1, slots := 6, locals := 21 } 0 0 sp_X8_hasBook := zMet_of hl (by decide +kernel) ⟨rfl, rfl⟩ (fun X C hn _ => zk_X8_hasBook_0 C hn)
theorem dX8_leftOf_0 : decode cX8_leftOf 0 = .ok (.aload_n 0, 1) := by decide +kernel
theorem dX8_leftOf_1 : decode cX8_leftOf 1 = .ok (.iload_n 1, 1) := by decide +kernel
theorem dX8_leftOf_2 : decode cX8_leftOf 2 = .ok (.iload_n 2, 1) := by decide +kernel
theorem dX8_leftOf_3 : decode cX8_leftOf 3 = .ok (.invokevirtual 160, 3) := by decide +kernel
theorem dX8_leftOf_6 : decode cX8_leftOf 6 = .ok (.aload_n 0, 1) := by decide +kernel
theorem dX8_leftOf_7 : decode cX8_leftOf 7 = .ok (.getfield 63, 3) := by decide +kernel
theorem dX8_leftOf_10 : decode cX8_leftOf 10 = .ok (.bipush 6, 2) := by decide +kernel
theorem dX8_leftOf_12 : decode cX8_leftOf 12 = .ok (.iload_n 1, 1) := by decide +kernel
theorem dX8_leftOf_13 : decode cX8_leftOf 13 = .ok (.imul, 1) := by decide +kernel
theorem dX8_leftOf_14 : decode cX8_leftOf 14 = .ok (.iload_n 2, 1) := by decide +kernel
theorem dX8_leftOf_15 : decode cX8_leftOf 15 = .ok (.iadd, 1) := by decide +kernel
theorem dX8_leftOf_16 : decode cX8_leftOf 16 = .ok (.iaload, 1) := by decide +kernel
theorem dX8_leftOf_17 : decode cX8_leftOf 17 = .ok (.isub, 1) := by decide +kernel
theorem dX8_leftOf_18 : decode cX8_leftOf 18 = .ok (.istore_n 3, 1) := by decide +kernel
theorem dX8_leftOf_19 : decode cX8_leftOf 19 = .ok (.aload_n 0, 1) := by decide +kernel
theorem dX8_leftOf_20 : decode cX8_leftOf 20 = .ok (.iload_n 1, 1) := by decide +kernel
theorem dX8_leftOf_21 : decode cX8_leftOf 21 = .ok (.invokevirtual 154, 3) := by decide +kernel
theorem dX8_leftOf_24 : decode cX8_leftOf 24 = .ok (.ifCond .eq 16, 3) := by decide +kernel
theorem dX8_leftOf_27 : decode cX8_leftOf 27 = .ok (.aload_n 0, 1) := by decide +kernel
theorem dX8_leftOf_28 : decode cX8_leftOf 28 = .ok (.getfield 16, 3) := by decide +kernel
theorem dX8_leftOf_31 : decode cX8_leftOf 31 = .ok (.iload_n 2, 1) := by decide +kernel
theorem dX8_leftOf_32 : decode cX8_leftOf 32 = .ok (.iaload, 1) := by decide +kernel
theorem dX8_leftOf_33 : decode cX8_leftOf 33 = .ok (.ifCond .ne 7, 3) := by decide +kernel
theorem dX8_leftOf_36 : decode cX8_leftOf 36 = .ok (.iload_n 3, 1) := by decide +kernel
theorem dX8_leftOf_37 : decode cX8_leftOf 37 = .ok (.ifCond .ge 7, 3) := by decide +kernel
theorem dX8_leftOf_40 : decode cX8_leftOf 40 = .ok (.iconst 0, 1) := by decide +kernel
theorem dX8_leftOf_41 : decode cX8_leftOf 41 = .ok (.goto 4, 3) := by decide +kernel
theorem dX8_leftOf_44 : decode cX8_leftOf 44 = .ok (.iload_n 3, 1) := by decide +kernel
theorem dX8_leftOf_45 : decode cX8_leftOf 45 = .ok (.ireturn, 1) := by decide +kernel
def zb_X8_leftOf_45 : ZP := (z_ret 1)
set_option maxRecDepth 20000 in
theorem zk_X8_leftOf_45 {X : ZX} (C : zCx X cX8_leftOf RX8 (some .int) 2 42 1 6) (hn : X.nL = 4) : ZOK X 45 (zb_X8_leftOf_45) := by
  unfold zb_X8_leftOf_45
  exact z_iret_ok (pc := 45) C dX8_leftOf_45
def zb_X8_leftOf_40 : ZP := (z_push 0 zb_X8_leftOf_45)
set_option maxRecDepth 20000 in
theorem zk_X8_leftOf_40 {X : ZX} (C : zCx X cX8_leftOf RX8 (some .int) 2 42 1 6) (hn : X.nL = 4) : ZOK X 40 (zb_X8_leftOf_40) := by
  unfold zb_X8_leftOf_40
  refine z_iconst_ok (pc := 40) (v := 0) C.hx C.hb dX8_leftOf_40 (by decide) ?_
  refine z_goto_ok (pc := 41) (tgt := 45) C.hx C.hb dX8_leftOf_41 (by decide) ?_
  exact zk_X8_leftOf_45 C hn 
def zb_X8_leftOf_0 : ZP := (z_ald 0 (z_ild 1 (z_ild 2 (z_invV 8 2 sp_X8_share (z_ald 0 (z_gf 8 20 (z_push 6 (z_ild 1 (z_bin (fun x y => x * y) (z_ild 2 (z_bin (fun x y => x + y) (z_iald (z_bin (fun x y => x - y) (z_ist 3 (z_ald 0 (z_ild 1 (z_invV 8 1 sp_X8_hasBook (z_if (fun x => x = 0) zb_X8_leftOf_40 (z_ald 0 (z_gf 8 4 (z_ild 2 (z_iald (z_if (fun x => x = 0) (z_ild 3 (z_if (fun x => 0 ≤ x) (z_ild 3 zb_X8_leftOf_45) zb_X8_leftOf_40)) zb_X8_leftOf_40)))))))))))))))))))))))
set_option maxRecDepth 20000 in
theorem zk_X8_leftOf_0 {X : ZX} (C : zCx X cX8_leftOf RX8 (some .int) 2 42 1 6) (hn : X.nL = 4) : ZOK X 0 (zb_X8_leftOf_0) := by
  unfold zb_X8_leftOf_0
  refine z_aload_n_ok (pc := 0) (i := 0) C.hx C.hb dX8_leftOf_0 rfl ?_
  refine z_iload_n_ok (pc := 1) (i := 1) C.hx C.hb dX8_leftOf_1 rfl ?_
  refine z_iload_n_ok (pc := 2) (i := 2) C.hx C.hb dX8_leftOf_2 rfl ?_
  refine z_invV_ok (pc := 3) C (by decide +kernel) (zm_X8_share X.l C.htr) ⟨rfl, rfl⟩ ⟨by decide, by decide⟩ (by decide) (by decide) zcl_X8_160 zw_1096 zw_33 zK8 dX8_leftOf_3 ?_
  refine z_aload_n_ok (pc := 6) (i := 0) C.hx C.hb dX8_leftOf_6 rfl ?_
  refine z_gf_ok (pc := 7) C zK8 (f := 20) (by decide) zw_877 rfl dX8_leftOf_7 ?_
  refine z_bipush_ok (pc := 10) (v := 6) C.hx C.hb dX8_leftOf_10 (by decide) ?_
  refine z_iload_n_ok (pc := 12) (i := 1) C.hx C.hb dX8_leftOf_12 rfl ?_
  refine z_imul_ok (pc := 13) C.hx C.hb dX8_leftOf_13 ?_
  refine z_iload_n_ok (pc := 14) (i := 2) C.hx C.hb dX8_leftOf_14 rfl ?_
  refine z_iadd_ok (pc := 15) C.hx C.hb dX8_leftOf_15 ?_
  refine z_iald_ok (pc := 16) C dX8_leftOf_16 ?_
  refine z_isub_ok (pc := 17) C.hx C.hb dX8_leftOf_17 ?_
  refine z_istore_n_ok (pc := 18) (i := 3) C.hx C.hb dX8_leftOf_18 rfl (zlt hn (by decide)) ?_
  refine z_aload_n_ok (pc := 19) (i := 0) C.hx C.hb dX8_leftOf_19 rfl ?_
  refine z_iload_n_ok (pc := 20) (i := 1) C.hx C.hb dX8_leftOf_20 rfl ?_
  refine z_invV_ok (pc := 21) C (by decide +kernel) (zm_X8_hasBook X.l C.htr) ⟨rfl, rfl⟩ ⟨by decide, by decide⟩ (by decide) (by decide) zcl_X8_154 zw_1072 zw_30 zK8 dX8_leftOf_21 ?_
  refine z_if_eq_ok (pc := 24) (tgt := 40) C.hx C.hb dX8_leftOf_24 (by decide) ?_ ?_
  · exact zk_X8_leftOf_40 C hn 
  · refine z_aload_n_ok (pc := 27) (i := 0) C.hx C.hb dX8_leftOf_27 rfl ?_
    refine z_gf_ok (pc := 28) C zK8 (f := 4) (by decide) zw_861 rfl dX8_leftOf_28 ?_
    refine z_iload_n_ok (pc := 31) (i := 2) C.hx C.hb dX8_leftOf_31 rfl ?_
    refine z_iald_ok (pc := 32) C dX8_leftOf_32 ?_
    refine z_if_ne_ok (pc := 33) (tgt := 40) C.hx C.hb dX8_leftOf_33 (by decide) ?_ ?_
    · exact zk_X8_leftOf_40 C hn 
    · refine z_iload_n_ok (pc := 36) (i := 3) C.hx C.hb dX8_leftOf_36 rfl ?_
      refine z_if_ge_ok (pc := 37) (tgt := 44) C.hx C.hb dX8_leftOf_37 (by decide) ?_ ?_
      · refine z_iload_n_ok (pc := 44) (i := 3) C.hx C.hb dX8_leftOf_44 rfl ?_
        exact zk_X8_leftOf_45 C hn 
      · exact zk_X8_leftOf_40 C hn 
def sp_X8_leftOf : ZSp := fun as S K => as.length ≤ 4 ∧ zsp 4 zb_X8_leftOf_0 as S K
theorem zm_X8_leftOf (l : Launch) (hl : l.stackTraces = false) : zMet l yX8_leftOf cX8_leftOf 4 (some .int) { frames := 2, cells := 1, slots := 6, locals := 42 } 0 0 sp_X8_leftOf := zMet_of hl (by decide +kernel) ⟨rfl, rfl⟩ (fun X C hn _ => zk_X8_leftOf_0 C hn)
theorem dX8_lacked_0 : decode cX8_lacked 0 = .ok (.iconst 0, 1) := by decide +kernel
theorem dX8_lacked_1 : decode cX8_lacked 1 = .ok (.istore_n 2, 1) := by decide +kernel
theorem dX8_lacked_2 : decode cX8_lacked 2 = .ok (.iconst 0, 1) := by decide +kernel
theorem dX8_lacked_3 : decode cX8_lacked 3 = .ok (.istore_n 3, 1) := by decide +kernel
theorem dX8_lacked_4 : decode cX8_lacked 4 = .ok (.iload_n 3, 1) := by decide +kernel
theorem dX8_lacked_5 : decode cX8_lacked 5 = .ok (.bipush 6, 2) := by decide +kernel
theorem dX8_lacked_7 : decode cX8_lacked 7 = .ok (.if_icmp .ge 42, 3) := by decide +kernel
theorem dX8_lacked_10 : decode cX8_lacked 10 = .ok (.iload_n 2, 1) := by decide +kernel
theorem dX8_lacked_11 : decode cX8_lacked 11 = .ok (.aload_n 0, 1) := by decide +kernel
theorem dX8_lacked_12 : decode cX8_lacked 12 = .ok (.iload_n 1, 1) := by decide +kernel
theorem dX8_lacked_13 : decode cX8_lacked 13 = .ok (.iload_n 3, 1) := by decide +kernel
theorem dX8_lacked_14 : decode cX8_lacked 14 = .ok (.invokevirtual 167, 3) := by decide +kernel
theorem dX8_lacked_17 : decode cX8_lacked 17 = .ok (.aload_n 0, 1) := by decide +kernel
theorem dX8_lacked_18 : decode cX8_lacked 18 = .ok (.getfield 84, 3) := by decide +kernel
theorem dX8_lacked_21 : decode cX8_lacked 21 = .ok (.bipush 6, 2) := by decide +kernel
theorem dX8_lacked_23 : decode cX8_lacked 23 = .ok (.aload_n 0, 1) := by decide +kernel
theorem dX8_lacked_24 : decode cX8_lacked 24 = .ok (.getfield 38, 3) := by decide +kernel
theorem dX8_lacked_27 : decode cX8_lacked 27 = .ok (.iload_n 1, 1) := by decide +kernel
theorem dX8_lacked_28 : decode cX8_lacked 28 = .ok (.iaload, 1) := by decide +kernel
theorem dX8_lacked_29 : decode cX8_lacked 29 = .ok (.imul, 1) := by decide +kernel
theorem dX8_lacked_30 : decode cX8_lacked 30 = .ok (.iload_n 3, 1) := by decide +kernel
theorem dX8_lacked_31 : decode cX8_lacked 31 = .ok (.iadd, 1) := by decide +kernel
theorem dX8_lacked_32 : decode cX8_lacked 32 = .ok (.iaload, 1) := by decide +kernel
theorem dX8_lacked_33 : decode cX8_lacked 33 = .ok (.if_icmp .le 7, 3) := by decide +kernel
theorem dX8_lacked_36 : decode cX8_lacked 36 = .ok (.iconst 1, 1) := by decide +kernel
theorem dX8_lacked_37 : decode cX8_lacked 37 = .ok (.goto 4, 3) := by decide +kernel
theorem dX8_lacked_40 : decode cX8_lacked 40 = .ok (.iconst 0, 1) := by decide +kernel
theorem dX8_lacked_41 : decode cX8_lacked 41 = .ok (.ior, 1) := by decide +kernel
theorem dX8_lacked_42 : decode cX8_lacked 42 = .ok (.istore_n 2, 1) := by decide +kernel
theorem dX8_lacked_43 : decode cX8_lacked 43 = .ok (.iinc 3 1, 3) := by decide +kernel
theorem dX8_lacked_46 : decode cX8_lacked 46 = .ok (.goto (-42), 3) := by decide +kernel
theorem dX8_lacked_49 : decode cX8_lacked 49 = .ok (.iload_n 2, 1) := by decide +kernel
theorem dX8_lacked_50 : decode cX8_lacked 50 = .ok (.ireturn, 1) := by decide +kernel
def zb_X8_lacked_41 (J4 : ZP) : ZP := (z_bin (fun x y => x ||| y) (z_ist 2 (z_inc 3 (1) J4)))
set_option maxRecDepth 20000 in
theorem zk_X8_lacked_41 {X : ZX} (C : zCx X cX8_lacked RX8 (some .boolean) 3 65 1 6) (hn : X.nL = 4) {J4 : ZP} (hJ4 : ZOK X 4 J4) : ZOK X 41 (zb_X8_lacked_41 J4) := by
  unfold zb_X8_lacked_41
  refine z_ior_ok (pc := 41) C.hx C.hb dX8_lacked_41 ?_
  refine z_istore_n_ok (pc := 42) (i := 2) C.hx C.hb dX8_lacked_42 rfl (zlt hn (by decide)) ?_
  refine z_iinc_ok (pc := 43) (i := 3) (v := 1) C.hx C.hb dX8_lacked_43 (by decide) (zlt hn (by decide)) ?_
  refine z_goto_ok (pc := 46) (tgt := 4) C.hx C.hb dX8_lacked_46 (by decide) ?_
  exact hJ4
def zb_X8_lacked_4 (J4 : ZP) : ZP := (z_ild 3 (z_push 6 (z_cmp (fun x y => y ≤ x) (z_ild 2 (z_ret 2)) (z_ild 2 (z_ald 0 (z_ild 1 (z_ild 3 (z_invV 8 2 sp_X8_leftOf (z_ald 0 (z_gf 8 30 (z_push 6 (z_ald 0 (z_gf 8 12 (z_ild 1 (z_iald (z_bin (fun x y => x * y) (z_ild 3 (z_bin (fun x y => x + y) (z_iald (z_cmp (fun x y => x ≤ y) (z_push 0 (zb_X8_lacked_41 J4)) (z_push 1 (zb_X8_lacked_41 J4))))))))))))))))))))))
set_option maxRecDepth 20000 in
theorem zk_X8_lacked_4 {X : ZX} (C : zCx X cX8_lacked RX8 (some .boolean) 3 65 1 6) (hn : X.nL = 4) {J4 : ZP} (hJ4 : ZOK X 4 J4) : ZOK X 4 (zb_X8_lacked_4 J4) := by
  unfold zb_X8_lacked_4
  refine z_iload_n_ok (pc := 4) (i := 3) C.hx C.hb dX8_lacked_4 rfl ?_
  refine z_bipush_ok (pc := 5) (v := 6) C.hx C.hb dX8_lacked_5 (by decide) ?_
  refine z_icmp_ge_ok (pc := 7) (tgt := 49) C.hx C.hb dX8_lacked_7 (by decide) ?_ ?_
  · refine z_iload_n_ok (pc := 49) (i := 2) C.hx C.hb dX8_lacked_49 rfl ?_
    exact z_zret_ok (pc := 50) C dX8_lacked_50
  · refine z_iload_n_ok (pc := 10) (i := 2) C.hx C.hb dX8_lacked_10 rfl ?_
    refine z_aload_n_ok (pc := 11) (i := 0) C.hx C.hb dX8_lacked_11 rfl ?_
    refine z_iload_n_ok (pc := 12) (i := 1) C.hx C.hb dX8_lacked_12 rfl ?_
    refine z_iload_n_ok (pc := 13) (i := 3) C.hx C.hb dX8_lacked_13 rfl ?_
    refine z_invV_ok (pc := 14) C (by decide +kernel) (zm_X8_leftOf X.l C.htr) ⟨rfl, rfl⟩ ⟨by decide, by decide⟩ (by decide) (by decide) zcl_X8_167 zw_1092 zw_32 zK8 dX8_lacked_14 ?_
    refine z_aload_n_ok (pc := 17) (i := 0) C.hx C.hb dX8_lacked_17 rfl ?_
    refine z_gf_ok (pc := 18) C zK8 (f := 30) (by decide) zw_887 rfl dX8_lacked_18 ?_
    refine z_bipush_ok (pc := 21) (v := 6) C.hx C.hb dX8_lacked_21 (by decide) ?_
    refine z_aload_n_ok (pc := 23) (i := 0) C.hx C.hb dX8_lacked_23 rfl ?_
    refine z_gf_ok (pc := 24) C zK8 (f := 12) (by decide) zw_869 rfl dX8_lacked_24 ?_
    refine z_iload_n_ok (pc := 27) (i := 1) C.hx C.hb dX8_lacked_27 rfl ?_
    refine z_iald_ok (pc := 28) C dX8_lacked_28 ?_
    refine z_imul_ok (pc := 29) C.hx C.hb dX8_lacked_29 ?_
    refine z_iload_n_ok (pc := 30) (i := 3) C.hx C.hb dX8_lacked_30 rfl ?_
    refine z_iadd_ok (pc := 31) C.hx C.hb dX8_lacked_31 ?_
    refine z_iald_ok (pc := 32) C dX8_lacked_32 ?_
    refine z_icmp_le_ok (pc := 33) (tgt := 40) C.hx C.hb dX8_lacked_33 (by decide) ?_ ?_
    · refine z_iconst_ok (pc := 40) (v := 0) C.hx C.hb dX8_lacked_40 (by decide) ?_
      exact zk_X8_lacked_41 C hn hJ4
    · refine z_iconst_ok (pc := 36) (v := 1) C.hx C.hb dX8_lacked_36 (by decide) ?_
      refine z_goto_ok (pc := 37) (tgt := 41) C.hx C.hb dX8_lacked_37 (by decide) ?_
      exact zk_X8_lacked_41 C hn hJ4
def zb_X8_lacked_0 : ZP := (z_push 0 (z_ist 2 (z_push 0 (z_ist 3 (z_loop (fun J4 => zb_X8_lacked_4 J4))))))
set_option maxRecDepth 20000 in
theorem zk_X8_lacked_0 {X : ZX} (C : zCx X cX8_lacked RX8 (some .boolean) 3 65 1 6) (hn : X.nL = 4) : ZOK X 0 (zb_X8_lacked_0) := by
  unfold zb_X8_lacked_0
  refine z_iconst_ok (pc := 0) (v := 0) C.hx C.hb dX8_lacked_0 (by decide) ?_
  refine z_istore_n_ok (pc := 1) (i := 2) C.hx C.hb dX8_lacked_1 rfl (zlt hn (by decide)) ?_
  refine z_iconst_ok (pc := 2) (v := 0) C.hx C.hb dX8_lacked_2 (by decide) ?_
  refine z_istore_n_ok (pc := 3) (i := 3) C.hx C.hb dX8_lacked_3 rfl (zlt hn (by decide)) ?_
  exact z_loop_ok (fun J4 hJ4 => zk_X8_lacked_4 C hn hJ4)
def sp_X8_lacked : ZSp := fun as S K => as.length ≤ 4 ∧ zsp 4 zb_X8_lacked_0 as S K
theorem zm_X8_lacked (l : Launch) (hl : l.stackTraces = false) : zMet l yX8_lacked cX8_lacked 4 (some .boolean) { frames := 3, cells := 1, slots := 6, locals := 65 } 0 0 sp_X8_lacked := zMet_of hl (by decide +kernel) ⟨rfl, rfl⟩ (fun X C hn _ => zk_X8_lacked_0 C hn)
theorem dX8_age_0 : decode cX8_age 0 = .ok (.sipush 400, 3) := by decide +kernel
theorem dX8_age_3 : decode cX8_age 3 = .ok (.aload_n 0, 1) := by decide +kernel
theorem dX8_age_4 : decode cX8_age 4 = .ok (.getfield 35, 3) := by decide +kernel
theorem dX8_age_7 : decode cX8_age 7 = .ok (.iload_n 1, 1) := by decide +kernel
theorem dX8_age_8 : decode cX8_age 8 = .ok (.iaload, 1) := by decide +kernel
theorem dX8_age_9 : decode cX8_age 9 = .ok (.invokestatic 157, 3) := by decide +kernel
theorem dX8_age_12 : decode cX8_age 12 = .ok (.imul, 1) := by decide +kernel
theorem dX8_age_13 : decode cX8_age 13 = .ok (.istore_n 2, 1) := by decide +kernel
theorem dX8_age_14 : decode cX8_age 14 = .ok (.iconst 2, 1) := by decide +kernel
theorem dX8_age_15 : decode cX8_age 15 = .ok (.aload_n 0, 1) := by decide +kernel
theorem dX8_age_16 : decode cX8_age 16 = .ok (.getfield 56, 3) := by decide +kernel
theorem dX8_age_19 : decode cX8_age 19 = .ok (.iload_n 1, 1) := by decide +kernel
theorem dX8_age_20 : decode cX8_age 20 = .ok (.iaload, 1) := by decide +kernel
theorem dX8_age_21 : decode cX8_age 21 = .ok (.imul, 1) := by decide +kernel
theorem dX8_age_22 : decode cX8_age 22 = .ok (.iload_n 2, 1) := by decide +kernel
theorem dX8_age_23 : decode cX8_age 23 = .ok (.if_icmp .ge 8, 3) := by decide +kernel
theorem dX8_age_26 : decode cX8_age 26 = .ok (.bipush 20, 2) := by decide +kernel
theorem dX8_age_28 : decode cX8_age 28 = .ok (.goto 18, 3) := by decide +kernel
theorem dX8_age_31 : decode cX8_age 31 = .ok (.aload_n 0, 1) := by decide +kernel
theorem dX8_age_32 : decode cX8_age 32 = .ok (.getfield 56, 3) := by decide +kernel
theorem dX8_age_35 : decode cX8_age 35 = .ok (.iload_n 1, 1) := by decide +kernel
theorem dX8_age_36 : decode cX8_age 36 = .ok (.iaload, 1) := by decide +kernel
theorem dX8_age_37 : decode cX8_age 37 = .ok (.iload_n 2, 1) := by decide +kernel
theorem dX8_age_38 : decode cX8_age 38 = .ok (.if_icmp .ge 7, 3) := by decide +kernel
theorem dX8_age_41 : decode cX8_age 41 = .ok (.iconst 5, 1) := by decide +kernel
theorem dX8_age_42 : decode cX8_age 42 = .ok (.goto 4, 3) := by decide +kernel
theorem dX8_age_45 : decode cX8_age 45 = .ok (.iconst 0, 1) := by decide +kernel
theorem dX8_age_46 : decode cX8_age 46 = .ok (.istore_n 3, 1) := by decide +kernel
theorem dX8_age_47 : decode cX8_age 47 = .ok (.aload_n 0, 1) := by decide +kernel
theorem dX8_age_48 : decode cX8_age 48 = .ok (.getfield 47, 3) := by decide +kernel
theorem dX8_age_51 : decode cX8_age 51 = .ok (.iload_n 1, 1) := by decide +kernel
theorem dX8_age_52 : decode cX8_age 52 = .ok (.iload_n 3, 1) := by decide +kernel
theorem dX8_age_53 : decode cX8_age 53 = .ok (.ifCond .ne 7, 3) := by decide +kernel
theorem dX8_age_56 : decode cX8_age 56 = .ok (.iconst (-1), 1) := by decide +kernel
theorem dX8_age_57 : decode cX8_age 57 = .ok (.goto 29, 3) := by decide +kernel
theorem dX8_age_60 : decode cX8_age 60 = .ok (.aload_n 0, 1) := by decide +kernel
theorem dX8_age_61 : decode cX8_age 61 = .ok (.getfield 59, 3) := by decide +kernel
theorem dX8_age_64 : decode cX8_age 64 = .ok (.iload_n 1, 1) := by decide +kernel
theorem dX8_age_65 : decode cX8_age 65 = .ok (.baload, 1) := by decide +kernel
theorem dX8_age_66 : decode cX8_age 66 = .ok (.ifCond .eq 7, 3) := by decide +kernel
theorem dX8_age_69 : decode cX8_age 69 = .ok (.iconst 0, 1) := by decide +kernel
theorem dX8_age_70 : decode cX8_age 70 = .ok (.goto 16, 3) := by decide +kernel
theorem dX8_age_73 : decode cX8_age 73 = .ok (.aload_n 0, 1) := by decide +kernel
theorem dX8_age_74 : decode cX8_age 74 = .ok (.iload_n 1, 1) := by decide +kernel
theorem dX8_age_75 : decode cX8_age 75 = .ok (.invokevirtual 209, 3) := by decide +kernel
theorem dX8_age_78 : decode cX8_age 78 = .ok (.ifCond .eq 7, 3) := by decide +kernel
theorem dX8_age_81 : decode cX8_age 81 = .ok (.iconst 1, 1) := by decide +kernel
theorem dX8_age_82 : decode cX8_age 82 = .ok (.goto 4, 3) := by decide +kernel
theorem dX8_age_85 : decode cX8_age 85 = .ok (.iconst 2, 1) := by decide +kernel
theorem dX8_age_86 : decode cX8_age 86 = .ok (.iastore, 1) := by decide +kernel
theorem dX8_age_87 : decode cX8_age 87 = .ok (.iload_n 3, 1) := by decide +kernel
theorem dX8_age_88 : decode cX8_age 88 = .ok (.ifCond .le 14, 3) := by decide +kernel
theorem dX8_age_91 : decode cX8_age 91 = .ok (.aload_n 0, 1) := by decide +kernel
theorem dX8_age_92 : decode cX8_age 92 = .ok (.getfield 44, 3) := by decide +kernel
theorem dX8_age_95 : decode cX8_age 95 = .ok (.iload_n 1, 1) := by decide +kernel
theorem dX8_age_96 : decode cX8_age 96 = .ok (.iaload, 1) := by decide +kernel
theorem dX8_age_97 : decode cX8_age 97 = .ok (.iload_n 3, 1) := by decide +kernel
theorem dX8_age_98 : decode cX8_age 98 = .ok (.isub, 1) := by decide +kernel
theorem dX8_age_99 : decode cX8_age 99 = .ok (.goto 16, 3) := by decide +kernel
theorem dX8_age_102 : decode cX8_age 102 = .ok (.bipush 100, 2) := by decide +kernel
theorem dX8_age_104 : decode cX8_age 104 = .ok (.aload_n 0, 1) := by decide +kernel
theorem dX8_age_105 : decode cX8_age 105 = .ok (.getfield 44, 3) := by decide +kernel
theorem dX8_age_108 : decode cX8_age 108 = .ok (.iload_n 1, 1) := by decide +kernel
theorem dX8_age_109 : decode cX8_age 109 = .ok (.iaload, 1) := by decide +kernel
theorem dX8_age_110 : decode cX8_age 110 = .ok (.iconst 3, 1) := by decide +kernel
theorem dX8_age_111 : decode cX8_age 111 = .ok (.iadd, 1) := by decide +kernel
theorem dX8_age_112 : decode cX8_age 112 = .ok (.invokestatic 190, 3) := by decide +kernel
theorem dX8_age_115 : decode cX8_age 115 = .ok (.istore 4, 2) := by decide +kernel
theorem dX8_age_117 : decode cX8_age 117 = .ok (.aload_n 0, 1) := by decide +kernel
theorem dX8_age_118 : decode cX8_age 118 = .ok (.getfield 44, 3) := by decide +kernel
theorem dX8_age_121 : decode cX8_age 121 = .ok (.iload_n 1, 1) := by decide +kernel
theorem dX8_age_122 : decode cX8_age 122 = .ok (.iload 4, 2) := by decide +kernel
theorem dX8_age_124 : decode cX8_age 124 = .ok (.ifCond .ge 7, 3) := by decide +kernel
theorem dX8_age_127 : decode cX8_age 127 = .ok (.iconst 0, 1) := by decide +kernel
theorem dX8_age_128 : decode cX8_age 128 = .ok (.goto 5, 3) := by decide +kernel
theorem dX8_age_131 : decode cX8_age 131 = .ok (.iload 4, 2) := by decide +kernel
theorem dX8_age_133 : decode cX8_age 133 = .ok (.iastore, 1) := by decide +kernel
theorem dX8_age_134 : decode cX8_age 134 = .ok (.return_, 1) := by decide +kernel
def zb_X8_age_133 : ZP := (z_iast (z_ret 0))
set_option maxRecDepth 20000 in
theorem zk_X8_age_133 {X : ZX} (C : zCx X cX8_age RX8 none 4 88 1 6) (hn : X.nL = 5) : ZOK X 133 (zb_X8_age_133) := by
  unfold zb_X8_age_133
  refine z_iast_ok (pc := 133) C dX8_age_133 ?_
  exact z_vret_ok (pc := 134) C dX8_age_134
def zb_X8_age_115 : ZP := (z_ist 4 (z_ald 0 (z_gf 8 14 (z_ild 1 (z_ild 4 (z_if (fun x => 0 ≤ x) (z_ild 4 zb_X8_age_133) (z_push 0 zb_X8_age_133)))))))
set_option maxRecDepth 20000 in
theorem zk_X8_age_115 {X : ZX} (C : zCx X cX8_age RX8 none 4 88 1 6) (hn : X.nL = 5) : ZOK X 115 (zb_X8_age_115) := by
  unfold zb_X8_age_115
  refine z_istore_ok (pc := 115) (i := 4) C.hx C.hb dX8_age_115 (zlt hn (by decide)) ?_
  refine z_aload_n_ok (pc := 117) (i := 0) C.hx C.hb dX8_age_117 rfl ?_
  refine z_gf_ok (pc := 118) C zK8 (f := 14) (by decide) zw_871 rfl dX8_age_118 ?_
  refine z_iload_n_ok (pc := 121) (i := 1) C.hx C.hb dX8_age_121 rfl ?_
  refine z_iload_ok (pc := 122) (i := 4) C.hx C.hb dX8_age_122 ?_
  refine z_if_ge_ok (pc := 124) (tgt := 131) C.hx C.hb dX8_age_124 (by decide) ?_ ?_
  · refine z_iload_ok (pc := 131) (i := 4) C.hx C.hb dX8_age_131 ?_
    exact zk_X8_age_133 C hn 
  · refine z_iconst_ok (pc := 127) (v := 0) C.hx C.hb dX8_age_127 (by decide) ?_
    refine z_goto_ok (pc := 128) (tgt := 133) C.hx C.hb dX8_age_128 (by decide) ?_
    exact zk_X8_age_133 C hn 
def zb_X8_age_86 : ZP := (z_iast (z_ild 3 (z_if (fun x => x ≤ 0) (z_push 100 (z_ald 0 (z_gf 8 14 (z_ild 1 (z_iald (z_push 3 (z_bin (fun x y => x + y) (z_invS 2 sp_X8_lesser zb_X8_age_115)))))))) (z_ald 0 (z_gf 8 14 (z_ild 1 (z_iald (z_ild 3 (z_bin (fun x y => x - y) zb_X8_age_115)))))))))
set_option maxRecDepth 20000 in
theorem zk_X8_age_86 {X : ZX} (C : zCx X cX8_age RX8 none 4 88 1 6) (hn : X.nL = 5) : ZOK X 86 (zb_X8_age_86) := by
  unfold zb_X8_age_86
  refine z_iast_ok (pc := 86) C dX8_age_86 ?_
  refine z_iload_n_ok (pc := 87) (i := 3) C.hx C.hb dX8_age_87 rfl ?_
  refine z_if_le_ok (pc := 88) (tgt := 102) C.hx C.hb dX8_age_88 (by decide) ?_ ?_
  · refine z_bipush_ok (pc := 102) (v := 100) C.hx C.hb dX8_age_102 (by decide) ?_
    refine z_aload_n_ok (pc := 104) (i := 0) C.hx C.hb dX8_age_104 rfl ?_
    refine z_gf_ok (pc := 105) C zK8 (f := 14) (by decide) zw_871 rfl dX8_age_105 ?_
    refine z_iload_n_ok (pc := 108) (i := 1) C.hx C.hb dX8_age_108 rfl ?_
    refine z_iald_ok (pc := 109) C dX8_age_109 ?_
    refine z_iconst_ok (pc := 110) (v := 3) C.hx C.hb dX8_age_110 (by decide) ?_
    refine z_iadd_ok (pc := 111) C.hx C.hb dX8_age_111 ?_
    refine z_invS_ok (pc := 112) C (by decide +kernel) (zm_X8_lesser X.l C.htr) ⟨rfl, rfl⟩ ⟨by decide, by decide⟩ (by decide) (by decide) zcl_X8_190 zw_1147 dX8_age_112 ?_
    exact zk_X8_age_115 C hn 
  · refine z_aload_n_ok (pc := 91) (i := 0) C.hx C.hb dX8_age_91 rfl ?_
    refine z_gf_ok (pc := 92) C zK8 (f := 14) (by decide) zw_871 rfl dX8_age_92 ?_
    refine z_iload_n_ok (pc := 95) (i := 1) C.hx C.hb dX8_age_95 rfl ?_
    refine z_iald_ok (pc := 96) C dX8_age_96 ?_
    refine z_iload_n_ok (pc := 97) (i := 3) C.hx C.hb dX8_age_97 rfl ?_
    refine z_isub_ok (pc := 98) C.hx C.hb dX8_age_98 ?_
    refine z_goto_ok (pc := 99) (tgt := 115) C.hx C.hb dX8_age_99 (by decide) ?_
    exact zk_X8_age_115 C hn 
def zb_X8_age_46 : ZP := (z_ist 3 (z_ald 0 (z_gf 8 15 (z_ild 1 (z_ild 3 (z_if (fun x => x = 0) (z_push (-1) zb_X8_age_86) (z_ald 0 (z_gf 8 19 (z_ild 1 (z_bald (z_if (fun x => x = 0) (z_ald 0 (z_ild 1 (z_invV 8 1 sp_X8_lacked (z_if (fun x => x = 0) (z_push 2 zb_X8_age_86) (z_push 1 zb_X8_age_86))))) (z_push 0 zb_X8_age_86))))))))))))
set_option maxRecDepth 20000 in
theorem zk_X8_age_46 {X : ZX} (C : zCx X cX8_age RX8 none 4 88 1 6) (hn : X.nL = 5) : ZOK X 46 (zb_X8_age_46) := by
  unfold zb_X8_age_46
  refine z_istore_n_ok (pc := 46) (i := 3) C.hx C.hb dX8_age_46 rfl (zlt hn (by decide)) ?_
  refine z_aload_n_ok (pc := 47) (i := 0) C.hx C.hb dX8_age_47 rfl ?_
  refine z_gf_ok (pc := 48) C zK8 (f := 15) (by decide) zw_872 rfl dX8_age_48 ?_
  refine z_iload_n_ok (pc := 51) (i := 1) C.hx C.hb dX8_age_51 rfl ?_
  refine z_iload_n_ok (pc := 52) (i := 3) C.hx C.hb dX8_age_52 rfl ?_
  refine z_if_ne_ok (pc := 53) (tgt := 60) C.hx C.hb dX8_age_53 (by decide) ?_ ?_
  · refine z_aload_n_ok (pc := 60) (i := 0) C.hx C.hb dX8_age_60 rfl ?_
    refine z_gf_ok (pc := 61) C zK8 (f := 19) (by decide) zw_876 rfl dX8_age_61 ?_
    refine z_iload_n_ok (pc := 64) (i := 1) C.hx C.hb dX8_age_64 rfl ?_
    refine z_bald_ok (pc := 65) C dX8_age_65 ?_
    refine z_if_eq_ok (pc := 66) (tgt := 73) C.hx C.hb dX8_age_66 (by decide) ?_ ?_
    · refine z_aload_n_ok (pc := 73) (i := 0) C.hx C.hb dX8_age_73 rfl ?_
      refine z_iload_n_ok (pc := 74) (i := 1) C.hx C.hb dX8_age_74 rfl ?_
      refine z_invV_ok (pc := 75) C (by decide +kernel) (zm_X8_lacked X.l C.htr) ⟨rfl, rfl⟩ ⟨by decide, by decide⟩ (by decide) (by decide) zcl_X8_209 zw_1207 zw_39 zK8 dX8_age_75 ?_
      refine z_if_eq_ok (pc := 78) (tgt := 85) C.hx C.hb dX8_age_78 (by decide) ?_ ?_
      · refine z_iconst_ok (pc := 85) (v := 2) C.hx C.hb dX8_age_85 (by decide) ?_
        exact zk_X8_age_86 C hn 
      · refine z_iconst_ok (pc := 81) (v := 1) C.hx C.hb dX8_age_81 (by decide) ?_
        refine z_goto_ok (pc := 82) (tgt := 86) C.hx C.hb dX8_age_82 (by decide) ?_
        exact zk_X8_age_86 C hn 
    · refine z_iconst_ok (pc := 69) (v := 0) C.hx C.hb dX8_age_69 (by decide) ?_
      refine z_goto_ok (pc := 70) (tgt := 86) C.hx C.hb dX8_age_70 (by decide) ?_
      exact zk_X8_age_86 C hn 
  · refine z_iconst_ok (pc := 56) (v := -1) C.hx C.hb dX8_age_56 (by decide) ?_
    refine z_goto_ok (pc := 57) (tgt := 86) C.hx C.hb dX8_age_57 (by decide) ?_
    exact zk_X8_age_86 C hn 
def zb_X8_age_0 : ZP := (z_push 400 (z_ald 0 (z_gf 8 11 (z_ild 1 (z_iald (z_invS 1 sp_X8_quarters (z_bin (fun x y => x * y) (z_ist 2 (z_push 2 (z_ald 0 (z_gf 8 18 (z_ild 1 (z_iald (z_bin (fun x y => x * y) (z_ild 2 (z_cmp (fun x y => y ≤ x) (z_ald 0 (z_gf 8 18 (z_ild 1 (z_iald (z_ild 2 (z_cmp (fun x y => y ≤ x) (z_push 0 zb_X8_age_46) (z_push 5 zb_X8_age_46))))))) (z_push 20 zb_X8_age_46)))))))))))))))))
set_option maxRecDepth 20000 in
theorem zk_X8_age_0 {X : ZX} (C : zCx X cX8_age RX8 none 4 88 1 6) (hn : X.nL = 5) : ZOK X 0 (zb_X8_age_0) := by
  unfold zb_X8_age_0
  refine z_sipush_ok (pc := 0) (v := 400) C.hx C.hb dX8_age_0 (by decide) ?_
  refine z_aload_n_ok (pc := 3) (i := 0) C.hx C.hb dX8_age_3 rfl ?_
  refine z_gf_ok (pc := 4) C zK8 (f := 11) (by decide) zw_868 rfl dX8_age_4 ?_
  refine z_iload_n_ok (pc := 7) (i := 1) C.hx C.hb dX8_age_7 rfl ?_
  refine z_iald_ok (pc := 8) C dX8_age_8 ?_
  refine z_invS_ok (pc := 9) C (by decide +kernel) (zm_X8_quarters X.l C.htr) ⟨rfl, rfl⟩ ⟨by decide, by decide⟩ (by decide) (by decide) zcl_X8_157 zw_1099 dX8_age_9 ?_
  refine z_imul_ok (pc := 12) C.hx C.hb dX8_age_12 ?_
  refine z_istore_n_ok (pc := 13) (i := 2) C.hx C.hb dX8_age_13 rfl (zlt hn (by decide)) ?_
  refine z_iconst_ok (pc := 14) (v := 2) C.hx C.hb dX8_age_14 (by decide) ?_
  refine z_aload_n_ok (pc := 15) (i := 0) C.hx C.hb dX8_age_15 rfl ?_
  refine z_gf_ok (pc := 16) C zK8 (f := 18) (by decide) zw_875 rfl dX8_age_16 ?_
  refine z_iload_n_ok (pc := 19) (i := 1) C.hx C.hb dX8_age_19 rfl ?_
  refine z_iald_ok (pc := 20) C dX8_age_20 ?_
  refine z_imul_ok (pc := 21) C.hx C.hb dX8_age_21 ?_
  refine z_iload_n_ok (pc := 22) (i := 2) C.hx C.hb dX8_age_22 rfl ?_
  refine z_icmp_ge_ok (pc := 23) (tgt := 31) C.hx C.hb dX8_age_23 (by decide) ?_ ?_
  · refine z_aload_n_ok (pc := 31) (i := 0) C.hx C.hb dX8_age_31 rfl ?_
    refine z_gf_ok (pc := 32) C zK8 (f := 18) (by decide) zw_875 rfl dX8_age_32 ?_
    refine z_iload_n_ok (pc := 35) (i := 1) C.hx C.hb dX8_age_35 rfl ?_
    refine z_iald_ok (pc := 36) C dX8_age_36 ?_
    refine z_iload_n_ok (pc := 37) (i := 2) C.hx C.hb dX8_age_37 rfl ?_
    refine z_icmp_ge_ok (pc := 38) (tgt := 45) C.hx C.hb dX8_age_38 (by decide) ?_ ?_
    · refine z_iconst_ok (pc := 45) (v := 0) C.hx C.hb dX8_age_45 (by decide) ?_
      exact zk_X8_age_46 C hn 
    · refine z_iconst_ok (pc := 41) (v := 5) C.hx C.hb dX8_age_41 (by decide) ?_
      refine z_goto_ok (pc := 42) (tgt := 46) C.hx C.hb dX8_age_42 (by decide) ?_
      exact zk_X8_age_46 C hn 
  · refine z_bipush_ok (pc := 26) (v := 20) C.hx C.hb dX8_age_26 (by decide) ?_
    refine z_goto_ok (pc := 28) (tgt := 46) C.hx C.hb dX8_age_28 (by decide) ?_
    exact zk_X8_age_46 C hn 
def sp_X8_age : ZSp := fun as S K => as.length ≤ 5 ∧ zsp 5 zb_X8_age_0 as S K
theorem zm_X8_age (l : Launch) (hl : l.stackTraces = false) : zMet l yX8_age cX8_age 5 none { frames := 4, cells := 1, slots := 6, locals := 88 } 0 0 sp_X8_age := zMet_of hl (by decide +kernel) ⟨rfl, rfl⟩ (fun X C hn _ => zk_X8_age_0 C hn)
