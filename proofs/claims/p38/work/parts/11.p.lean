theorem dX3_isDead_0 : decode cX3_isDead 0 = .ok (.aload_n 0, 1) := by decide +kernel
theorem dX3_isDead_1 : decode cX3_isDead 1 = .ok (.getfield 9, 3) := by decide +kernel
theorem dX3_isDead_4 : decode cX3_isDead 4 = .ok (.ifCond .gt 7, 3) := by decide +kernel
theorem dX3_isDead_7 : decode cX3_isDead 7 = .ok (.iconst 1, 1) := by decide +kernel
theorem dX3_isDead_8 : decode cX3_isDead 8 = .ok (.goto 4, 3) := by decide +kernel
theorem dX3_isDead_11 : decode cX3_isDead 11 = .ok (.iconst 0, 1) := by decide +kernel
theorem dX3_isDead_12 : decode cX3_isDead 12 = .ok (.ireturn, 1) := by decide +kernel
def zb_X3_isDead_12 : ZP := (z_ret 2)
set_option maxRecDepth 20000 in
theorem zk_X3_isDead_12 {X : ZX} (C : zCx X cX3_isDead RX3 (some .boolean) 0 0 1 6) (hn : X.nL = 1) : ZOK X 12 (zb_X3_isDead_12) := by
  unfold zb_X3_isDead_12
  exact z_zret_ok (pc := 12) C dX3_isDead_12
def zb_X3_isDead_0 : ZP := (z_ald 0 (z_gf 3 4 (z_if (fun x => 0 < x) (z_push 0 zb_X3_isDead_12) (z_push 1 zb_X3_isDead_12))))
set_option maxRecDepth 20000 in
theorem zk_X3_isDead_0 {X : ZX} (C : zCx X cX3_isDead RX3 (some .boolean) 0 0 1 6) (hn : X.nL = 1) : ZOK X 0 (zb_X3_isDead_0) := by
  unfold zb_X3_isDead_0
  refine z_aload_n_ok (pc := 0) (i := 0) C.hx C.hb dX3_isDead_0 rfl ?_
  refine z_gf_ok (pc := 1) C zK3 (f := 4) (by decide) zw_325 rfl dX3_isDead_1 ?_
  refine z_if_gt_ok (pc := 4) (tgt := 11) C.hx C.hb dX3_isDead_4 (by decide) ?_ ?_
  · refine z_iconst_ok (pc := 11) (v := 0) C.hx C.hb dX3_isDead_11 (by decide) ?_
    exact zk_X3_isDead_12 C hn 
  · refine z_iconst_ok (pc := 7) (v := 1) C.hx C.hb dX3_isDead_7 (by decide) ?_
    refine z_goto_ok (pc := 8) (tgt := 12) C.hx C.hb dX3_isDead_8 (by decide) ?_
    exact zk_X3_isDead_12 C hn 
def sp_X3_isDead : ZSp := fun as S K => as.length ≤ 1 ∧ zsp 1 zb_X3_isDead_0 as S K
theorem zm_X3_isDead (l : Launch) (hl : l.stackTraces = false) : zMet l yX3_isDead cX3_isDead 1 (some .boolean) { frames := 0, cells := 1, slots := 6, locals := 0 } 0 0 sp_X3_isDead := zMet_of hl (by decide +kernel) ⟨rfl, rfl⟩ (fun X C hn _ => zk_X3_isDead_0 C hn)
theorem dX3_isWithoutBook_0 : decode cX3_isWithoutBook 0 = .ok (.aload_n 0, 1) := by decide +kernel
theorem dX3_isWithoutBook_1 : decode cX3_isWithoutBook 1 = .ok (.getfield 18, 3) := by decide +kernel
theorem dX3_isWithoutBook_4 : decode cX3_isWithoutBook 4 = .ok (.ifCond .ne 10, 3) := by decide +kernel
theorem dX3_isWithoutBook_7 : decode cX3_isWithoutBook 7 = .ok (.aload_n 0, 1) := by decide +kernel
theorem dX3_isWithoutBook_8 : decode cX3_isWithoutBook 8 = .ok (.getfield 9, 3) := by decide +kernel
theorem dX3_isWithoutBook_11 : decode cX3_isWithoutBook 11 = .ok (.ifCond .gt 7, 3) := by decide +kernel
theorem dX3_isWithoutBook_14 : decode cX3_isWithoutBook 14 = .ok (.iconst 1, 1) := by decide +kernel
theorem dX3_isWithoutBook_15 : decode cX3_isWithoutBook 15 = .ok (.goto 4, 3) := by decide +kernel
theorem dX3_isWithoutBook_18 : decode cX3_isWithoutBook 18 = .ok (.iconst 0, 1) := by decide +kernel
theorem dX3_isWithoutBook_19 : decode cX3_isWithoutBook 19 = .ok (.ireturn, 1) := by decide +kernel
def zb_X3_isWithoutBook_19 : ZP := (z_ret 2)
set_option maxRecDepth 20000 in
theorem zk_X3_isWithoutBook_19 {X : ZX} (C : zCx X cX3_isWithoutBook RX3 (some .boolean) 0 0 1 6) (hn : X.nL = 1) : ZOK X 19 (zb_X3_isWithoutBook_19) := by
  unfold zb_X3_isWithoutBook_19
  exact z_zret_ok (pc := 19) C dX3_isWithoutBook_19
def zb_X3_isWithoutBook_14 : ZP := (z_push 1 zb_X3_isWithoutBook_19)
set_option maxRecDepth 20000 in
theorem zk_X3_isWithoutBook_14 {X : ZX} (C : zCx X cX3_isWithoutBook RX3 (some .boolean) 0 0 1 6) (hn : X.nL = 1) : ZOK X 14 (zb_X3_isWithoutBook_14) := by
  unfold zb_X3_isWithoutBook_14
  refine z_iconst_ok (pc := 14) (v := 1) C.hx C.hb dX3_isWithoutBook_14 (by decide) ?_
  refine z_goto_ok (pc := 15) (tgt := 19) C.hx C.hb dX3_isWithoutBook_15 (by decide) ?_
  exact zk_X3_isWithoutBook_19 C hn 
def zb_X3_isWithoutBook_0 : ZP := (z_ald 0 (z_gf 3 6 (z_if (fun x => x = 0) (z_ald 0 (z_gf 3 4 (z_if (fun x => 0 < x) (z_push 0 zb_X3_isWithoutBook_19) zb_X3_isWithoutBook_14))) zb_X3_isWithoutBook_14)))
set_option maxRecDepth 20000 in
theorem zk_X3_isWithoutBook_0 {X : ZX} (C : zCx X cX3_isWithoutBook RX3 (some .boolean) 0 0 1 6) (hn : X.nL = 1) : ZOK X 0 (zb_X3_isWithoutBook_0) := by
  unfold zb_X3_isWithoutBook_0
  refine z_aload_n_ok (pc := 0) (i := 0) C.hx C.hb dX3_isWithoutBook_0 rfl ?_
  refine z_gf_ok (pc := 1) C zK3 (f := 6) (by decide) zw_329 rfl dX3_isWithoutBook_1 ?_
  refine z_if_ne_ok (pc := 4) (tgt := 14) C.hx C.hb dX3_isWithoutBook_4 (by decide) ?_ ?_
  · exact zk_X3_isWithoutBook_14 C hn 
  · refine z_aload_n_ok (pc := 7) (i := 0) C.hx C.hb dX3_isWithoutBook_7 rfl ?_
    refine z_gf_ok (pc := 8) C zK3 (f := 4) (by decide) zw_325 rfl dX3_isWithoutBook_8 ?_
    refine z_if_gt_ok (pc := 11) (tgt := 18) C.hx C.hb dX3_isWithoutBook_11 (by decide) ?_ ?_
    · refine z_iconst_ok (pc := 18) (v := 0) C.hx C.hb dX3_isWithoutBook_18 (by decide) ?_
      exact zk_X3_isWithoutBook_19 C hn 
    · exact zk_X3_isWithoutBook_14 C hn 
def sp_X3_isWithoutBook : ZSp := fun as S K => as.length ≤ 1 ∧ zsp 1 zb_X3_isWithoutBook_0 as S K
theorem zm_X3_isWithoutBook (l : Launch) (hl : l.stackTraces = false) : zMet l yX3_isWithoutBook cX3_isWithoutBook 1 (some .boolean) { frames := 0, cells := 1, slots := 6, locals := 0 } 0 0 sp_X3_isWithoutBook := zMet_of hl (by decide +kernel) ⟨rfl, rfl⟩ (fun X C hn _ => zk_X3_isWithoutBook_0 C hn)
theorem dX3_openNewBook_0 : decode cX3_openNewBook 0 = .ok (.aload_n 0, 1) := by decide +kernel
theorem dX3_openNewBook_1 : decode cX3_openNewBook 1 = .ok (.aload_n 0, 1) := by decide +kernel
theorem dX3_openNewBook_2 : decode cX3_openNewBook 2 = .ok (.getfield 45, 3) := by decide +kernel
theorem dX3_openNewBook_5 : decode cX3_openNewBook 5 = .ok (.putfield 41, 3) := by decide +kernel
theorem dX3_openNewBook_8 : decode cX3_openNewBook 8 = .ok (.aload_n 0, 1) := by decide +kernel
theorem dX3_openNewBook_9 : decode cX3_openNewBook 9 = .ok (.iconst 0, 1) := by decide +kernel
theorem dX3_openNewBook_10 : decode cX3_openNewBook 10 = .ok (.putfield 18, 3) := by decide +kernel
theorem dX3_openNewBook_13 : decode cX3_openNewBook 13 = .ok (.aload_n 0, 1) := by decide +kernel
theorem dX3_openNewBook_14 : decode cX3_openNewBook 14 = .ok (.iconst 0, 1) := by decide +kernel
theorem dX3_openNewBook_15 : decode cX3_openNewBook 15 = .ok (.putfield 22, 3) := by decide +kernel
theorem dX3_openNewBook_18 : decode cX3_openNewBook 18 = .ok (.aload_n 0, 1) := by decide +kernel
theorem dX3_openNewBook_19 : decode cX3_openNewBook 19 = .ok (.iconst 0, 1) := by decide +kernel
theorem dX3_openNewBook_20 : decode cX3_openNewBook 20 = .ok (.putfield 25, 3) := by decide +kernel
theorem dX3_openNewBook_23 : decode cX3_openNewBook 23 = .ok (.aload_n 0, 1) := by decide +kernel
theorem dX3_openNewBook_24 : decode cX3_openNewBook 24 = .ok (.iconst 0, 1) := by decide +kernel
theorem dX3_openNewBook_25 : decode cX3_openNewBook 25 = .ok (.putfield 28, 3) := by decide +kernel
theorem dX3_openNewBook_28 : decode cX3_openNewBook 28 = .ok (.iconst 0, 1) := by decide +kernel
theorem dX3_openNewBook_29 : decode cX3_openNewBook 29 = .ok (.istore_n 1, 1) := by decide +kernel
theorem dX3_openNewBook_30 : decode cX3_openNewBook 30 = .ok (.iload_n 1, 1) := by decide +kernel
theorem dX3_openNewBook_31 : decode cX3_openNewBook 31 = .ok (.aload_n 0, 1) := by decide +kernel
theorem dX3_openNewBook_32 : decode cX3_openNewBook 32 = .ok (.getfield 31, 3) := by decide +kernel
theorem dX3_openNewBook_35 : decode cX3_openNewBook 35 = .ok (.arraylength, 1) := by decide +kernel
theorem dX3_openNewBook_36 : decode cX3_openNewBook 36 = .ok (.if_icmp .ge 16, 3) := by decide +kernel
theorem dX3_openNewBook_39 : decode cX3_openNewBook 39 = .ok (.aload_n 0, 1) := by decide +kernel
theorem dX3_openNewBook_40 : decode cX3_openNewBook 40 = .ok (.getfield 31, 3) := by decide +kernel
theorem dX3_openNewBook_43 : decode cX3_openNewBook 43 = .ok (.iload_n 1, 1) := by decide +kernel
theorem dX3_openNewBook_44 : decode cX3_openNewBook 44 = .ok (.iconst 0, 1) := by decide +kernel
theorem dX3_openNewBook_45 : decode cX3_openNewBook 45 = .ok (.iastore, 1) := by decide +kernel
theorem dX3_openNewBook_46 : decode cX3_openNewBook 46 = .ok (.iinc 1 1, 3) := by decide +kernel
theorem dX3_openNewBook_49 : decode cX3_openNewBook 49 = .ok (.goto (-19), 3) := by decide +kernel
theorem dX3_openNewBook_52 : decode cX3_openNewBook 52 = .ok (.return_, 1) := by decide +kernel
def zb_X3_openNewBook_30 (J30 : ZP) : ZP := (z_ild 1 (z_ald 0 (z_gf 3 10 (z_alen (z_cmp (fun x y => y ≤ x) (z_ret 0) (z_ald 0 (z_gf 3 10 (z_ild 1 (z_push 0 (z_iast (z_inc 1 (1) J30)))))))))))
set_option maxRecDepth 20000 in
theorem zk_X3_openNewBook_30 {X : ZX} (C : zCx X cX3_openNewBook RX3 none 0 0 1 6) (hn : X.nL = 2) {J30 : ZP} (hJ30 : ZOK X 30 J30) : ZOK X 30 (zb_X3_openNewBook_30 J30) := by
  unfold zb_X3_openNewBook_30
  refine z_iload_n_ok (pc := 30) (i := 1) C.hx C.hb dX3_openNewBook_30 rfl ?_
  refine z_aload_n_ok (pc := 31) (i := 0) C.hx C.hb dX3_openNewBook_31 rfl ?_
  refine z_gf_ok (pc := 32) C zK3 (f := 10) (by decide) zw_337 rfl dX3_openNewBook_32 ?_
  refine z_alen_ok (pc := 35) C dX3_openNewBook_35 ?_
  refine z_icmp_ge_ok (pc := 36) (tgt := 52) C.hx C.hb dX3_openNewBook_36 (by decide) ?_ ?_
  · exact z_vret_ok (pc := 52) C dX3_openNewBook_52
  · refine z_aload_n_ok (pc := 39) (i := 0) C.hx C.hb dX3_openNewBook_39 rfl ?_
    refine z_gf_ok (pc := 40) C zK3 (f := 10) (by decide) zw_337 rfl dX3_openNewBook_40 ?_
    refine z_iload_n_ok (pc := 43) (i := 1) C.hx C.hb dX3_openNewBook_43 rfl ?_
    refine z_iconst_ok (pc := 44) (v := 0) C.hx C.hb dX3_openNewBook_44 (by decide) ?_
    refine z_iast_ok (pc := 45) C dX3_openNewBook_45 ?_
    refine z_iinc_ok (pc := 46) (i := 1) (v := 1) C.hx C.hb dX3_openNewBook_46 (by decide) (zlt hn (by decide)) ?_
    refine z_goto_ok (pc := 49) (tgt := 30) C.hx C.hb dX3_openNewBook_49 (by decide) ?_
    exact hJ30
def zb_X3_openNewBook_0 : ZP := (z_ald 0 (z_ald 0 (z_gf 3 3 (z_pfr 2 (z_ald 0 (z_push 0 (z_pfz 3 6 (z_ald 0 (z_push 0 (z_pf 3 7 (z_ald 0 (z_push 0 (z_pf 3 8 (z_ald 0 (z_push 0 (z_pf 3 9 (z_push 0 (z_ist 1 (z_loop (fun J30 => zb_X3_openNewBook_30 J30))))))))))))))))))))
set_option maxRecDepth 20000 in
theorem zk_X3_openNewBook_0 {X : ZX} (C : zCx X cX3_openNewBook RX3 none 0 0 1 6) (hn : X.nL = 2) : ZOK X 0 (zb_X3_openNewBook_0) := by
  unfold zb_X3_openNewBook_0
  refine z_aload_n_ok (pc := 0) (i := 0) C.hx C.hb dX3_openNewBook_0 rfl ?_
  refine z_aload_n_ok (pc := 1) (i := 0) C.hx C.hb dX3_openNewBook_1 rfl ?_
  refine z_gf_ok (pc := 2) C zK3 (f := 3) (by decide) zw_323 rfl dX3_openNewBook_2 ?_
  refine z_pfr_ok (pc := 5) C zK3 (f := 2) (by decide) (by decide) zw_321 rfl rfl (by decide +kernel) dX3_openNewBook_5 ?_
  refine z_aload_n_ok (pc := 8) (i := 0) C.hx C.hb dX3_openNewBook_8 rfl ?_
  refine z_iconst_ok (pc := 9) (v := 0) C.hx C.hb dX3_openNewBook_9 (by decide) ?_
  refine z_pfz_ok (pc := 10) C zK3 rfl rfl (f := 6) (by decide) zw_329 rfl rfl (by decide +kernel) dX3_openNewBook_10 ?_
  refine z_aload_n_ok (pc := 13) (i := 0) C.hx C.hb dX3_openNewBook_13 rfl ?_
  refine z_iconst_ok (pc := 14) (v := 0) C.hx C.hb dX3_openNewBook_14 (by decide) ?_
  refine z_pf_ok (pc := 15) C zK3 rfl rfl (f := 7) (by decide) zw_331 rfl rfl (by decide +kernel) dX3_openNewBook_15 ?_
  refine z_aload_n_ok (pc := 18) (i := 0) C.hx C.hb dX3_openNewBook_18 rfl ?_
  refine z_iconst_ok (pc := 19) (v := 0) C.hx C.hb dX3_openNewBook_19 (by decide) ?_
  refine z_pf_ok (pc := 20) C zK3 rfl rfl (f := 8) (by decide) zw_333 rfl rfl (by decide +kernel) dX3_openNewBook_20 ?_
  refine z_aload_n_ok (pc := 23) (i := 0) C.hx C.hb dX3_openNewBook_23 rfl ?_
  refine z_iconst_ok (pc := 24) (v := 0) C.hx C.hb dX3_openNewBook_24 (by decide) ?_
  refine z_pf_ok (pc := 25) C zK3 rfl rfl (f := 9) (by decide) zw_335 rfl rfl (by decide +kernel) dX3_openNewBook_25 ?_
  refine z_iconst_ok (pc := 28) (v := 0) C.hx C.hb dX3_openNewBook_28 (by decide) ?_
  refine z_istore_n_ok (pc := 29) (i := 1) C.hx C.hb dX3_openNewBook_29 rfl (zlt hn (by decide)) ?_
  exact z_loop_ok (fun J30 hJ30 => zk_X3_openNewBook_30 C hn hJ30)
def sp_X3_openNewBook : ZSp := fun as S K => as.length ≤ 2 ∧ zsp 2 zb_X3_openNewBook_0 as S K
theorem zm_X3_openNewBook (l : Launch) (hl : l.stackTraces = false) : zMet l yX3_openNewBook cX3_openNewBook 2 none { frames := 0, cells := 1, slots := 6, locals := 0 } 0 0 sp_X3_openNewBook := zMet_of hl (by decide +kernel) ⟨rfl, rfl⟩ (fun X C hn _ => zk_X3_openNewBook_0 C hn)
theorem dX4_boughtIn_0 : decode cX4_boughtIn 0 = .ok (.iconst 0, 1) := by decide +kernel
theorem dX4_boughtIn_1 : decode cX4_boughtIn 1 = .ok (.istore 4, 2) := by decide +kernel
theorem dX4_boughtIn_3 : decode cX4_boughtIn 3 = .ok (.iconst 0, 1) := by decide +kernel
theorem dX4_boughtIn_4 : decode cX4_boughtIn 4 = .ok (.istore 5, 2) := by decide +kernel
theorem dX4_boughtIn_6 : decode cX4_boughtIn 6 = .ok (.iload 5, 2) := by decide +kernel
theorem dX4_boughtIn_8 : decode cX4_boughtIn 8 = .ok (.aload_n 0, 1) := by decide +kernel
theorem dX4_boughtIn_9 : decode cX4_boughtIn 9 = .ok (.getfield 24, 3) := by decide +kernel
theorem dX4_boughtIn_12 : decode cX4_boughtIn 12 = .ok (.if_icmp .ge 54, 3) := by decide +kernel
theorem dX4_boughtIn_15 : decode cX4_boughtIn 15 = .ok (.aload_n 0, 1) := by decide +kernel
theorem dX4_boughtIn_16 : decode cX4_boughtIn 16 = .ok (.getfield 9, 3) := by decide +kernel
theorem dX4_boughtIn_19 : decode cX4_boughtIn 19 = .ok (.iload 5, 2) := by decide +kernel
theorem dX4_boughtIn_21 : decode cX4_boughtIn 21 = .ok (.iaload, 1) := by decide +kernel
theorem dX4_boughtIn_22 : decode cX4_boughtIn 22 = .ok (.iload_n 1, 1) := by decide +kernel
theorem dX4_boughtIn_23 : decode cX4_boughtIn 23 = .ok (.if_icmp .ne 37, 3) := by decide +kernel
theorem dX4_boughtIn_26 : decode cX4_boughtIn 26 = .ok (.aload_n 0, 1) := by decide +kernel
theorem dX4_boughtIn_27 : decode cX4_boughtIn 27 = .ok (.getfield 15, 3) := by decide +kernel
theorem dX4_boughtIn_30 : decode cX4_boughtIn 30 = .ok (.iload 5, 2) := by decide +kernel
theorem dX4_boughtIn_32 : decode cX4_boughtIn 32 = .ok (.iaload, 1) := by decide +kernel
theorem dX4_boughtIn_33 : decode cX4_boughtIn 33 = .ok (.iload_n 2, 1) := by decide +kernel
theorem dX4_boughtIn_34 : decode cX4_boughtIn 34 = .ok (.if_icmp .ne 26, 3) := by decide +kernel
theorem dX4_boughtIn_37 : decode cX4_boughtIn 37 = .ok (.aload_n 0, 1) := by decide +kernel
theorem dX4_boughtIn_38 : decode cX4_boughtIn 38 = .ok (.getfield 18, 3) := by decide +kernel
theorem dX4_boughtIn_41 : decode cX4_boughtIn 41 = .ok (.iload 5, 2) := by decide +kernel
theorem dX4_boughtIn_43 : decode cX4_boughtIn 43 = .ok (.iaload, 1) := by decide +kernel
theorem dX4_boughtIn_44 : decode cX4_boughtIn 44 = .ok (.iload_n 3, 1) := by decide +kernel
theorem dX4_boughtIn_45 : decode cX4_boughtIn 45 = .ok (.if_icmp .ne 15, 3) := by decide +kernel
theorem dX4_boughtIn_48 : decode cX4_boughtIn 48 = .ok (.iload 4, 2) := by decide +kernel
theorem dX4_boughtIn_50 : decode cX4_boughtIn 50 = .ok (.aload_n 0, 1) := by decide +kernel
theorem dX4_boughtIn_51 : decode cX4_boughtIn 51 = .ok (.getfield 21, 3) := by decide +kernel
theorem dX4_boughtIn_54 : decode cX4_boughtIn 54 = .ok (.iload 5, 2) := by decide +kernel
theorem dX4_boughtIn_56 : decode cX4_boughtIn 56 = .ok (.iaload, 1) := by decide +kernel
theorem dX4_boughtIn_57 : decode cX4_boughtIn 57 = .ok (.iadd, 1) := by decide +kernel
theorem dX4_boughtIn_58 : decode cX4_boughtIn 58 = .ok (.istore 4, 2) := by decide +kernel
theorem dX4_boughtIn_60 : decode cX4_boughtIn 60 = .ok (.iinc 5 1, 3) := by decide +kernel
theorem dX4_boughtIn_63 : decode cX4_boughtIn 63 = .ok (.goto (-57), 3) := by decide +kernel
theorem dX4_boughtIn_66 : decode cX4_boughtIn 66 = .ok (.iload 4, 2) := by decide +kernel
theorem dX4_boughtIn_68 : decode cX4_boughtIn 68 = .ok (.ireturn, 1) := by decide +kernel
def zb_X4_boughtIn_60 (J6 : ZP) : ZP := (z_inc 5 (1) J6)
set_option maxRecDepth 20000 in
theorem zk_X4_boughtIn_60 {X : ZX} (C : zCx X cX4_boughtIn RX4 (some .int) 0 0 1 6) (hn : X.nL = 6) {J6 : ZP} (hJ6 : ZOK X 6 J6) : ZOK X 60 (zb_X4_boughtIn_60 J6) := by
  unfold zb_X4_boughtIn_60
  refine z_iinc_ok (pc := 60) (i := 5) (v := 1) C.hx C.hb dX4_boughtIn_60 (by decide) (zlt hn (by decide)) ?_
  refine z_goto_ok (pc := 63) (tgt := 6) C.hx C.hb dX4_boughtIn_63 (by decide) ?_
  exact hJ6
def zb_X4_boughtIn_6 (J6 : ZP) : ZP := (z_ild 5 (z_ald 0 (z_gf 4 4 (z_cmp (fun x y => y ≤ x) (z_ild 4 (z_ret 1)) (z_ald 0 (z_gf 4 0 (z_ild 5 (z_iald (z_ild 1 (z_cmp (fun x y => x = y) (z_ald 0 (z_gf 4 1 (z_ild 5 (z_iald (z_ild 2 (z_cmp (fun x y => x = y) (z_ald 0 (z_gf 4 2 (z_ild 5 (z_iald (z_ild 3 (z_cmp (fun x y => x = y) (z_ild 4 (z_ald 0 (z_gf 4 3 (z_ild 5 (z_iald (z_bin (fun x y => x + y) (z_ist 4 (zb_X4_boughtIn_60 J6)))))))) (zb_X4_boughtIn_60 J6))))))) (zb_X4_boughtIn_60 J6))))))) (zb_X4_boughtIn_60 J6)))))))))))
set_option maxRecDepth 20000 in
theorem zk_X4_boughtIn_6 {X : ZX} (C : zCx X cX4_boughtIn RX4 (some .int) 0 0 1 6) (hn : X.nL = 6) {J6 : ZP} (hJ6 : ZOK X 6 J6) : ZOK X 6 (zb_X4_boughtIn_6 J6) := by
  unfold zb_X4_boughtIn_6
  refine z_iload_ok (pc := 6) (i := 5) C.hx C.hb dX4_boughtIn_6 ?_
  refine z_aload_n_ok (pc := 8) (i := 0) C.hx C.hb dX4_boughtIn_8 rfl ?_
  refine z_gf_ok (pc := 9) C zK4 (f := 4) (by decide) zw_69 rfl dX4_boughtIn_9 ?_
  refine z_icmp_ge_ok (pc := 12) (tgt := 66) C.hx C.hb dX4_boughtIn_12 (by decide) ?_ ?_
  · refine z_iload_ok (pc := 66) (i := 4) C.hx C.hb dX4_boughtIn_66 ?_
    exact z_iret_ok (pc := 68) C dX4_boughtIn_68
  · refine z_aload_n_ok (pc := 15) (i := 0) C.hx C.hb dX4_boughtIn_15 rfl ?_
    refine z_gf_ok (pc := 16) C zK4 (f := 0) (by decide) zw_65 rfl dX4_boughtIn_16 ?_
    refine z_iload_ok (pc := 19) (i := 5) C.hx C.hb dX4_boughtIn_19 ?_
    refine z_iald_ok (pc := 21) C dX4_boughtIn_21 ?_
    refine z_iload_n_ok (pc := 22) (i := 1) C.hx C.hb dX4_boughtIn_22 rfl ?_
    refine z_icmp_ne_ok (pc := 23) (tgt := 60) C.hx C.hb dX4_boughtIn_23 (by decide) ?_ ?_
    · exact zk_X4_boughtIn_60 C hn hJ6
    · refine z_aload_n_ok (pc := 26) (i := 0) C.hx C.hb dX4_boughtIn_26 rfl ?_
      refine z_gf_ok (pc := 27) C zK4 (f := 1) (by decide) zw_66 rfl dX4_boughtIn_27 ?_
      refine z_iload_ok (pc := 30) (i := 5) C.hx C.hb dX4_boughtIn_30 ?_
      refine z_iald_ok (pc := 32) C dX4_boughtIn_32 ?_
      refine z_iload_n_ok (pc := 33) (i := 2) C.hx C.hb dX4_boughtIn_33 rfl ?_
      refine z_icmp_ne_ok (pc := 34) (tgt := 60) C.hx C.hb dX4_boughtIn_34 (by decide) ?_ ?_
      · exact zk_X4_boughtIn_60 C hn hJ6
      · refine z_aload_n_ok (pc := 37) (i := 0) C.hx C.hb dX4_boughtIn_37 rfl ?_
        refine z_gf_ok (pc := 38) C zK4 (f := 2) (by decide) zw_67 rfl dX4_boughtIn_38 ?_
        refine z_iload_ok (pc := 41) (i := 5) C.hx C.hb dX4_boughtIn_41 ?_
        refine z_iald_ok (pc := 43) C dX4_boughtIn_43 ?_
        refine z_iload_n_ok (pc := 44) (i := 3) C.hx C.hb dX4_boughtIn_44 rfl ?_
        refine z_icmp_ne_ok (pc := 45) (tgt := 60) C.hx C.hb dX4_boughtIn_45 (by decide) ?_ ?_
        · exact zk_X4_boughtIn_60 C hn hJ6
        · refine z_iload_ok (pc := 48) (i := 4) C.hx C.hb dX4_boughtIn_48 ?_
          refine z_aload_n_ok (pc := 50) (i := 0) C.hx C.hb dX4_boughtIn_50 rfl ?_
          refine z_gf_ok (pc := 51) C zK4 (f := 3) (by decide) zw_68 rfl dX4_boughtIn_51 ?_
          refine z_iload_ok (pc := 54) (i := 5) C.hx C.hb dX4_boughtIn_54 ?_
          refine z_iald_ok (pc := 56) C dX4_boughtIn_56 ?_
          refine z_iadd_ok (pc := 57) C.hx C.hb dX4_boughtIn_57 ?_
          refine z_istore_ok (pc := 58) (i := 4) C.hx C.hb dX4_boughtIn_58 (zlt hn (by decide)) ?_
          exact zk_X4_boughtIn_60 C hn hJ6
def zb_X4_boughtIn_0 : ZP := (z_push 0 (z_ist 4 (z_push 0 (z_ist 5 (z_loop (fun J6 => zb_X4_boughtIn_6 J6))))))
set_option maxRecDepth 20000 in
theorem zk_X4_boughtIn_0 {X : ZX} (C : zCx X cX4_boughtIn RX4 (some .int) 0 0 1 6) (hn : X.nL = 6) : ZOK X 0 (zb_X4_boughtIn_0) := by
  unfold zb_X4_boughtIn_0
  refine z_iconst_ok (pc := 0) (v := 0) C.hx C.hb dX4_boughtIn_0 (by decide) ?_
  refine z_istore_ok (pc := 1) (i := 4) C.hx C.hb dX4_boughtIn_1 (zlt hn (by decide)) ?_
  refine z_iconst_ok (pc := 3) (v := 0) C.hx C.hb dX4_boughtIn_3 (by decide) ?_
  refine z_istore_ok (pc := 4) (i := 5) C.hx C.hb dX4_boughtIn_4 (zlt hn (by decide)) ?_
  exact z_loop_ok (fun J6 hJ6 => zk_X4_boughtIn_6 C hn hJ6)
def sp_X4_boughtIn : ZSp := fun as S K => as.length ≤ 6 ∧ zsp 6 zb_X4_boughtIn_0 as S K
theorem zm_X4_boughtIn (l : Launch) (hl : l.stackTraces = false) : zMet l yX4_boughtIn cX4_boughtIn 6 (some .int) { frames := 0, cells := 1, slots := 6, locals := 0 } 0 0 sp_X4_boughtIn := zMet_of hl (by decide +kernel) ⟨rfl, rfl⟩ (fun X C hn _ => zk_X4_boughtIn_0 C hn)
theorem dX4_note_0 : decode cX4_note 0 = .ok (.aload_n 0, 1) := by decide +kernel
theorem dX4_note_1 : decode cX4_note 1 = .ok (.getfield 24, 3) := by decide +kernel
theorem dX4_note_4 : decode cX4_note 4 = .ok (.sipush 512, 3) := by decide +kernel
theorem dX4_note_7 : decode cX4_note 7 = .ok (.if_icmp .lt 4, 3) := by decide +kernel
theorem dX4_note_10 : decode cX4_note 10 = .ok (.return_, 1) := by decide +kernel
theorem dX4_note_11 : decode cX4_note 11 = .ok (.aload_n 0, 1) := by decide +kernel
theorem dX4_note_12 : decode cX4_note 12 = .ok (.getfield 9, 3) := by decide +kernel
theorem dX4_note_15 : decode cX4_note 15 = .ok (.aload_n 0, 1) := by decide +kernel
theorem dX4_note_16 : decode cX4_note 16 = .ok (.getfield 24, 3) := by decide +kernel
theorem dX4_note_19 : decode cX4_note 19 = .ok (.iload_n 1, 1) := by decide +kernel
theorem dX4_note_20 : decode cX4_note 20 = .ok (.iastore, 1) := by decide +kernel
theorem dX4_note_21 : decode cX4_note 21 = .ok (.aload_n 0, 1) := by decide +kernel
theorem dX4_note_22 : decode cX4_note 22 = .ok (.getfield 15, 3) := by decide +kernel
theorem dX4_note_25 : decode cX4_note 25 = .ok (.aload_n 0, 1) := by decide +kernel
theorem dX4_note_26 : decode cX4_note 26 = .ok (.getfield 24, 3) := by decide +kernel
theorem dX4_note_29 : decode cX4_note 29 = .ok (.iload_n 2, 1) := by decide +kernel
theorem dX4_note_30 : decode cX4_note 30 = .ok (.iastore, 1) := by decide +kernel
theorem dX4_note_31 : decode cX4_note 31 = .ok (.aload_n 0, 1) := by decide +kernel
theorem dX4_note_32 : decode cX4_note 32 = .ok (.getfield 18, 3) := by decide +kernel
theorem dX4_note_35 : decode cX4_note 35 = .ok (.aload_n 0, 1) := by decide +kernel
theorem dX4_note_36 : decode cX4_note 36 = .ok (.getfield 24, 3) := by decide +kernel
theorem dX4_note_39 : decode cX4_note 39 = .ok (.iload_n 3, 1) := by decide +kernel
theorem dX4_note_40 : decode cX4_note 40 = .ok (.iastore, 1) := by decide +kernel
theorem dX4_note_41 : decode cX4_note 41 = .ok (.aload_n 0, 1) := by decide +kernel
theorem dX4_note_42 : decode cX4_note 42 = .ok (.getfield 21, 3) := by decide +kernel
theorem dX4_note_45 : decode cX4_note 45 = .ok (.aload_n 0, 1) := by decide +kernel
theorem dX4_note_46 : decode cX4_note 46 = .ok (.getfield 24, 3) := by decide +kernel
theorem dX4_note_49 : decode cX4_note 49 = .ok (.iload 4, 2) := by decide +kernel
theorem dX4_note_51 : decode cX4_note 51 = .ok (.iastore, 1) := by decide +kernel
theorem dX4_note_52 : decode cX4_note 52 = .ok (.aload_n 0, 1) := by decide +kernel
theorem dX4_note_53 : decode cX4_note 53 = .ok (.dup, 1) := by decide +kernel
theorem dX4_note_54 : decode cX4_note 54 = .ok (.getfield 24, 3) := by decide +kernel
theorem dX4_note_57 : decode cX4_note 57 = .ok (.iconst 1, 1) := by decide +kernel
theorem dX4_note_58 : decode cX4_note 58 = .ok (.iadd, 1) := by decide +kernel
theorem dX4_note_59 : decode cX4_note 59 = .ok (.putfield 24, 3) := by decide +kernel
theorem dX4_note_62 : decode cX4_note 62 = .ok (.return_, 1) := by decide +kernel
def zb_X4_note_0 : ZP := (z_ald 0 (z_gf 4 4 (z_push 512 (z_cmp (fun x y => x < y) (z_ald 0 (z_gf 4 0 (z_ald 0 (z_gf 4 4 (z_ild 1 (z_iast (z_ald 0 (z_gf 4 1 (z_ald 0 (z_gf 4 4 (z_ild 2 (z_iast (z_ald 0 (z_gf 4 2 (z_ald 0 (z_gf 4 4 (z_ild 3 (z_iast (z_ald 0 (z_gf 4 3 (z_ald 0 (z_gf 4 4 (z_ild 4 (z_iast (z_ald 0 (z_dup (z_gf 4 4 (z_push 1 (z_bin (fun x y => x + y) (z_pf 4 4 (z_ret 0))))))))))))))))))))))))))))))) (z_ret 0)))))
set_option maxRecDepth 20000 in
theorem zk_X4_note_0 {X : ZX} (C : zCx X cX4_note RX4 none 0 0 1 6) (hn : X.nL = 5) : ZOK X 0 (zb_X4_note_0) := by
  unfold zb_X4_note_0
  refine z_aload_n_ok (pc := 0) (i := 0) C.hx C.hb dX4_note_0 rfl ?_
  refine z_gf_ok (pc := 1) C zK4 (f := 4) (by decide) zw_69 rfl dX4_note_1 ?_
  refine z_sipush_ok (pc := 4) (v := 512) C.hx C.hb dX4_note_4 (by decide) ?_
  refine z_icmp_lt_ok (pc := 7) (tgt := 11) C.hx C.hb dX4_note_7 (by decide) ?_ ?_
  · refine z_aload_n_ok (pc := 11) (i := 0) C.hx C.hb dX4_note_11 rfl ?_
    refine z_gf_ok (pc := 12) C zK4 (f := 0) (by decide) zw_65 rfl dX4_note_12 ?_
    refine z_aload_n_ok (pc := 15) (i := 0) C.hx C.hb dX4_note_15 rfl ?_
    refine z_gf_ok (pc := 16) C zK4 (f := 4) (by decide) zw_69 rfl dX4_note_16 ?_
    refine z_iload_n_ok (pc := 19) (i := 1) C.hx C.hb dX4_note_19 rfl ?_
    refine z_iast_ok (pc := 20) C dX4_note_20 ?_
    refine z_aload_n_ok (pc := 21) (i := 0) C.hx C.hb dX4_note_21 rfl ?_
    refine z_gf_ok (pc := 22) C zK4 (f := 1) (by decide) zw_66 rfl dX4_note_22 ?_
    refine z_aload_n_ok (pc := 25) (i := 0) C.hx C.hb dX4_note_25 rfl ?_
    refine z_gf_ok (pc := 26) C zK4 (f := 4) (by decide) zw_69 rfl dX4_note_26 ?_
    refine z_iload_n_ok (pc := 29) (i := 2) C.hx C.hb dX4_note_29 rfl ?_
    refine z_iast_ok (pc := 30) C dX4_note_30 ?_
    refine z_aload_n_ok (pc := 31) (i := 0) C.hx C.hb dX4_note_31 rfl ?_
    refine z_gf_ok (pc := 32) C zK4 (f := 2) (by decide) zw_67 rfl dX4_note_32 ?_
    refine z_aload_n_ok (pc := 35) (i := 0) C.hx C.hb dX4_note_35 rfl ?_
    refine z_gf_ok (pc := 36) C zK4 (f := 4) (by decide) zw_69 rfl dX4_note_36 ?_
    refine z_iload_n_ok (pc := 39) (i := 3) C.hx C.hb dX4_note_39 rfl ?_
    refine z_iast_ok (pc := 40) C dX4_note_40 ?_
    refine z_aload_n_ok (pc := 41) (i := 0) C.hx C.hb dX4_note_41 rfl ?_
    refine z_gf_ok (pc := 42) C zK4 (f := 3) (by decide) zw_68 rfl dX4_note_42 ?_
    refine z_aload_n_ok (pc := 45) (i := 0) C.hx C.hb dX4_note_45 rfl ?_
    refine z_gf_ok (pc := 46) C zK4 (f := 4) (by decide) zw_69 rfl dX4_note_46 ?_
    refine z_iload_ok (pc := 49) (i := 4) C.hx C.hb dX4_note_49 ?_
    refine z_iast_ok (pc := 51) C dX4_note_51 ?_
    refine z_aload_n_ok (pc := 52) (i := 0) C.hx C.hb dX4_note_52 rfl ?_
    refine z_dup_ok (pc := 53) C.hx C.hb dX4_note_53 ?_
    refine z_gf_ok (pc := 54) C zK4 (f := 4) (by decide) zw_69 rfl dX4_note_54 ?_
    refine z_iconst_ok (pc := 57) (v := 1) C.hx C.hb dX4_note_57 (by decide) ?_
    refine z_iadd_ok (pc := 58) C.hx C.hb dX4_note_58 ?_
    refine z_pf_ok (pc := 59) C zK4 rfl rfl (f := 4) (by decide) zw_69 rfl rfl (by decide +kernel) dX4_note_59 ?_
    exact z_vret_ok (pc := 62) C dX4_note_62
  · exact z_vret_ok (pc := 10) C dX4_note_10
def sp_X4_note : ZSp := fun as S K => as.length ≤ 5 ∧ zsp 5 zb_X4_note_0 as S K
theorem zm_X4_note (l : Launch) (hl : l.stackTraces = false) : zMet l yX4_note cX4_note 5 none { frames := 0, cells := 1, slots := 6, locals := 0 } 0 0 sp_X4_note := zMet_of hl (by decide +kernel) ⟨rfl, rfl⟩ (fun X C hn _ => zk_X4_note_0 C hn)
