theorem dX7_person_0 : decode cX7_person 0 = .ok (.aload_n 0, 1) := by decide +kernel
theorem dX7_person_1 : decode cX7_person 1 = .ok (.iload_n 2, 1) := by decide +kernel
theorem dX7_person_2 : decode cX7_person 2 = .ok (.invokevirtual 119, 3) := by decide +kernel
theorem dX7_person_5 : decode cX7_person 5 = .ok (.astore_n 3, 1) := by decide +kernel
theorem dX7_person_6 : decode cX7_person 6 = .ok (.iload_n 1, 1) := by decide +kernel
theorem dX7_person_7 : decode cX7_person 7 = .ok (.iconst 0, 1) := by decide +kernel
theorem dX7_person_8 : decode cX7_person 8 = .ok (.iconst 3, 1) := by decide +kernel
theorem dX7_person_9 : decode cX7_person 9 = .ok (.invokestatic 92, 3) := by decide +kernel
theorem dX7_person_12 : decode cX7_person 12 = .ok (.aload_n 0, 1) := by decide +kernel
theorem dX7_person_13 : decode cX7_person 13 = .ok (.getfield 50, 3) := by decide +kernel
theorem dX7_person_16 : decode cX7_person 16 = .ok (.bipush 20, 2) := by decide +kernel
theorem dX7_person_18 : decode cX7_person 18 = .ok (.invokestatic 123, 3) := by decide +kernel
theorem dX7_person_21 : decode cX7_person 21 = .ok (.aload_n 0, 1) := by decide +kernel
theorem dX7_person_22 : decode cX7_person 22 = .ok (.getfield 17, 3) := by decide +kernel
theorem dX7_person_25 : decode cX7_person 25 = .ok (.aload_n 0, 1) := by decide +kernel
theorem dX7_person_26 : decode cX7_person 26 = .ok (.getfield 50, 3) := by decide +kernel
theorem dX7_person_29 : decode cX7_person 29 = .ok (.new 15, 3) := by decide +kernel
theorem dX7_person_32 : decode cX7_person 32 = .ok (.dup, 1) := by decide +kernel
theorem dX7_person_33 : decode cX7_person 33 = .ok (.aload_n 0, 1) := by decide +kernel
theorem dX7_person_34 : decode cX7_person 34 = .ok (.getfield 50, 3) := by decide +kernel
theorem dX7_person_37 : decode cX7_person 37 = .ok (.iload_n 1, 1) := by decide +kernel
theorem dX7_person_38 : decode cX7_person 38 = .ok (.aload_n 3, 1) := by decide +kernel
theorem dX7_person_39 : decode cX7_person 39 = .ok (.invokespecial 127, 3) := by decide +kernel
theorem dX7_person_42 : decode cX7_person 42 = .ok (.aastore, 1) := by decide +kernel
theorem dX7_person_43 : decode cX7_person 43 = .ok (.aload_n 0, 1) := by decide +kernel
theorem dX7_person_44 : decode cX7_person 44 = .ok (.dup, 1) := by decide +kernel
theorem dX7_person_45 : decode cX7_person 45 = .ok (.getfield 50, 3) := by decide +kernel
theorem dX7_person_48 : decode cX7_person 48 = .ok (.iconst 1, 1) := by decide +kernel
theorem dX7_person_49 : decode cX7_person 49 = .ok (.iadd, 1) := by decide +kernel
theorem dX7_person_50 : decode cX7_person 50 = .ok (.putfield 50, 3) := by decide +kernel
theorem dX7_person_53 : decode cX7_person 53 = .ok (.aload_n 0, 1) := by decide +kernel
theorem dX7_person_54 : decode cX7_person 54 = .ok (.getfield 50, 3) := by decide +kernel
theorem dX7_person_57 : decode cX7_person 57 = .ok (.iconst 1, 1) := by decide +kernel
theorem dX7_person_58 : decode cX7_person 58 = .ok (.isub, 1) := by decide +kernel
theorem dX7_person_59 : decode cX7_person 59 = .ok (.ireturn, 1) := by decide +kernel
def zb_X7_person_0 : ZP := (z_ald 0 (z_ild 2 (z_invV 7 1 sp_X7_knownShop (z_ast 3 (z_ild 1 (z_push 0 (z_push 3 (z_invS 3 sp_X7_requireRange (z_ald 0 (z_gf 7 7 (z_push 20 (z_invS 2 sp_X7_requireRoom (z_newP (z_ald 0 (z_gf 7 7 (z_push 1 (z_bin (fun x y => x - y) (z_ret 1))))))))))))))))))
set_option maxRecDepth 20000 in
theorem zk_X7_person_0 {X : ZX} (C : zCx X cX7_person RX7 (some .int) 7 112 3 23) (hn : X.nL = 4) (h0 : X.ce = 0 ∧ X.sl = 0 ∧ X.Q = zEndP X.b X.g X.ad X.S0 X.K X.a X.s 2 17) : ZOK X 0 (zb_X7_person_0) := by
  unfold zb_X7_person_0
  refine z_aload_n_ok (pc := 0) (i := 0) C.hx C.hb dX7_person_0 rfl ?_
  refine z_iload_n_ok (pc := 1) (i := 2) C.hx C.hb dX7_person_1 rfl ?_
  refine z_invV_ok (pc := 2) C (by decide +kernel) (zm_X7_knownShop X.l C.htr) ⟨rfl, rfl⟩ ⟨by decide, by decide⟩ (by decide) (by decide) zcl_X7_119 zw_290 zw_3 zK7 dX7_person_2 ?_
  refine z_astore_n_ok (pc := 5) (i := 3) C.hx C.hb dX7_person_5 rfl (zlt hn (by decide)) ?_
  refine z_iload_n_ok (pc := 6) (i := 1) C.hx C.hb dX7_person_6 rfl ?_
  refine z_iconst_ok (pc := 7) (v := 0) C.hx C.hb dX7_person_7 (by decide) ?_
  refine z_iconst_ok (pc := 8) (v := 3) C.hx C.hb dX7_person_8 (by decide) ?_
  refine z_invS_ok (pc := 9) C (by decide +kernel) (zm_X7_requireRange X.l C.htr) ⟨rfl, rfl⟩ ⟨by decide, by decide⟩ (by decide) (by decide) zcl_X7_92 zw_243 dX7_person_9 ?_
  refine z_aload_n_ok (pc := 12) (i := 0) C.hx C.hb dX7_person_12 rfl ?_
  refine z_gf_ok (pc := 13) C zK7 (f := 7) (by decide) zw_115 rfl dX7_person_13 ?_
  refine z_bipush_ok (pc := 16) (v := 20) C.hx C.hb dX7_person_16 (by decide) ?_
  refine z_invS_ok (pc := 18) C (by decide +kernel) (zm_X7_requireRoom X.l C.htr) ⟨rfl, rfl⟩ ⟨by decide, by decide⟩ (by decide) (by decide) zcl_X7_123 zw_294 dX7_person_18 ?_
  refine z_newP_ok C hn rfl ?_
  have C := C.c (cx' := 1) (sx' := 6) (zQ_of h0.2.2 (a := X.ce + 2) (b := X.sl + 17) (by have := h0.1; omega) (by have := h0.2.1; omega)) (by omega) (by omega)
  refine z_aload_n_ok (pc := 53) (i := 0) C.hx C.hb dX7_person_53 rfl ?_
  refine z_gf_ok (pc := 54) C zK7 (f := 7) (by decide) zw_115 rfl dX7_person_54 ?_
  refine z_iconst_ok (pc := 57) (v := 1) C.hx C.hb dX7_person_57 (by decide) ?_
  refine z_isub_ok (pc := 58) C.hx C.hb dX7_person_58 ?_
  exact z_iret_ok (pc := 59) C dX7_person_59
def sp_X7_person : ZSp := fun as S K => as.length ≤ 4 ∧ zsp 4 zb_X7_person_0 as S K
theorem zm_X7_person (l : Launch) (hl : l.stackTraces = false) : zMet l yX7_person cX7_person 4 (some .int) { frames := 7, cells := 3, slots := 23, locals := 112 } 2 17 sp_X7_person := zMet_of hl (by decide +kernel) ⟨rfl, rfl⟩ (fun X C hn h0 => zk_X7_person_0 C hn h0)
theorem dX7_depot_0 : decode cX7_depot 0 = .ok (.aconst_null, 1) := by decide +kernel
theorem dX7_depot_1 : decode cX7_depot 1 = .ok (.astore_n 2, 1) := by decide +kernel
theorem dX7_depot_2 : decode cX7_depot 2 = .ok (.aload_n 0, 1) := by decide +kernel
theorem dX7_depot_3 : decode cX7_depot 3 = .ok (.getfield 54, 3) := by decide +kernel
theorem dX7_depot_6 : decode cX7_depot 6 = .ok (.ifCond .gt 8, 3) := by decide +kernel
theorem dX7_depot_9 : decode cX7_depot 9 = .ok (.iload_n 1, 1) := by decide +kernel
theorem dX7_depot_10 : decode cX7_depot 10 = .ok (.iconst (-1), 1) := by decide +kernel
theorem dX7_depot_11 : decode cX7_depot 11 = .ok (.if_icmp .eq 9, 3) := by decide +kernel
theorem dX7_depot_14 : decode cX7_depot 14 = .ok (.aload_n 0, 1) := by decide +kernel
theorem dX7_depot_15 : decode cX7_depot 15 = .ok (.iload_n 1, 1) := by decide +kernel
theorem dX7_depot_16 : decode cX7_depot 16 = .ok (.invokevirtual 206, 3) := by decide +kernel
theorem dX7_depot_19 : decode cX7_depot 19 = .ok (.astore_n 2, 1) := by decide +kernel
theorem dX7_depot_20 : decode cX7_depot 20 = .ok (.aload_n 0, 1) := by decide +kernel
theorem dX7_depot_21 : decode cX7_depot 21 = .ok (.getfield 54, 3) := by decide +kernel
theorem dX7_depot_24 : decode cX7_depot 24 = .ok (.bipush 6, 2) := by decide +kernel
theorem dX7_depot_26 : decode cX7_depot 26 = .ok (.invokestatic 123, 3) := by decide +kernel
theorem dX7_depot_29 : decode cX7_depot 29 = .ok (.aload_n 0, 1) := by decide +kernel
theorem dX7_depot_30 : decode cX7_depot 30 = .ok (.getfield 23, 3) := by decide +kernel
theorem dX7_depot_33 : decode cX7_depot 33 = .ok (.aload_n 0, 1) := by decide +kernel
theorem dX7_depot_34 : decode cX7_depot 34 = .ok (.getfield 54, 3) := by decide +kernel
theorem dX7_depot_37 : decode cX7_depot 37 = .ok (.new 21, 3) := by decide +kernel
theorem dX7_depot_40 : decode cX7_depot 40 = .ok (.dup, 1) := by decide +kernel
theorem dX7_depot_41 : decode cX7_depot 41 = .ok (.aload_n 0, 1) := by decide +kernel
theorem dX7_depot_42 : decode cX7_depot 42 = .ok (.getfield 54, 3) := by decide +kernel
theorem dX7_depot_45 : decode cX7_depot 45 = .ok (.aload_n 2, 1) := by decide +kernel
theorem dX7_depot_46 : decode cX7_depot 46 = .ok (.invokespecial 210, 3) := by decide +kernel
theorem dX7_depot_49 : decode cX7_depot 49 = .ok (.aastore, 1) := by decide +kernel
theorem dX7_depot_50 : decode cX7_depot 50 = .ok (.aload_n 0, 1) := by decide +kernel
theorem dX7_depot_51 : decode cX7_depot 51 = .ok (.dup, 1) := by decide +kernel
theorem dX7_depot_52 : decode cX7_depot 52 = .ok (.getfield 54, 3) := by decide +kernel
theorem dX7_depot_55 : decode cX7_depot 55 = .ok (.iconst 1, 1) := by decide +kernel
theorem dX7_depot_56 : decode cX7_depot 56 = .ok (.iadd, 1) := by decide +kernel
theorem dX7_depot_57 : decode cX7_depot 57 = .ok (.putfield 54, 3) := by decide +kernel
theorem dX7_depot_60 : decode cX7_depot 60 = .ok (.aload_n 0, 1) := by decide +kernel
theorem dX7_depot_61 : decode cX7_depot 61 = .ok (.getfield 54, 3) := by decide +kernel
theorem dX7_depot_64 : decode cX7_depot 64 = .ok (.iconst 1, 1) := by decide +kernel
theorem dX7_depot_65 : decode cX7_depot 65 = .ok (.isub, 1) := by decide +kernel
theorem dX7_depot_66 : decode cX7_depot 66 = .ok (.ireturn, 1) := by decide +kernel
def zb_X7_depot_20 : ZP := (z_ald 0 (z_gf 7 8 (z_push 6 (z_invS 2 sp_X7_requireRoom (z_newD (z_ald 0 (z_gf 7 8 (z_push 1 (z_bin (fun x y => x - y) (z_ret 1))))))))))
set_option maxRecDepth 20000 in
theorem zk_X7_depot_20 {X : ZX} (C : zCx X cX7_depot RX7 (some .int) 7 111 3 15) (hn : X.nL = 3) (h0 : X.ce = 0 ∧ X.sl = 0 ∧ X.Q = zEndP X.b X.g X.ad X.S0 X.K X.a X.s 2 9) : ZOK X 20 (zb_X7_depot_20) := by
  unfold zb_X7_depot_20
  refine z_aload_n_ok (pc := 20) (i := 0) C.hx C.hb dX7_depot_20 rfl ?_
  refine z_gf_ok (pc := 21) C zK7 (f := 8) (by decide) zw_116 rfl dX7_depot_21 ?_
  refine z_bipush_ok (pc := 24) (v := 6) C.hx C.hb dX7_depot_24 (by decide) ?_
  refine z_invS_ok (pc := 26) C (by decide +kernel) (zm_X7_requireRoom X.l C.htr) ⟨rfl, rfl⟩ ⟨by decide, by decide⟩ (by decide) (by decide) zcl_X7_123 zw_294 dX7_depot_26 ?_
  refine z_newD_ok C hn rfl ?_
  have C := C.c (cx' := 1) (sx' := 6) (zQ_of h0.2.2 (a := X.ce + 2) (b := X.sl + 9) (by have := h0.1; omega) (by have := h0.2.1; omega)) (by omega) (by omega)
  refine z_aload_n_ok (pc := 60) (i := 0) C.hx C.hb dX7_depot_60 rfl ?_
  refine z_gf_ok (pc := 61) C zK7 (f := 8) (by decide) zw_116 rfl dX7_depot_61 ?_
  refine z_iconst_ok (pc := 64) (v := 1) C.hx C.hb dX7_depot_64 (by decide) ?_
  refine z_isub_ok (pc := 65) C.hx C.hb dX7_depot_65 ?_
  exact z_iret_ok (pc := 66) C dX7_depot_66
def zb_X7_depot_14 : ZP := (z_ald 0 (z_ild 1 (z_invV 7 1 sp_X7_knownDepot (z_ast 2 zb_X7_depot_20))))
set_option maxRecDepth 20000 in
theorem zk_X7_depot_14 {X : ZX} (C : zCx X cX7_depot RX7 (some .int) 7 111 3 15) (hn : X.nL = 3) (h0 : X.ce = 0 ∧ X.sl = 0 ∧ X.Q = zEndP X.b X.g X.ad X.S0 X.K X.a X.s 2 9) : ZOK X 14 (zb_X7_depot_14) := by
  unfold zb_X7_depot_14
  refine z_aload_n_ok (pc := 14) (i := 0) C.hx C.hb dX7_depot_14 rfl ?_
  refine z_iload_n_ok (pc := 15) (i := 1) C.hx C.hb dX7_depot_15 rfl ?_
  refine z_invV_ok (pc := 16) C (by decide +kernel) (zm_X7_knownDepot X.l C.htr) ⟨rfl, rfl⟩ ⟨by decide, by decide⟩ (by decide) (by decide) zcl_X7_206 zw_409 zw_7 zK7 dX7_depot_16 ?_
  refine z_astore_n_ok (pc := 19) (i := 2) C.hx C.hb dX7_depot_19 rfl (zlt hn (by decide)) ?_
  exact zk_X7_depot_20 C hn h0 
def zb_X7_depot_0 : ZP := (z_pnull (z_ast 2 (z_ald 0 (z_gf 7 8 (z_if (fun x => 0 < x) zb_X7_depot_14 (z_ild 1 (z_push (-1) (z_cmp (fun x y => x = y) zb_X7_depot_20 zb_X7_depot_14))))))))
set_option maxRecDepth 20000 in
theorem zk_X7_depot_0 {X : ZX} (C : zCx X cX7_depot RX7 (some .int) 7 111 3 15) (hn : X.nL = 3) (h0 : X.ce = 0 ∧ X.sl = 0 ∧ X.Q = zEndP X.b X.g X.ad X.S0 X.K X.a X.s 2 9) : ZOK X 0 (zb_X7_depot_0) := by
  unfold zb_X7_depot_0
  refine z_pnull_ok (pc := 0) C.hx C.hb dX7_depot_0 ?_
  refine z_astore_n_ok (pc := 1) (i := 2) C.hx C.hb dX7_depot_1 rfl (zlt hn (by decide)) ?_
  refine z_aload_n_ok (pc := 2) (i := 0) C.hx C.hb dX7_depot_2 rfl ?_
  refine z_gf_ok (pc := 3) C zK7 (f := 8) (by decide) zw_116 rfl dX7_depot_3 ?_
  refine z_if_gt_ok (pc := 6) (tgt := 14) C.hx C.hb dX7_depot_6 (by decide) ?_ ?_
  · exact zk_X7_depot_14 C hn h0 
  · refine z_iload_n_ok (pc := 9) (i := 1) C.hx C.hb dX7_depot_9 rfl ?_
    refine z_iconst_ok (pc := 10) (v := -1) C.hx C.hb dX7_depot_10 (by decide) ?_
    refine z_icmp_eq_ok (pc := 11) (tgt := 20) C.hx C.hb dX7_depot_11 (by decide) ?_ ?_
    · exact zk_X7_depot_20 C hn h0 
    · exact zk_X7_depot_14 C hn h0 
def sp_X7_depot : ZSp := fun as S K => as.length ≤ 3 ∧ zsp 3 zb_X7_depot_0 as S K
theorem zm_X7_depot (l : Launch) (hl : l.stackTraces = false) : zMet l yX7_depot cX7_depot 3 (some .int) { frames := 7, cells := 3, slots := 15, locals := 111 } 2 9 sp_X7_depot := zMet_of hl (by decide +kernel) ⟨rfl, rfl⟩ (fun X C hn h0 => zk_X7_depot_0 C hn h0)
theorem dX7_shop_0 : decode cX7_shop 0 = .ok (.aload_n 0, 1) := by decide +kernel
theorem dX7_shop_1 : decode cX7_shop 1 = .ok (.iload_n 1, 1) := by decide +kernel
theorem dX7_shop_2 : decode cX7_shop 2 = .ok (.invokevirtual 206, 3) := by decide +kernel
theorem dX7_shop_5 : decode cX7_shop 5 = .ok (.astore_n 2, 1) := by decide +kernel
theorem dX7_shop_6 : decode cX7_shop 6 = .ok (.aload_n 0, 1) := by decide +kernel
theorem dX7_shop_7 : decode cX7_shop 7 = .ok (.getfield 57, 3) := by decide +kernel
theorem dX7_shop_10 : decode cX7_shop 10 = .ok (.bipush 6, 2) := by decide +kernel
theorem dX7_shop_12 : decode cX7_shop 12 = .ok (.invokestatic 123, 3) := by decide +kernel
theorem dX7_shop_15 : decode cX7_shop 15 = .ok (.aload_n 0, 1) := by decide +kernel
theorem dX7_shop_16 : decode cX7_shop 16 = .ok (.getfield 29, 3) := by decide +kernel
theorem dX7_shop_19 : decode cX7_shop 19 = .ok (.aload_n 0, 1) := by decide +kernel
theorem dX7_shop_20 : decode cX7_shop 20 = .ok (.getfield 57, 3) := by decide +kernel
theorem dX7_shop_23 : decode cX7_shop 23 = .ok (.new 27, 3) := by decide +kernel
theorem dX7_shop_26 : decode cX7_shop 26 = .ok (.dup, 1) := by decide +kernel
theorem dX7_shop_27 : decode cX7_shop 27 = .ok (.aload_n 0, 1) := by decide +kernel
theorem dX7_shop_28 : decode cX7_shop 28 = .ok (.getfield 57, 3) := by decide +kernel
theorem dX7_shop_31 : decode cX7_shop 31 = .ok (.aload_n 2, 1) := by decide +kernel
theorem dX7_shop_32 : decode cX7_shop 32 = .ok (.invokespecial 213, 3) := by decide +kernel
theorem dX7_shop_35 : decode cX7_shop 35 = .ok (.aastore, 1) := by decide +kernel
theorem dX7_shop_36 : decode cX7_shop 36 = .ok (.aload_n 0, 1) := by decide +kernel
theorem dX7_shop_37 : decode cX7_shop 37 = .ok (.dup, 1) := by decide +kernel
theorem dX7_shop_38 : decode cX7_shop 38 = .ok (.getfield 57, 3) := by decide +kernel
theorem dX7_shop_41 : decode cX7_shop 41 = .ok (.iconst 1, 1) := by decide +kernel
theorem dX7_shop_42 : decode cX7_shop 42 = .ok (.iadd, 1) := by decide +kernel
theorem dX7_shop_43 : decode cX7_shop 43 = .ok (.putfield 57, 3) := by decide +kernel
theorem dX7_shop_46 : decode cX7_shop 46 = .ok (.aload_n 0, 1) := by decide +kernel
theorem dX7_shop_47 : decode cX7_shop 47 = .ok (.getfield 57, 3) := by decide +kernel
theorem dX7_shop_50 : decode cX7_shop 50 = .ok (.iconst 1, 1) := by decide +kernel
theorem dX7_shop_51 : decode cX7_shop 51 = .ok (.isub, 1) := by decide +kernel
theorem dX7_shop_52 : decode cX7_shop 52 = .ok (.ireturn, 1) := by decide +kernel
def zb_X7_shop_0 : ZP := (z_ald 0 (z_ild 1 (z_invV 7 1 sp_X7_knownDepot (z_ast 2 (z_ald 0 (z_gf 7 9 (z_push 6 (z_invS 2 sp_X7_requireRoom (z_newS (z_ald 0 (z_gf 7 9 (z_push 1 (z_bin (fun x y => x - y) (z_ret 1))))))))))))))
set_option maxRecDepth 20000 in
theorem zk_X7_shop_0 {X : ZX} (C : zCx X cX7_shop RX7 (some .int) 7 111 9 51) (hn : X.nL = 3) (h0 : X.ce = 0 ∧ X.sl = 0 ∧ X.Q = zEndP X.b X.g X.ad X.S0 X.K X.a X.s 8 45) : ZOK X 0 (zb_X7_shop_0) := by
  unfold zb_X7_shop_0
  refine z_aload_n_ok (pc := 0) (i := 0) C.hx C.hb dX7_shop_0 rfl ?_
  refine z_iload_n_ok (pc := 1) (i := 1) C.hx C.hb dX7_shop_1 rfl ?_
  refine z_invV_ok (pc := 2) C (by decide +kernel) (zm_X7_knownDepot X.l C.htr) ⟨rfl, rfl⟩ ⟨by decide, by decide⟩ (by decide) (by decide) zcl_X7_206 zw_409 zw_7 zK7 dX7_shop_2 ?_
  refine z_astore_n_ok (pc := 5) (i := 2) C.hx C.hb dX7_shop_5 rfl (zlt hn (by decide)) ?_
  refine z_aload_n_ok (pc := 6) (i := 0) C.hx C.hb dX7_shop_6 rfl ?_
  refine z_gf_ok (pc := 7) C zK7 (f := 9) (by decide) zw_117 rfl dX7_shop_7 ?_
  refine z_bipush_ok (pc := 10) (v := 6) C.hx C.hb dX7_shop_10 (by decide) ?_
  refine z_invS_ok (pc := 12) C (by decide +kernel) (zm_X7_requireRoom X.l C.htr) ⟨rfl, rfl⟩ ⟨by decide, by decide⟩ (by decide) (by decide) zcl_X7_123 zw_294 dX7_shop_12 ?_
  refine z_newS_ok C hn rfl ?_
  have C := C.c (cx' := 1) (sx' := 6) (zQ_of h0.2.2 (a := X.ce + 8) (b := X.sl + 45) (by have := h0.1; omega) (by have := h0.2.1; omega)) (by omega) (by omega)
  refine z_aload_n_ok (pc := 46) (i := 0) C.hx C.hb dX7_shop_46 rfl ?_
  refine z_gf_ok (pc := 47) C zK7 (f := 9) (by decide) zw_117 rfl dX7_shop_47 ?_
  refine z_iconst_ok (pc := 50) (v := 1) C.hx C.hb dX7_shop_50 (by decide) ?_
  refine z_isub_ok (pc := 51) C.hx C.hb dX7_shop_51 ?_
  exact z_iret_ok (pc := 52) C dX7_shop_52
def sp_X7_shop : ZSp := fun as S K => as.length ≤ 3 ∧ zsp 3 zb_X7_shop_0 as S K
theorem zm_X7_shop (l : Launch) (hl : l.stackTraces = false) : zMet l yX7_shop cX7_shop 3 (some .int) { frames := 7, cells := 9, slots := 51, locals := 111 } 8 45 sp_X7_shop := zMet_of hl (by decide +kernel) ⟨rfl, rfl⟩ (fun X C hn h0 => zk_X7_shop_0 C hn h0)
theorem dX7_farm_0 : decode cX7_farm 0 = .ok (.aload_n 0, 1) := by decide +kernel
theorem dX7_farm_1 : decode cX7_farm 1 = .ok (.iload_n 1, 1) := by decide +kernel
theorem dX7_farm_2 : decode cX7_farm 2 = .ok (.invokevirtual 206, 3) := by decide +kernel
theorem dX7_farm_5 : decode cX7_farm 5 = .ok (.astore 4, 2) := by decide +kernel
theorem dX7_farm_7 : decode cX7_farm 7 = .ok (.aload_n 0, 1) := by decide +kernel
theorem dX7_farm_8 : decode cX7_farm 8 = .ok (.iload_n 2, 1) := by decide +kernel
theorem dX7_farm_9 : decode cX7_farm 9 = .ok (.invokevirtual 88, 3) := by decide +kernel
theorem dX7_farm_12 : decode cX7_farm 12 = .ok (.pop, 1) := by decide +kernel
theorem dX7_farm_13 : decode cX7_farm 13 = .ok (.iload_n 3, 1) := by decide +kernel
theorem dX7_farm_14 : decode cX7_farm 14 = .ok (.iconst 1, 1) := by decide +kernel
theorem dX7_farm_15 : decode cX7_farm 15 = .ok (.ldc 214, 2) := by decide +kernel
theorem dX7_farm_17 : decode cX7_farm 17 = .ok (.invokestatic 92, 3) := by decide +kernel
theorem dX7_farm_20 : decode cX7_farm 20 = .ok (.aload_n 0, 1) := by decide +kernel
theorem dX7_farm_21 : decode cX7_farm 21 = .ok (.getfield 60, 3) := by decide +kernel
theorem dX7_farm_24 : decode cX7_farm 24 = .ok (.bipush 6, 2) := by decide +kernel
theorem dX7_farm_26 : decode cX7_farm 26 = .ok (.invokestatic 123, 3) := by decide +kernel
theorem dX7_farm_29 : decode cX7_farm 29 = .ok (.aload_n 0, 1) := by decide +kernel
theorem dX7_farm_30 : decode cX7_farm 30 = .ok (.getfield 35, 3) := by decide +kernel
theorem dX7_farm_33 : decode cX7_farm 33 = .ok (.aload_n 0, 1) := by decide +kernel
theorem dX7_farm_34 : decode cX7_farm 34 = .ok (.getfield 60, 3) := by decide +kernel
theorem dX7_farm_37 : decode cX7_farm 37 = .ok (.new 33, 3) := by decide +kernel
theorem dX7_farm_40 : decode cX7_farm 40 = .ok (.dup, 1) := by decide +kernel
theorem dX7_farm_41 : decode cX7_farm 41 = .ok (.aload 4, 2) := by decide +kernel
theorem dX7_farm_43 : decode cX7_farm 43 = .ok (.iload_n 2, 1) := by decide +kernel
theorem dX7_farm_44 : decode cX7_farm 44 = .ok (.iload_n 3, 1) := by decide +kernel
theorem dX7_farm_45 : decode cX7_farm 45 = .ok (.invokespecial 285, 3) := by decide +kernel
theorem dX7_farm_48 : decode cX7_farm 48 = .ok (.aastore, 1) := by decide +kernel
theorem dX7_farm_49 : decode cX7_farm 49 = .ok (.aload_n 0, 1) := by decide +kernel
theorem dX7_farm_50 : decode cX7_farm 50 = .ok (.dup, 1) := by decide +kernel
theorem dX7_farm_51 : decode cX7_farm 51 = .ok (.getfield 60, 3) := by decide +kernel
theorem dX7_farm_54 : decode cX7_farm 54 = .ok (.iconst 1, 1) := by decide +kernel
theorem dX7_farm_55 : decode cX7_farm 55 = .ok (.iadd, 1) := by decide +kernel
theorem dX7_farm_56 : decode cX7_farm 56 = .ok (.putfield 60, 3) := by decide +kernel
theorem dX7_farm_59 : decode cX7_farm 59 = .ok (.aload_n 0, 1) := by decide +kernel
theorem dX7_farm_60 : decode cX7_farm 60 = .ok (.getfield 60, 3) := by decide +kernel
theorem dX7_farm_63 : decode cX7_farm 63 = .ok (.iconst 1, 1) := by decide +kernel
theorem dX7_farm_64 : decode cX7_farm 64 = .ok (.isub, 1) := by decide +kernel
theorem dX7_farm_65 : decode cX7_farm 65 = .ok (.ireturn, 1) := by decide +kernel
def zb_X7_farm_0 : ZP := (z_ald 0 (z_ild 1 (z_invV 7 1 sp_X7_knownDepot (z_ast 4 (z_ald 0 (z_ild 2 (z_invV 7 1 sp_X7_knownGood (z_pop (z_ild 3 (z_push 1 (z_push 99999 (z_invS 3 sp_X7_requireRange (z_ald 0 (z_gf 7 10 (z_push 6 (z_invS 2 sp_X7_requireRoom (z_newF (z_ald 0 (z_gf 7 10 (z_push 1 (z_bin (fun x y => x - y) (z_ret 1))))))))))))))))))))))
set_option maxRecDepth 20000 in
theorem zk_X7_farm_0 {X : ZX} (C : zCx X cX7_farm RX7 (some .int) 7 112 2 11) (hn : X.nL = 5) (h0 : X.ce = 0 ∧ X.sl = 0 ∧ X.Q = zEndP X.b X.g X.ad X.S0 X.K X.a X.s 1 5) : ZOK X 0 (zb_X7_farm_0) := by
  unfold zb_X7_farm_0
  refine z_aload_n_ok (pc := 0) (i := 0) C.hx C.hb dX7_farm_0 rfl ?_
  refine z_iload_n_ok (pc := 1) (i := 1) C.hx C.hb dX7_farm_1 rfl ?_
  refine z_invV_ok (pc := 2) C (by decide +kernel) (zm_X7_knownDepot X.l C.htr) ⟨rfl, rfl⟩ ⟨by decide, by decide⟩ (by decide) (by decide) zcl_X7_206 zw_409 zw_7 zK7 dX7_farm_2 ?_
  refine z_astore_ok (pc := 5) (i := 4) C.hx C.hb dX7_farm_5 (zlt hn (by decide)) ?_
  refine z_aload_n_ok (pc := 7) (i := 0) C.hx C.hb dX7_farm_7 rfl ?_
  refine z_iload_n_ok (pc := 8) (i := 2) C.hx C.hb dX7_farm_8 rfl ?_
  refine z_invV_ok (pc := 9) C (by decide +kernel) (zm_X7_knownGood X.l C.htr) ⟨rfl, rfl⟩ ⟨by decide, by decide⟩ (by decide) (by decide) zcl_X7_88 zw_172 zw_0 zK7 dX7_farm_9 ?_
  refine z_pop_ok (pc := 12) C.hx C.hb dX7_farm_12 ?_
  refine z_iload_n_ok (pc := 13) (i := 3) C.hx C.hb dX7_farm_13 rfl ?_
  refine z_iconst_ok (pc := 14) (v := 1) C.hx C.hb dX7_farm_14 (by decide) ?_
  refine z_ldc_ok (pc := 15) C zw_488 dX7_farm_15 ?_
  refine z_invS_ok (pc := 17) C (by decide +kernel) (zm_X7_requireRange X.l C.htr) ⟨rfl, rfl⟩ ⟨by decide, by decide⟩ (by decide) (by decide) zcl_X7_92 zw_243 dX7_farm_17 ?_
  refine z_aload_n_ok (pc := 20) (i := 0) C.hx C.hb dX7_farm_20 rfl ?_
  refine z_gf_ok (pc := 21) C zK7 (f := 10) (by decide) zw_118 rfl dX7_farm_21 ?_
  refine z_bipush_ok (pc := 24) (v := 6) C.hx C.hb dX7_farm_24 (by decide) ?_
  refine z_invS_ok (pc := 26) C (by decide +kernel) (zm_X7_requireRoom X.l C.htr) ⟨rfl, rfl⟩ ⟨by decide, by decide⟩ (by decide) (by decide) zcl_X7_123 zw_294 dX7_farm_26 ?_
  refine z_newF_ok C hn rfl ?_
  have C := C.c (cx' := 1) (sx' := 6) (zQ_of h0.2.2 (a := X.ce + 1) (b := X.sl + 5) (by have := h0.1; omega) (by have := h0.2.1; omega)) (by omega) (by omega)
  refine z_aload_n_ok (pc := 59) (i := 0) C.hx C.hb dX7_farm_59 rfl ?_
  refine z_gf_ok (pc := 60) C zK7 (f := 10) (by decide) zw_118 rfl dX7_farm_60 ?_
  refine z_iconst_ok (pc := 63) (v := 1) C.hx C.hb dX7_farm_63 (by decide) ?_
  refine z_isub_ok (pc := 64) C.hx C.hb dX7_farm_64 ?_
  exact z_iret_ok (pc := 65) C dX7_farm_65
def sp_X7_farm : ZSp := fun as S K => as.length ≤ 5 ∧ zsp 5 zb_X7_farm_0 as S K
theorem zm_X7_farm (l : Launch) (hl : l.stackTraces = false) : zMet l yX7_farm cX7_farm 5 (some .int) { frames := 7, cells := 2, slots := 11, locals := 112 } 1 5 sp_X7_farm := zMet_of hl (by decide +kernel) ⟨rfl, rfl⟩ (fun X C hn h0 => zk_X7_farm_0 C hn h0)
