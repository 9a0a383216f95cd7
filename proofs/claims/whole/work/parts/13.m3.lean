theorem dX8_person_0 : decode cX8_person 0 = .ok (.aload_n 0, 1) := by decide +kernel
theorem dX8_person_1 : decode cX8_person 1 = .ok (.aload_n 0, 1) := by decide +kernel
theorem dX8_person_2 : decode cX8_person 2 = .ok (.iload_n 2, 1) := by decide +kernel
theorem dX8_person_3 : decode cX8_person 3 = .ok (.invokevirtual 145, 3) := by decide +kernel
theorem dX8_person_6 : decode cX8_person 6 = .ok (.iconst 1, 1) := by decide +kernel
theorem dX8_person_7 : decode cX8_person 7 = .ok (.invokevirtual 137, 3) := by decide +kernel
theorem dX8_person_10 : decode cX8_person 10 = .ok (.ifCond .eq 5, 3) := by decide +kernel
theorem dX8_person_13 : decode cX8_person 13 = .ok (.iconst 0, 1) := by decide +kernel
theorem dX8_person_14 : decode cX8_person 14 = .ok (.ireturn, 1) := by decide +kernel
theorem dX8_person_15 : decode cX8_person 15 = .ok (.aload_n 0, 1) := by decide +kernel
theorem dX8_person_16 : decode cX8_person 16 = .ok (.iload_n 1, 1) := by decide +kernel
theorem dX8_person_17 : decode cX8_person 17 = .ok (.iconst 0, 1) := by decide +kernel
theorem dX8_person_18 : decode cX8_person 18 = .ok (.iconst 3, 1) := by decide +kernel
theorem dX8_person_19 : decode cX8_person 19 = .ok (.invokestatic 120, 3) := by decide +kernel
theorem dX8_person_22 : decode cX8_person 22 = .ok (.iconst 2, 1) := by decide +kernel
theorem dX8_person_23 : decode cX8_person 23 = .ok (.invokevirtual 137, 3) := by decide +kernel
theorem dX8_person_26 : decode cX8_person 26 = .ok (.ifCond .eq 5, 3) := by decide +kernel
theorem dX8_person_29 : decode cX8_person 29 = .ok (.iconst 0, 1) := by decide +kernel
theorem dX8_person_30 : decode cX8_person 30 = .ok (.ireturn, 1) := by decide +kernel
theorem dX8_person_31 : decode cX8_person 31 = .ok (.aload_n 0, 1) := by decide +kernel
theorem dX8_person_32 : decode cX8_person 32 = .ok (.aload_n 0, 1) := by decide +kernel
theorem dX8_person_33 : decode cX8_person 33 = .ok (.getfield 124, 3) := by decide +kernel
theorem dX8_person_36 : decode cX8_person 36 = .ok (.bipush 20, 2) := by decide +kernel
theorem dX8_person_38 : decode cX8_person 38 = .ok (.if_icmp .ge 7, 3) := by decide +kernel
theorem dX8_person_41 : decode cX8_person 41 = .ok (.iconst 1, 1) := by decide +kernel
theorem dX8_person_42 : decode cX8_person 42 = .ok (.goto 4, 3) := by decide +kernel
theorem dX8_person_45 : decode cX8_person 45 = .ok (.iconst 0, 1) := by decide +kernel
theorem dX8_person_46 : decode cX8_person 46 = .ok (.iconst 3, 1) := by decide +kernel
theorem dX8_person_47 : decode cX8_person 47 = .ok (.invokevirtual 137, 3) := by decide +kernel
theorem dX8_person_50 : decode cX8_person 50 = .ok (.ifCond .eq 5, 3) := by decide +kernel
theorem dX8_person_53 : decode cX8_person 53 = .ok (.iconst 0, 1) := by decide +kernel
theorem dX8_person_54 : decode cX8_person 54 = .ok (.ireturn, 1) := by decide +kernel
theorem dX8_person_55 : decode cX8_person 55 = .ok (.aload_n 0, 1) := by decide +kernel
theorem dX8_person_56 : decode cX8_person 56 = .ok (.getfield 35, 3) := by decide +kernel
theorem dX8_person_59 : decode cX8_person 59 = .ok (.aload_n 0, 1) := by decide +kernel
theorem dX8_person_60 : decode cX8_person 60 = .ok (.getfield 124, 3) := by decide +kernel
theorem dX8_person_63 : decode cX8_person 63 = .ok (.iload_n 1, 1) := by decide +kernel
theorem dX8_person_64 : decode cX8_person 64 = .ok (.iastore, 1) := by decide +kernel
theorem dX8_person_65 : decode cX8_person 65 = .ok (.aload_n 0, 1) := by decide +kernel
theorem dX8_person_66 : decode cX8_person 66 = .ok (.getfield 38, 3) := by decide +kernel
theorem dX8_person_69 : decode cX8_person 69 = .ok (.aload_n 0, 1) := by decide +kernel
theorem dX8_person_70 : decode cX8_person 70 = .ok (.getfield 124, 3) := by decide +kernel
theorem dX8_person_73 : decode cX8_person 73 = .ok (.iload_n 2, 1) := by decide +kernel
theorem dX8_person_74 : decode cX8_person 74 = .ok (.iastore, 1) := by decide +kernel
theorem dX8_person_75 : decode cX8_person 75 = .ok (.aload_n 0, 1) := by decide +kernel
theorem dX8_person_76 : decode cX8_person 76 = .ok (.getfield 41, 3) := by decide +kernel
theorem dX8_person_79 : decode cX8_person 79 = .ok (.aload_n 0, 1) := by decide +kernel
theorem dX8_person_80 : decode cX8_person 80 = .ok (.getfield 124, 3) := by decide +kernel
theorem dX8_person_83 : decode cX8_person 83 = .ok (.iload_n 2, 1) := by decide +kernel
theorem dX8_person_84 : decode cX8_person 84 = .ok (.iastore, 1) := by decide +kernel
theorem dX8_person_85 : decode cX8_person 85 = .ok (.aload_n 0, 1) := by decide +kernel
theorem dX8_person_86 : decode cX8_person 86 = .ok (.getfield 44, 3) := by decide +kernel
theorem dX8_person_89 : decode cX8_person 89 = .ok (.aload_n 0, 1) := by decide +kernel
theorem dX8_person_90 : decode cX8_person 90 = .ok (.getfield 124, 3) := by decide +kernel
theorem dX8_person_93 : decode cX8_person 93 = .ok (.bipush 100, 2) := by decide +kernel
theorem dX8_person_95 : decode cX8_person 95 = .ok (.iastore, 1) := by decide +kernel
theorem dX8_person_96 : decode cX8_person 96 = .ok (.aload_n 0, 1) := by decide +kernel
theorem dX8_person_97 : decode cX8_person 97 = .ok (.getfield 47, 3) := by decide +kernel
theorem dX8_person_100 : decode cX8_person 100 = .ok (.aload_n 0, 1) := by decide +kernel
theorem dX8_person_101 : decode cX8_person 101 = .ok (.getfield 124, 3) := by decide +kernel
theorem dX8_person_104 : decode cX8_person 104 = .ok (.iconst (-1), 1) := by decide +kernel
theorem dX8_person_105 : decode cX8_person 105 = .ok (.iastore, 1) := by decide +kernel
theorem dX8_person_106 : decode cX8_person 106 = .ok (.aload_n 0, 1) := by decide +kernel
theorem dX8_person_107 : decode cX8_person 107 = .ok (.dup, 1) := by decide +kernel
theorem dX8_person_108 : decode cX8_person 108 = .ok (.getfield 124, 3) := by decide +kernel
theorem dX8_person_111 : decode cX8_person 111 = .ok (.iconst 1, 1) := by decide +kernel
theorem dX8_person_112 : decode cX8_person 112 = .ok (.iadd, 1) := by decide +kernel
theorem dX8_person_113 : decode cX8_person 113 = .ok (.putfield 124, 3) := by decide +kernel
theorem dX8_person_116 : decode cX8_person 116 = .ok (.aload_n 0, 1) := by decide +kernel
theorem dX8_person_117 : decode cX8_person 117 = .ok (.getfield 124, 3) := by decide +kernel
theorem dX8_person_120 : decode cX8_person 120 = .ok (.iconst 1, 1) := by decide +kernel
theorem dX8_person_121 : decode cX8_person 121 = .ok (.isub, 1) := by decide +kernel
theorem dX8_person_122 : decode cX8_person 122 = .ok (.ireturn, 1) := by decide +kernel
def zb_X8_person_46 : ZP := (z_push 3 (z_invV 8 2 sp_X8_fails (z_if (fun x => x = 0) (z_ald 0 (z_gf 8 11 (z_ald 0 (z_gf 8 10 (z_ild 1 (z_iast (z_ald 0 (z_gf 8 12 (z_ald 0 (z_gf 8 10 (z_ild 2 (z_iast (z_ald 0 (z_gf 8 13 (z_ald 0 (z_gf 8 10 (z_ild 2 (z_iast (z_ald 0 (z_gf 8 14 (z_ald 0 (z_gf 8 10 (z_push 100 (z_iast (z_ald 0 (z_gf 8 15 (z_ald 0 (z_gf 8 10 (z_push (-1) (z_iast (z_ald 0 (z_dup (z_gf 8 10 (z_push 1 (z_bin (fun x y => x + y) (z_pf 8 10 (z_ald 0 (z_gf 8 10 (z_push 1 (z_bin (fun x y => x - y) (z_ret 1))))))))))))))))))))))))))))))))))))))))) (z_push 0 (z_ret 1)))))
set_option maxRecDepth 20000 in
theorem zk_X8_person_46 {X : ZX} (C : zCx X cX8_person RX8 (some .int) 2 43 1 6) (hn : X.nL = 3) : ZOK X 46 (zb_X8_person_46) := by
  unfold zb_X8_person_46
  refine z_iconst_ok (pc := 46) (v := 3) C.hx C.hb dX8_person_46 (by decide) ?_
  refine z_invV_ok (pc := 47) C (by decide +kernel) (zm_X8_fails X.l C.htr) ⟨rfl, rfl⟩ ⟨by decide, by decide⟩ (by decide) (by decide) zcl_X8_137 zw_1016 zw_25 zK8 dX8_person_47 ?_
  refine z_if_eq_ok (pc := 50) (tgt := 55) C.hx C.hb dX8_person_50 (by decide) ?_ ?_
  · refine z_aload_n_ok (pc := 55) (i := 0) C.hx C.hb dX8_person_55 rfl ?_
    refine z_gf_ok (pc := 56) C zK8 (f := 11) (by decide) zw_868 rfl dX8_person_56 ?_
    refine z_aload_n_ok (pc := 59) (i := 0) C.hx C.hb dX8_person_59 rfl ?_
    refine z_gf_ok (pc := 60) C zK8 (f := 10) (by decide) zw_867 rfl dX8_person_60 ?_
    refine z_iload_n_ok (pc := 63) (i := 1) C.hx C.hb dX8_person_63 rfl ?_
    refine z_iast_ok (pc := 64) C dX8_person_64 ?_
    refine z_aload_n_ok (pc := 65) (i := 0) C.hx C.hb dX8_person_65 rfl ?_
    refine z_gf_ok (pc := 66) C zK8 (f := 12) (by decide) zw_869 rfl dX8_person_66 ?_
    refine z_aload_n_ok (pc := 69) (i := 0) C.hx C.hb dX8_person_69 rfl ?_
    refine z_gf_ok (pc := 70) C zK8 (f := 10) (by decide) zw_867 rfl dX8_person_70 ?_
    refine z_iload_n_ok (pc := 73) (i := 2) C.hx C.hb dX8_person_73 rfl ?_
    refine z_iast_ok (pc := 74) C dX8_person_74 ?_
    refine z_aload_n_ok (pc := 75) (i := 0) C.hx C.hb dX8_person_75 rfl ?_
    refine z_gf_ok (pc := 76) C zK8 (f := 13) (by decide) zw_870 rfl dX8_person_76 ?_
    refine z_aload_n_ok (pc := 79) (i := 0) C.hx C.hb dX8_person_79 rfl ?_
    refine z_gf_ok (pc := 80) C zK8 (f := 10) (by decide) zw_867 rfl dX8_person_80 ?_
    refine z_iload_n_ok (pc := 83) (i := 2) C.hx C.hb dX8_person_83 rfl ?_
    refine z_iast_ok (pc := 84) C dX8_person_84 ?_
    refine z_aload_n_ok (pc := 85) (i := 0) C.hx C.hb dX8_person_85 rfl ?_
    refine z_gf_ok (pc := 86) C zK8 (f := 14) (by decide) zw_871 rfl dX8_person_86 ?_
    refine z_aload_n_ok (pc := 89) (i := 0) C.hx C.hb dX8_person_89 rfl ?_
    refine z_gf_ok (pc := 90) C zK8 (f := 10) (by decide) zw_867 rfl dX8_person_90 ?_
    refine z_bipush_ok (pc := 93) (v := 100) C.hx C.hb dX8_person_93 (by decide) ?_
    refine z_iast_ok (pc := 95) C dX8_person_95 ?_
    refine z_aload_n_ok (pc := 96) (i := 0) C.hx C.hb dX8_person_96 rfl ?_
    refine z_gf_ok (pc := 97) C zK8 (f := 15) (by decide) zw_872 rfl dX8_person_97 ?_
    refine z_aload_n_ok (pc := 100) (i := 0) C.hx C.hb dX8_person_100 rfl ?_
    refine z_gf_ok (pc := 101) C zK8 (f := 10) (by decide) zw_867 rfl dX8_person_101 ?_
    refine z_iconst_ok (pc := 104) (v := -1) C.hx C.hb dX8_person_104 (by decide) ?_
    refine z_iast_ok (pc := 105) C dX8_person_105 ?_
    refine z_aload_n_ok (pc := 106) (i := 0) C.hx C.hb dX8_person_106 rfl ?_
    refine z_dup_ok (pc := 107) C.hx C.hb dX8_person_107 ?_
    refine z_gf_ok (pc := 108) C zK8 (f := 10) (by decide) zw_867 rfl dX8_person_108 ?_
    refine z_iconst_ok (pc := 111) (v := 1) C.hx C.hb dX8_person_111 (by decide) ?_
    refine z_iadd_ok (pc := 112) C.hx C.hb dX8_person_112 ?_
    refine z_pf_ok (pc := 113) C zK8 rfl rfl (f := 10) (by decide) zw_867 rfl rfl (by decide +kernel) dX8_person_113 ?_
    refine z_aload_n_ok (pc := 116) (i := 0) C.hx C.hb dX8_person_116 rfl ?_
    refine z_gf_ok (pc := 117) C zK8 (f := 10) (by decide) zw_867 rfl dX8_person_117 ?_
    refine z_iconst_ok (pc := 120) (v := 1) C.hx C.hb dX8_person_120 (by decide) ?_
    refine z_isub_ok (pc := 121) C.hx C.hb dX8_person_121 ?_
    exact z_iret_ok (pc := 122) C dX8_person_122
  · refine z_iconst_ok (pc := 53) (v := 0) C.hx C.hb dX8_person_53 (by decide) ?_
    exact z_iret_ok (pc := 54) C dX8_person_54
def zb_X8_person_0 : ZP := (z_ald 0 (z_ald 0 (z_ild 2 (z_invV 8 1 sp_X8_isShop (z_push 1 (z_invV 8 2 sp_X8_fails (z_if (fun x => x = 0) (z_ald 0 (z_ild 1 (z_push 0 (z_push 3 (z_invS 3 sp_X8_in (z_push 2 (z_invV 8 2 sp_X8_fails (z_if (fun x => x = 0) (z_ald 0 (z_ald 0 (z_gf 8 10 (z_push 20 (z_cmp (fun x y => y ≤ x) (z_push 0 zb_X8_person_46) (z_push 1 zb_X8_person_46)))))) (z_push 0 (z_ret 1)))))))))) (z_push 0 (z_ret 1)))))))))
set_option maxRecDepth 20000 in
theorem zk_X8_person_0 {X : ZX} (C : zCx X cX8_person RX8 (some .int) 2 43 1 6) (hn : X.nL = 3) : ZOK X 0 (zb_X8_person_0) := by
  unfold zb_X8_person_0
  refine z_aload_n_ok (pc := 0) (i := 0) C.hx C.hb dX8_person_0 rfl ?_
  refine z_aload_n_ok (pc := 1) (i := 0) C.hx C.hb dX8_person_1 rfl ?_
  refine z_iload_n_ok (pc := 2) (i := 2) C.hx C.hb dX8_person_2 rfl ?_
  refine z_invV_ok (pc := 3) C (by decide +kernel) (zm_X8_isShop X.l C.htr) ⟨rfl, rfl⟩ ⟨by decide, by decide⟩ (by decide) (by decide) zcl_X8_145 zw_1048 zw_27 zK8 dX8_person_3 ?_
  refine z_iconst_ok (pc := 6) (v := 1) C.hx C.hb dX8_person_6 (by decide) ?_
  refine z_invV_ok (pc := 7) C (by decide +kernel) (zm_X8_fails X.l C.htr) ⟨rfl, rfl⟩ ⟨by decide, by decide⟩ (by decide) (by decide) zcl_X8_137 zw_1016 zw_25 zK8 dX8_person_7 ?_
  refine z_if_eq_ok (pc := 10) (tgt := 15) C.hx C.hb dX8_person_10 (by decide) ?_ ?_
  · refine z_aload_n_ok (pc := 15) (i := 0) C.hx C.hb dX8_person_15 rfl ?_
    refine z_iload_n_ok (pc := 16) (i := 1) C.hx C.hb dX8_person_16 rfl ?_
    refine z_iconst_ok (pc := 17) (v := 0) C.hx C.hb dX8_person_17 (by decide) ?_
    refine z_iconst_ok (pc := 18) (v := 3) C.hx C.hb dX8_person_18 (by decide) ?_
    refine z_invS_ok (pc := 19) C (by decide +kernel) (zm_X8_in X.l C.htr) ⟨rfl, rfl⟩ ⟨by decide, by decide⟩ (by decide) (by decide) zcl_X8_120 zw_1012 dX8_person_19 ?_
    refine z_iconst_ok (pc := 22) (v := 2) C.hx C.hb dX8_person_22 (by decide) ?_
    refine z_invV_ok (pc := 23) C (by decide +kernel) (zm_X8_fails X.l C.htr) ⟨rfl, rfl⟩ ⟨by decide, by decide⟩ (by decide) (by decide) zcl_X8_137 zw_1016 zw_25 zK8 dX8_person_23 ?_
    refine z_if_eq_ok (pc := 26) (tgt := 31) C.hx C.hb dX8_person_26 (by decide) ?_ ?_
    · refine z_aload_n_ok (pc := 31) (i := 0) C.hx C.hb dX8_person_31 rfl ?_
      refine z_aload_n_ok (pc := 32) (i := 0) C.hx C.hb dX8_person_32 rfl ?_
      refine z_gf_ok (pc := 33) C zK8 (f := 10) (by decide) zw_867 rfl dX8_person_33 ?_
      refine z_bipush_ok (pc := 36) (v := 20) C.hx C.hb dX8_person_36 (by decide) ?_
      refine z_icmp_ge_ok (pc := 38) (tgt := 45) C.hx C.hb dX8_person_38 (by decide) ?_ ?_
      · refine z_iconst_ok (pc := 45) (v := 0) C.hx C.hb dX8_person_45 (by decide) ?_
        exact zk_X8_person_46 C hn 
      · refine z_iconst_ok (pc := 41) (v := 1) C.hx C.hb dX8_person_41 (by decide) ?_
        refine z_goto_ok (pc := 42) (tgt := 46) C.hx C.hb dX8_person_42 (by decide) ?_
        exact zk_X8_person_46 C hn 
    · refine z_iconst_ok (pc := 29) (v := 0) C.hx C.hb dX8_person_29 (by decide) ?_
      exact z_iret_ok (pc := 30) C dX8_person_30
  · refine z_iconst_ok (pc := 13) (v := 0) C.hx C.hb dX8_person_13 (by decide) ?_
    exact z_iret_ok (pc := 14) C dX8_person_14
def sp_X8_person : ZSp := fun as S K => as.length ≤ 3 ∧ zsp 3 zb_X8_person_0 as S K
theorem zm_X8_person (l : Launch) (hl : l.stackTraces = false) : zMet l yX8_person cX8_person 3 (some .int) { frames := 2, cells := 1, slots := 6, locals := 43 } 0 0 sp_X8_person := zMet_of hl (by decide +kernel) ⟨rfl, rfl⟩ (fun X C hn _ => zk_X8_person_0 C hn)
theorem dX8_personIs_0 : decode cX8_personIs 0 = .ok (.aload_n 0, 1) := by decide +kernel
theorem dX8_personIs_1 : decode cX8_personIs 1 = .ok (.aload_n 0, 1) := by decide +kernel
theorem dX8_personIs_2 : decode cX8_personIs 2 = .ok (.iload_n 1, 1) := by decide +kernel
theorem dX8_personIs_3 : decode cX8_personIs 3 = .ok (.invokevirtual 148, 3) := by decide +kernel
theorem dX8_personIs_6 : decode cX8_personIs 6 = .ok (.iconst 1, 1) := by decide +kernel
theorem dX8_personIs_7 : decode cX8_personIs 7 = .ok (.invokevirtual 137, 3) := by decide +kernel
theorem dX8_personIs_10 : decode cX8_personIs 10 = .ok (.ifCond .eq 5, 3) := by decide +kernel
theorem dX8_personIs_13 : decode cX8_personIs 13 = .ok (.iconst 0, 1) := by decide +kernel
theorem dX8_personIs_14 : decode cX8_personIs 14 = .ok (.ireturn, 1) := by decide +kernel
theorem dX8_personIs_15 : decode cX8_personIs 15 = .ok (.aload_n 0, 1) := by decide +kernel
theorem dX8_personIs_16 : decode cX8_personIs 16 = .ok (.iload_n 2, 1) := by decide +kernel
theorem dX8_personIs_17 : decode cX8_personIs 17 = .ok (.iconst 0, 1) := by decide +kernel
theorem dX8_personIs_18 : decode cX8_personIs 18 = .ok (.bipush 6, 2) := by decide +kernel
theorem dX8_personIs_20 : decode cX8_personIs 20 = .ok (.invokestatic 120, 3) := by decide +kernel
theorem dX8_personIs_23 : decode cX8_personIs 23 = .ok (.iconst 2, 1) := by decide +kernel
theorem dX8_personIs_24 : decode cX8_personIs 24 = .ok (.invokevirtual 137, 3) := by decide +kernel
theorem dX8_personIs_27 : decode cX8_personIs 27 = .ok (.ifCond .eq 5, 3) := by decide +kernel
theorem dX8_personIs_30 : decode cX8_personIs 30 = .ok (.iconst 0, 1) := by decide +kernel
theorem dX8_personIs_31 : decode cX8_personIs 31 = .ok (.ireturn, 1) := by decide +kernel
theorem dX8_personIs_32 : decode cX8_personIs 32 = .ok (.iload_n 2, 1) := by decide +kernel
theorem dX8_personIs_33 : decode cX8_personIs 33 = .ok (.iconst 4, 1) := by decide +kernel
theorem dX8_personIs_34 : decode cX8_personIs 34 = .ok (.if_icmp .ge 51, 3) := by decide +kernel
theorem dX8_personIs_37 : decode cX8_personIs 37 = .ok (.iload_n 2, 1) := by decide +kernel
theorem dX8_personIs_38 : decode cX8_personIs 38 = .ok (.ifCond .ne 12, 3) := by decide +kernel
theorem dX8_personIs_41 : decode cX8_personIs 41 = .ok (.aload_n 0, 1) := by decide +kernel
theorem dX8_personIs_42 : decode cX8_personIs 42 = .ok (.getfield 35, 3) := by decide +kernel
theorem dX8_personIs_45 : decode cX8_personIs 45 = .ok (.iload_n 1, 1) := by decide +kernel
theorem dX8_personIs_46 : decode cX8_personIs 46 = .ok (.iaload, 1) := by decide +kernel
theorem dX8_personIs_47 : decode cX8_personIs 47 = .ok (.goto 37, 3) := by decide +kernel
theorem dX8_personIs_50 : decode cX8_personIs 50 = .ok (.iload_n 2, 1) := by decide +kernel
theorem dX8_personIs_51 : decode cX8_personIs 51 = .ok (.iconst 1, 1) := by decide +kernel
theorem dX8_personIs_52 : decode cX8_personIs 52 = .ok (.if_icmp .ne 12, 3) := by decide +kernel
theorem dX8_personIs_55 : decode cX8_personIs 55 = .ok (.aload_n 0, 1) := by decide +kernel
theorem dX8_personIs_56 : decode cX8_personIs 56 = .ok (.getfield 38, 3) := by decide +kernel
theorem dX8_personIs_59 : decode cX8_personIs 59 = .ok (.iload_n 1, 1) := by decide +kernel
theorem dX8_personIs_60 : decode cX8_personIs 60 = .ok (.iaload, 1) := by decide +kernel
theorem dX8_personIs_61 : decode cX8_personIs 61 = .ok (.goto 23, 3) := by decide +kernel
theorem dX8_personIs_64 : decode cX8_personIs 64 = .ok (.iload_n 2, 1) := by decide +kernel
theorem dX8_personIs_65 : decode cX8_personIs 65 = .ok (.iconst 2, 1) := by decide +kernel
theorem dX8_personIs_66 : decode cX8_personIs 66 = .ok (.if_icmp .ne 12, 3) := by decide +kernel
theorem dX8_personIs_69 : decode cX8_personIs 69 = .ok (.aload_n 0, 1) := by decide +kernel
theorem dX8_personIs_70 : decode cX8_personIs 70 = .ok (.getfield 44, 3) := by decide +kernel
theorem dX8_personIs_73 : decode cX8_personIs 73 = .ok (.iload_n 1, 1) := by decide +kernel
theorem dX8_personIs_74 : decode cX8_personIs 74 = .ok (.iaload, 1) := by decide +kernel
theorem dX8_personIs_75 : decode cX8_personIs 75 = .ok (.goto 9, 3) := by decide +kernel
theorem dX8_personIs_78 : decode cX8_personIs 78 = .ok (.aload_n 0, 1) := by decide +kernel
theorem dX8_personIs_79 : decode cX8_personIs 79 = .ok (.getfield 47, 3) := by decide +kernel
theorem dX8_personIs_82 : decode cX8_personIs 82 = .ok (.iload_n 1, 1) := by decide +kernel
theorem dX8_personIs_83 : decode cX8_personIs 83 = .ok (.iaload, 1) := by decide +kernel
theorem dX8_personIs_84 : decode cX8_personIs 84 = .ok (.ireturn, 1) := by decide +kernel
theorem dX8_personIs_85 : decode cX8_personIs 85 = .ok (.iload_n 2, 1) := by decide +kernel
theorem dX8_personIs_86 : decode cX8_personIs 86 = .ok (.iconst 4, 1) := by decide +kernel
theorem dX8_personIs_87 : decode cX8_personIs 87 = .ok (.if_icmp .ne 11, 3) := by decide +kernel
theorem dX8_personIs_90 : decode cX8_personIs 90 = .ok (.aload_n 0, 1) := by decide +kernel
theorem dX8_personIs_91 : decode cX8_personIs 91 = .ok (.iload_n 1, 1) := by decide +kernel
theorem dX8_personIs_92 : decode cX8_personIs 92 = .ok (.invokevirtual 164, 3) := by decide +kernel
theorem dX8_personIs_95 : decode cX8_personIs 95 = .ok (.goto 30, 3) := by decide +kernel
theorem dX8_personIs_98 : decode cX8_personIs 98 = .ok (.iload_n 2, 1) := by decide +kernel
theorem dX8_personIs_99 : decode cX8_personIs 99 = .ok (.iconst 5, 1) := by decide +kernel
theorem dX8_personIs_100 : decode cX8_personIs 100 = .ok (.if_icmp .ne 12, 3) := by decide +kernel
theorem dX8_personIs_103 : decode cX8_personIs 103 = .ok (.aload_n 0, 1) := by decide +kernel
theorem dX8_personIs_104 : decode cX8_personIs 104 = .ok (.getfield 56, 3) := by decide +kernel
theorem dX8_personIs_107 : decode cX8_personIs 107 = .ok (.iload_n 1, 1) := by decide +kernel
theorem dX8_personIs_108 : decode cX8_personIs 108 = .ok (.iaload, 1) := by decide +kernel
theorem dX8_personIs_109 : decode cX8_personIs 109 = .ok (.goto 16, 3) := by decide +kernel
theorem dX8_personIs_112 : decode cX8_personIs 112 = .ok (.aload_n 0, 1) := by decide +kernel
theorem dX8_personIs_113 : decode cX8_personIs 113 = .ok (.iload_n 1, 1) := by decide +kernel
theorem dX8_personIs_114 : decode cX8_personIs 114 = .ok (.invokevirtual 151, 3) := by decide +kernel
theorem dX8_personIs_117 : decode cX8_personIs 117 = .ok (.ifCond .eq 7, 3) := by decide +kernel
theorem dX8_personIs_120 : decode cX8_personIs 120 = .ok (.iconst 1, 1) := by decide +kernel
theorem dX8_personIs_121 : decode cX8_personIs 121 = .ok (.goto 4, 3) := by decide +kernel
theorem dX8_personIs_124 : decode cX8_personIs 124 = .ok (.iconst 0, 1) := by decide +kernel
theorem dX8_personIs_125 : decode cX8_personIs 125 = .ok (.ireturn, 1) := by decide +kernel
def zb_X8_personIs_125 : ZP := (z_ret 1)
set_option maxRecDepth 20000 in
theorem zk_X8_personIs_125 {X : ZX} (C : zCx X cX8_personIs RX8 (some .int) 3 64 1 6) (hn : X.nL = 3) : ZOK X 125 (zb_X8_personIs_125) := by
  unfold zb_X8_personIs_125
  exact z_iret_ok (pc := 125) C dX8_personIs_125
def zb_X8_personIs_84 : ZP := (z_ret 1)
set_option maxRecDepth 20000 in
theorem zk_X8_personIs_84 {X : ZX} (C : zCx X cX8_personIs RX8 (some .int) 3 64 1 6) (hn : X.nL = 3) : ZOK X 84 (zb_X8_personIs_84) := by
  unfold zb_X8_personIs_84
  exact z_iret_ok (pc := 84) C dX8_personIs_84
def zb_X8_personIs_0 : ZP := (z_ald 0 (z_ald 0 (z_ild 1 (z_invV 8 1 sp_X8_isOne (z_push 1 (z_invV 8 2 sp_X8_fails (z_if (fun x => x = 0) (z_ald 0 (z_ild 2 (z_push 0 (z_push 6 (z_invS 3 sp_X8_in (z_push 2 (z_invV 8 2 sp_X8_fails (z_if (fun x => x = 0) (z_ild 2 (z_push 4 (z_cmp (fun x y => y ≤ x) (z_ild 2 (z_push 4 (z_cmp (fun x y => x = y) (z_ald 0 (z_ild 1 (z_invV 8 1 sp_X8_pointsOf zb_X8_personIs_125))) (z_ild 2 (z_push 5 (z_cmp (fun x y => x = y) (z_ald 0 (z_gf 8 18 (z_ild 1 (z_iald zb_X8_personIs_125)))) (z_ald 0 (z_ild 1 (z_invV 8 1 sp_X8_isDead (z_if (fun x => x = 0) (z_push 0 zb_X8_personIs_125) (z_push 1 zb_X8_personIs_125))))))))))) (z_ild 2 (z_if (fun x => x = 0) (z_ald 0 (z_gf 8 11 (z_ild 1 (z_iald zb_X8_personIs_84)))) (z_ild 2 (z_push 1 (z_cmp (fun x y => x = y) (z_ald 0 (z_gf 8 12 (z_ild 1 (z_iald zb_X8_personIs_84)))) (z_ild 2 (z_push 2 (z_cmp (fun x y => x = y) (z_ald 0 (z_gf 8 14 (z_ild 1 (z_iald zb_X8_personIs_84)))) (z_ald 0 (z_gf 8 15 (z_ild 1 (z_iald zb_X8_personIs_84))))))))))))))) (z_push 0 (z_ret 1)))))))))) (z_push 0 (z_ret 1)))))))))
set_option maxRecDepth 20000 in
theorem zk_X8_personIs_0 {X : ZX} (C : zCx X cX8_personIs RX8 (some .int) 3 64 1 6) (hn : X.nL = 3) : ZOK X 0 (zb_X8_personIs_0) := by
  unfold zb_X8_personIs_0
  refine z_aload_n_ok (pc := 0) (i := 0) C.hx C.hb dX8_personIs_0 rfl ?_
  refine z_aload_n_ok (pc := 1) (i := 0) C.hx C.hb dX8_personIs_1 rfl ?_
  refine z_iload_n_ok (pc := 2) (i := 1) C.hx C.hb dX8_personIs_2 rfl ?_
  refine z_invV_ok (pc := 3) C (by decide +kernel) (zm_X8_isOne X.l C.htr) ⟨rfl, rfl⟩ ⟨by decide, by decide⟩ (by decide) (by decide) zcl_X8_148 zw_1056 zw_28 zK8 dX8_personIs_3 ?_
  refine z_iconst_ok (pc := 6) (v := 1) C.hx C.hb dX8_personIs_6 (by decide) ?_
  refine z_invV_ok (pc := 7) C (by decide +kernel) (zm_X8_fails X.l C.htr) ⟨rfl, rfl⟩ ⟨by decide, by decide⟩ (by decide) (by decide) zcl_X8_137 zw_1016 zw_25 zK8 dX8_personIs_7 ?_
  refine z_if_eq_ok (pc := 10) (tgt := 15) C.hx C.hb dX8_personIs_10 (by decide) ?_ ?_
  · refine z_aload_n_ok (pc := 15) (i := 0) C.hx C.hb dX8_personIs_15 rfl ?_
    refine z_iload_n_ok (pc := 16) (i := 2) C.hx C.hb dX8_personIs_16 rfl ?_
    refine z_iconst_ok (pc := 17) (v := 0) C.hx C.hb dX8_personIs_17 (by decide) ?_
    refine z_bipush_ok (pc := 18) (v := 6) C.hx C.hb dX8_personIs_18 (by decide) ?_
    refine z_invS_ok (pc := 20) C (by decide +kernel) (zm_X8_in X.l C.htr) ⟨rfl, rfl⟩ ⟨by decide, by decide⟩ (by decide) (by decide) zcl_X8_120 zw_1012 dX8_personIs_20 ?_
    refine z_iconst_ok (pc := 23) (v := 2) C.hx C.hb dX8_personIs_23 (by decide) ?_
    refine z_invV_ok (pc := 24) C (by decide +kernel) (zm_X8_fails X.l C.htr) ⟨rfl, rfl⟩ ⟨by decide, by decide⟩ (by decide) (by decide) zcl_X8_137 zw_1016 zw_25 zK8 dX8_personIs_24 ?_
    refine z_if_eq_ok (pc := 27) (tgt := 32) C.hx C.hb dX8_personIs_27 (by decide) ?_ ?_
    · refine z_iload_n_ok (pc := 32) (i := 2) C.hx C.hb dX8_personIs_32 rfl ?_
      refine z_iconst_ok (pc := 33) (v := 4) C.hx C.hb dX8_personIs_33 (by decide) ?_
      refine z_icmp_ge_ok (pc := 34) (tgt := 85) C.hx C.hb dX8_personIs_34 (by decide) ?_ ?_
      · refine z_iload_n_ok (pc := 85) (i := 2) C.hx C.hb dX8_personIs_85 rfl ?_
        refine z_iconst_ok (pc := 86) (v := 4) C.hx C.hb dX8_personIs_86 (by decide) ?_
        refine z_icmp_ne_ok (pc := 87) (tgt := 98) C.hx C.hb dX8_personIs_87 (by decide) ?_ ?_
        · refine z_iload_n_ok (pc := 98) (i := 2) C.hx C.hb dX8_personIs_98 rfl ?_
          refine z_iconst_ok (pc := 99) (v := 5) C.hx C.hb dX8_personIs_99 (by decide) ?_
          refine z_icmp_ne_ok (pc := 100) (tgt := 112) C.hx C.hb dX8_personIs_100 (by decide) ?_ ?_
          · refine z_aload_n_ok (pc := 112) (i := 0) C.hx C.hb dX8_personIs_112 rfl ?_
            refine z_iload_n_ok (pc := 113) (i := 1) C.hx C.hb dX8_personIs_113 rfl ?_
            refine z_invV_ok (pc := 114) C (by decide +kernel) (zm_X8_isDead X.l C.htr) ⟨rfl, rfl⟩ ⟨by decide, by decide⟩ (by decide) (by decide) zcl_X8_151 zw_1060 zw_29 zK8 dX8_personIs_114 ?_
            refine z_if_eq_ok (pc := 117) (tgt := 124) C.hx C.hb dX8_personIs_117 (by decide) ?_ ?_
            · refine z_iconst_ok (pc := 124) (v := 0) C.hx C.hb dX8_personIs_124 (by decide) ?_
              exact zk_X8_personIs_125 C hn 
            · refine z_iconst_ok (pc := 120) (v := 1) C.hx C.hb dX8_personIs_120 (by decide) ?_
              refine z_goto_ok (pc := 121) (tgt := 125) C.hx C.hb dX8_personIs_121 (by decide) ?_
              exact zk_X8_personIs_125 C hn 
          · refine z_aload_n_ok (pc := 103) (i := 0) C.hx C.hb dX8_personIs_103 rfl ?_
            refine z_gf_ok (pc := 104) C zK8 (f := 18) (by decide) zw_875 rfl dX8_personIs_104 ?_
            refine z_iload_n_ok (pc := 107) (i := 1) C.hx C.hb dX8_personIs_107 rfl ?_
            refine z_iald_ok (pc := 108) C dX8_personIs_108 ?_
            refine z_goto_ok (pc := 109) (tgt := 125) C.hx C.hb dX8_personIs_109 (by decide) ?_
            exact zk_X8_personIs_125 C hn 
        · refine z_aload_n_ok (pc := 90) (i := 0) C.hx C.hb dX8_personIs_90 rfl ?_
          refine z_iload_n_ok (pc := 91) (i := 1) C.hx C.hb dX8_personIs_91 rfl ?_
          refine z_invV_ok (pc := 92) C (by decide +kernel) (zm_X8_pointsOf X.l C.htr) ⟨rfl, rfl⟩ ⟨by decide, by decide⟩ (by decide) (by decide) zcl_X8_164 zw_1076 zw_31 zK8 dX8_personIs_92 ?_
          refine z_goto_ok (pc := 95) (tgt := 125) C.hx C.hb dX8_personIs_95 (by decide) ?_
          exact zk_X8_personIs_125 C hn 
      · refine z_iload_n_ok (pc := 37) (i := 2) C.hx C.hb dX8_personIs_37 rfl ?_
        refine z_if_ne_ok (pc := 38) (tgt := 50) C.hx C.hb dX8_personIs_38 (by decide) ?_ ?_
        · refine z_iload_n_ok (pc := 50) (i := 2) C.hx C.hb dX8_personIs_50 rfl ?_
          refine z_iconst_ok (pc := 51) (v := 1) C.hx C.hb dX8_personIs_51 (by decide) ?_
          refine z_icmp_ne_ok (pc := 52) (tgt := 64) C.hx C.hb dX8_personIs_52 (by decide) ?_ ?_
          · refine z_iload_n_ok (pc := 64) (i := 2) C.hx C.hb dX8_personIs_64 rfl ?_
            refine z_iconst_ok (pc := 65) (v := 2) C.hx C.hb dX8_personIs_65 (by decide) ?_
            refine z_icmp_ne_ok (pc := 66) (tgt := 78) C.hx C.hb dX8_personIs_66 (by decide) ?_ ?_
            · refine z_aload_n_ok (pc := 78) (i := 0) C.hx C.hb dX8_personIs_78 rfl ?_
              refine z_gf_ok (pc := 79) C zK8 (f := 15) (by decide) zw_872 rfl dX8_personIs_79 ?_
              refine z_iload_n_ok (pc := 82) (i := 1) C.hx C.hb dX8_personIs_82 rfl ?_
              refine z_iald_ok (pc := 83) C dX8_personIs_83 ?_
              exact zk_X8_personIs_84 C hn 
            · refine z_aload_n_ok (pc := 69) (i := 0) C.hx C.hb dX8_personIs_69 rfl ?_
              refine z_gf_ok (pc := 70) C zK8 (f := 14) (by decide) zw_871 rfl dX8_personIs_70 ?_
              refine z_iload_n_ok (pc := 73) (i := 1) C.hx C.hb dX8_personIs_73 rfl ?_
              refine z_iald_ok (pc := 74) C dX8_personIs_74 ?_
              refine z_goto_ok (pc := 75) (tgt := 84) C.hx C.hb dX8_personIs_75 (by decide) ?_
              exact zk_X8_personIs_84 C hn 
          · refine z_aload_n_ok (pc := 55) (i := 0) C.hx C.hb dX8_personIs_55 rfl ?_
            refine z_gf_ok (pc := 56) C zK8 (f := 12) (by decide) zw_869 rfl dX8_personIs_56 ?_
            refine z_iload_n_ok (pc := 59) (i := 1) C.hx C.hb dX8_personIs_59 rfl ?_
            refine z_iald_ok (pc := 60) C dX8_personIs_60 ?_
            refine z_goto_ok (pc := 61) (tgt := 84) C.hx C.hb dX8_personIs_61 (by decide) ?_
            exact zk_X8_personIs_84 C hn 
        · refine z_aload_n_ok (pc := 41) (i := 0) C.hx C.hb dX8_personIs_41 rfl ?_
          refine z_gf_ok (pc := 42) C zK8 (f := 11) (by decide) zw_868 rfl dX8_personIs_42 ?_
          refine z_iload_n_ok (pc := 45) (i := 1) C.hx C.hb dX8_personIs_45 rfl ?_
          refine z_iald_ok (pc := 46) C dX8_personIs_46 ?_
          refine z_goto_ok (pc := 47) (tgt := 84) C.hx C.hb dX8_personIs_47 (by decide) ?_
          exact zk_X8_personIs_84 C hn 
    · refine z_iconst_ok (pc := 30) (v := 0) C.hx C.hb dX8_personIs_30 (by decide) ?_
      exact z_iret_ok (pc := 31) C dX8_personIs_31
  · refine z_iconst_ok (pc := 13) (v := 0) C.hx C.hb dX8_personIs_13 (by decide) ?_
    exact z_iret_ok (pc := 14) C dX8_personIs_14
def sp_X8_personIs : ZSp := fun as S K => as.length ≤ 3 ∧ zsp 3 zb_X8_personIs_0 as S K
theorem zm_X8_personIs (l : Launch) (hl : l.stackTraces = false) : zMet l yX8_personIs cX8_personIs 3 (some .int) { frames := 3, cells := 1, slots := 6, locals := 64 } 0 0 sp_X8_personIs := zMet_of hl (by decide +kernel) ⟨rfl, rfl⟩ (fun X C hn _ => zk_X8_personIs_0 C hn)
theorem dX8_points_0 : decode cX8_points 0 = .ok (.aload_n 0, 1) := by decide +kernel
theorem dX8_points_1 : decode cX8_points 1 = .ok (.iload_n 1, 1) := by decide +kernel
theorem dX8_points_2 : decode cX8_points 2 = .ok (.iconst 0, 1) := by decide +kernel
theorem dX8_points_3 : decode cX8_points 3 = .ok (.bipush 99, 2) := by decide +kernel
theorem dX8_points_5 : decode cX8_points 5 = .ok (.invokestatic 120, 3) := by decide +kernel
theorem dX8_points_8 : decode cX8_points 8 = .ok (.ifCond .eq 17, 3) := by decide +kernel
theorem dX8_points_11 : decode cX8_points 11 = .ok (.iload_n 2, 1) := by decide +kernel
theorem dX8_points_12 : decode cX8_points 12 = .ok (.iconst 0, 1) := by decide +kernel
theorem dX8_points_13 : decode cX8_points 13 = .ok (.bipush 9, 2) := by decide +kernel
theorem dX8_points_15 : decode cX8_points 15 = .ok (.invokestatic 120, 3) := by decide +kernel
theorem dX8_points_18 : decode cX8_points 18 = .ok (.ifCond .eq 7, 3) := by decide +kernel
theorem dX8_points_21 : decode cX8_points 21 = .ok (.iconst 1, 1) := by decide +kernel
theorem dX8_points_22 : decode cX8_points 22 = .ok (.goto 4, 3) := by decide +kernel
theorem dX8_points_25 : decode cX8_points 25 = .ok (.iconst 0, 1) := by decide +kernel
theorem dX8_points_26 : decode cX8_points 26 = .ok (.iconst 1, 1) := by decide +kernel
theorem dX8_points_27 : decode cX8_points 27 = .ok (.invokevirtual 137, 3) := by decide +kernel
theorem dX8_points_30 : decode cX8_points 30 = .ok (.ifCond .eq 5, 3) := by decide +kernel
theorem dX8_points_33 : decode cX8_points 33 = .ok (.iconst 0, 1) := by decide +kernel
theorem dX8_points_34 : decode cX8_points 34 = .ok (.ireturn, 1) := by decide +kernel
theorem dX8_points_35 : decode cX8_points 35 = .ok (.aload_n 0, 1) := by decide +kernel
theorem dX8_points_36 : decode cX8_points 36 = .ok (.getfield 7, 3) := by decide +kernel
theorem dX8_points_39 : decode cX8_points 39 = .ok (.istore_n 3, 1) := by decide +kernel
theorem dX8_points_40 : decode cX8_points 40 = .ok (.aload_n 0, 1) := by decide +kernel
theorem dX8_points_41 : decode cX8_points 41 = .ok (.iload_n 1, 1) := by decide +kernel
theorem dX8_points_42 : decode cX8_points 42 = .ok (.putfield 7, 3) := by decide +kernel
theorem dX8_points_45 : decode cX8_points 45 = .ok (.aload_n 0, 1) := by decide +kernel
theorem dX8_points_46 : decode cX8_points 46 = .ok (.iload_n 2, 1) := by decide +kernel
theorem dX8_points_47 : decode cX8_points 47 = .ok (.putfield 13, 3) := by decide +kernel
theorem dX8_points_50 : decode cX8_points 50 = .ok (.iload_n 3, 1) := by decide +kernel
theorem dX8_points_51 : decode cX8_points 51 = .ok (.ireturn, 1) := by decide +kernel
def zb_X8_points_26 : ZP := (z_push 1 (z_invV 8 2 sp_X8_fails (z_if (fun x => x = 0) (z_ald 0 (z_gf 8 1 (z_ist 3 (z_ald 0 (z_ild 1 (z_pf 8 1 (z_ald 0 (z_ild 2 (z_pf 8 2 (z_ild 3 (z_ret 1))))))))))) (z_push 0 (z_ret 1)))))
set_option maxRecDepth 20000 in
theorem zk_X8_points_26 {X : ZX} (C : zCx X cX8_points RX8 (some .int) 1 22 1 6) (hn : X.nL = 4) : ZOK X 26 (zb_X8_points_26) := by
  unfold zb_X8_points_26
  refine z_iconst_ok (pc := 26) (v := 1) C.hx C.hb dX8_points_26 (by decide) ?_
  refine z_invV_ok (pc := 27) C (by decide +kernel) (zm_X8_fails X.l C.htr) ⟨rfl, rfl⟩ ⟨by decide, by decide⟩ (by decide) (by decide) zcl_X8_137 zw_1016 zw_25 zK8 dX8_points_27 ?_
  refine z_if_eq_ok (pc := 30) (tgt := 35) C.hx C.hb dX8_points_30 (by decide) ?_ ?_
  · refine z_aload_n_ok (pc := 35) (i := 0) C.hx C.hb dX8_points_35 rfl ?_
    refine z_gf_ok (pc := 36) C zK8 (f := 1) (by decide) zw_858 rfl dX8_points_36 ?_
    refine z_istore_n_ok (pc := 39) (i := 3) C.hx C.hb dX8_points_39 rfl (zlt hn (by decide)) ?_
    refine z_aload_n_ok (pc := 40) (i := 0) C.hx C.hb dX8_points_40 rfl ?_
    refine z_iload_n_ok (pc := 41) (i := 1) C.hx C.hb dX8_points_41 rfl ?_
    refine z_pf_ok (pc := 42) C zK8 rfl rfl (f := 1) (by decide) zw_858 rfl rfl (by decide +kernel) dX8_points_42 ?_
    refine z_aload_n_ok (pc := 45) (i := 0) C.hx C.hb dX8_points_45 rfl ?_
    refine z_iload_n_ok (pc := 46) (i := 2) C.hx C.hb dX8_points_46 rfl ?_
    refine z_pf_ok (pc := 47) C zK8 rfl rfl (f := 2) (by decide) zw_859 rfl rfl (by decide +kernel) dX8_points_47 ?_
    refine z_iload_n_ok (pc := 50) (i := 3) C.hx C.hb dX8_points_50 rfl ?_
    exact z_iret_ok (pc := 51) C dX8_points_51
  · refine z_iconst_ok (pc := 33) (v := 0) C.hx C.hb dX8_points_33 (by decide) ?_
    exact z_iret_ok (pc := 34) C dX8_points_34
def zb_X8_points_25 : ZP := (z_push 0 zb_X8_points_26)
set_option maxRecDepth 20000 in
theorem zk_X8_points_25 {X : ZX} (C : zCx X cX8_points RX8 (some .int) 1 22 1 6) (hn : X.nL = 4) : ZOK X 25 (zb_X8_points_25) := by
  unfold zb_X8_points_25
  refine z_iconst_ok (pc := 25) (v := 0) C.hx C.hb dX8_points_25 (by decide) ?_
  exact zk_X8_points_26 C hn 
def zb_X8_points_0 : ZP := (z_ald 0 (z_ild 1 (z_push 0 (z_push 99 (z_invS 3 sp_X8_in (z_if (fun x => x = 0) zb_X8_points_25 (z_ild 2 (z_push 0 (z_push 9 (z_invS 3 sp_X8_in (z_if (fun x => x = 0) zb_X8_points_25 (z_push 1 zb_X8_points_26))))))))))))
set_option maxRecDepth 20000 in
theorem zk_X8_points_0 {X : ZX} (C : zCx X cX8_points RX8 (some .int) 1 22 1 6) (hn : X.nL = 4) : ZOK X 0 (zb_X8_points_0) := by
  unfold zb_X8_points_0
  refine z_aload_n_ok (pc := 0) (i := 0) C.hx C.hb dX8_points_0 rfl ?_
  refine z_iload_n_ok (pc := 1) (i := 1) C.hx C.hb dX8_points_1 rfl ?_
  refine z_iconst_ok (pc := 2) (v := 0) C.hx C.hb dX8_points_2 (by decide) ?_
  refine z_bipush_ok (pc := 3) (v := 99) C.hx C.hb dX8_points_3 (by decide) ?_
  refine z_invS_ok (pc := 5) C (by decide +kernel) (zm_X8_in X.l C.htr) ⟨rfl, rfl⟩ ⟨by decide, by decide⟩ (by decide) (by decide) zcl_X8_120 zw_1012 dX8_points_5 ?_
  refine z_if_eq_ok (pc := 8) (tgt := 25) C.hx C.hb dX8_points_8 (by decide) ?_ ?_
  · exact zk_X8_points_25 C hn 
  · refine z_iload_n_ok (pc := 11) (i := 2) C.hx C.hb dX8_points_11 rfl ?_
    refine z_iconst_ok (pc := 12) (v := 0) C.hx C.hb dX8_points_12 (by decide) ?_
    refine z_bipush_ok (pc := 13) (v := 9) C.hx C.hb dX8_points_13 (by decide) ?_
    refine z_invS_ok (pc := 15) C (by decide +kernel) (zm_X8_in X.l C.htr) ⟨rfl, rfl⟩ ⟨by decide, by decide⟩ (by decide) (by decide) zcl_X8_120 zw_1012 dX8_points_15 ?_
    refine z_if_eq_ok (pc := 18) (tgt := 25) C.hx C.hb dX8_points_18 (by decide) ?_ ?_
    · exact zk_X8_points_25 C hn 
    · refine z_iconst_ok (pc := 21) (v := 1) C.hx C.hb dX8_points_21 (by decide) ?_
      refine z_goto_ok (pc := 22) (tgt := 26) C.hx C.hb dX8_points_22 (by decide) ?_
      exact zk_X8_points_26 C hn 
def sp_X8_points : ZSp := fun as S K => as.length ≤ 4 ∧ zsp 4 zb_X8_points_0 as S K
theorem zm_X8_points (l : Launch) (hl : l.stackTraces = false) : zMet l yX8_points cX8_points 4 (some .int) { frames := 1, cells := 1, slots := 6, locals := 22 } 0 0 sp_X8_points := zMet_of hl (by decide +kernel) ⟨rfl, rfl⟩ (fun X C hn _ => zk_X8_points_0 C hn)
theorem dX8_ration_0 : decode cX8_ration 0 = .ok (.aload_n 0, 1) := by decide +kernel
theorem dX8_ration_1 : decode cX8_ration 1 = .ok (.iload_n 1, 1) := by decide +kernel
theorem dX8_ration_2 : decode cX8_ration 2 = .ok (.invokestatic 133, 3) := by decide +kernel
theorem dX8_ration_5 : decode cX8_ration 5 = .ok (.iconst 1, 1) := by decide +kernel
theorem dX8_ration_6 : decode cX8_ration 6 = .ok (.invokevirtual 137, 3) := by decide +kernel
theorem dX8_ration_9 : decode cX8_ration 9 = .ok (.ifCond .eq 5, 3) := by decide +kernel
theorem dX8_ration_12 : decode cX8_ration 12 = .ok (.iconst 0, 1) := by decide +kernel
theorem dX8_ration_13 : decode cX8_ration 13 = .ok (.ireturn, 1) := by decide +kernel
theorem dX8_ration_14 : decode cX8_ration 14 = .ok (.aload_n 0, 1) := by decide +kernel
theorem dX8_ration_15 : decode cX8_ration 15 = .ok (.iload_n 2, 1) := by decide +kernel
theorem dX8_ration_16 : decode cX8_ration 16 = .ok (.iconst 0, 1) := by decide +kernel
theorem dX8_ration_17 : decode cX8_ration 17 = .ok (.sipush 9999, 3) := by decide +kernel
theorem dX8_ration_20 : decode cX8_ration 20 = .ok (.invokestatic 120, 3) := by decide +kernel
theorem dX8_ration_23 : decode cX8_ration 23 = .ok (.iconst 2, 1) := by decide +kernel
theorem dX8_ration_24 : decode cX8_ration 24 = .ok (.invokevirtual 137, 3) := by decide +kernel
theorem dX8_ration_27 : decode cX8_ration 27 = .ok (.ifCond .eq 5, 3) := by decide +kernel
theorem dX8_ration_30 : decode cX8_ration 30 = .ok (.iconst 0, 1) := by decide +kernel
theorem dX8_ration_31 : decode cX8_ration 31 = .ok (.ireturn, 1) := by decide +kernel
theorem dX8_ration_32 : decode cX8_ration 32 = .ok (.aload_n 0, 1) := by decide +kernel
theorem dX8_ration_33 : decode cX8_ration 33 = .ok (.getfield 16, 3) := by decide +kernel
theorem dX8_ration_36 : decode cX8_ration 36 = .ok (.iload_n 1, 1) := by decide +kernel
theorem dX8_ration_37 : decode cX8_ration 37 = .ok (.iaload, 1) := by decide +kernel
theorem dX8_ration_38 : decode cX8_ration 38 = .ok (.istore_n 3, 1) := by decide +kernel
theorem dX8_ration_39 : decode cX8_ration 39 = .ok (.aload_n 0, 1) := by decide +kernel
theorem dX8_ration_40 : decode cX8_ration 40 = .ok (.getfield 16, 3) := by decide +kernel
theorem dX8_ration_43 : decode cX8_ration 43 = .ok (.iload_n 1, 1) := by decide +kernel
theorem dX8_ration_44 : decode cX8_ration 44 = .ok (.iconst 0, 1) := by decide +kernel
theorem dX8_ration_45 : decode cX8_ration 45 = .ok (.iastore, 1) := by decide +kernel
theorem dX8_ration_46 : decode cX8_ration 46 = .ok (.aload_n 0, 1) := by decide +kernel
theorem dX8_ration_47 : decode cX8_ration 47 = .ok (.getfield 20, 3) := by decide +kernel
theorem dX8_ration_50 : decode cX8_ration 50 = .ok (.iload_n 1, 1) := by decide +kernel
theorem dX8_ration_51 : decode cX8_ration 51 = .ok (.iload_n 2, 1) := by decide +kernel
theorem dX8_ration_52 : decode cX8_ration 52 = .ok (.iastore, 1) := by decide +kernel
theorem dX8_ration_53 : decode cX8_ration 53 = .ok (.iload_n 3, 1) := by decide +kernel
theorem dX8_ration_54 : decode cX8_ration 54 = .ok (.ireturn, 1) := by decide +kernel
def zb_X8_ration_0 : ZP := (z_ald 0 (z_ild 1 (z_invS 1 sp_X8_isGood (z_push 1 (z_invV 8 2 sp_X8_fails (z_if (fun x => x = 0) (z_ald 0 (z_ild 2 (z_push 0 (z_push 9999 (z_invS 3 sp_X8_in (z_push 2 (z_invV 8 2 sp_X8_fails (z_if (fun x => x = 0) (z_ald 0 (z_gf 8 4 (z_ild 1 (z_iald (z_ist 3 (z_ald 0 (z_gf 8 4 (z_ild 1 (z_push 0 (z_iast (z_ald 0 (z_gf 8 5 (z_ild 1 (z_ild 2 (z_iast (z_ild 3 (z_ret 1))))))))))))))))) (z_push 0 (z_ret 1)))))))))) (z_push 0 (z_ret 1))))))))
set_option maxRecDepth 20000 in
theorem zk_X8_ration_0 {X : ZX} (C : zCx X cX8_ration RX8 (some .int) 2 42 1 6) (hn : X.nL = 4) : ZOK X 0 (zb_X8_ration_0) := by
  unfold zb_X8_ration_0
  refine z_aload_n_ok (pc := 0) (i := 0) C.hx C.hb dX8_ration_0 rfl ?_
  refine z_iload_n_ok (pc := 1) (i := 1) C.hx C.hb dX8_ration_1 rfl ?_
  refine z_invS_ok (pc := 2) C (by decide +kernel) (zm_X8_isGood X.l C.htr) ⟨rfl, rfl⟩ ⟨by decide, by decide⟩ (by decide) (by decide) zcl_X8_133 zw_1009 dX8_ration_2 ?_
  refine z_iconst_ok (pc := 5) (v := 1) C.hx C.hb dX8_ration_5 (by decide) ?_
  refine z_invV_ok (pc := 6) C (by decide +kernel) (zm_X8_fails X.l C.htr) ⟨rfl, rfl⟩ ⟨by decide, by decide⟩ (by decide) (by decide) zcl_X8_137 zw_1016 zw_25 zK8 dX8_ration_6 ?_
  refine z_if_eq_ok (pc := 9) (tgt := 14) C.hx C.hb dX8_ration_9 (by decide) ?_ ?_
  · refine z_aload_n_ok (pc := 14) (i := 0) C.hx C.hb dX8_ration_14 rfl ?_
    refine z_iload_n_ok (pc := 15) (i := 2) C.hx C.hb dX8_ration_15 rfl ?_
    refine z_iconst_ok (pc := 16) (v := 0) C.hx C.hb dX8_ration_16 (by decide) ?_
    refine z_sipush_ok (pc := 17) (v := 9999) C.hx C.hb dX8_ration_17 (by decide) ?_
    refine z_invS_ok (pc := 20) C (by decide +kernel) (zm_X8_in X.l C.htr) ⟨rfl, rfl⟩ ⟨by decide, by decide⟩ (by decide) (by decide) zcl_X8_120 zw_1012 dX8_ration_20 ?_
    refine z_iconst_ok (pc := 23) (v := 2) C.hx C.hb dX8_ration_23 (by decide) ?_
    refine z_invV_ok (pc := 24) C (by decide +kernel) (zm_X8_fails X.l C.htr) ⟨rfl, rfl⟩ ⟨by decide, by decide⟩ (by decide) (by decide) zcl_X8_137 zw_1016 zw_25 zK8 dX8_ration_24 ?_
    refine z_if_eq_ok (pc := 27) (tgt := 32) C.hx C.hb dX8_ration_27 (by decide) ?_ ?_
    · refine z_aload_n_ok (pc := 32) (i := 0) C.hx C.hb dX8_ration_32 rfl ?_
      refine z_gf_ok (pc := 33) C zK8 (f := 4) (by decide) zw_861 rfl dX8_ration_33 ?_
      refine z_iload_n_ok (pc := 36) (i := 1) C.hx C.hb dX8_ration_36 rfl ?_
      refine z_iald_ok (pc := 37) C dX8_ration_37 ?_
      refine z_istore_n_ok (pc := 38) (i := 3) C.hx C.hb dX8_ration_38 rfl (zlt hn (by decide)) ?_
      refine z_aload_n_ok (pc := 39) (i := 0) C.hx C.hb dX8_ration_39 rfl ?_
      refine z_gf_ok (pc := 40) C zK8 (f := 4) (by decide) zw_861 rfl dX8_ration_40 ?_
      refine z_iload_n_ok (pc := 43) (i := 1) C.hx C.hb dX8_ration_43 rfl ?_
      refine z_iconst_ok (pc := 44) (v := 0) C.hx C.hb dX8_ration_44 (by decide) ?_
      refine z_iast_ok (pc := 45) C dX8_ration_45 ?_
      refine z_aload_n_ok (pc := 46) (i := 0) C.hx C.hb dX8_ration_46 rfl ?_
      refine z_gf_ok (pc := 47) C zK8 (f := 5) (by decide) zw_862 rfl dX8_ration_47 ?_
      refine z_iload_n_ok (pc := 50) (i := 1) C.hx C.hb dX8_ration_50 rfl ?_
      refine z_iload_n_ok (pc := 51) (i := 2) C.hx C.hb dX8_ration_51 rfl ?_
      refine z_iast_ok (pc := 52) C dX8_ration_52 ?_
      refine z_iload_n_ok (pc := 53) (i := 3) C.hx C.hb dX8_ration_53 rfl ?_
      exact z_iret_ok (pc := 54) C dX8_ration_54
    · refine z_iconst_ok (pc := 30) (v := 0) C.hx C.hb dX8_ration_30 (by decide) ?_
      exact z_iret_ok (pc := 31) C dX8_ration_31
  · refine z_iconst_ok (pc := 12) (v := 0) C.hx C.hb dX8_ration_12 (by decide) ?_
    exact z_iret_ok (pc := 13) C dX8_ration_13
def sp_X8_ration : ZSp := fun as S K => as.length ≤ 4 ∧ zsp 4 zb_X8_ration_0 as S K
theorem zm_X8_ration (l : Launch) (hl : l.stackTraces = false) : zMet l yX8_ration cX8_ration 4 (some .int) { frames := 2, cells := 1, slots := 6, locals := 42 } 0 0 sp_X8_ration := zMet_of hl (by decide +kernel) ⟨rfl, rfl⟩ (fun X C hn _ => zk_X8_ration_0 C hn)
theorem dX8_settle_0 : decode cX8_settle 0 = .ok (.aload_n 0, 1) := by decide +kernel
theorem dX8_settle_1 : decode cX8_settle 1 = .ok (.aload_n 0, 1) := by decide +kernel
theorem dX8_settle_2 : decode cX8_settle 2 = .ok (.iload_n 1, 1) := by decide +kernel
theorem dX8_settle_3 : decode cX8_settle 3 = .ok (.invokevirtual 145, 3) := by decide +kernel
theorem dX8_settle_6 : decode cX8_settle 6 = .ok (.ifCond .eq 14, 3) := by decide +kernel
theorem dX8_settle_9 : decode cX8_settle 9 = .ok (.iload_n 2, 1) := by decide +kernel
theorem dX8_settle_10 : decode cX8_settle 10 = .ok (.invokestatic 133, 3) := by decide +kernel
theorem dX8_settle_13 : decode cX8_settle 13 = .ok (.ifCond .eq 7, 3) := by decide +kernel
theorem dX8_settle_16 : decode cX8_settle 16 = .ok (.iconst 1, 1) := by decide +kernel
theorem dX8_settle_17 : decode cX8_settle 17 = .ok (.goto 4, 3) := by decide +kernel
theorem dX8_settle_20 : decode cX8_settle 20 = .ok (.iconst 0, 1) := by decide +kernel
theorem dX8_settle_21 : decode cX8_settle 21 = .ok (.iconst 1, 1) := by decide +kernel
theorem dX8_settle_22 : decode cX8_settle 22 = .ok (.invokevirtual 137, 3) := by decide +kernel
theorem dX8_settle_25 : decode cX8_settle 25 = .ok (.ifCond .eq 5, 3) := by decide +kernel
theorem dX8_settle_28 : decode cX8_settle 28 = .ok (.iconst 0, 1) := by decide +kernel
theorem dX8_settle_29 : decode cX8_settle 29 = .ok (.ireturn, 1) := by decide +kernel
theorem dX8_settle_30 : decode cX8_settle 30 = .ok (.bipush 6, 2) := by decide +kernel
theorem dX8_settle_32 : decode cX8_settle 32 = .ok (.iload_n 1, 1) := by decide +kernel
theorem dX8_settle_33 : decode cX8_settle 33 = .ok (.imul, 1) := by decide +kernel
theorem dX8_settle_34 : decode cX8_settle 34 = .ok (.iload_n 2, 1) := by decide +kernel
theorem dX8_settle_35 : decode cX8_settle 35 = .ok (.iadd, 1) := by decide +kernel
theorem dX8_settle_36 : decode cX8_settle 36 = .ok (.istore_n 3, 1) := by decide +kernel
theorem dX8_settle_37 : decode cX8_settle 37 = .ok (.aload_n 0, 1) := by decide +kernel
theorem dX8_settle_38 : decode cX8_settle 38 = .ok (.getfield 87, 3) := by decide +kernel
theorem dX8_settle_41 : decode cX8_settle 41 = .ok (.iload_n 3, 1) := by decide +kernel
theorem dX8_settle_42 : decode cX8_settle 42 = .ok (.iaload, 1) := by decide +kernel
theorem dX8_settle_43 : decode cX8_settle 43 = .ok (.aload_n 0, 1) := by decide +kernel
theorem dX8_settle_44 : decode cX8_settle 44 = .ok (.getfield 90, 3) := by decide +kernel
theorem dX8_settle_47 : decode cX8_settle 47 = .ok (.iload_n 3, 1) := by decide +kernel
theorem dX8_settle_48 : decode cX8_settle 48 = .ok (.iaload, 1) := by decide +kernel
theorem dX8_settle_49 : decode cX8_settle 49 = .ok (.invokestatic 190, 3) := by decide +kernel
theorem dX8_settle_52 : decode cX8_settle 52 = .ok (.istore 4, 2) := by decide +kernel
theorem dX8_settle_54 : decode cX8_settle 54 = .ok (.aload_n 0, 1) := by decide +kernel
theorem dX8_settle_55 : decode cX8_settle 55 = .ok (.getfield 87, 3) := by decide +kernel
theorem dX8_settle_58 : decode cX8_settle 58 = .ok (.iload_n 3, 1) := by decide +kernel
theorem dX8_settle_59 : decode cX8_settle 59 = .ok (.dup2, 1) := by decide +kernel
theorem dX8_settle_60 : decode cX8_settle 60 = .ok (.iaload, 1) := by decide +kernel
theorem dX8_settle_61 : decode cX8_settle 61 = .ok (.iload 4, 2) := by decide +kernel
theorem dX8_settle_63 : decode cX8_settle 63 = .ok (.isub, 1) := by decide +kernel
theorem dX8_settle_64 : decode cX8_settle 64 = .ok (.iastore, 1) := by decide +kernel
theorem dX8_settle_65 : decode cX8_settle 65 = .ok (.aload_n 0, 1) := by decide +kernel
theorem dX8_settle_66 : decode cX8_settle 66 = .ok (.getfield 90, 3) := by decide +kernel
theorem dX8_settle_69 : decode cX8_settle 69 = .ok (.iload_n 3, 1) := by decide +kernel
theorem dX8_settle_70 : decode cX8_settle 70 = .ok (.dup2, 1) := by decide +kernel
theorem dX8_settle_71 : decode cX8_settle 71 = .ok (.iaload, 1) := by decide +kernel
theorem dX8_settle_72 : decode cX8_settle 72 = .ok (.iload 4, 2) := by decide +kernel
theorem dX8_settle_74 : decode cX8_settle 74 = .ok (.isub, 1) := by decide +kernel
theorem dX8_settle_75 : decode cX8_settle 75 = .ok (.iastore, 1) := by decide +kernel
theorem dX8_settle_76 : decode cX8_settle 76 = .ok (.iload 4, 2) := by decide +kernel
theorem dX8_settle_78 : decode cX8_settle 78 = .ok (.ireturn, 1) := by decide +kernel
def zb_X8_settle_21 : ZP := (z_push 1 (z_invV 8 2 sp_X8_fails (z_if (fun x => x = 0) (z_push 6 (z_ild 1 (z_bin (fun x y => x * y) (z_ild 2 (z_bin (fun x y => x + y) (z_ist 3 (z_ald 0 (z_gf 8 31 (z_ild 3 (z_iald (z_ald 0 (z_gf 8 32 (z_ild 3 (z_iald (z_invS 2 sp_X8_lesser (z_ist 4 (z_ald 0 (z_gf 8 31 (z_ild 3 (z_dup2 (z_iald (z_ild 4 (z_bin (fun x y => x - y) (z_iast (z_ald 0 (z_gf 8 32 (z_ild 3 (z_dup2 (z_iald (z_ild 4 (z_bin (fun x y => x - y) (z_iast (z_ild 4 (z_ret 1)))))))))))))))))))))))))))))))))) (z_push 0 (z_ret 1)))))
set_option maxRecDepth 20000 in
theorem zk_X8_settle_21 {X : ZX} (C : zCx X cX8_settle RX8 (some .int) 2 43 1 6) (hn : X.nL = 5) : ZOK X 21 (zb_X8_settle_21) := by
  unfold zb_X8_settle_21
  refine z_iconst_ok (pc := 21) (v := 1) C.hx C.hb dX8_settle_21 (by decide) ?_
  refine z_invV_ok (pc := 22) C (by decide +kernel) (zm_X8_fails X.l C.htr) ⟨rfl, rfl⟩ ⟨by decide, by decide⟩ (by decide) (by decide) zcl_X8_137 zw_1016 zw_25 zK8 dX8_settle_22 ?_
  refine z_if_eq_ok (pc := 25) (tgt := 30) C.hx C.hb dX8_settle_25 (by decide) ?_ ?_
  · refine z_bipush_ok (pc := 30) (v := 6) C.hx C.hb dX8_settle_30 (by decide) ?_
    refine z_iload_n_ok (pc := 32) (i := 1) C.hx C.hb dX8_settle_32 rfl ?_
    refine z_imul_ok (pc := 33) C.hx C.hb dX8_settle_33 ?_
    refine z_iload_n_ok (pc := 34) (i := 2) C.hx C.hb dX8_settle_34 rfl ?_
    refine z_iadd_ok (pc := 35) C.hx C.hb dX8_settle_35 ?_
    refine z_istore_n_ok (pc := 36) (i := 3) C.hx C.hb dX8_settle_36 rfl (zlt hn (by decide)) ?_
    refine z_aload_n_ok (pc := 37) (i := 0) C.hx C.hb dX8_settle_37 rfl ?_
    refine z_gf_ok (pc := 38) C zK8 (f := 31) (by decide) zw_888 rfl dX8_settle_38 ?_
    refine z_iload_n_ok (pc := 41) (i := 3) C.hx C.hb dX8_settle_41 rfl ?_
    refine z_iald_ok (pc := 42) C dX8_settle_42 ?_
    refine z_aload_n_ok (pc := 43) (i := 0) C.hx C.hb dX8_settle_43 rfl ?_
    refine z_gf_ok (pc := 44) C zK8 (f := 32) (by decide) zw_889 rfl dX8_settle_44 ?_
    refine z_iload_n_ok (pc := 47) (i := 3) C.hx C.hb dX8_settle_47 rfl ?_
    refine z_iald_ok (pc := 48) C dX8_settle_48 ?_
    refine z_invS_ok (pc := 49) C (by decide +kernel) (zm_X8_lesser X.l C.htr) ⟨rfl, rfl⟩ ⟨by decide, by decide⟩ (by decide) (by decide) zcl_X8_190 zw_1147 dX8_settle_49 ?_
    refine z_istore_ok (pc := 52) (i := 4) C.hx C.hb dX8_settle_52 (zlt hn (by decide)) ?_
    refine z_aload_n_ok (pc := 54) (i := 0) C.hx C.hb dX8_settle_54 rfl ?_
    refine z_gf_ok (pc := 55) C zK8 (f := 31) (by decide) zw_888 rfl dX8_settle_55 ?_
    refine z_iload_n_ok (pc := 58) (i := 3) C.hx C.hb dX8_settle_58 rfl ?_
    refine z_dup2_ok (pc := 59) C.hx C.hb dX8_settle_59 ?_
    refine z_iald_ok (pc := 60) C dX8_settle_60 ?_
    refine z_iload_ok (pc := 61) (i := 4) C.hx C.hb dX8_settle_61 ?_
    refine z_isub_ok (pc := 63) C.hx C.hb dX8_settle_63 ?_
    refine z_iast_ok (pc := 64) C dX8_settle_64 ?_
    refine z_aload_n_ok (pc := 65) (i := 0) C.hx C.hb dX8_settle_65 rfl ?_
    refine z_gf_ok (pc := 66) C zK8 (f := 32) (by decide) zw_889 rfl dX8_settle_66 ?_
    refine z_iload_n_ok (pc := 69) (i := 3) C.hx C.hb dX8_settle_69 rfl ?_
    refine z_dup2_ok (pc := 70) C.hx C.hb dX8_settle_70 ?_
    refine z_iald_ok (pc := 71) C dX8_settle_71 ?_
    refine z_iload_ok (pc := 72) (i := 4) C.hx C.hb dX8_settle_72 ?_
    refine z_isub_ok (pc := 74) C.hx C.hb dX8_settle_74 ?_
    refine z_iast_ok (pc := 75) C dX8_settle_75 ?_
    refine z_iload_ok (pc := 76) (i := 4) C.hx C.hb dX8_settle_76 ?_
    exact z_iret_ok (pc := 78) C dX8_settle_78
  · refine z_iconst_ok (pc := 28) (v := 0) C.hx C.hb dX8_settle_28 (by decide) ?_
    exact z_iret_ok (pc := 29) C dX8_settle_29
def zb_X8_settle_20 : ZP := (z_push 0 zb_X8_settle_21)
set_option maxRecDepth 20000 in
theorem zk_X8_settle_20 {X : ZX} (C : zCx X cX8_settle RX8 (some .int) 2 43 1 6) (hn : X.nL = 5) : ZOK X 20 (zb_X8_settle_20) := by
  unfold zb_X8_settle_20
  refine z_iconst_ok (pc := 20) (v := 0) C.hx C.hb dX8_settle_20 (by decide) ?_
  exact zk_X8_settle_21 C hn 
def zb_X8_settle_0 : ZP := (z_ald 0 (z_ald 0 (z_ild 1 (z_invV 8 1 sp_X8_isShop (z_if (fun x => x = 0) zb_X8_settle_20 (z_ild 2 (z_invS 1 sp_X8_isGood (z_if (fun x => x = 0) zb_X8_settle_20 (z_push 1 zb_X8_settle_21)))))))))
set_option maxRecDepth 20000 in
theorem zk_X8_settle_0 {X : ZX} (C : zCx X cX8_settle RX8 (some .int) 2 43 1 6) (hn : X.nL = 5) : ZOK X 0 (zb_X8_settle_0) := by
  unfold zb_X8_settle_0
  refine z_aload_n_ok (pc := 0) (i := 0) C.hx C.hb dX8_settle_0 rfl ?_
  refine z_aload_n_ok (pc := 1) (i := 0) C.hx C.hb dX8_settle_1 rfl ?_
  refine z_iload_n_ok (pc := 2) (i := 1) C.hx C.hb dX8_settle_2 rfl ?_
  refine z_invV_ok (pc := 3) C (by decide +kernel) (zm_X8_isShop X.l C.htr) ⟨rfl, rfl⟩ ⟨by decide, by decide⟩ (by decide) (by decide) zcl_X8_145 zw_1048 zw_27 zK8 dX8_settle_3 ?_
  refine z_if_eq_ok (pc := 6) (tgt := 20) C.hx C.hb dX8_settle_6 (by decide) ?_ ?_
  · exact zk_X8_settle_20 C hn 
  · refine z_iload_n_ok (pc := 9) (i := 2) C.hx C.hb dX8_settle_9 rfl ?_
    refine z_invS_ok (pc := 10) C (by decide +kernel) (zm_X8_isGood X.l C.htr) ⟨rfl, rfl⟩ ⟨by decide, by decide⟩ (by decide) (by decide) zcl_X8_133 zw_1009 dX8_settle_10 ?_
    refine z_if_eq_ok (pc := 13) (tgt := 20) C.hx C.hb dX8_settle_13 (by decide) ?_ ?_
    · exact zk_X8_settle_20 C hn 
    · refine z_iconst_ok (pc := 16) (v := 1) C.hx C.hb dX8_settle_16 (by decide) ?_
      refine z_goto_ok (pc := 17) (tgt := 21) C.hx C.hb dX8_settle_17 (by decide) ?_
      exact zk_X8_settle_21 C hn 
def sp_X8_settle : ZSp := fun as S K => as.length ≤ 5 ∧ zsp 5 zb_X8_settle_0 as S K
theorem zm_X8_settle (l : Launch) (hl : l.stackTraces = false) : zMet l yX8_settle cX8_settle 5 (some .int) { frames := 2, cells := 1, slots := 6, locals := 43 } 0 0 sp_X8_settle := zMet_of hl (by decide +kernel) ⟨rfl, rfl⟩ (fun X C hn _ => zk_X8_settle_0 C hn)
theorem dX8_ship_0 : decode cX8_ship 0 = .ok (.aload_n 0, 1) := by decide +kernel
theorem dX8_ship_1 : decode cX8_ship 1 = .ok (.aload_n 0, 1) := by decide +kernel
theorem dX8_ship_2 : decode cX8_ship 2 = .ok (.iload_n 1, 1) := by decide +kernel
theorem dX8_ship_3 : decode cX8_ship 3 = .ok (.invokevirtual 173, 3) := by decide +kernel
theorem dX8_ship_6 : decode cX8_ship 6 = .ok (.ifCond .eq 14, 3) := by decide +kernel
theorem dX8_ship_9 : decode cX8_ship 9 = .ok (.iload_n 2, 1) := by decide +kernel
theorem dX8_ship_10 : decode cX8_ship 10 = .ok (.invokestatic 133, 3) := by decide +kernel
theorem dX8_ship_13 : decode cX8_ship 13 = .ok (.ifCond .eq 7, 3) := by decide +kernel
theorem dX8_ship_16 : decode cX8_ship 16 = .ok (.iconst 1, 1) := by decide +kernel
theorem dX8_ship_17 : decode cX8_ship 17 = .ok (.goto 4, 3) := by decide +kernel
theorem dX8_ship_20 : decode cX8_ship 20 = .ok (.iconst 0, 1) := by decide +kernel
theorem dX8_ship_21 : decode cX8_ship 21 = .ok (.iconst 1, 1) := by decide +kernel
theorem dX8_ship_22 : decode cX8_ship 22 = .ok (.invokevirtual 137, 3) := by decide +kernel
theorem dX8_ship_25 : decode cX8_ship 25 = .ok (.ifCond .eq 5, 3) := by decide +kernel
theorem dX8_ship_28 : decode cX8_ship 28 = .ok (.iconst 0, 1) := by decide +kernel
theorem dX8_ship_29 : decode cX8_ship 29 = .ok (.ireturn, 1) := by decide +kernel
theorem dX8_ship_30 : decode cX8_ship 30 = .ok (.aload_n 0, 1) := by decide +kernel
theorem dX8_ship_31 : decode cX8_ship 31 = .ok (.iload_n 3, 1) := by decide +kernel
theorem dX8_ship_32 : decode cX8_ship 32 = .ok (.iconst 1, 1) := by decide +kernel
theorem dX8_ship_33 : decode cX8_ship 33 = .ok (.ldc 176, 2) := by decide +kernel
theorem dX8_ship_35 : decode cX8_ship 35 = .ok (.invokestatic 120, 3) := by decide +kernel
theorem dX8_ship_38 : decode cX8_ship 38 = .ok (.iconst 2, 1) := by decide +kernel
theorem dX8_ship_39 : decode cX8_ship 39 = .ok (.invokevirtual 137, 3) := by decide +kernel
theorem dX8_ship_42 : decode cX8_ship 42 = .ok (.ifCond .eq 5, 3) := by decide +kernel
theorem dX8_ship_45 : decode cX8_ship 45 = .ok (.iconst 0, 1) := by decide +kernel
theorem dX8_ship_46 : decode cX8_ship 46 = .ok (.ireturn, 1) := by decide +kernel
theorem dX8_ship_47 : decode cX8_ship 47 = .ok (.aload_n 0, 1) := by decide +kernel
theorem dX8_ship_48 : decode cX8_ship 48 = .ok (.dup, 1) := by decide +kernel
theorem dX8_ship_49 : decode cX8_ship 49 = .ok (.getfield 177, 3) := by decide +kernel
theorem dX8_ship_52 : decode cX8_ship 52 = .ok (.iload_n 3, 1) := by decide +kernel
theorem dX8_ship_53 : decode cX8_ship 53 = .ok (.iadd, 1) := by decide +kernel
theorem dX8_ship_54 : decode cX8_ship 54 = .ok (.putfield 177, 3) := by decide +kernel
theorem dX8_ship_57 : decode cX8_ship 57 = .ok (.aload_n 0, 1) := by decide +kernel
theorem dX8_ship_58 : decode cX8_ship 58 = .ok (.getfield 78, 3) := by decide +kernel
theorem dX8_ship_61 : decode cX8_ship 61 = .ok (.bipush 6, 2) := by decide +kernel
theorem dX8_ship_63 : decode cX8_ship 63 = .ok (.iload_n 1, 1) := by decide +kernel
theorem dX8_ship_64 : decode cX8_ship 64 = .ok (.imul, 1) := by decide +kernel
theorem dX8_ship_65 : decode cX8_ship 65 = .ok (.iload_n 2, 1) := by decide +kernel
theorem dX8_ship_66 : decode cX8_ship 66 = .ok (.iadd, 1) := by decide +kernel
theorem dX8_ship_67 : decode cX8_ship 67 = .ok (.dup2, 1) := by decide +kernel
theorem dX8_ship_68 : decode cX8_ship 68 = .ok (.iaload, 1) := by decide +kernel
theorem dX8_ship_69 : decode cX8_ship 69 = .ok (.iload_n 3, 1) := by decide +kernel
theorem dX8_ship_70 : decode cX8_ship 70 = .ok (.iadd, 1) := by decide +kernel
theorem dX8_ship_71 : decode cX8_ship 71 = .ok (.iastore, 1) := by decide +kernel
theorem dX8_ship_72 : decode cX8_ship 72 = .ok (.aload_n 0, 1) := by decide +kernel
theorem dX8_ship_73 : decode cX8_ship 73 = .ok (.getfield 78, 3) := by decide +kernel
theorem dX8_ship_76 : decode cX8_ship 76 = .ok (.bipush 6, 2) := by decide +kernel
theorem dX8_ship_78 : decode cX8_ship 78 = .ok (.iload_n 1, 1) := by decide +kernel
theorem dX8_ship_79 : decode cX8_ship 79 = .ok (.imul, 1) := by decide +kernel
theorem dX8_ship_80 : decode cX8_ship 80 = .ok (.iload_n 2, 1) := by decide +kernel
theorem dX8_ship_81 : decode cX8_ship 81 = .ok (.iadd, 1) := by decide +kernel
theorem dX8_ship_82 : decode cX8_ship 82 = .ok (.iaload, 1) := by decide +kernel
theorem dX8_ship_83 : decode cX8_ship 83 = .ok (.ireturn, 1) := by decide +kernel
def zb_X8_ship_21 : ZP := (z_push 1 (z_invV 8 2 sp_X8_fails (z_if (fun x => x = 0) (z_ald 0 (z_ild 3 (z_push 1 (z_push 99999 (z_invS 3 sp_X8_in (z_push 2 (z_invV 8 2 sp_X8_fails (z_if (fun x => x = 0) (z_ald 0 (z_dup (z_gf 8 41 (z_ild 3 (z_bin (fun x y => x + y) (z_pf 8 41 (z_ald 0 (z_gf 8 27 (z_push 6 (z_ild 1 (z_bin (fun x y => x * y) (z_ild 2 (z_bin (fun x y => x + y) (z_dup2 (z_iald (z_ild 3 (z_bin (fun x y => x + y) (z_iast (z_ald 0 (z_gf 8 27 (z_push 6 (z_ild 1 (z_bin (fun x y => x * y) (z_ild 2 (z_bin (fun x y => x + y) (z_iald (z_ret 1))))))))))))))))))))))))))) (z_push 0 (z_ret 1)))))))))) (z_push 0 (z_ret 1)))))
set_option maxRecDepth 20000 in
theorem zk_X8_ship_21 {X : ZX} (C : zCx X cX8_ship RX8 (some .int) 2 43 1 6) (hn : X.nL = 4) : ZOK X 21 (zb_X8_ship_21) := by
  unfold zb_X8_ship_21
  refine z_iconst_ok (pc := 21) (v := 1) C.hx C.hb dX8_ship_21 (by decide) ?_
  refine z_invV_ok (pc := 22) C (by decide +kernel) (zm_X8_fails X.l C.htr) ⟨rfl, rfl⟩ ⟨by decide, by decide⟩ (by decide) (by decide) zcl_X8_137 zw_1016 zw_25 zK8 dX8_ship_22 ?_
  refine z_if_eq_ok (pc := 25) (tgt := 30) C.hx C.hb dX8_ship_25 (by decide) ?_ ?_
  · refine z_aload_n_ok (pc := 30) (i := 0) C.hx C.hb dX8_ship_30 rfl ?_
    refine z_iload_n_ok (pc := 31) (i := 3) C.hx C.hb dX8_ship_31 rfl ?_
    refine z_iconst_ok (pc := 32) (v := 1) C.hx C.hb dX8_ship_32 (by decide) ?_
    refine z_ldc_ok (pc := 33) C zw_1121 dX8_ship_33 ?_
    refine z_invS_ok (pc := 35) C (by decide +kernel) (zm_X8_in X.l C.htr) ⟨rfl, rfl⟩ ⟨by decide, by decide⟩ (by decide) (by decide) zcl_X8_120 zw_1012 dX8_ship_35 ?_
    refine z_iconst_ok (pc := 38) (v := 2) C.hx C.hb dX8_ship_38 (by decide) ?_
    refine z_invV_ok (pc := 39) C (by decide +kernel) (zm_X8_fails X.l C.htr) ⟨rfl, rfl⟩ ⟨by decide, by decide⟩ (by decide) (by decide) zcl_X8_137 zw_1016 zw_25 zK8 dX8_ship_39 ?_
    refine z_if_eq_ok (pc := 42) (tgt := 47) C.hx C.hb dX8_ship_42 (by decide) ?_ ?_
    · refine z_aload_n_ok (pc := 47) (i := 0) C.hx C.hb dX8_ship_47 rfl ?_
      refine z_dup_ok (pc := 48) C.hx C.hb dX8_ship_48 ?_
      refine z_gf_ok (pc := 49) C zK8 (f := 41) (by decide) zw_898 rfl dX8_ship_49 ?_
      refine z_iload_n_ok (pc := 52) (i := 3) C.hx C.hb dX8_ship_52 rfl ?_
      refine z_iadd_ok (pc := 53) C.hx C.hb dX8_ship_53 ?_
      refine z_pf_ok (pc := 54) C zK8 rfl rfl (f := 41) (by decide) zw_898 rfl rfl (by decide +kernel) dX8_ship_54 ?_
      refine z_aload_n_ok (pc := 57) (i := 0) C.hx C.hb dX8_ship_57 rfl ?_
      refine z_gf_ok (pc := 58) C zK8 (f := 27) (by decide) zw_884 rfl dX8_ship_58 ?_
      refine z_bipush_ok (pc := 61) (v := 6) C.hx C.hb dX8_ship_61 (by decide) ?_
      refine z_iload_n_ok (pc := 63) (i := 1) C.hx C.hb dX8_ship_63 rfl ?_
      refine z_imul_ok (pc := 64) C.hx C.hb dX8_ship_64 ?_
      refine z_iload_n_ok (pc := 65) (i := 2) C.hx C.hb dX8_ship_65 rfl ?_
      refine z_iadd_ok (pc := 66) C.hx C.hb dX8_ship_66 ?_
      refine z_dup2_ok (pc := 67) C.hx C.hb dX8_ship_67 ?_
      refine z_iald_ok (pc := 68) C dX8_ship_68 ?_
      refine z_iload_n_ok (pc := 69) (i := 3) C.hx C.hb dX8_ship_69 rfl ?_
      refine z_iadd_ok (pc := 70) C.hx C.hb dX8_ship_70 ?_
      refine z_iast_ok (pc := 71) C dX8_ship_71 ?_
      refine z_aload_n_ok (pc := 72) (i := 0) C.hx C.hb dX8_ship_72 rfl ?_
      refine z_gf_ok (pc := 73) C zK8 (f := 27) (by decide) zw_884 rfl dX8_ship_73 ?_
      refine z_bipush_ok (pc := 76) (v := 6) C.hx C.hb dX8_ship_76 (by decide) ?_
      refine z_iload_n_ok (pc := 78) (i := 1) C.hx C.hb dX8_ship_78 rfl ?_
      refine z_imul_ok (pc := 79) C.hx C.hb dX8_ship_79 ?_
      refine z_iload_n_ok (pc := 80) (i := 2) C.hx C.hb dX8_ship_80 rfl ?_
      refine z_iadd_ok (pc := 81) C.hx C.hb dX8_ship_81 ?_
      refine z_iald_ok (pc := 82) C dX8_ship_82 ?_
      exact z_iret_ok (pc := 83) C dX8_ship_83
    · refine z_iconst_ok (pc := 45) (v := 0) C.hx C.hb dX8_ship_45 (by decide) ?_
      exact z_iret_ok (pc := 46) C dX8_ship_46
  · refine z_iconst_ok (pc := 28) (v := 0) C.hx C.hb dX8_ship_28 (by decide) ?_
    exact z_iret_ok (pc := 29) C dX8_ship_29
def zb_X8_ship_20 : ZP := (z_push 0 zb_X8_ship_21)
set_option maxRecDepth 20000 in
theorem zk_X8_ship_20 {X : ZX} (C : zCx X cX8_ship RX8 (some .int) 2 43 1 6) (hn : X.nL = 4) : ZOK X 20 (zb_X8_ship_20) := by
  unfold zb_X8_ship_20
  refine z_iconst_ok (pc := 20) (v := 0) C.hx C.hb dX8_ship_20 (by decide) ?_
  exact zk_X8_ship_21 C hn 
def zb_X8_ship_0 : ZP := (z_ald 0 (z_ald 0 (z_ild 1 (z_invV 8 1 sp_X8_isDepot (z_if (fun x => x = 0) zb_X8_ship_20 (z_ild 2 (z_invS 1 sp_X8_isGood (z_if (fun x => x = 0) zb_X8_ship_20 (z_push 1 zb_X8_ship_21)))))))))
set_option maxRecDepth 20000 in
theorem zk_X8_ship_0 {X : ZX} (C : zCx X cX8_ship RX8 (some .int) 2 43 1 6) (hn : X.nL = 4) : ZOK X 0 (zb_X8_ship_0) := by
  unfold zb_X8_ship_0
  refine z_aload_n_ok (pc := 0) (i := 0) C.hx C.hb dX8_ship_0 rfl ?_
  refine z_aload_n_ok (pc := 1) (i := 0) C.hx C.hb dX8_ship_1 rfl ?_
  refine z_iload_n_ok (pc := 2) (i := 1) C.hx C.hb dX8_ship_2 rfl ?_
  refine z_invV_ok (pc := 3) C (by decide +kernel) (zm_X8_isDepot X.l C.htr) ⟨rfl, rfl⟩ ⟨by decide, by decide⟩ (by decide) (by decide) zcl_X8_173 zw_1111 zw_34 zK8 dX8_ship_3 ?_
  refine z_if_eq_ok (pc := 6) (tgt := 20) C.hx C.hb dX8_ship_6 (by decide) ?_ ?_
  · exact zk_X8_ship_20 C hn 
  · refine z_iload_n_ok (pc := 9) (i := 2) C.hx C.hb dX8_ship_9 rfl ?_
    refine z_invS_ok (pc := 10) C (by decide +kernel) (zm_X8_isGood X.l C.htr) ⟨rfl, rfl⟩ ⟨by decide, by decide⟩ (by decide) (by decide) zcl_X8_133 zw_1009 dX8_ship_10 ?_
    refine z_if_eq_ok (pc := 13) (tgt := 20) C.hx C.hb dX8_ship_13 (by decide) ?_ ?_
    · exact zk_X8_ship_20 C hn 
    · refine z_iconst_ok (pc := 16) (v := 1) C.hx C.hb dX8_ship_16 (by decide) ?_
      refine z_goto_ok (pc := 17) (tgt := 21) C.hx C.hb dX8_ship_17 (by decide) ?_
      exact zk_X8_ship_21 C hn 
def sp_X8_ship : ZSp := fun as S K => as.length ≤ 4 ∧ zsp 4 zb_X8_ship_0 as S K
theorem zm_X8_ship (l : Launch) (hl : l.stackTraces = false) : zMet l yX8_ship cX8_ship 4 (some .int) { frames := 2, cells := 1, slots := 6, locals := 43 } 0 0 sp_X8_ship := zMet_of hl (by decide +kernel) ⟨rfl, rfl⟩ (fun X C hn _ => zk_X8_ship_0 C hn)
theorem dX8_shop_0 : decode cX8_shop 0 = .ok (.aload_n 0, 1) := by decide +kernel
theorem dX8_shop_1 : decode cX8_shop 1 = .ok (.aload_n 0, 1) := by decide +kernel
theorem dX8_shop_2 : decode cX8_shop 2 = .ok (.iload_n 1, 1) := by decide +kernel
theorem dX8_shop_3 : decode cX8_shop 3 = .ok (.invokevirtual 173, 3) := by decide +kernel
theorem dX8_shop_6 : decode cX8_shop 6 = .ok (.iconst 1, 1) := by decide +kernel
theorem dX8_shop_7 : decode cX8_shop 7 = .ok (.invokevirtual 137, 3) := by decide +kernel
theorem dX8_shop_10 : decode cX8_shop 10 = .ok (.ifCond .eq 5, 3) := by decide +kernel
theorem dX8_shop_13 : decode cX8_shop 13 = .ok (.iconst 0, 1) := by decide +kernel
theorem dX8_shop_14 : decode cX8_shop 14 = .ok (.ireturn, 1) := by decide +kernel
theorem dX8_shop_15 : decode cX8_shop 15 = .ok (.aload_n 0, 1) := by decide +kernel
theorem dX8_shop_16 : decode cX8_shop 16 = .ok (.aload_n 0, 1) := by decide +kernel
theorem dX8_shop_17 : decode cX8_shop 17 = .ok (.getfield 127, 3) := by decide +kernel
theorem dX8_shop_20 : decode cX8_shop 20 = .ok (.bipush 6, 2) := by decide +kernel
theorem dX8_shop_22 : decode cX8_shop 22 = .ok (.if_icmp .ge 7, 3) := by decide +kernel
theorem dX8_shop_25 : decode cX8_shop 25 = .ok (.iconst 1, 1) := by decide +kernel
theorem dX8_shop_26 : decode cX8_shop 26 = .ok (.goto 4, 3) := by decide +kernel
theorem dX8_shop_29 : decode cX8_shop 29 = .ok (.iconst 0, 1) := by decide +kernel
theorem dX8_shop_30 : decode cX8_shop 30 = .ok (.iconst 2, 1) := by decide +kernel
theorem dX8_shop_31 : decode cX8_shop 31 = .ok (.invokevirtual 137, 3) := by decide +kernel
theorem dX8_shop_34 : decode cX8_shop 34 = .ok (.ifCond .eq 5, 3) := by decide +kernel
theorem dX8_shop_37 : decode cX8_shop 37 = .ok (.iconst 0, 1) := by decide +kernel
theorem dX8_shop_38 : decode cX8_shop 38 = .ok (.ireturn, 1) := by decide +kernel
theorem dX8_shop_39 : decode cX8_shop 39 = .ok (.aload_n 0, 1) := by decide +kernel
theorem dX8_shop_40 : decode cX8_shop 40 = .ok (.getfield 81, 3) := by decide +kernel
theorem dX8_shop_43 : decode cX8_shop 43 = .ok (.aload_n 0, 1) := by decide +kernel
theorem dX8_shop_44 : decode cX8_shop 44 = .ok (.getfield 127, 3) := by decide +kernel
theorem dX8_shop_47 : decode cX8_shop 47 = .ok (.iload_n 1, 1) := by decide +kernel
theorem dX8_shop_48 : decode cX8_shop 48 = .ok (.iastore, 1) := by decide +kernel
theorem dX8_shop_49 : decode cX8_shop 49 = .ok (.aload_n 0, 1) := by decide +kernel
theorem dX8_shop_50 : decode cX8_shop 50 = .ok (.dup, 1) := by decide +kernel
theorem dX8_shop_51 : decode cX8_shop 51 = .ok (.getfield 127, 3) := by decide +kernel
theorem dX8_shop_54 : decode cX8_shop 54 = .ok (.iconst 1, 1) := by decide +kernel
theorem dX8_shop_55 : decode cX8_shop 55 = .ok (.iadd, 1) := by decide +kernel
theorem dX8_shop_56 : decode cX8_shop 56 = .ok (.putfield 127, 3) := by decide +kernel
theorem dX8_shop_59 : decode cX8_shop 59 = .ok (.aload_n 0, 1) := by decide +kernel
theorem dX8_shop_60 : decode cX8_shop 60 = .ok (.getfield 127, 3) := by decide +kernel
theorem dX8_shop_63 : decode cX8_shop 63 = .ok (.iconst 1, 1) := by decide +kernel
theorem dX8_shop_64 : decode cX8_shop 64 = .ok (.isub, 1) := by decide +kernel
theorem dX8_shop_65 : decode cX8_shop 65 = .ok (.ireturn, 1) := by decide +kernel
def zb_X8_shop_30 : ZP := (z_push 2 (z_invV 8 2 sp_X8_fails (z_if (fun x => x = 0) (z_ald 0 (z_gf 8 29 (z_ald 0 (z_gf 8 28 (z_ild 1 (z_iast (z_ald 0 (z_dup (z_gf 8 28 (z_push 1 (z_bin (fun x y => x + y) (z_pf 8 28 (z_ald 0 (z_gf 8 28 (z_push 1 (z_bin (fun x y => x - y) (z_ret 1))))))))))))))))) (z_push 0 (z_ret 1)))))
set_option maxRecDepth 20000 in
theorem zk_X8_shop_30 {X : ZX} (C : zCx X cX8_shop RX8 (some .int) 2 43 1 6) (hn : X.nL = 2) : ZOK X 30 (zb_X8_shop_30) := by
  unfold zb_X8_shop_30
  refine z_iconst_ok (pc := 30) (v := 2) C.hx C.hb dX8_shop_30 (by decide) ?_
  refine z_invV_ok (pc := 31) C (by decide +kernel) (zm_X8_fails X.l C.htr) ⟨rfl, rfl⟩ ⟨by decide, by decide⟩ (by decide) (by decide) zcl_X8_137 zw_1016 zw_25 zK8 dX8_shop_31 ?_
  refine z_if_eq_ok (pc := 34) (tgt := 39) C.hx C.hb dX8_shop_34 (by decide) ?_ ?_
  · refine z_aload_n_ok (pc := 39) (i := 0) C.hx C.hb dX8_shop_39 rfl ?_
    refine z_gf_ok (pc := 40) C zK8 (f := 29) (by decide) zw_886 rfl dX8_shop_40 ?_
    refine z_aload_n_ok (pc := 43) (i := 0) C.hx C.hb dX8_shop_43 rfl ?_
    refine z_gf_ok (pc := 44) C zK8 (f := 28) (by decide) zw_885 rfl dX8_shop_44 ?_
    refine z_iload_n_ok (pc := 47) (i := 1) C.hx C.hb dX8_shop_47 rfl ?_
    refine z_iast_ok (pc := 48) C dX8_shop_48 ?_
    refine z_aload_n_ok (pc := 49) (i := 0) C.hx C.hb dX8_shop_49 rfl ?_
    refine z_dup_ok (pc := 50) C.hx C.hb dX8_shop_50 ?_
    refine z_gf_ok (pc := 51) C zK8 (f := 28) (by decide) zw_885 rfl dX8_shop_51 ?_
    refine z_iconst_ok (pc := 54) (v := 1) C.hx C.hb dX8_shop_54 (by decide) ?_
    refine z_iadd_ok (pc := 55) C.hx C.hb dX8_shop_55 ?_
    refine z_pf_ok (pc := 56) C zK8 rfl rfl (f := 28) (by decide) zw_885 rfl rfl (by decide +kernel) dX8_shop_56 ?_
    refine z_aload_n_ok (pc := 59) (i := 0) C.hx C.hb dX8_shop_59 rfl ?_
    refine z_gf_ok (pc := 60) C zK8 (f := 28) (by decide) zw_885 rfl dX8_shop_60 ?_
    refine z_iconst_ok (pc := 63) (v := 1) C.hx C.hb dX8_shop_63 (by decide) ?_
    refine z_isub_ok (pc := 64) C.hx C.hb dX8_shop_64 ?_
    exact z_iret_ok (pc := 65) C dX8_shop_65
  · refine z_iconst_ok (pc := 37) (v := 0) C.hx C.hb dX8_shop_37 (by decide) ?_
    exact z_iret_ok (pc := 38) C dX8_shop_38
def zb_X8_shop_0 : ZP := (z_ald 0 (z_ald 0 (z_ild 1 (z_invV 8 1 sp_X8_isDepot (z_push 1 (z_invV 8 2 sp_X8_fails (z_if (fun x => x = 0) (z_ald 0 (z_ald 0 (z_gf 8 28 (z_push 6 (z_cmp (fun x y => y ≤ x) (z_push 0 zb_X8_shop_30) (z_push 1 zb_X8_shop_30)))))) (z_push 0 (z_ret 1)))))))))
set_option maxRecDepth 20000 in
theorem zk_X8_shop_0 {X : ZX} (C : zCx X cX8_shop RX8 (some .int) 2 43 1 6) (hn : X.nL = 2) : ZOK X 0 (zb_X8_shop_0) := by
  unfold zb_X8_shop_0
  refine z_aload_n_ok (pc := 0) (i := 0) C.hx C.hb dX8_shop_0 rfl ?_
  refine z_aload_n_ok (pc := 1) (i := 0) C.hx C.hb dX8_shop_1 rfl ?_
  refine z_iload_n_ok (pc := 2) (i := 1) C.hx C.hb dX8_shop_2 rfl ?_
  refine z_invV_ok (pc := 3) C (by decide +kernel) (zm_X8_isDepot X.l C.htr) ⟨rfl, rfl⟩ ⟨by decide, by decide⟩ (by decide) (by decide) zcl_X8_173 zw_1111 zw_34 zK8 dX8_shop_3 ?_
  refine z_iconst_ok (pc := 6) (v := 1) C.hx C.hb dX8_shop_6 (by decide) ?_
  refine z_invV_ok (pc := 7) C (by decide +kernel) (zm_X8_fails X.l C.htr) ⟨rfl, rfl⟩ ⟨by decide, by decide⟩ (by decide) (by decide) zcl_X8_137 zw_1016 zw_25 zK8 dX8_shop_7 ?_
  refine z_if_eq_ok (pc := 10) (tgt := 15) C.hx C.hb dX8_shop_10 (by decide) ?_ ?_
  · refine z_aload_n_ok (pc := 15) (i := 0) C.hx C.hb dX8_shop_15 rfl ?_
    refine z_aload_n_ok (pc := 16) (i := 0) C.hx C.hb dX8_shop_16 rfl ?_
    refine z_gf_ok (pc := 17) C zK8 (f := 28) (by decide) zw_885 rfl dX8_shop_17 ?_
    refine z_bipush_ok (pc := 20) (v := 6) C.hx C.hb dX8_shop_20 (by decide) ?_
    refine z_icmp_ge_ok (pc := 22) (tgt := 29) C.hx C.hb dX8_shop_22 (by decide) ?_ ?_
    · refine z_iconst_ok (pc := 29) (v := 0) C.hx C.hb dX8_shop_29 (by decide) ?_
      exact zk_X8_shop_30 C hn 
    · refine z_iconst_ok (pc := 25) (v := 1) C.hx C.hb dX8_shop_25 (by decide) ?_
      refine z_goto_ok (pc := 26) (tgt := 30) C.hx C.hb dX8_shop_26 (by decide) ?_
      exact zk_X8_shop_30 C hn 
  · refine z_iconst_ok (pc := 13) (v := 0) C.hx C.hb dX8_shop_13 (by decide) ?_
    exact z_iret_ok (pc := 14) C dX8_shop_14
def sp_X8_shop : ZSp := fun as S K => as.length ≤ 2 ∧ zsp 2 zb_X8_shop_0 as S K
theorem zm_X8_shop (l : Launch) (hl : l.stackTraces = false) : zMet l yX8_shop cX8_shop 2 (some .int) { frames := 2, cells := 1, slots := 6, locals := 43 } 0 0 sp_X8_shop := zMet_of hl (by decide +kernel) ⟨rfl, rfl⟩ (fun X C hn _ => zk_X8_shop_0 C hn)
theorem dX8_shopIs_0 : decode cX8_shopIs 0 = .ok (.aload_n 0, 1) := by decide +kernel
theorem dX8_shopIs_1 : decode cX8_shopIs 1 = .ok (.aload_n 0, 1) := by decide +kernel
theorem dX8_shopIs_2 : decode cX8_shopIs 2 = .ok (.iload_n 1, 1) := by decide +kernel
theorem dX8_shopIs_3 : decode cX8_shopIs 3 = .ok (.invokevirtual 145, 3) := by decide +kernel
theorem dX8_shopIs_6 : decode cX8_shopIs 6 = .ok (.ifCond .eq 14, 3) := by decide +kernel
theorem dX8_shopIs_9 : decode cX8_shopIs 9 = .ok (.iload_n 2, 1) := by decide +kernel
theorem dX8_shopIs_10 : decode cX8_shopIs 10 = .ok (.invokestatic 133, 3) := by decide +kernel
theorem dX8_shopIs_13 : decode cX8_shopIs 13 = .ok (.ifCond .eq 7, 3) := by decide +kernel
theorem dX8_shopIs_16 : decode cX8_shopIs 16 = .ok (.iconst 1, 1) := by decide +kernel
theorem dX8_shopIs_17 : decode cX8_shopIs 17 = .ok (.goto 4, 3) := by decide +kernel
theorem dX8_shopIs_20 : decode cX8_shopIs 20 = .ok (.iconst 0, 1) := by decide +kernel
theorem dX8_shopIs_21 : decode cX8_shopIs 21 = .ok (.iconst 1, 1) := by decide +kernel
theorem dX8_shopIs_22 : decode cX8_shopIs 22 = .ok (.invokevirtual 137, 3) := by decide +kernel
theorem dX8_shopIs_25 : decode cX8_shopIs 25 = .ok (.ifCond .eq 5, 3) := by decide +kernel
theorem dX8_shopIs_28 : decode cX8_shopIs 28 = .ok (.iconst 0, 1) := by decide +kernel
theorem dX8_shopIs_29 : decode cX8_shopIs 29 = .ok (.ireturn, 1) := by decide +kernel
theorem dX8_shopIs_30 : decode cX8_shopIs 30 = .ok (.aload_n 0, 1) := by decide +kernel
theorem dX8_shopIs_31 : decode cX8_shopIs 31 = .ok (.iload_n 3, 1) := by decide +kernel
theorem dX8_shopIs_32 : decode cX8_shopIs 32 = .ok (.iconst 0, 1) := by decide +kernel
theorem dX8_shopIs_33 : decode cX8_shopIs 33 = .ok (.iconst 4, 1) := by decide +kernel
theorem dX8_shopIs_34 : decode cX8_shopIs 34 = .ok (.invokestatic 120, 3) := by decide +kernel
theorem dX8_shopIs_37 : decode cX8_shopIs 37 = .ok (.iconst 2, 1) := by decide +kernel
theorem dX8_shopIs_38 : decode cX8_shopIs 38 = .ok (.invokevirtual 137, 3) := by decide +kernel
theorem dX8_shopIs_41 : decode cX8_shopIs 41 = .ok (.ifCond .eq 5, 3) := by decide +kernel
theorem dX8_shopIs_44 : decode cX8_shopIs 44 = .ok (.iconst 0, 1) := by decide +kernel
theorem dX8_shopIs_45 : decode cX8_shopIs 45 = .ok (.ireturn, 1) := by decide +kernel
theorem dX8_shopIs_46 : decode cX8_shopIs 46 = .ok (.bipush 6, 2) := by decide +kernel
theorem dX8_shopIs_48 : decode cX8_shopIs 48 = .ok (.iload_n 1, 1) := by decide +kernel
theorem dX8_shopIs_49 : decode cX8_shopIs 49 = .ok (.imul, 1) := by decide +kernel
theorem dX8_shopIs_50 : decode cX8_shopIs 50 = .ok (.iload_n 2, 1) := by decide +kernel
theorem dX8_shopIs_51 : decode cX8_shopIs 51 = .ok (.iadd, 1) := by decide +kernel
theorem dX8_shopIs_52 : decode cX8_shopIs 52 = .ok (.istore 4, 2) := by decide +kernel
theorem dX8_shopIs_54 : decode cX8_shopIs 54 = .ok (.iload_n 3, 1) := by decide +kernel
theorem dX8_shopIs_55 : decode cX8_shopIs 55 = .ok (.ifCond .ne 13, 3) := by decide +kernel
theorem dX8_shopIs_58 : decode cX8_shopIs 58 = .ok (.aload_n 0, 1) := by decide +kernel
theorem dX8_shopIs_59 : decode cX8_shopIs 59 = .ok (.getfield 84, 3) := by decide +kernel
theorem dX8_shopIs_62 : decode cX8_shopIs 62 = .ok (.iload 4, 2) := by decide +kernel
theorem dX8_shopIs_64 : decode cX8_shopIs 64 = .ok (.iaload, 1) := by decide +kernel
theorem dX8_shopIs_65 : decode cX8_shopIs 65 = .ok (.goto 55, 3) := by decide +kernel
theorem dX8_shopIs_68 : decode cX8_shopIs 68 = .ok (.iload_n 3, 1) := by decide +kernel
theorem dX8_shopIs_69 : decode cX8_shopIs 69 = .ok (.iconst 1, 1) := by decide +kernel
theorem dX8_shopIs_70 : decode cX8_shopIs 70 = .ok (.if_icmp .ne 13, 3) := by decide +kernel
theorem dX8_shopIs_73 : decode cX8_shopIs 73 = .ok (.aload_n 0, 1) := by decide +kernel
theorem dX8_shopIs_74 : decode cX8_shopIs 74 = .ok (.getfield 87, 3) := by decide +kernel
theorem dX8_shopIs_77 : decode cX8_shopIs 77 = .ok (.iload 4, 2) := by decide +kernel
theorem dX8_shopIs_79 : decode cX8_shopIs 79 = .ok (.iaload, 1) := by decide +kernel
theorem dX8_shopIs_80 : decode cX8_shopIs 80 = .ok (.goto 40, 3) := by decide +kernel
theorem dX8_shopIs_83 : decode cX8_shopIs 83 = .ok (.iload_n 3, 1) := by decide +kernel
theorem dX8_shopIs_84 : decode cX8_shopIs 84 = .ok (.iconst 2, 1) := by decide +kernel
theorem dX8_shopIs_85 : decode cX8_shopIs 85 = .ok (.if_icmp .ne 13, 3) := by decide +kernel
theorem dX8_shopIs_88 : decode cX8_shopIs 88 = .ok (.aload_n 0, 1) := by decide +kernel
theorem dX8_shopIs_89 : decode cX8_shopIs 89 = .ok (.getfield 90, 3) := by decide +kernel
theorem dX8_shopIs_92 : decode cX8_shopIs 92 = .ok (.iload 4, 2) := by decide +kernel
theorem dX8_shopIs_94 : decode cX8_shopIs 94 = .ok (.iaload, 1) := by decide +kernel
theorem dX8_shopIs_95 : decode cX8_shopIs 95 = .ok (.goto 25, 3) := by decide +kernel
theorem dX8_shopIs_98 : decode cX8_shopIs 98 = .ok (.iload_n 3, 1) := by decide +kernel
theorem dX8_shopIs_99 : decode cX8_shopIs 99 = .ok (.iconst 3, 1) := by decide +kernel
theorem dX8_shopIs_100 : decode cX8_shopIs 100 = .ok (.if_icmp .ne 13, 3) := by decide +kernel
theorem dX8_shopIs_103 : decode cX8_shopIs 103 = .ok (.aload_n 0, 1) := by decide +kernel
theorem dX8_shopIs_104 : decode cX8_shopIs 104 = .ok (.getfield 93, 3) := by decide +kernel
theorem dX8_shopIs_107 : decode cX8_shopIs 107 = .ok (.iload 4, 2) := by decide +kernel
theorem dX8_shopIs_109 : decode cX8_shopIs 109 = .ok (.iaload, 1) := by decide +kernel
theorem dX8_shopIs_110 : decode cX8_shopIs 110 = .ok (.goto 10, 3) := by decide +kernel
theorem dX8_shopIs_113 : decode cX8_shopIs 113 = .ok (.aload_n 0, 1) := by decide +kernel
theorem dX8_shopIs_114 : decode cX8_shopIs 114 = .ok (.getfield 96, 3) := by decide +kernel
theorem dX8_shopIs_117 : decode cX8_shopIs 117 = .ok (.iload 4, 2) := by decide +kernel
theorem dX8_shopIs_119 : decode cX8_shopIs 119 = .ok (.iaload, 1) := by decide +kernel
theorem dX8_shopIs_120 : decode cX8_shopIs 120 = .ok (.ireturn, 1) := by decide +kernel
def zb_X8_shopIs_120 : ZP := (z_ret 1)
set_option maxRecDepth 20000 in
theorem zk_X8_shopIs_120 {X : ZX} (C : zCx X cX8_shopIs RX8 (some .int) 2 43 1 6) (hn : X.nL = 5) : ZOK X 120 (zb_X8_shopIs_120) := by
  unfold zb_X8_shopIs_120
  exact z_iret_ok (pc := 120) C dX8_shopIs_120
def zb_X8_shopIs_21 : ZP := (z_push 1 (z_invV 8 2 sp_X8_fails (z_if (fun x => x = 0) (z_ald 0 (z_ild 3 (z_push 0 (z_push 4 (z_invS 3 sp_X8_in (z_push 2 (z_invV 8 2 sp_X8_fails (z_if (fun x => x = 0) (z_push 6 (z_ild 1 (z_bin (fun x y => x * y) (z_ild 2 (z_bin (fun x y => x + y) (z_ist 4 (z_ild 3 (z_if (fun x => x = 0) (z_ald 0 (z_gf 8 30 (z_ild 4 (z_iald zb_X8_shopIs_120)))) (z_ild 3 (z_push 1 (z_cmp (fun x y => x = y) (z_ald 0 (z_gf 8 31 (z_ild 4 (z_iald zb_X8_shopIs_120)))) (z_ild 3 (z_push 2 (z_cmp (fun x y => x = y) (z_ald 0 (z_gf 8 32 (z_ild 4 (z_iald zb_X8_shopIs_120)))) (z_ild 3 (z_push 3 (z_cmp (fun x y => x = y) (z_ald 0 (z_gf 8 33 (z_ild 4 (z_iald zb_X8_shopIs_120)))) (z_ald 0 (z_gf 8 34 (z_ild 4 (z_iald zb_X8_shopIs_120))))))))))))))))))))) (z_push 0 (z_ret 1)))))))))) (z_push 0 (z_ret 1)))))
set_option maxRecDepth 20000 in
theorem zk_X8_shopIs_21 {X : ZX} (C : zCx X cX8_shopIs RX8 (some .int) 2 43 1 6) (hn : X.nL = 5) : ZOK X 21 (zb_X8_shopIs_21) := by
  unfold zb_X8_shopIs_21
  refine z_iconst_ok (pc := 21) (v := 1) C.hx C.hb dX8_shopIs_21 (by decide) ?_
  refine z_invV_ok (pc := 22) C (by decide +kernel) (zm_X8_fails X.l C.htr) ⟨rfl, rfl⟩ ⟨by decide, by decide⟩ (by decide) (by decide) zcl_X8_137 zw_1016 zw_25 zK8 dX8_shopIs_22 ?_
  refine z_if_eq_ok (pc := 25) (tgt := 30) C.hx C.hb dX8_shopIs_25 (by decide) ?_ ?_
  · refine z_aload_n_ok (pc := 30) (i := 0) C.hx C.hb dX8_shopIs_30 rfl ?_
    refine z_iload_n_ok (pc := 31) (i := 3) C.hx C.hb dX8_shopIs_31 rfl ?_
    refine z_iconst_ok (pc := 32) (v := 0) C.hx C.hb dX8_shopIs_32 (by decide) ?_
    refine z_iconst_ok (pc := 33) (v := 4) C.hx C.hb dX8_shopIs_33 (by decide) ?_
    refine z_invS_ok (pc := 34) C (by decide +kernel) (zm_X8_in X.l C.htr) ⟨rfl, rfl⟩ ⟨by decide, by decide⟩ (by decide) (by decide) zcl_X8_120 zw_1012 dX8_shopIs_34 ?_
    refine z_iconst_ok (pc := 37) (v := 2) C.hx C.hb dX8_shopIs_37 (by decide) ?_
    refine z_invV_ok (pc := 38) C (by decide +kernel) (zm_X8_fails X.l C.htr) ⟨rfl, rfl⟩ ⟨by decide, by decide⟩ (by decide) (by decide) zcl_X8_137 zw_1016 zw_25 zK8 dX8_shopIs_38 ?_
    refine z_if_eq_ok (pc := 41) (tgt := 46) C.hx C.hb dX8_shopIs_41 (by decide) ?_ ?_
    · refine z_bipush_ok (pc := 46) (v := 6) C.hx C.hb dX8_shopIs_46 (by decide) ?_
      refine z_iload_n_ok (pc := 48) (i := 1) C.hx C.hb dX8_shopIs_48 rfl ?_
      refine z_imul_ok (pc := 49) C.hx C.hb dX8_shopIs_49 ?_
      refine z_iload_n_ok (pc := 50) (i := 2) C.hx C.hb dX8_shopIs_50 rfl ?_
      refine z_iadd_ok (pc := 51) C.hx C.hb dX8_shopIs_51 ?_
      refine z_istore_ok (pc := 52) (i := 4) C.hx C.hb dX8_shopIs_52 (zlt hn (by decide)) ?_
      refine z_iload_n_ok (pc := 54) (i := 3) C.hx C.hb dX8_shopIs_54 rfl ?_
      refine z_if_ne_ok (pc := 55) (tgt := 68) C.hx C.hb dX8_shopIs_55 (by decide) ?_ ?_
      · refine z_iload_n_ok (pc := 68) (i := 3) C.hx C.hb dX8_shopIs_68 rfl ?_
        refine z_iconst_ok (pc := 69) (v := 1) C.hx C.hb dX8_shopIs_69 (by decide) ?_
        refine z_icmp_ne_ok (pc := 70) (tgt := 83) C.hx C.hb dX8_shopIs_70 (by decide) ?_ ?_
        · refine z_iload_n_ok (pc := 83) (i := 3) C.hx C.hb dX8_shopIs_83 rfl ?_
          refine z_iconst_ok (pc := 84) (v := 2) C.hx C.hb dX8_shopIs_84 (by decide) ?_
          refine z_icmp_ne_ok (pc := 85) (tgt := 98) C.hx C.hb dX8_shopIs_85 (by decide) ?_ ?_
          · refine z_iload_n_ok (pc := 98) (i := 3) C.hx C.hb dX8_shopIs_98 rfl ?_
            refine z_iconst_ok (pc := 99) (v := 3) C.hx C.hb dX8_shopIs_99 (by decide) ?_
            refine z_icmp_ne_ok (pc := 100) (tgt := 113) C.hx C.hb dX8_shopIs_100 (by decide) ?_ ?_
            · refine z_aload_n_ok (pc := 113) (i := 0) C.hx C.hb dX8_shopIs_113 rfl ?_
              refine z_gf_ok (pc := 114) C zK8 (f := 34) (by decide) zw_891 rfl dX8_shopIs_114 ?_
              refine z_iload_ok (pc := 117) (i := 4) C.hx C.hb dX8_shopIs_117 ?_
              refine z_iald_ok (pc := 119) C dX8_shopIs_119 ?_
              exact zk_X8_shopIs_120 C hn 
            · refine z_aload_n_ok (pc := 103) (i := 0) C.hx C.hb dX8_shopIs_103 rfl ?_
              refine z_gf_ok (pc := 104) C zK8 (f := 33) (by decide) zw_890 rfl dX8_shopIs_104 ?_
              refine z_iload_ok (pc := 107) (i := 4) C.hx C.hb dX8_shopIs_107 ?_
              refine z_iald_ok (pc := 109) C dX8_shopIs_109 ?_
              refine z_goto_ok (pc := 110) (tgt := 120) C.hx C.hb dX8_shopIs_110 (by decide) ?_
              exact zk_X8_shopIs_120 C hn 
          · refine z_aload_n_ok (pc := 88) (i := 0) C.hx C.hb dX8_shopIs_88 rfl ?_
            refine z_gf_ok (pc := 89) C zK8 (f := 32) (by decide) zw_889 rfl dX8_shopIs_89 ?_
            refine z_iload_ok (pc := 92) (i := 4) C.hx C.hb dX8_shopIs_92 ?_
            refine z_iald_ok (pc := 94) C dX8_shopIs_94 ?_
            refine z_goto_ok (pc := 95) (tgt := 120) C.hx C.hb dX8_shopIs_95 (by decide) ?_
            exact zk_X8_shopIs_120 C hn 
        · refine z_aload_n_ok (pc := 73) (i := 0) C.hx C.hb dX8_shopIs_73 rfl ?_
          refine z_gf_ok (pc := 74) C zK8 (f := 31) (by decide) zw_888 rfl dX8_shopIs_74 ?_
          refine z_iload_ok (pc := 77) (i := 4) C.hx C.hb dX8_shopIs_77 ?_
          refine z_iald_ok (pc := 79) C dX8_shopIs_79 ?_
          refine z_goto_ok (pc := 80) (tgt := 120) C.hx C.hb dX8_shopIs_80 (by decide) ?_
          exact zk_X8_shopIs_120 C hn 
      · refine z_aload_n_ok (pc := 58) (i := 0) C.hx C.hb dX8_shopIs_58 rfl ?_
        refine z_gf_ok (pc := 59) C zK8 (f := 30) (by decide) zw_887 rfl dX8_shopIs_59 ?_
        refine z_iload_ok (pc := 62) (i := 4) C.hx C.hb dX8_shopIs_62 ?_
        refine z_iald_ok (pc := 64) C dX8_shopIs_64 ?_
        refine z_goto_ok (pc := 65) (tgt := 120) C.hx C.hb dX8_shopIs_65 (by decide) ?_
        exact zk_X8_shopIs_120 C hn 
    · refine z_iconst_ok (pc := 44) (v := 0) C.hx C.hb dX8_shopIs_44 (by decide) ?_
      exact z_iret_ok (pc := 45) C dX8_shopIs_45
  · refine z_iconst_ok (pc := 28) (v := 0) C.hx C.hb dX8_shopIs_28 (by decide) ?_
    exact z_iret_ok (pc := 29) C dX8_shopIs_29
def zb_X8_shopIs_20 : ZP := (z_push 0 zb_X8_shopIs_21)
set_option maxRecDepth 20000 in
theorem zk_X8_shopIs_20 {X : ZX} (C : zCx X cX8_shopIs RX8 (some .int) 2 43 1 6) (hn : X.nL = 5) : ZOK X 20 (zb_X8_shopIs_20) := by
  unfold zb_X8_shopIs_20
  refine z_iconst_ok (pc := 20) (v := 0) C.hx C.hb dX8_shopIs_20 (by decide) ?_
  exact zk_X8_shopIs_21 C hn 
def zb_X8_shopIs_0 : ZP := (z_ald 0 (z_ald 0 (z_ild 1 (z_invV 8 1 sp_X8_isShop (z_if (fun x => x = 0) zb_X8_shopIs_20 (z_ild 2 (z_invS 1 sp_X8_isGood (z_if (fun x => x = 0) zb_X8_shopIs_20 (z_push 1 zb_X8_shopIs_21)))))))))
set_option maxRecDepth 20000 in
theorem zk_X8_shopIs_0 {X : ZX} (C : zCx X cX8_shopIs RX8 (some .int) 2 43 1 6) (hn : X.nL = 5) : ZOK X 0 (zb_X8_shopIs_0) := by
  unfold zb_X8_shopIs_0
  refine z_aload_n_ok (pc := 0) (i := 0) C.hx C.hb dX8_shopIs_0 rfl ?_
  refine z_aload_n_ok (pc := 1) (i := 0) C.hx C.hb dX8_shopIs_1 rfl ?_
  refine z_iload_n_ok (pc := 2) (i := 1) C.hx C.hb dX8_shopIs_2 rfl ?_
  refine z_invV_ok (pc := 3) C (by decide +kernel) (zm_X8_isShop X.l C.htr) ⟨rfl, rfl⟩ ⟨by decide, by decide⟩ (by decide) (by decide) zcl_X8_145 zw_1048 zw_27 zK8 dX8_shopIs_3 ?_
  refine z_if_eq_ok (pc := 6) (tgt := 20) C.hx C.hb dX8_shopIs_6 (by decide) ?_ ?_
  · exact zk_X8_shopIs_20 C hn 
  · refine z_iload_n_ok (pc := 9) (i := 2) C.hx C.hb dX8_shopIs_9 rfl ?_
    refine z_invS_ok (pc := 10) C (by decide +kernel) (zm_X8_isGood X.l C.htr) ⟨rfl, rfl⟩ ⟨by decide, by decide⟩ (by decide) (by decide) zcl_X8_133 zw_1009 dX8_shopIs_10 ?_
    refine z_if_eq_ok (pc := 13) (tgt := 20) C.hx C.hb dX8_shopIs_13 (by decide) ?_ ?_
    · exact zk_X8_shopIs_20 C hn 
    · refine z_iconst_ok (pc := 16) (v := 1) C.hx C.hb dX8_shopIs_16 (by decide) ?_
      refine z_goto_ok (pc := 17) (tgt := 21) C.hx C.hb dX8_shopIs_17 (by decide) ?_
      exact zk_X8_shopIs_21 C hn 
def sp_X8_shopIs : ZSp := fun as S K => as.length ≤ 5 ∧ zsp 5 zb_X8_shopIs_0 as S K
theorem zm_X8_shopIs (l : Launch) (hl : l.stackTraces = false) : zMet l yX8_shopIs cX8_shopIs 5 (some .int) { frames := 2, cells := 1, slots := 6, locals := 43 } 0 0 sp_X8_shopIs := zMet_of hl (by decide +kernel) ⟨rfl, rfl⟩ (fun X C hn _ => zk_X8_shopIs_0 C hn)
theorem dX8_steal_0 : decode cX8_steal 0 = .ok (.aload_n 0, 1) := by decide +kernel
theorem dX8_steal_1 : decode cX8_steal 1 = .ok (.aload_n 0, 1) := by decide +kernel
theorem dX8_steal_2 : decode cX8_steal 2 = .ok (.iload_n 1, 1) := by decide +kernel
theorem dX8_steal_3 : decode cX8_steal 3 = .ok (.invokevirtual 145, 3) := by decide +kernel
theorem dX8_steal_6 : decode cX8_steal 6 = .ok (.ifCond .eq 14, 3) := by decide +kernel
theorem dX8_steal_9 : decode cX8_steal 9 = .ok (.iload_n 2, 1) := by decide +kernel
theorem dX8_steal_10 : decode cX8_steal 10 = .ok (.invokestatic 133, 3) := by decide +kernel
theorem dX8_steal_13 : decode cX8_steal 13 = .ok (.ifCond .eq 7, 3) := by decide +kernel
theorem dX8_steal_16 : decode cX8_steal 16 = .ok (.iconst 1, 1) := by decide +kernel
theorem dX8_steal_17 : decode cX8_steal 17 = .ok (.goto 4, 3) := by decide +kernel
theorem dX8_steal_20 : decode cX8_steal 20 = .ok (.iconst 0, 1) := by decide +kernel
theorem dX8_steal_21 : decode cX8_steal 21 = .ok (.iconst 1, 1) := by decide +kernel
theorem dX8_steal_22 : decode cX8_steal 22 = .ok (.invokevirtual 137, 3) := by decide +kernel
theorem dX8_steal_25 : decode cX8_steal 25 = .ok (.ifCond .eq 5, 3) := by decide +kernel
theorem dX8_steal_28 : decode cX8_steal 28 = .ok (.iconst 0, 1) := by decide +kernel
theorem dX8_steal_29 : decode cX8_steal 29 = .ok (.ireturn, 1) := by decide +kernel
theorem dX8_steal_30 : decode cX8_steal 30 = .ok (.aload_n 0, 1) := by decide +kernel
theorem dX8_steal_31 : decode cX8_steal 31 = .ok (.iload_n 3, 1) := by decide +kernel
theorem dX8_steal_32 : decode cX8_steal 32 = .ok (.iconst 1, 1) := by decide +kernel
theorem dX8_steal_33 : decode cX8_steal 33 = .ok (.sipush 9999, 3) := by decide +kernel
theorem dX8_steal_36 : decode cX8_steal 36 = .ok (.invokestatic 120, 3) := by decide +kernel
theorem dX8_steal_39 : decode cX8_steal 39 = .ok (.iconst 2, 1) := by decide +kernel
theorem dX8_steal_40 : decode cX8_steal 40 = .ok (.invokevirtual 137, 3) := by decide +kernel
theorem dX8_steal_43 : decode cX8_steal 43 = .ok (.ifCond .eq 5, 3) := by decide +kernel
theorem dX8_steal_46 : decode cX8_steal 46 = .ok (.iconst 0, 1) := by decide +kernel
theorem dX8_steal_47 : decode cX8_steal 47 = .ok (.ireturn, 1) := by decide +kernel
theorem dX8_steal_48 : decode cX8_steal 48 = .ok (.bipush 6, 2) := by decide +kernel
theorem dX8_steal_50 : decode cX8_steal 50 = .ok (.iload_n 1, 1) := by decide +kernel
theorem dX8_steal_51 : decode cX8_steal 51 = .ok (.imul, 1) := by decide +kernel
theorem dX8_steal_52 : decode cX8_steal 52 = .ok (.iload_n 2, 1) := by decide +kernel
theorem dX8_steal_53 : decode cX8_steal 53 = .ok (.iadd, 1) := by decide +kernel
theorem dX8_steal_54 : decode cX8_steal 54 = .ok (.istore 4, 2) := by decide +kernel
theorem dX8_steal_56 : decode cX8_steal 56 = .ok (.aload_n 0, 1) := by decide +kernel
theorem dX8_steal_57 : decode cX8_steal 57 = .ok (.aload_n 0, 1) := by decide +kernel
theorem dX8_steal_58 : decode cX8_steal 58 = .ok (.getfield 84, 3) := by decide +kernel
theorem dX8_steal_61 : decode cX8_steal 61 = .ok (.iload 4, 2) := by decide +kernel
theorem dX8_steal_63 : decode cX8_steal 63 = .ok (.iaload, 1) := by decide +kernel
theorem dX8_steal_64 : decode cX8_steal 64 = .ok (.iload_n 3, 1) := by decide +kernel
theorem dX8_steal_65 : decode cX8_steal 65 = .ok (.if_icmp .lt 7, 3) := by decide +kernel
theorem dX8_steal_68 : decode cX8_steal 68 = .ok (.iconst 1, 1) := by decide +kernel
theorem dX8_steal_69 : decode cX8_steal 69 = .ok (.goto 4, 3) := by decide +kernel
theorem dX8_steal_72 : decode cX8_steal 72 = .ok (.iconst 0, 1) := by decide +kernel
theorem dX8_steal_73 : decode cX8_steal 73 = .ok (.iconst 3, 1) := by decide +kernel
theorem dX8_steal_74 : decode cX8_steal 74 = .ok (.invokevirtual 137, 3) := by decide +kernel
theorem dX8_steal_77 : decode cX8_steal 77 = .ok (.ifCond .eq 5, 3) := by decide +kernel
theorem dX8_steal_80 : decode cX8_steal 80 = .ok (.iconst 0, 1) := by decide +kernel
theorem dX8_steal_81 : decode cX8_steal 81 = .ok (.ireturn, 1) := by decide +kernel
theorem dX8_steal_82 : decode cX8_steal 82 = .ok (.aload_n 0, 1) := by decide +kernel
theorem dX8_steal_83 : decode cX8_steal 83 = .ok (.getfield 84, 3) := by decide +kernel
theorem dX8_steal_86 : decode cX8_steal 86 = .ok (.iload 4, 2) := by decide +kernel
theorem dX8_steal_88 : decode cX8_steal 88 = .ok (.dup2, 1) := by decide +kernel
theorem dX8_steal_89 : decode cX8_steal 89 = .ok (.iaload, 1) := by decide +kernel
theorem dX8_steal_90 : decode cX8_steal 90 = .ok (.iload_n 3, 1) := by decide +kernel
theorem dX8_steal_91 : decode cX8_steal 91 = .ok (.isub, 1) := by decide +kernel
theorem dX8_steal_92 : decode cX8_steal 92 = .ok (.iastore, 1) := by decide +kernel
theorem dX8_steal_93 : decode cX8_steal 93 = .ok (.aload_n 0, 1) := by decide +kernel
theorem dX8_steal_94 : decode cX8_steal 94 = .ok (.getfield 93, 3) := by decide +kernel
theorem dX8_steal_97 : decode cX8_steal 97 = .ok (.iload 4, 2) := by decide +kernel
theorem dX8_steal_99 : decode cX8_steal 99 = .ok (.dup2, 1) := by decide +kernel
theorem dX8_steal_100 : decode cX8_steal 100 = .ok (.iaload, 1) := by decide +kernel
theorem dX8_steal_101 : decode cX8_steal 101 = .ok (.iload_n 3, 1) := by decide +kernel
theorem dX8_steal_102 : decode cX8_steal 102 = .ok (.iadd, 1) := by decide +kernel
theorem dX8_steal_103 : decode cX8_steal 103 = .ok (.iastore, 1) := by decide +kernel
theorem dX8_steal_104 : decode cX8_steal 104 = .ok (.aload_n 0, 1) := by decide +kernel
theorem dX8_steal_105 : decode cX8_steal 105 = .ok (.getfield 32, 3) := by decide +kernel
theorem dX8_steal_108 : decode cX8_steal 108 = .ok (.iload_n 2, 1) := by decide +kernel
theorem dX8_steal_109 : decode cX8_steal 109 = .ok (.dup2, 1) := by decide +kernel
theorem dX8_steal_110 : decode cX8_steal 110 = .ok (.iaload, 1) := by decide +kernel
theorem dX8_steal_111 : decode cX8_steal 111 = .ok (.iload_n 3, 1) := by decide +kernel
theorem dX8_steal_112 : decode cX8_steal 112 = .ok (.iadd, 1) := by decide +kernel
theorem dX8_steal_113 : decode cX8_steal 113 = .ok (.iastore, 1) := by decide +kernel
theorem dX8_steal_114 : decode cX8_steal 114 = .ok (.aload_n 0, 1) := by decide +kernel
theorem dX8_steal_115 : decode cX8_steal 115 = .ok (.getfield 32, 3) := by decide +kernel
theorem dX8_steal_118 : decode cX8_steal 118 = .ok (.iload_n 2, 1) := by decide +kernel
theorem dX8_steal_119 : decode cX8_steal 119 = .ok (.iaload, 1) := by decide +kernel
theorem dX8_steal_120 : decode cX8_steal 120 = .ok (.ireturn, 1) := by decide +kernel
def zb_X8_steal_73 : ZP := (z_push 3 (z_invV 8 2 sp_X8_fails (z_if (fun x => x = 0) (z_ald 0 (z_gf 8 30 (z_ild 4 (z_dup2 (z_iald (z_ild 3 (z_bin (fun x y => x - y) (z_iast (z_ald 0 (z_gf 8 33 (z_ild 4 (z_dup2 (z_iald (z_ild 3 (z_bin (fun x y => x + y) (z_iast (z_ald 0 (z_gf 8 9 (z_ild 2 (z_dup2 (z_iald (z_ild 3 (z_bin (fun x y => x + y) (z_iast (z_ald 0 (z_gf 8 9 (z_ild 2 (z_iald (z_ret 1))))))))))))))))))))))))))))) (z_push 0 (z_ret 1)))))
set_option maxRecDepth 20000 in
theorem zk_X8_steal_73 {X : ZX} (C : zCx X cX8_steal RX8 (some .int) 2 43 1 6) (hn : X.nL = 5) : ZOK X 73 (zb_X8_steal_73) := by
  unfold zb_X8_steal_73
  refine z_iconst_ok (pc := 73) (v := 3) C.hx C.hb dX8_steal_73 (by decide) ?_
  refine z_invV_ok (pc := 74) C (by decide +kernel) (zm_X8_fails X.l C.htr) ⟨rfl, rfl⟩ ⟨by decide, by decide⟩ (by decide) (by decide) zcl_X8_137 zw_1016 zw_25 zK8 dX8_steal_74 ?_
  refine z_if_eq_ok (pc := 77) (tgt := 82) C.hx C.hb dX8_steal_77 (by decide) ?_ ?_
  · refine z_aload_n_ok (pc := 82) (i := 0) C.hx C.hb dX8_steal_82 rfl ?_
    refine z_gf_ok (pc := 83) C zK8 (f := 30) (by decide) zw_887 rfl dX8_steal_83 ?_
    refine z_iload_ok (pc := 86) (i := 4) C.hx C.hb dX8_steal_86 ?_
    refine z_dup2_ok (pc := 88) C.hx C.hb dX8_steal_88 ?_
    refine z_iald_ok (pc := 89) C dX8_steal_89 ?_
    refine z_iload_n_ok (pc := 90) (i := 3) C.hx C.hb dX8_steal_90 rfl ?_
    refine z_isub_ok (pc := 91) C.hx C.hb dX8_steal_91 ?_
    refine z_iast_ok (pc := 92) C dX8_steal_92 ?_
    refine z_aload_n_ok (pc := 93) (i := 0) C.hx C.hb dX8_steal_93 rfl ?_
    refine z_gf_ok (pc := 94) C zK8 (f := 33) (by decide) zw_890 rfl dX8_steal_94 ?_
    refine z_iload_ok (pc := 97) (i := 4) C.hx C.hb dX8_steal_97 ?_
    refine z_dup2_ok (pc := 99) C.hx C.hb dX8_steal_99 ?_
    refine z_iald_ok (pc := 100) C dX8_steal_100 ?_
    refine z_iload_n_ok (pc := 101) (i := 3) C.hx C.hb dX8_steal_101 rfl ?_
    refine z_iadd_ok (pc := 102) C.hx C.hb dX8_steal_102 ?_
    refine z_iast_ok (pc := 103) C dX8_steal_103 ?_
    refine z_aload_n_ok (pc := 104) (i := 0) C.hx C.hb dX8_steal_104 rfl ?_
    refine z_gf_ok (pc := 105) C zK8 (f := 9) (by decide) zw_866 rfl dX8_steal_105 ?_
    refine z_iload_n_ok (pc := 108) (i := 2) C.hx C.hb dX8_steal_108 rfl ?_
    refine z_dup2_ok (pc := 109) C.hx C.hb dX8_steal_109 ?_
    refine z_iald_ok (pc := 110) C dX8_steal_110 ?_
    refine z_iload_n_ok (pc := 111) (i := 3) C.hx C.hb dX8_steal_111 rfl ?_
    refine z_iadd_ok (pc := 112) C.hx C.hb dX8_steal_112 ?_
    refine z_iast_ok (pc := 113) C dX8_steal_113 ?_
    refine z_aload_n_ok (pc := 114) (i := 0) C.hx C.hb dX8_steal_114 rfl ?_
    refine z_gf_ok (pc := 115) C zK8 (f := 9) (by decide) zw_866 rfl dX8_steal_115 ?_
    refine z_iload_n_ok (pc := 118) (i := 2) C.hx C.hb dX8_steal_118 rfl ?_
    refine z_iald_ok (pc := 119) C dX8_steal_119 ?_
    exact z_iret_ok (pc := 120) C dX8_steal_120
  · refine z_iconst_ok (pc := 80) (v := 0) C.hx C.hb dX8_steal_80 (by decide) ?_
    exact z_iret_ok (pc := 81) C dX8_steal_81
def zb_X8_steal_21 : ZP := (z_push 1 (z_invV 8 2 sp_X8_fails (z_if (fun x => x = 0) (z_ald 0 (z_ild 3 (z_push 1 (z_push 9999 (z_invS 3 sp_X8_in (z_push 2 (z_invV 8 2 sp_X8_fails (z_if (fun x => x = 0) (z_push 6 (z_ild 1 (z_bin (fun x y => x * y) (z_ild 2 (z_bin (fun x y => x + y) (z_ist 4 (z_ald 0 (z_ald 0 (z_gf 8 30 (z_ild 4 (z_iald (z_ild 3 (z_cmp (fun x y => x < y) (z_push 0 zb_X8_steal_73) (z_push 1 zb_X8_steal_73)))))))))))))) (z_push 0 (z_ret 1)))))))))) (z_push 0 (z_ret 1)))))
set_option maxRecDepth 20000 in
theorem zk_X8_steal_21 {X : ZX} (C : zCx X cX8_steal RX8 (some .int) 2 43 1 6) (hn : X.nL = 5) : ZOK X 21 (zb_X8_steal_21) := by
  unfold zb_X8_steal_21
  refine z_iconst_ok (pc := 21) (v := 1) C.hx C.hb dX8_steal_21 (by decide) ?_
  refine z_invV_ok (pc := 22) C (by decide +kernel) (zm_X8_fails X.l C.htr) ⟨rfl, rfl⟩ ⟨by decide, by decide⟩ (by decide) (by decide) zcl_X8_137 zw_1016 zw_25 zK8 dX8_steal_22 ?_
  refine z_if_eq_ok (pc := 25) (tgt := 30) C.hx C.hb dX8_steal_25 (by decide) ?_ ?_
  · refine z_aload_n_ok (pc := 30) (i := 0) C.hx C.hb dX8_steal_30 rfl ?_
    refine z_iload_n_ok (pc := 31) (i := 3) C.hx C.hb dX8_steal_31 rfl ?_
    refine z_iconst_ok (pc := 32) (v := 1) C.hx C.hb dX8_steal_32 (by decide) ?_
    refine z_sipush_ok (pc := 33) (v := 9999) C.hx C.hb dX8_steal_33 (by decide) ?_
    refine z_invS_ok (pc := 36) C (by decide +kernel) (zm_X8_in X.l C.htr) ⟨rfl, rfl⟩ ⟨by decide, by decide⟩ (by decide) (by decide) zcl_X8_120 zw_1012 dX8_steal_36 ?_
    refine z_iconst_ok (pc := 39) (v := 2) C.hx C.hb dX8_steal_39 (by decide) ?_
    refine z_invV_ok (pc := 40) C (by decide +kernel) (zm_X8_fails X.l C.htr) ⟨rfl, rfl⟩ ⟨by decide, by decide⟩ (by decide) (by decide) zcl_X8_137 zw_1016 zw_25 zK8 dX8_steal_40 ?_
    refine z_if_eq_ok (pc := 43) (tgt := 48) C.hx C.hb dX8_steal_43 (by decide) ?_ ?_
    · refine z_bipush_ok (pc := 48) (v := 6) C.hx C.hb dX8_steal_48 (by decide) ?_
      refine z_iload_n_ok (pc := 50) (i := 1) C.hx C.hb dX8_steal_50 rfl ?_
      refine z_imul_ok (pc := 51) C.hx C.hb dX8_steal_51 ?_
      refine z_iload_n_ok (pc := 52) (i := 2) C.hx C.hb dX8_steal_52 rfl ?_
      refine z_iadd_ok (pc := 53) C.hx C.hb dX8_steal_53 ?_
      refine z_istore_ok (pc := 54) (i := 4) C.hx C.hb dX8_steal_54 (zlt hn (by decide)) ?_
      refine z_aload_n_ok (pc := 56) (i := 0) C.hx C.hb dX8_steal_56 rfl ?_
      refine z_aload_n_ok (pc := 57) (i := 0) C.hx C.hb dX8_steal_57 rfl ?_
      refine z_gf_ok (pc := 58) C zK8 (f := 30) (by decide) zw_887 rfl dX8_steal_58 ?_
      refine z_iload_ok (pc := 61) (i := 4) C.hx C.hb dX8_steal_61 ?_
      refine z_iald_ok (pc := 63) C dX8_steal_63 ?_
      refine z_iload_n_ok (pc := 64) (i := 3) C.hx C.hb dX8_steal_64 rfl ?_
      refine z_icmp_lt_ok (pc := 65) (tgt := 72) C.hx C.hb dX8_steal_65 (by decide) ?_ ?_
      · refine z_iconst_ok (pc := 72) (v := 0) C.hx C.hb dX8_steal_72 (by decide) ?_
        exact zk_X8_steal_73 C hn 
      · refine z_iconst_ok (pc := 68) (v := 1) C.hx C.hb dX8_steal_68 (by decide) ?_
        refine z_goto_ok (pc := 69) (tgt := 73) C.hx C.hb dX8_steal_69 (by decide) ?_
        exact zk_X8_steal_73 C hn 
    · refine z_iconst_ok (pc := 46) (v := 0) C.hx C.hb dX8_steal_46 (by decide) ?_
      exact z_iret_ok (pc := 47) C dX8_steal_47
  · refine z_iconst_ok (pc := 28) (v := 0) C.hx C.hb dX8_steal_28 (by decide) ?_
    exact z_iret_ok (pc := 29) C dX8_steal_29
def zb_X8_steal_20 : ZP := (z_push 0 zb_X8_steal_21)
set_option maxRecDepth 20000 in
theorem zk_X8_steal_20 {X : ZX} (C : zCx X cX8_steal RX8 (some .int) 2 43 1 6) (hn : X.nL = 5) : ZOK X 20 (zb_X8_steal_20) := by
  unfold zb_X8_steal_20
  refine z_iconst_ok (pc := 20) (v := 0) C.hx C.hb dX8_steal_20 (by decide) ?_
  exact zk_X8_steal_21 C hn 
def zb_X8_steal_0 : ZP := (z_ald 0 (z_ald 0 (z_ild 1 (z_invV 8 1 sp_X8_isShop (z_if (fun x => x = 0) zb_X8_steal_20 (z_ild 2 (z_invS 1 sp_X8_isGood (z_if (fun x => x = 0) zb_X8_steal_20 (z_push 1 zb_X8_steal_21)))))))))
set_option maxRecDepth 20000 in
theorem zk_X8_steal_0 {X : ZX} (C : zCx X cX8_steal RX8 (some .int) 2 43 1 6) (hn : X.nL = 5) : ZOK X 0 (zb_X8_steal_0) := by
  unfold zb_X8_steal_0
  refine z_aload_n_ok (pc := 0) (i := 0) C.hx C.hb dX8_steal_0 rfl ?_
  refine z_aload_n_ok (pc := 1) (i := 0) C.hx C.hb dX8_steal_1 rfl ?_
  refine z_iload_n_ok (pc := 2) (i := 1) C.hx C.hb dX8_steal_2 rfl ?_
  refine z_invV_ok (pc := 3) C (by decide +kernel) (zm_X8_isShop X.l C.htr) ⟨rfl, rfl⟩ ⟨by decide, by decide⟩ (by decide) (by decide) zcl_X8_145 zw_1048 zw_27 zK8 dX8_steal_3 ?_
  refine z_if_eq_ok (pc := 6) (tgt := 20) C.hx C.hb dX8_steal_6 (by decide) ?_ ?_
  · exact zk_X8_steal_20 C hn 
  · refine z_iload_n_ok (pc := 9) (i := 2) C.hx C.hb dX8_steal_9 rfl ?_
    refine z_invS_ok (pc := 10) C (by decide +kernel) (zm_X8_isGood X.l C.htr) ⟨rfl, rfl⟩ ⟨by decide, by decide⟩ (by decide) (by decide) zcl_X8_133 zw_1009 dX8_steal_10 ?_
    refine z_if_eq_ok (pc := 13) (tgt := 20) C.hx C.hb dX8_steal_13 (by decide) ?_ ?_
    · exact zk_X8_steal_20 C hn 
    · refine z_iconst_ok (pc := 16) (v := 1) C.hx C.hb dX8_steal_16 (by decide) ?_
      refine z_goto_ok (pc := 17) (tgt := 21) C.hx C.hb dX8_steal_17 (by decide) ?_
      exact zk_X8_steal_21 C hn 
def sp_X8_steal : ZSp := fun as S K => as.length ≤ 5 ∧ zsp 5 zb_X8_steal_0 as S K
theorem zm_X8_steal (l : Launch) (hl : l.stackTraces = false) : zMet l yX8_steal cX8_steal 5 (some .int) { frames := 2, cells := 1, slots := 6, locals := 43 } 0 0 sp_X8_steal := zMet_of hl (by decide +kernel) ⟨rfl, rfl⟩ (fun X C hn _ => zk_X8_steal_0 C hn)
theorem dX8_stealBook_0 : decode cX8_stealBook 0 = .ok (.aload_n 0, 1) := by decide +kernel
theorem dX8_stealBook_1 : decode cX8_stealBook 1 = .ok (.aload_n 0, 1) := by decide +kernel
theorem dX8_stealBook_2 : decode cX8_stealBook 2 = .ok (.iload_n 1, 1) := by decide +kernel
theorem dX8_stealBook_3 : decode cX8_stealBook 3 = .ok (.invokevirtual 148, 3) := by decide +kernel
theorem dX8_stealBook_6 : decode cX8_stealBook 6 = .ok (.iconst 1, 1) := by decide +kernel
theorem dX8_stealBook_7 : decode cX8_stealBook 7 = .ok (.invokevirtual 137, 3) := by decide +kernel
theorem dX8_stealBook_10 : decode cX8_stealBook 10 = .ok (.ifCond .eq 5, 3) := by decide +kernel
theorem dX8_stealBook_13 : decode cX8_stealBook 13 = .ok (.iconst 0, 1) := by decide +kernel
theorem dX8_stealBook_14 : decode cX8_stealBook 14 = .ok (.ireturn, 1) := by decide +kernel
theorem dX8_stealBook_15 : decode cX8_stealBook 15 = .ok (.aload_n 0, 1) := by decide +kernel
theorem dX8_stealBook_16 : decode cX8_stealBook 16 = .ok (.aload_n 0, 1) := by decide +kernel
theorem dX8_stealBook_17 : decode cX8_stealBook 17 = .ok (.iload_n 1, 1) := by decide +kernel
theorem dX8_stealBook_18 : decode cX8_stealBook 18 = .ok (.invokevirtual 154, 3) := by decide +kernel
theorem dX8_stealBook_21 : decode cX8_stealBook 21 = .ok (.iconst 2, 1) := by decide +kernel
theorem dX8_stealBook_22 : decode cX8_stealBook 22 = .ok (.invokevirtual 137, 3) := by decide +kernel
theorem dX8_stealBook_25 : decode cX8_stealBook 25 = .ok (.ifCond .eq 5, 3) := by decide +kernel
theorem dX8_stealBook_28 : decode cX8_stealBook 28 = .ok (.iconst 0, 1) := by decide +kernel
theorem dX8_stealBook_29 : decode cX8_stealBook 29 = .ok (.ireturn, 1) := by decide +kernel
theorem dX8_stealBook_30 : decode cX8_stealBook 30 = .ok (.aload_n 0, 1) := by decide +kernel
theorem dX8_stealBook_31 : decode cX8_stealBook 31 = .ok (.iload_n 1, 1) := by decide +kernel
theorem dX8_stealBook_32 : decode cX8_stealBook 32 = .ok (.invokevirtual 164, 3) := by decide +kernel
theorem dX8_stealBook_35 : decode cX8_stealBook 35 = .ok (.istore_n 2, 1) := by decide +kernel
theorem dX8_stealBook_36 : decode cX8_stealBook 36 = .ok (.aload_n 0, 1) := by decide +kernel
theorem dX8_stealBook_37 : decode cX8_stealBook 37 = .ok (.getfield 59, 3) := by decide +kernel
theorem dX8_stealBook_40 : decode cX8_stealBook 40 = .ok (.iload_n 1, 1) := by decide +kernel
theorem dX8_stealBook_41 : decode cX8_stealBook 41 = .ok (.iconst 1, 1) := by decide +kernel
theorem dX8_stealBook_42 : decode cX8_stealBook 42 = .ok (.bastore, 1) := by decide +kernel
theorem dX8_stealBook_43 : decode cX8_stealBook 43 = .ok (.iload_n 2, 1) := by decide +kernel
theorem dX8_stealBook_44 : decode cX8_stealBook 44 = .ok (.ireturn, 1) := by decide +kernel
def zb_X8_stealBook_0 : ZP := (z_ald 0 (z_ald 0 (z_ild 1 (z_invV 8 1 sp_X8_isOne (z_push 1 (z_invV 8 2 sp_X8_fails (z_if (fun x => x = 0) (z_ald 0 (z_ald 0 (z_ild 1 (z_invV 8 1 sp_X8_hasBook (z_push 2 (z_invV 8 2 sp_X8_fails (z_if (fun x => x = 0) (z_ald 0 (z_ild 1 (z_invV 8 1 sp_X8_pointsOf (z_ist 2 (z_ald 0 (z_gf 8 19 (z_ild 1 (z_push 1 (z_bast (z_ild 2 (z_ret 1))))))))))) (z_push 0 (z_ret 1))))))))) (z_push 0 (z_ret 1)))))))))
set_option maxRecDepth 20000 in
theorem zk_X8_stealBook_0 {X : ZX} (C : zCx X cX8_stealBook RX8 (some .int) 3 64 1 6) (hn : X.nL = 3) : ZOK X 0 (zb_X8_stealBook_0) := by
  unfold zb_X8_stealBook_0
  refine z_aload_n_ok (pc := 0) (i := 0) C.hx C.hb dX8_stealBook_0 rfl ?_
  refine z_aload_n_ok (pc := 1) (i := 0) C.hx C.hb dX8_stealBook_1 rfl ?_
  refine z_iload_n_ok (pc := 2) (i := 1) C.hx C.hb dX8_stealBook_2 rfl ?_
  refine z_invV_ok (pc := 3) C (by decide +kernel) (zm_X8_isOne X.l C.htr) ⟨rfl, rfl⟩ ⟨by decide, by decide⟩ (by decide) (by decide) zcl_X8_148 zw_1056 zw_28 zK8 dX8_stealBook_3 ?_
  refine z_iconst_ok (pc := 6) (v := 1) C.hx C.hb dX8_stealBook_6 (by decide) ?_
  refine z_invV_ok (pc := 7) C (by decide +kernel) (zm_X8_fails X.l C.htr) ⟨rfl, rfl⟩ ⟨by decide, by decide⟩ (by decide) (by decide) zcl_X8_137 zw_1016 zw_25 zK8 dX8_stealBook_7 ?_
  refine z_if_eq_ok (pc := 10) (tgt := 15) C.hx C.hb dX8_stealBook_10 (by decide) ?_ ?_
  · refine z_aload_n_ok (pc := 15) (i := 0) C.hx C.hb dX8_stealBook_15 rfl ?_
    refine z_aload_n_ok (pc := 16) (i := 0) C.hx C.hb dX8_stealBook_16 rfl ?_
    refine z_iload_n_ok (pc := 17) (i := 1) C.hx C.hb dX8_stealBook_17 rfl ?_
    refine z_invV_ok (pc := 18) C (by decide +kernel) (zm_X8_hasBook X.l C.htr) ⟨rfl, rfl⟩ ⟨by decide, by decide⟩ (by decide) (by decide) zcl_X8_154 zw_1072 zw_30 zK8 dX8_stealBook_18 ?_
    refine z_iconst_ok (pc := 21) (v := 2) C.hx C.hb dX8_stealBook_21 (by decide) ?_
    refine z_invV_ok (pc := 22) C (by decide +kernel) (zm_X8_fails X.l C.htr) ⟨rfl, rfl⟩ ⟨by decide, by decide⟩ (by decide) (by decide) zcl_X8_137 zw_1016 zw_25 zK8 dX8_stealBook_22 ?_
    refine z_if_eq_ok (pc := 25) (tgt := 30) C.hx C.hb dX8_stealBook_25 (by decide) ?_ ?_
    · refine z_aload_n_ok (pc := 30) (i := 0) C.hx C.hb dX8_stealBook_30 rfl ?_
      refine z_iload_n_ok (pc := 31) (i := 1) C.hx C.hb dX8_stealBook_31 rfl ?_
      refine z_invV_ok (pc := 32) C (by decide +kernel) (zm_X8_pointsOf X.l C.htr) ⟨rfl, rfl⟩ ⟨by decide, by decide⟩ (by decide) (by decide) zcl_X8_164 zw_1076 zw_31 zK8 dX8_stealBook_32 ?_
      refine z_istore_n_ok (pc := 35) (i := 2) C.hx C.hb dX8_stealBook_35 rfl (zlt hn (by decide)) ?_
      refine z_aload_n_ok (pc := 36) (i := 0) C.hx C.hb dX8_stealBook_36 rfl ?_
      refine z_gf_ok (pc := 37) C zK8 (f := 19) (by decide) zw_876 rfl dX8_stealBook_37 ?_
      refine z_iload_n_ok (pc := 40) (i := 1) C.hx C.hb dX8_stealBook_40 rfl ?_
      refine z_iconst_ok (pc := 41) (v := 1) C.hx C.hb dX8_stealBook_41 (by decide) ?_
      refine z_bast_ok (pc := 42) C dX8_stealBook_42 ?_
      refine z_iload_n_ok (pc := 43) (i := 2) C.hx C.hb dX8_stealBook_43 rfl ?_
      exact z_iret_ok (pc := 44) C dX8_stealBook_44
    · refine z_iconst_ok (pc := 28) (v := 0) C.hx C.hb dX8_stealBook_28 (by decide) ?_
      exact z_iret_ok (pc := 29) C dX8_stealBook_29
  · refine z_iconst_ok (pc := 13) (v := 0) C.hx C.hb dX8_stealBook_13 (by decide) ?_
    exact z_iret_ok (pc := 14) C dX8_stealBook_14
def sp_X8_stealBook : ZSp := fun as S K => as.length ≤ 3 ∧ zsp 3 zb_X8_stealBook_0 as S K
theorem zm_X8_stealBook (l : Launch) (hl : l.stackTraces = false) : zMet l yX8_stealBook cX8_stealBook 3 (some .int) { frames := 3, cells := 1, slots := 6, locals := 64 } 0 0 sp_X8_stealBook := zMet_of hl (by decide +kernel) ⟨rfl, rfl⟩ (fun X C hn _ => zk_X8_stealBook_0 C hn)
theorem dX8_sum_0 : decode cX8_sum 0 = .ok (.aload_n 0, 1) := by decide +kernel
theorem dX8_sum_1 : decode cX8_sum 1 = .ok (.iload_n 1, 1) := by decide +kernel
theorem dX8_sum_2 : decode cX8_sum 2 = .ok (.iconst 0, 1) := by decide +kernel
theorem dX8_sum_3 : decode cX8_sum 3 = .ok (.bipush 8, 2) := by decide +kernel
theorem dX8_sum_5 : decode cX8_sum 5 = .ok (.invokestatic 120, 3) := by decide +kernel
theorem dX8_sum_8 : decode cX8_sum 8 = .ok (.iconst 1, 1) := by decide +kernel
theorem dX8_sum_9 : decode cX8_sum 9 = .ok (.invokevirtual 137, 3) := by decide +kernel
theorem dX8_sum_12 : decode cX8_sum 12 = .ok (.ifCond .eq 5, 3) := by decide +kernel
theorem dX8_sum_15 : decode cX8_sum 15 = .ok (.iconst 0, 1) := by decide +kernel
theorem dX8_sum_16 : decode cX8_sum 16 = .ok (.ireturn, 1) := by decide +kernel
theorem dX8_sum_17 : decode cX8_sum 17 = .ok (.iload_n 1, 1) := by decide +kernel
theorem dX8_sum_18 : decode cX8_sum 18 = .ok (.iconst 4, 1) := by decide +kernel
theorem dX8_sum_19 : decode cX8_sum 19 = .ok (.if_icmp .ge 41, 3) := by decide +kernel
theorem dX8_sum_22 : decode cX8_sum 22 = .ok (.iload_n 1, 1) := by decide +kernel
theorem dX8_sum_23 : decode cX8_sum 23 = .ok (.ifCond .ne 10, 3) := by decide +kernel
theorem dX8_sum_26 : decode cX8_sum 26 = .ok (.aload_n 0, 1) := by decide +kernel
theorem dX8_sum_27 : decode cX8_sum 27 = .ok (.getfield 214, 3) := by decide +kernel
theorem dX8_sum_30 : decode cX8_sum 30 = .ok (.goto 29, 3) := by decide +kernel
theorem dX8_sum_33 : decode cX8_sum 33 = .ok (.iload_n 1, 1) := by decide +kernel
theorem dX8_sum_34 : decode cX8_sum 34 = .ok (.iconst 1, 1) := by decide +kernel
theorem dX8_sum_35 : decode cX8_sum 35 = .ok (.if_icmp .ne 10, 3) := by decide +kernel
theorem dX8_sum_38 : decode cX8_sum 38 = .ok (.aload_n 0, 1) := by decide +kernel
theorem dX8_sum_39 : decode cX8_sum 39 = .ok (.getfield 177, 3) := by decide +kernel
theorem dX8_sum_42 : decode cX8_sum 42 = .ok (.goto 17, 3) := by decide +kernel
theorem dX8_sum_45 : decode cX8_sum 45 = .ok (.aload_n 0, 1) := by decide +kernel
theorem dX8_sum_46 : decode cX8_sum 46 = .ok (.iload_n 1, 1) := by decide +kernel
theorem dX8_sum_47 : decode cX8_sum 47 = .ok (.iconst 3, 1) := by decide +kernel
theorem dX8_sum_48 : decode cX8_sum 48 = .ok (.if_icmp .ne 7, 3) := by decide +kernel
theorem dX8_sum_51 : decode cX8_sum 51 = .ok (.iconst 1, 1) := by decide +kernel
theorem dX8_sum_52 : decode cX8_sum 52 = .ok (.goto 4, 3) := by decide +kernel
theorem dX8_sum_55 : decode cX8_sum 55 = .ok (.iconst 0, 1) := by decide +kernel
theorem dX8_sum_56 : decode cX8_sum 56 = .ok (.invokevirtual 224, 3) := by decide +kernel
theorem dX8_sum_59 : decode cX8_sum 59 = .ok (.ireturn, 1) := by decide +kernel
theorem dX8_sum_60 : decode cX8_sum 60 = .ok (.iconst 0, 1) := by decide +kernel
theorem dX8_sum_61 : decode cX8_sum 61 = .ok (.istore_n 2, 1) := by decide +kernel
theorem dX8_sum_62 : decode cX8_sum 62 = .ok (.iconst 0, 1) := by decide +kernel
theorem dX8_sum_63 : decode cX8_sum 63 = .ok (.istore_n 3, 1) := by decide +kernel
theorem dX8_sum_64 : decode cX8_sum 64 = .ok (.iload_n 3, 1) := by decide +kernel
theorem dX8_sum_65 : decode cX8_sum 65 = .ok (.bipush 6, 2) := by decide +kernel
theorem dX8_sum_67 : decode cX8_sum 67 = .ok (.if_icmp .ge 24, 3) := by decide +kernel
theorem dX8_sum_70 : decode cX8_sum 70 = .ok (.iload_n 1, 1) := by decide +kernel
theorem dX8_sum_71 : decode cX8_sum 71 = .ok (.bipush 6, 2) := by decide +kernel
theorem dX8_sum_73 : decode cX8_sum 73 = .ok (.if_icmp .ne 18, 3) := by decide +kernel
theorem dX8_sum_76 : decode cX8_sum 76 = .ok (.iload_n 2, 1) := by decide +kernel
theorem dX8_sum_77 : decode cX8_sum 77 = .ok (.aload_n 0, 1) := by decide +kernel
theorem dX8_sum_78 : decode cX8_sum 78 = .ok (.getfield 32, 3) := by decide +kernel
theorem dX8_sum_81 : decode cX8_sum 81 = .ok (.iload_n 3, 1) := by decide +kernel
theorem dX8_sum_82 : decode cX8_sum 82 = .ok (.iaload, 1) := by decide +kernel
theorem dX8_sum_83 : decode cX8_sum 83 = .ok (.iadd, 1) := by decide +kernel
theorem dX8_sum_84 : decode cX8_sum 84 = .ok (.istore_n 2, 1) := by decide +kernel
theorem dX8_sum_85 : decode cX8_sum 85 = .ok (.iinc 3 1, 3) := by decide +kernel
theorem dX8_sum_88 : decode cX8_sum 88 = .ok (.goto (-24), 3) := by decide +kernel
theorem dX8_sum_91 : decode cX8_sum 91 = .ok (.iconst 0, 1) := by decide +kernel
theorem dX8_sum_92 : decode cX8_sum 92 = .ok (.istore_n 3, 1) := by decide +kernel
theorem dX8_sum_93 : decode cX8_sum 93 = .ok (.iload_n 3, 1) := by decide +kernel
theorem dX8_sum_94 : decode cX8_sum 94 = .ok (.aload_n 0, 1) := by decide +kernel
theorem dX8_sum_95 : decode cX8_sum 95 = .ok (.getfield 124, 3) := by decide +kernel
theorem dX8_sum_98 : decode cX8_sum 98 = .ok (.if_icmp .ge 31, 3) := by decide +kernel
theorem dX8_sum_101 : decode cX8_sum 101 = .ok (.iload_n 1, 1) := by decide +kernel
theorem dX8_sum_102 : decode cX8_sum 102 = .ok (.bipush 7, 2) := by decide +kernel
theorem dX8_sum_104 : decode cX8_sum 104 = .ok (.if_icmp .ne 25, 3) := by decide +kernel
theorem dX8_sum_107 : decode cX8_sum 107 = .ok (.iload_n 2, 1) := by decide +kernel
theorem dX8_sum_108 : decode cX8_sum 108 = .ok (.aload_n 0, 1) := by decide +kernel
theorem dX8_sum_109 : decode cX8_sum 109 = .ok (.iload_n 3, 1) := by decide +kernel
theorem dX8_sum_110 : decode cX8_sum 110 = .ok (.invokevirtual 151, 3) := by decide +kernel
theorem dX8_sum_113 : decode cX8_sum 113 = .ok (.ifCond .eq 7, 3) := by decide +kernel
theorem dX8_sum_116 : decode cX8_sum 116 = .ok (.iconst 0, 1) := by decide +kernel
theorem dX8_sum_117 : decode cX8_sum 117 = .ok (.goto 4, 3) := by decide +kernel
theorem dX8_sum_120 : decode cX8_sum 120 = .ok (.iconst 1, 1) := by decide +kernel
theorem dX8_sum_121 : decode cX8_sum 121 = .ok (.iadd, 1) := by decide +kernel
theorem dX8_sum_122 : decode cX8_sum 122 = .ok (.istore_n 2, 1) := by decide +kernel
theorem dX8_sum_123 : decode cX8_sum 123 = .ok (.iinc 3 1, 3) := by decide +kernel
theorem dX8_sum_126 : decode cX8_sum 126 = .ok (.goto (-33), 3) := by decide +kernel
theorem dX8_sum_129 : decode cX8_sum 129 = .ok (.iload_n 1, 1) := by decide +kernel
theorem dX8_sum_130 : decode cX8_sum 130 = .ok (.iconst 4, 1) := by decide +kernel
theorem dX8_sum_131 : decode cX8_sum 131 = .ok (.if_icmp .ne 10, 3) := by decide +kernel
theorem dX8_sum_134 : decode cX8_sum 134 = .ok (.aload_n 0, 1) := by decide +kernel
theorem dX8_sum_135 : decode cX8_sum 135 = .ok (.getfield 183, 3) := by decide +kernel
theorem dX8_sum_138 : decode cX8_sum 138 = .ok (.goto 29, 3) := by decide +kernel
theorem dX8_sum_141 : decode cX8_sum 141 = .ok (.iload_n 1, 1) := by decide +kernel
theorem dX8_sum_142 : decode cX8_sum 142 = .ok (.iconst 5, 1) := by decide +kernel
theorem dX8_sum_143 : decode cX8_sum 143 = .ok (.if_icmp .ne 10, 3) := by decide +kernel
theorem dX8_sum_146 : decode cX8_sum 146 = .ok (.aload_n 0, 1) := by decide +kernel
theorem dX8_sum_147 : decode cX8_sum 147 = .ok (.getfield 180, 3) := by decide +kernel
theorem dX8_sum_150 : decode cX8_sum 150 = .ok (.goto 17, 3) := by decide +kernel
theorem dX8_sum_153 : decode cX8_sum 153 = .ok (.iload_n 1, 1) := by decide +kernel
theorem dX8_sum_154 : decode cX8_sum 154 = .ok (.bipush 8, 2) := by decide +kernel
theorem dX8_sum_156 : decode cX8_sum 156 = .ok (.if_icmp .ne 10, 3) := by decide +kernel
theorem dX8_sum_159 : decode cX8_sum 159 = .ok (.aload_n 0, 1) := by decide +kernel
theorem dX8_sum_160 : decode cX8_sum 160 = .ok (.getfield 203, 3) := by decide +kernel
theorem dX8_sum_163 : decode cX8_sum 163 = .ok (.goto 4, 3) := by decide +kernel
theorem dX8_sum_166 : decode cX8_sum 166 = .ok (.iload_n 2, 1) := by decide +kernel
theorem dX8_sum_167 : decode cX8_sum 167 = .ok (.ireturn, 1) := by decide +kernel
def zb_X8_sum_167 : ZP := (z_ret 1)
set_option maxRecDepth 20000 in
theorem zk_X8_sum_167 {X : ZX} (C : zCx X cX8_sum RX8 (some .int) 1 23 1 6) (hn : X.nL = 4) : ZOK X 167 (zb_X8_sum_167) := by
  unfold zb_X8_sum_167
  exact z_iret_ok (pc := 167) C dX8_sum_167
def zb_X8_sum_129 : ZP := (z_ild 1 (z_push 4 (z_cmp (fun x y => x = y) (z_ald 0 (z_gf 8 42 zb_X8_sum_167)) (z_ild 1 (z_push 5 (z_cmp (fun x y => x = y) (z_ald 0 (z_gf 8 43 zb_X8_sum_167)) (z_ild 1 (z_push 8 (z_cmp (fun x y => x = y) (z_ald 0 (z_gf 8 44 zb_X8_sum_167)) (z_ild 2 zb_X8_sum_167))))))))))
set_option maxRecDepth 20000 in
theorem zk_X8_sum_129 {X : ZX} (C : zCx X cX8_sum RX8 (some .int) 1 23 1 6) (hn : X.nL = 4) : ZOK X 129 (zb_X8_sum_129) := by
  unfold zb_X8_sum_129
  refine z_iload_n_ok (pc := 129) (i := 1) C.hx C.hb dX8_sum_129 rfl ?_
  refine z_iconst_ok (pc := 130) (v := 4) C.hx C.hb dX8_sum_130 (by decide) ?_
  refine z_icmp_ne_ok (pc := 131) (tgt := 141) C.hx C.hb dX8_sum_131 (by decide) ?_ ?_
  · refine z_iload_n_ok (pc := 141) (i := 1) C.hx C.hb dX8_sum_141 rfl ?_
    refine z_iconst_ok (pc := 142) (v := 5) C.hx C.hb dX8_sum_142 (by decide) ?_
    refine z_icmp_ne_ok (pc := 143) (tgt := 153) C.hx C.hb dX8_sum_143 (by decide) ?_ ?_
    · refine z_iload_n_ok (pc := 153) (i := 1) C.hx C.hb dX8_sum_153 rfl ?_
      refine z_bipush_ok (pc := 154) (v := 8) C.hx C.hb dX8_sum_154 (by decide) ?_
      refine z_icmp_ne_ok (pc := 156) (tgt := 166) C.hx C.hb dX8_sum_156 (by decide) ?_ ?_
      · refine z_iload_n_ok (pc := 166) (i := 2) C.hx C.hb dX8_sum_166 rfl ?_
        exact zk_X8_sum_167 C hn 
      · refine z_aload_n_ok (pc := 159) (i := 0) C.hx C.hb dX8_sum_159 rfl ?_
        refine z_gf_ok (pc := 160) C zK8 (f := 44) (by decide) zw_901 rfl dX8_sum_160 ?_
        refine z_goto_ok (pc := 163) (tgt := 167) C.hx C.hb dX8_sum_163 (by decide) ?_
        exact zk_X8_sum_167 C hn 
    · refine z_aload_n_ok (pc := 146) (i := 0) C.hx C.hb dX8_sum_146 rfl ?_
      refine z_gf_ok (pc := 147) C zK8 (f := 43) (by decide) zw_900 rfl dX8_sum_147 ?_
      refine z_goto_ok (pc := 150) (tgt := 167) C.hx C.hb dX8_sum_150 (by decide) ?_
      exact zk_X8_sum_167 C hn 
  · refine z_aload_n_ok (pc := 134) (i := 0) C.hx C.hb dX8_sum_134 rfl ?_
    refine z_gf_ok (pc := 135) C zK8 (f := 42) (by decide) zw_899 rfl dX8_sum_135 ?_
    refine z_goto_ok (pc := 138) (tgt := 167) C.hx C.hb dX8_sum_138 (by decide) ?_
    exact zk_X8_sum_167 C hn 
def zb_X8_sum_121 (J93 : ZP) : ZP := (z_bin (fun x y => x + y) (z_ist 2 (z_inc 3 (1) J93)))
set_option maxRecDepth 20000 in
theorem zk_X8_sum_121 {X : ZX} (C : zCx X cX8_sum RX8 (some .int) 1 23 1 6) (hn : X.nL = 4) {J93 : ZP} (hJ93 : ZOK X 93 J93) : ZOK X 121 (zb_X8_sum_121 J93) := by
  unfold zb_X8_sum_121
  refine z_iadd_ok (pc := 121) C.hx C.hb dX8_sum_121 ?_
  refine z_istore_n_ok (pc := 122) (i := 2) C.hx C.hb dX8_sum_122 rfl (zlt hn (by decide)) ?_
  refine z_iinc_ok (pc := 123) (i := 3) (v := 1) C.hx C.hb dX8_sum_123 (by decide) (zlt hn (by decide)) ?_
  refine z_goto_ok (pc := 126) (tgt := 93) C.hx C.hb dX8_sum_126 (by decide) ?_
  exact hJ93
def zb_X8_sum_93 (J93 : ZP) : ZP := (z_ild 3 (z_ald 0 (z_gf 8 10 (z_cmp (fun x y => y ≤ x) zb_X8_sum_129 (z_ild 1 (z_push 7 (z_cmp (fun x y => x = y) (z_ild 2 (z_ald 0 (z_ild 3 (z_invV 8 1 sp_X8_isDead (z_if (fun x => x = 0) (z_push 1 (zb_X8_sum_121 J93)) (z_push 0 (zb_X8_sum_121 J93))))))) zb_X8_sum_129)))))))
set_option maxRecDepth 20000 in
theorem zk_X8_sum_93 {X : ZX} (C : zCx X cX8_sum RX8 (some .int) 1 23 1 6) (hn : X.nL = 4) {J93 : ZP} (hJ93 : ZOK X 93 J93) : ZOK X 93 (zb_X8_sum_93 J93) := by
  unfold zb_X8_sum_93
  refine z_iload_n_ok (pc := 93) (i := 3) C.hx C.hb dX8_sum_93 rfl ?_
  refine z_aload_n_ok (pc := 94) (i := 0) C.hx C.hb dX8_sum_94 rfl ?_
  refine z_gf_ok (pc := 95) C zK8 (f := 10) (by decide) zw_867 rfl dX8_sum_95 ?_
  refine z_icmp_ge_ok (pc := 98) (tgt := 129) C.hx C.hb dX8_sum_98 (by decide) ?_ ?_
  · exact zk_X8_sum_129 C hn 
  · refine z_iload_n_ok (pc := 101) (i := 1) C.hx C.hb dX8_sum_101 rfl ?_
    refine z_bipush_ok (pc := 102) (v := 7) C.hx C.hb dX8_sum_102 (by decide) ?_
    refine z_icmp_ne_ok (pc := 104) (tgt := 129) C.hx C.hb dX8_sum_104 (by decide) ?_ ?_
    · exact zk_X8_sum_129 C hn 
    · refine z_iload_n_ok (pc := 107) (i := 2) C.hx C.hb dX8_sum_107 rfl ?_
      refine z_aload_n_ok (pc := 108) (i := 0) C.hx C.hb dX8_sum_108 rfl ?_
      refine z_iload_n_ok (pc := 109) (i := 3) C.hx C.hb dX8_sum_109 rfl ?_
      refine z_invV_ok (pc := 110) C (by decide +kernel) (zm_X8_isDead X.l C.htr) ⟨rfl, rfl⟩ ⟨by decide, by decide⟩ (by decide) (by decide) zcl_X8_151 zw_1060 zw_29 zK8 dX8_sum_110 ?_
      refine z_if_eq_ok (pc := 113) (tgt := 120) C.hx C.hb dX8_sum_113 (by decide) ?_ ?_
      · refine z_iconst_ok (pc := 120) (v := 1) C.hx C.hb dX8_sum_120 (by decide) ?_
        exact zk_X8_sum_121 C hn hJ93
      · refine z_iconst_ok (pc := 116) (v := 0) C.hx C.hb dX8_sum_116 (by decide) ?_
        refine z_goto_ok (pc := 117) (tgt := 121) C.hx C.hb dX8_sum_117 (by decide) ?_
        exact zk_X8_sum_121 C hn hJ93
def zb_X8_sum_91 : ZP := (z_push 0 (z_ist 3 (z_loop (fun J93 => zb_X8_sum_93 J93))))
set_option maxRecDepth 20000 in
theorem zk_X8_sum_91 {X : ZX} (C : zCx X cX8_sum RX8 (some .int) 1 23 1 6) (hn : X.nL = 4) : ZOK X 91 (zb_X8_sum_91) := by
  unfold zb_X8_sum_91
  refine z_iconst_ok (pc := 91) (v := 0) C.hx C.hb dX8_sum_91 (by decide) ?_
  refine z_istore_n_ok (pc := 92) (i := 3) C.hx C.hb dX8_sum_92 rfl (zlt hn (by decide)) ?_
  exact z_loop_ok (fun J93 hJ93 => zk_X8_sum_93 C hn hJ93)
def zb_X8_sum_64 (J64 : ZP) : ZP := (z_ild 3 (z_push 6 (z_cmp (fun x y => y ≤ x) zb_X8_sum_91 (z_ild 1 (z_push 6 (z_cmp (fun x y => x = y) (z_ild 2 (z_ald 0 (z_gf 8 9 (z_ild 3 (z_iald (z_bin (fun x y => x + y) (z_ist 2 (z_inc 3 (1) J64)))))))) zb_X8_sum_91))))))
set_option maxRecDepth 20000 in
theorem zk_X8_sum_64 {X : ZX} (C : zCx X cX8_sum RX8 (some .int) 1 23 1 6) (hn : X.nL = 4) {J64 : ZP} (hJ64 : ZOK X 64 J64) : ZOK X 64 (zb_X8_sum_64 J64) := by
  unfold zb_X8_sum_64
  refine z_iload_n_ok (pc := 64) (i := 3) C.hx C.hb dX8_sum_64 rfl ?_
  refine z_bipush_ok (pc := 65) (v := 6) C.hx C.hb dX8_sum_65 (by decide) ?_
  refine z_icmp_ge_ok (pc := 67) (tgt := 91) C.hx C.hb dX8_sum_67 (by decide) ?_ ?_
  · exact zk_X8_sum_91 C hn 
  · refine z_iload_n_ok (pc := 70) (i := 1) C.hx C.hb dX8_sum_70 rfl ?_
    refine z_bipush_ok (pc := 71) (v := 6) C.hx C.hb dX8_sum_71 (by decide) ?_
    refine z_icmp_ne_ok (pc := 73) (tgt := 91) C.hx C.hb dX8_sum_73 (by decide) ?_ ?_
    · exact zk_X8_sum_91 C hn 
    · refine z_iload_n_ok (pc := 76) (i := 2) C.hx C.hb dX8_sum_76 rfl ?_
      refine z_aload_n_ok (pc := 77) (i := 0) C.hx C.hb dX8_sum_77 rfl ?_
      refine z_gf_ok (pc := 78) C zK8 (f := 9) (by decide) zw_866 rfl dX8_sum_78 ?_
      refine z_iload_n_ok (pc := 81) (i := 3) C.hx C.hb dX8_sum_81 rfl ?_
      refine z_iald_ok (pc := 82) C dX8_sum_82 ?_
      refine z_iadd_ok (pc := 83) C.hx C.hb dX8_sum_83 ?_
      refine z_istore_n_ok (pc := 84) (i := 2) C.hx C.hb dX8_sum_84 rfl (zlt hn (by decide)) ?_
      refine z_iinc_ok (pc := 85) (i := 3) (v := 1) C.hx C.hb dX8_sum_85 (by decide) (zlt hn (by decide)) ?_
      refine z_goto_ok (pc := 88) (tgt := 64) C.hx C.hb dX8_sum_88 (by decide) ?_
      exact hJ64
def zb_X8_sum_59 : ZP := (z_ret 1)
set_option maxRecDepth 20000 in
theorem zk_X8_sum_59 {X : ZX} (C : zCx X cX8_sum RX8 (some .int) 1 23 1 6) (hn : X.nL = 4) : ZOK X 59 (zb_X8_sum_59) := by
  unfold zb_X8_sum_59
  exact z_iret_ok (pc := 59) C dX8_sum_59
def zb_X8_sum_56 : ZP := (z_invV 8 1 sp_X8_over zb_X8_sum_59)
set_option maxRecDepth 20000 in
theorem zk_X8_sum_56 {X : ZX} (C : zCx X cX8_sum RX8 (some .int) 1 23 1 6) (hn : X.nL = 4) : ZOK X 56 (zb_X8_sum_56) := by
  unfold zb_X8_sum_56
  refine z_invV_ok (pc := 56) C (by decide +kernel) (zm_X8_over X.l C.htr) ⟨rfl, rfl⟩ ⟨by decide, by decide⟩ (by decide) (by decide) zcl_X8_224 zw_1224 zw_41 zK8 dX8_sum_56 ?_
  exact zk_X8_sum_59 C hn 
def zb_X8_sum_0 : ZP := (z_ald 0 (z_ild 1 (z_push 0 (z_push 8 (z_invS 3 sp_X8_in (z_push 1 (z_invV 8 2 sp_X8_fails (z_if (fun x => x = 0) (z_ild 1 (z_push 4 (z_cmp (fun x y => y ≤ x) (z_push 0 (z_ist 2 (z_push 0 (z_ist 3 (z_loop (fun J64 => zb_X8_sum_64 J64)))))) (z_ild 1 (z_if (fun x => x = 0) (z_ald 0 (z_gf 8 0 zb_X8_sum_59)) (z_ild 1 (z_push 1 (z_cmp (fun x y => x = y) (z_ald 0 (z_gf 8 41 zb_X8_sum_59)) (z_ald 0 (z_ild 1 (z_push 3 (z_cmp (fun x y => x = y) (z_push 1 zb_X8_sum_56) (z_push 0 zb_X8_sum_56))))))))))))) (z_push 0 (z_ret 1))))))))))
set_option maxRecDepth 20000 in
theorem zk_X8_sum_0 {X : ZX} (C : zCx X cX8_sum RX8 (some .int) 1 23 1 6) (hn : X.nL = 4) : ZOK X 0 (zb_X8_sum_0) := by
  unfold zb_X8_sum_0
  refine z_aload_n_ok (pc := 0) (i := 0) C.hx C.hb dX8_sum_0 rfl ?_
  refine z_iload_n_ok (pc := 1) (i := 1) C.hx C.hb dX8_sum_1 rfl ?_
  refine z_iconst_ok (pc := 2) (v := 0) C.hx C.hb dX8_sum_2 (by decide) ?_
  refine z_bipush_ok (pc := 3) (v := 8) C.hx C.hb dX8_sum_3 (by decide) ?_
  refine z_invS_ok (pc := 5) C (by decide +kernel) (zm_X8_in X.l C.htr) ⟨rfl, rfl⟩ ⟨by decide, by decide⟩ (by decide) (by decide) zcl_X8_120 zw_1012 dX8_sum_5 ?_
  refine z_iconst_ok (pc := 8) (v := 1) C.hx C.hb dX8_sum_8 (by decide) ?_
  refine z_invV_ok (pc := 9) C (by decide +kernel) (zm_X8_fails X.l C.htr) ⟨rfl, rfl⟩ ⟨by decide, by decide⟩ (by decide) (by decide) zcl_X8_137 zw_1016 zw_25 zK8 dX8_sum_9 ?_
  refine z_if_eq_ok (pc := 12) (tgt := 17) C.hx C.hb dX8_sum_12 (by decide) ?_ ?_
  · refine z_iload_n_ok (pc := 17) (i := 1) C.hx C.hb dX8_sum_17 rfl ?_
    refine z_iconst_ok (pc := 18) (v := 4) C.hx C.hb dX8_sum_18 (by decide) ?_
    refine z_icmp_ge_ok (pc := 19) (tgt := 60) C.hx C.hb dX8_sum_19 (by decide) ?_ ?_
    · refine z_iconst_ok (pc := 60) (v := 0) C.hx C.hb dX8_sum_60 (by decide) ?_
      refine z_istore_n_ok (pc := 61) (i := 2) C.hx C.hb dX8_sum_61 rfl (zlt hn (by decide)) ?_
      refine z_iconst_ok (pc := 62) (v := 0) C.hx C.hb dX8_sum_62 (by decide) ?_
      refine z_istore_n_ok (pc := 63) (i := 3) C.hx C.hb dX8_sum_63 rfl (zlt hn (by decide)) ?_
      exact z_loop_ok (fun J64 hJ64 => zk_X8_sum_64 C hn hJ64)
    · refine z_iload_n_ok (pc := 22) (i := 1) C.hx C.hb dX8_sum_22 rfl ?_
      refine z_if_ne_ok (pc := 23) (tgt := 33) C.hx C.hb dX8_sum_23 (by decide) ?_ ?_
      · refine z_iload_n_ok (pc := 33) (i := 1) C.hx C.hb dX8_sum_33 rfl ?_
        refine z_iconst_ok (pc := 34) (v := 1) C.hx C.hb dX8_sum_34 (by decide) ?_
        refine z_icmp_ne_ok (pc := 35) (tgt := 45) C.hx C.hb dX8_sum_35 (by decide) ?_ ?_
        · refine z_aload_n_ok (pc := 45) (i := 0) C.hx C.hb dX8_sum_45 rfl ?_
          refine z_iload_n_ok (pc := 46) (i := 1) C.hx C.hb dX8_sum_46 rfl ?_
          refine z_iconst_ok (pc := 47) (v := 3) C.hx C.hb dX8_sum_47 (by decide) ?_
          refine z_icmp_ne_ok (pc := 48) (tgt := 55) C.hx C.hb dX8_sum_48 (by decide) ?_ ?_
          · refine z_iconst_ok (pc := 55) (v := 0) C.hx C.hb dX8_sum_55 (by decide) ?_
            exact zk_X8_sum_56 C hn 
          · refine z_iconst_ok (pc := 51) (v := 1) C.hx C.hb dX8_sum_51 (by decide) ?_
            refine z_goto_ok (pc := 52) (tgt := 56) C.hx C.hb dX8_sum_52 (by decide) ?_
            exact zk_X8_sum_56 C hn 
        · refine z_aload_n_ok (pc := 38) (i := 0) C.hx C.hb dX8_sum_38 rfl ?_
          refine z_gf_ok (pc := 39) C zK8 (f := 41) (by decide) zw_898 rfl dX8_sum_39 ?_
          refine z_goto_ok (pc := 42) (tgt := 59) C.hx C.hb dX8_sum_42 (by decide) ?_
          exact zk_X8_sum_59 C hn 
      · refine z_aload_n_ok (pc := 26) (i := 0) C.hx C.hb dX8_sum_26 rfl ?_
        refine z_gf_ok (pc := 27) C zK8 (f := 0) (by decide) zw_857 rfl dX8_sum_27 ?_
        refine z_goto_ok (pc := 30) (tgt := 59) C.hx C.hb dX8_sum_30 (by decide) ?_
        exact zk_X8_sum_59 C hn 
  · refine z_iconst_ok (pc := 15) (v := 0) C.hx C.hb dX8_sum_15 (by decide) ?_
    exact z_iret_ok (pc := 16) C dX8_sum_16
def sp_X8_sum : ZSp := fun as S K => as.length ≤ 4 ∧ zsp 4 zb_X8_sum_0 as S K
theorem zm_X8_sum (l : Launch) (hl : l.stackTraces = false) : zMet l yX8_sum cX8_sum 4 (some .int) { frames := 1, cells := 1, slots := 6, locals := 23 } 0 0 sp_X8_sum := zMet_of hl (by decide +kernel) ⟨rfl, rfl⟩ (fun X C hn _ => zk_X8_sum_0 C hn)
theorem dX8_thrown_0 : decode cX8_thrown 0 = .ok (.aload_n 0, 1) := by decide +kernel
theorem dX8_thrown_1 : decode cX8_thrown 1 = .ok (.getfield 117, 3) := by decide +kernel
theorem dX8_thrown_4 : decode cX8_thrown 4 = .ok (.ireturn, 1) := by decide +kernel
def zb_X8_thrown_0 : ZP := (z_ald 0 (z_gf 8 46 (z_ret 1)))
set_option maxRecDepth 20000 in
theorem zk_X8_thrown_0 {X : ZX} (C : zCx X cX8_thrown RX8 (some .int) 0 0 1 6) (hn : X.nL = 1) : ZOK X 0 (zb_X8_thrown_0) := by
  unfold zb_X8_thrown_0
  refine z_aload_n_ok (pc := 0) (i := 0) C.hx C.hb dX8_thrown_0 rfl ?_
  refine z_gf_ok (pc := 1) C zK8 (f := 46) (by decide) zw_903 rfl dX8_thrown_1 ?_
  exact z_iret_ok (pc := 4) C dX8_thrown_4
def sp_X8_thrown : ZSp := fun as S K => as.length ≤ 1 ∧ zsp 1 zb_X8_thrown_0 as S K
theorem zm_X8_thrown (l : Launch) (hl : l.stackTraces = false) : zMet l yX8_thrown cX8_thrown 1 (some .int) { frames := 0, cells := 1, slots := 6, locals := 0 } 0 0 sp_X8_thrown := zMet_of hl (by decide +kernel) ⟨rfl, rfl⟩ (fun X C hn _ => zk_X8_thrown_0 C hn)
