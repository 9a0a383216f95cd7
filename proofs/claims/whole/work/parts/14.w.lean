theorem dL_advance_0 : decode cL_advance 0 = .ok (.aload 4, 2) := by decide +kernel
theorem dL_advance_2 : decode cL_advance 2 = .ok (.iconst 0, 1) := by decide +kernel
theorem dL_advance_3 : decode cL_advance 3 = .ok (.aload_n 0, 1) := by decide +kernel
theorem dL_advance_4 : decode cL_advance 4 = .ok (.iload_n 1, 1) := by decide +kernel
theorem dL_advance_5 : decode cL_advance 5 = .ok (.iload_n 2, 1) := by decide +kernel
theorem dL_advance_6 : decode cL_advance 6 = .ok (.iload_n 3, 1) := by decide +kernel
theorem dL_advance_7 : decode cL_advance 7 = .ok (.invokevirtual 82, 3) := by decide +kernel
theorem dL_advance_10 : decode cL_advance 10 = .ok (.i2l, 1) := by decide +kernel
theorem dL_advance_11 : decode cL_advance 11 = .ok (.lastore, 1) := by decide +kernel
theorem dL_advance_12 : decode cL_advance 12 = .ok (.goto 15, 3) := by decide +kernel
theorem dL_advance_15 : decode cL_advance 15 = .ok (.astore 5, 2) := by decide +kernel
theorem dL_advance_17 : decode cL_advance 17 = .ok (.iconst 1, 1) := by decide +kernel
theorem dL_advance_18 : decode cL_advance 18 = .ok (.ireturn, 1) := by decide +kernel
theorem dL_advance_19 : decode cL_advance 19 = .ok (.astore 5, 2) := by decide +kernel
theorem dL_advance_21 : decode cL_advance 21 = .ok (.iconst 2, 1) := by decide +kernel
theorem dL_advance_22 : decode cL_advance 22 = .ok (.ireturn, 1) := by decide +kernel
theorem dL_advance_23 : decode cL_advance 23 = .ok (.astore 5, 2) := by decide +kernel
theorem dL_advance_25 : decode cL_advance 25 = .ok (.iconst 3, 1) := by decide +kernel
theorem dL_advance_26 : decode cL_advance 26 = .ok (.ireturn, 1) := by decide +kernel
theorem dL_advance_27 : decode cL_advance 27 = .ok (.iconst 0, 1) := by decide +kernel
theorem dL_advance_28 : decode cL_advance 28 = .ok (.ireturn, 1) := by decide +kernel
def zb_L_advance_0 : ZP := (z_ald 4 (z_push 0 (z_ald 0 (z_ild 1 (z_ild 2 (z_ild 3 (z_invH 7 3 sp_X7_advance (fun n => match n with | 1 => some 1 | 2 => some 2 | 3 => some 3 | _ => none) (z_lastI (z_push 0 (z_ret 1))))))))))
set_option maxRecDepth 20000 in
theorem zk_L_advance_0 {X : ZX} (C : zCx X cL_advance RL (some .int) 8 139 11 66) (hn : X.nL = 6) (h0 : X.ce = 0 ∧ X.sl = 0 ∧ X.Q = zEndP X.b X.g X.ad X.S0 X.K X.a X.s 10 60) (ht : X.c.exceptionTable.toList = tableOf [(0, 12, 15, 13), (0, 12, 19, 15), (0, 12, 23, 36)]) : ZOK X 0 (zb_L_advance_0) := by
  unfold zb_L_advance_0
  refine z_aload_ok (pc := 0) (i := 4) C.hx C.hb dL_advance_0 ?_
  refine z_iconst_ok (pc := 2) (v := 0) C.hx C.hb dL_advance_2 (by decide) ?_
  refine z_aload_n_ok (pc := 3) (i := 0) C.hx C.hb dL_advance_3 rfl ?_
  refine z_iload_n_ok (pc := 4) (i := 1) C.hx C.hb dL_advance_4 rfl ?_
  refine z_iload_n_ok (pc := 5) (i := 2) C.hx C.hb dL_advance_5 rfl ?_
  refine z_iload_n_ok (pc := 6) (i := 3) C.hx C.hb dL_advance_6 rfl ?_
  have hh : ∀ (n : Nat) (v : Int32), (fun n => match n with | 1 => some 1 | 2 => some 2 | 3 => some 3 | _ => none) n = some v → zhnd X cL_advance RL 7 n v := by
    intro n v h
    rcases n with _ | _ | _ | _ | n
    · cases h
    · have h : some (1 : Int32) = some v := h
      cases h
      exact ⟨[], ⟨0, 12, 15, 13⟩, [⟨0, 12, 19, 15⟩, ⟨0, 12, 23, 36⟩], ht, fun _ h => (nomatch h), by decide, by decide, zw_187, List.mem_of_getElem? (i := 0) rfl, 5, 2, 1, zlt hn (by decide), Or.inl ⟨dL_advance_15, rfl⟩, dL_advance_17, by decide, dL_advance_18⟩
    · have h : some (2 : Int32) = some v := h
      cases h
      exact ⟨[⟨0, 12, 15, 13⟩], ⟨0, 12, 19, 15⟩, [⟨0, 12, 23, 36⟩], ht, List.forall_mem_cons.mpr ⟨Or.inr ⟨by decide, _, zw_187, C.hE.2.2.2.2.2.2.1.1⟩, fun _ h => (nomatch h)⟩, by decide, by decide, zw_188, List.mem_of_getElem? (i := 1) rfl, 5, 2, 2, zlt hn (by decide), Or.inl ⟨dL_advance_19, rfl⟩, dL_advance_21, by decide, dL_advance_22⟩
    · have h : some (3 : Int32) = some v := h
      cases h
      exact ⟨[⟨0, 12, 15, 13⟩, ⟨0, 12, 19, 15⟩], ⟨0, 12, 23, 36⟩, [], ht, List.forall_mem_cons.mpr ⟨Or.inr ⟨by decide, _, zw_187, C.hE.2.2.2.2.2.2.1.2.1⟩, List.forall_mem_cons.mpr ⟨Or.inr ⟨by decide, _, zw_188, C.hE.2.2.2.2.2.2.1.2.2⟩, fun _ h => (nomatch h)⟩⟩, by decide, by decide, zw_329, List.mem_of_getElem? (i := 2) rfl, 5, 2, 3, zlt hn (by decide), Or.inl ⟨dL_advance_23, rfl⟩, dL_advance_25, by decide, dL_advance_26⟩
    · cases h
  refine z_invH_ok (pc := 7) C (zQ_of h0.2.2 (by have := h0.1; omega) (by have := h0.2.1; omega)) (zm_X7_advance X.l C.htr) ⟨rfl, rfl⟩ ⟨by decide, by decide⟩ (by decide) (by decide) zcl_L_82 zw_673 zw_674 zK7 hh dL_advance_7 ?_
  have C := C.c (cx' := 1) (sx' := 6) (zQ_of h0.2.2 (a := X.ce + 0) (b := X.sl + 0) (by have := h0.1; omega) (by have := h0.2.1; omega)) (by omega) (by omega)
  refine z_lastI_ok (pc := 10) C dL_advance_10 dL_advance_11 ?_
  refine z_goto_ok (pc := 12) (tgt := 27) C.hx C.hb dL_advance_12 (by decide) ?_
  refine z_iconst_ok (pc := 27) (v := 0) C.hx C.hb dL_advance_27 (by decide) ?_
  exact z_iret_ok (pc := 28) C dL_advance_28
def sp_L_advance : ZSp := fun as S K => as.length ≤ 6 ∧ zsp 6 zb_L_advance_0 as S K
theorem zm_L_advance (l : Launch) (hl : l.stackTraces = false) : zMetW l yL_advance cL_advance 6 (some .int) [(0, 12, 15, 13), (0, 12, 19, 15), (0, 12, 23, 36)] { frames := 8, cells := 11, slots := 66, locals := 139 } 10 60 sp_L_advance := zMetW_of hl (by decide +kernel) rfl ⟨rfl, rfl⟩ (fun X C hn h0 ht => zk_L_advance_0 C hn h0 ht)
theorem dL_becomes_0 : decode cL_becomes 0 = .ok (.aload_n 3, 1) := by decide +kernel
theorem dL_becomes_1 : decode cL_becomes 1 = .ok (.iconst 0, 1) := by decide +kernel
theorem dL_becomes_2 : decode cL_becomes 2 = .ok (.aload_n 0, 1) := by decide +kernel
theorem dL_becomes_3 : decode cL_becomes 3 = .ok (.iload_n 1, 1) := by decide +kernel
theorem dL_becomes_4 : decode cL_becomes 4 = .ok (.iload_n 2, 1) := by decide +kernel
theorem dL_becomes_5 : decode cL_becomes 5 = .ok (.invokevirtual 38, 3) := by decide +kernel
theorem dL_becomes_8 : decode cL_becomes 8 = .ok (.i2l, 1) := by decide +kernel
theorem dL_becomes_9 : decode cL_becomes 9 = .ok (.lastore, 1) := by decide +kernel
theorem dL_becomes_10 : decode cL_becomes 10 = .ok (.goto 15, 3) := by decide +kernel
theorem dL_becomes_13 : decode cL_becomes 13 = .ok (.astore 4, 2) := by decide +kernel
theorem dL_becomes_15 : decode cL_becomes 15 = .ok (.iconst 1, 1) := by decide +kernel
theorem dL_becomes_16 : decode cL_becomes 16 = .ok (.ireturn, 1) := by decide +kernel
theorem dL_becomes_17 : decode cL_becomes 17 = .ok (.astore 4, 2) := by decide +kernel
theorem dL_becomes_19 : decode cL_becomes 19 = .ok (.iconst 2, 1) := by decide +kernel
theorem dL_becomes_20 : decode cL_becomes 20 = .ok (.ireturn, 1) := by decide +kernel
theorem dL_becomes_21 : decode cL_becomes 21 = .ok (.astore 4, 2) := by decide +kernel
theorem dL_becomes_23 : decode cL_becomes 23 = .ok (.iconst 3, 1) := by decide +kernel
theorem dL_becomes_24 : decode cL_becomes 24 = .ok (.ireturn, 1) := by decide +kernel
theorem dL_becomes_25 : decode cL_becomes 25 = .ok (.iconst 0, 1) := by decide +kernel
theorem dL_becomes_26 : decode cL_becomes 26 = .ok (.ireturn, 1) := by decide +kernel
def zb_L_becomes_0 : ZP := (z_ald 3 (z_push 0 (z_ald 0 (z_ild 1 (z_ild 2 (z_invH 7 2 sp_X7_becomes (fun n => match n with | 1 => some 1 | 2 => some 2 | 3 => some 3 | _ => none) (z_lastI (z_push 0 (z_ret 1)))))))))
set_option maxRecDepth 20000 in
theorem zk_L_becomes_0 {X : ZX} (C : zCx X cL_becomes RL (some .int) 8 136 11 66) (hn : X.nL = 5) (h0 : X.ce = 0 ∧ X.sl = 0 ∧ X.Q = zEndP X.b X.g X.ad X.S0 X.K X.a X.s 10 60) (ht : X.c.exceptionTable.toList = tableOf [(0, 10, 13, 13), (0, 10, 17, 15), (0, 10, 21, 36)]) : ZOK X 0 (zb_L_becomes_0) := by
  unfold zb_L_becomes_0
  refine z_aload_n_ok (pc := 0) (i := 3) C.hx C.hb dL_becomes_0 rfl ?_
  refine z_iconst_ok (pc := 1) (v := 0) C.hx C.hb dL_becomes_1 (by decide) ?_
  refine z_aload_n_ok (pc := 2) (i := 0) C.hx C.hb dL_becomes_2 rfl ?_
  refine z_iload_n_ok (pc := 3) (i := 1) C.hx C.hb dL_becomes_3 rfl ?_
  refine z_iload_n_ok (pc := 4) (i := 2) C.hx C.hb dL_becomes_4 rfl ?_
  have hh : ∀ (n : Nat) (v : Int32), (fun n => match n with | 1 => some 1 | 2 => some 2 | 3 => some 3 | _ => none) n = some v → zhnd X cL_becomes RL 5 n v := by
    intro n v h
    rcases n with _ | _ | _ | _ | n
    · cases h
    · have h : some (1 : Int32) = some v := h
      cases h
      exact ⟨[], ⟨0, 10, 13, 13⟩, [⟨0, 10, 17, 15⟩, ⟨0, 10, 21, 36⟩], ht, fun _ h => (nomatch h), by decide, by decide, zw_187, List.mem_of_getElem? (i := 0) rfl, 4, 2, 1, zlt hn (by decide), Or.inl ⟨dL_becomes_13, rfl⟩, dL_becomes_15, by decide, dL_becomes_16⟩
    · have h : some (2 : Int32) = some v := h
      cases h
      exact ⟨[⟨0, 10, 13, 13⟩], ⟨0, 10, 17, 15⟩, [⟨0, 10, 21, 36⟩], ht, List.forall_mem_cons.mpr ⟨Or.inr ⟨by decide, _, zw_187, C.hE.2.2.2.2.2.2.1.1⟩, fun _ h => (nomatch h)⟩, by decide, by decide, zw_188, List.mem_of_getElem? (i := 1) rfl, 4, 2, 2, zlt hn (by decide), Or.inl ⟨dL_becomes_17, rfl⟩, dL_becomes_19, by decide, dL_becomes_20⟩
    · have h : some (3 : Int32) = some v := h
      cases h
      exact ⟨[⟨0, 10, 13, 13⟩, ⟨0, 10, 17, 15⟩], ⟨0, 10, 21, 36⟩, [], ht, List.forall_mem_cons.mpr ⟨Or.inr ⟨by decide, _, zw_187, C.hE.2.2.2.2.2.2.1.2.1⟩, List.forall_mem_cons.mpr ⟨Or.inr ⟨by decide, _, zw_188, C.hE.2.2.2.2.2.2.1.2.2⟩, fun _ h => (nomatch h)⟩⟩, by decide, by decide, zw_329, List.mem_of_getElem? (i := 2) rfl, 4, 2, 3, zlt hn (by decide), Or.inl ⟨dL_becomes_21, rfl⟩, dL_becomes_23, by decide, dL_becomes_24⟩
    · cases h
  refine z_invH_ok (pc := 5) C (zQ_of h0.2.2 (by have := h0.1; omega) (by have := h0.2.1; omega)) (zm_X7_becomes X.l C.htr) ⟨rfl, rfl⟩ ⟨by decide, by decide⟩ (by decide) (by decide) zcl_L_38 zw_412 zw_413 zK7 hh dL_becomes_5 ?_
  have C := C.c (cx' := 1) (sx' := 6) (zQ_of h0.2.2 (a := X.ce + 0) (b := X.sl + 0) (by have := h0.1; omega) (by have := h0.2.1; omega)) (by omega) (by omega)
  refine z_lastI_ok (pc := 8) C dL_becomes_8 dL_becomes_9 ?_
  refine z_goto_ok (pc := 10) (tgt := 25) C.hx C.hb dL_becomes_10 (by decide) ?_
  refine z_iconst_ok (pc := 25) (v := 0) C.hx C.hb dL_becomes_25 (by decide) ?_
  exact z_iret_ok (pc := 26) C dL_becomes_26
def sp_L_becomes : ZSp := fun as S K => as.length ≤ 5 ∧ zsp 5 zb_L_becomes_0 as S K
theorem zm_L_becomes (l : Launch) (hl : l.stackTraces = false) : zMetW l yL_becomes cL_becomes 5 (some .int) [(0, 10, 13, 13), (0, 10, 17, 15), (0, 10, 21, 36)] { frames := 8, cells := 11, slots := 66, locals := 136 } 10 60 sp_L_becomes := zMetW_of hl (by decide +kernel) rfl ⟨rfl, rfl⟩ (fun X C hn h0 ht => zk_L_becomes_0 C hn h0 ht)
theorem dL_black_0 : decode cL_black 0 = .ok (.aload 4, 2) := by decide +kernel
theorem dL_black_2 : decode cL_black 2 = .ok (.iconst 0, 1) := by decide +kernel
theorem dL_black_3 : decode cL_black 3 = .ok (.aload_n 0, 1) := by decide +kernel
theorem dL_black_4 : decode cL_black 4 = .ok (.iload_n 1, 1) := by decide +kernel
theorem dL_black_5 : decode cL_black 5 = .ok (.iload_n 2, 1) := by decide +kernel
theorem dL_black_6 : decode cL_black 6 = .ok (.iload_n 3, 1) := by decide +kernel
theorem dL_black_7 : decode cL_black 7 = .ok (.invokevirtual 103, 3) := by decide +kernel
theorem dL_black_10 : decode cL_black 10 = .ok (.i2l, 1) := by decide +kernel
theorem dL_black_11 : decode cL_black 11 = .ok (.lastore, 1) := by decide +kernel
theorem dL_black_12 : decode cL_black 12 = .ok (.goto 15, 3) := by decide +kernel
theorem dL_black_15 : decode cL_black 15 = .ok (.astore 5, 2) := by decide +kernel
theorem dL_black_17 : decode cL_black 17 = .ok (.iconst 1, 1) := by decide +kernel
theorem dL_black_18 : decode cL_black 18 = .ok (.ireturn, 1) := by decide +kernel
theorem dL_black_19 : decode cL_black 19 = .ok (.astore 5, 2) := by decide +kernel
theorem dL_black_21 : decode cL_black 21 = .ok (.iconst 2, 1) := by decide +kernel
theorem dL_black_22 : decode cL_black 22 = .ok (.ireturn, 1) := by decide +kernel
theorem dL_black_23 : decode cL_black 23 = .ok (.astore 5, 2) := by decide +kernel
theorem dL_black_25 : decode cL_black 25 = .ok (.iconst 3, 1) := by decide +kernel
theorem dL_black_26 : decode cL_black 26 = .ok (.ireturn, 1) := by decide +kernel
theorem dL_black_27 : decode cL_black 27 = .ok (.iconst 0, 1) := by decide +kernel
theorem dL_black_28 : decode cL_black 28 = .ok (.ireturn, 1) := by decide +kernel
def zb_L_black_0 : ZP := (z_ald 4 (z_push 0 (z_ald 0 (z_ild 1 (z_ild 2 (z_ild 3 (z_invH 7 3 sp_X7_black (fun n => match n with | 1 => some 1 | 2 => some 2 | 3 => some 3 | _ => none) (z_lastI (z_push 0 (z_ret 1))))))))))
set_option maxRecDepth 20000 in
theorem zk_L_black_0 {X : ZX} (C : zCx X cL_black RL (some .int) 8 138 11 66) (hn : X.nL = 6) (h0 : X.ce = 0 ∧ X.sl = 0 ∧ X.Q = zEndP X.b X.g X.ad X.S0 X.K X.a X.s 10 60) (ht : X.c.exceptionTable.toList = tableOf [(0, 12, 15, 13), (0, 12, 19, 15), (0, 12, 23, 36)]) : ZOK X 0 (zb_L_black_0) := by
  unfold zb_L_black_0
  refine z_aload_ok (pc := 0) (i := 4) C.hx C.hb dL_black_0 ?_
  refine z_iconst_ok (pc := 2) (v := 0) C.hx C.hb dL_black_2 (by decide) ?_
  refine z_aload_n_ok (pc := 3) (i := 0) C.hx C.hb dL_black_3 rfl ?_
  refine z_iload_n_ok (pc := 4) (i := 1) C.hx C.hb dL_black_4 rfl ?_
  refine z_iload_n_ok (pc := 5) (i := 2) C.hx C.hb dL_black_5 rfl ?_
  refine z_iload_n_ok (pc := 6) (i := 3) C.hx C.hb dL_black_6 rfl ?_
  have hh : ∀ (n : Nat) (v : Int32), (fun n => match n with | 1 => some 1 | 2 => some 2 | 3 => some 3 | _ => none) n = some v → zhnd X cL_black RL 7 n v := by
    intro n v h
    rcases n with _ | _ | _ | _ | n
    · cases h
    · have h : some (1 : Int32) = some v := h
      cases h
      exact ⟨[], ⟨0, 12, 15, 13⟩, [⟨0, 12, 19, 15⟩, ⟨0, 12, 23, 36⟩], ht, fun _ h => (nomatch h), by decide, by decide, zw_187, List.mem_of_getElem? (i := 0) rfl, 5, 2, 1, zlt hn (by decide), Or.inl ⟨dL_black_15, rfl⟩, dL_black_17, by decide, dL_black_18⟩
    · have h : some (2 : Int32) = some v := h
      cases h
      exact ⟨[⟨0, 12, 15, 13⟩], ⟨0, 12, 19, 15⟩, [⟨0, 12, 23, 36⟩], ht, List.forall_mem_cons.mpr ⟨Or.inr ⟨by decide, _, zw_187, C.hE.2.2.2.2.2.2.1.1⟩, fun _ h => (nomatch h)⟩, by decide, by decide, zw_188, List.mem_of_getElem? (i := 1) rfl, 5, 2, 2, zlt hn (by decide), Or.inl ⟨dL_black_19, rfl⟩, dL_black_21, by decide, dL_black_22⟩
    · have h : some (3 : Int32) = some v := h
      cases h
      exact ⟨[⟨0, 12, 15, 13⟩, ⟨0, 12, 19, 15⟩], ⟨0, 12, 23, 36⟩, [], ht, List.forall_mem_cons.mpr ⟨Or.inr ⟨by decide, _, zw_187, C.hE.2.2.2.2.2.2.1.2.1⟩, List.forall_mem_cons.mpr ⟨Or.inr ⟨by decide, _, zw_188, C.hE.2.2.2.2.2.2.1.2.2⟩, fun _ h => (nomatch h)⟩⟩, by decide, by decide, zw_329, List.mem_of_getElem? (i := 2) rfl, 5, 2, 3, zlt hn (by decide), Or.inl ⟨dL_black_23, rfl⟩, dL_black_25, by decide, dL_black_26⟩
    · cases h
  refine z_invH_ok (pc := 7) C (zQ_of h0.2.2 (by have := h0.1; omega) (by have := h0.2.1; omega)) (zm_X7_black X.l C.htr) ⟨rfl, rfl⟩ ⟨by decide, by decide⟩ (by decide) (by decide) zcl_L_103 zw_722 zw_723 zK7 hh dL_black_7 ?_
  have C := C.c (cx' := 1) (sx' := 6) (zQ_of h0.2.2 (a := X.ce + 0) (b := X.sl + 0) (by have := h0.1; omega) (by have := h0.2.1; omega)) (by omega) (by omega)
  refine z_lastI_ok (pc := 10) C dL_black_10 dL_black_11 ?_
  refine z_goto_ok (pc := 12) (tgt := 27) C.hx C.hb dL_black_12 (by decide) ?_
  refine z_iconst_ok (pc := 27) (v := 0) C.hx C.hb dL_black_27 (by decide) ?_
  exact z_iret_ok (pc := 28) C dL_black_28
def sp_L_black : ZSp := fun as S K => as.length ≤ 6 ∧ zsp 6 zb_L_black_0 as S K
theorem zm_L_black (l : Launch) (hl : l.stackTraces = false) : zMetW l yL_black cL_black 6 (some .int) [(0, 12, 15, 13), (0, 12, 19, 15), (0, 12, 23, 36)] { frames := 8, cells := 11, slots := 66, locals := 138 } 10 60 sp_L_black := zMetW_of hl (by decide +kernel) rfl ⟨rfl, rfl⟩ (fun X C hn h0 ht => zk_L_black_0 C hn h0 ht)
theorem dL_buy_0 : decode cL_buy 0 = .ok (.aload 5, 2) := by decide +kernel
theorem dL_buy_2 : decode cL_buy 2 = .ok (.iconst 0, 1) := by decide +kernel
theorem dL_buy_3 : decode cL_buy 3 = .ok (.aload_n 0, 1) := by decide +kernel
theorem dL_buy_4 : decode cL_buy 4 = .ok (.iload_n 1, 1) := by decide +kernel
theorem dL_buy_5 : decode cL_buy 5 = .ok (.iload_n 2, 1) := by decide +kernel
theorem dL_buy_6 : decode cL_buy 6 = .ok (.iload_n 3, 1) := by decide +kernel
theorem dL_buy_7 : decode cL_buy 7 = .ok (.iload 4, 2) := by decide +kernel
theorem dL_buy_9 : decode cL_buy 9 = .ok (.invokevirtual 75, 3) := by decide +kernel
theorem dL_buy_12 : decode cL_buy 12 = .ok (.i2l, 1) := by decide +kernel
theorem dL_buy_13 : decode cL_buy 13 = .ok (.lastore, 1) := by decide +kernel
theorem dL_buy_14 : decode cL_buy 14 = .ok (.goto 15, 3) := by decide +kernel
theorem dL_buy_17 : decode cL_buy 17 = .ok (.astore 6, 2) := by decide +kernel
theorem dL_buy_19 : decode cL_buy 19 = .ok (.iconst 1, 1) := by decide +kernel
theorem dL_buy_20 : decode cL_buy 20 = .ok (.ireturn, 1) := by decide +kernel
theorem dL_buy_21 : decode cL_buy 21 = .ok (.astore 6, 2) := by decide +kernel
theorem dL_buy_23 : decode cL_buy 23 = .ok (.iconst 2, 1) := by decide +kernel
theorem dL_buy_24 : decode cL_buy 24 = .ok (.ireturn, 1) := by decide +kernel
theorem dL_buy_25 : decode cL_buy 25 = .ok (.astore 6, 2) := by decide +kernel
theorem dL_buy_27 : decode cL_buy 27 = .ok (.iconst 3, 1) := by decide +kernel
theorem dL_buy_28 : decode cL_buy 28 = .ok (.ireturn, 1) := by decide +kernel
theorem dL_buy_29 : decode cL_buy 29 = .ok (.iconst 0, 1) := by decide +kernel
theorem dL_buy_30 : decode cL_buy 30 = .ok (.ireturn, 1) := by decide +kernel
def zb_L_buy_0 : ZP := (z_ald 5 (z_push 0 (z_ald 0 (z_ild 1 (z_ild 2 (z_ild 3 (z_ild 4 (z_invH 7 4 sp_X7_buy (fun n => match n with | 1 => some 1 | 2 => some 2 | 3 => some 3 | _ => none) (z_lastI (z_push 0 (z_ret 1)))))))))))
set_option maxRecDepth 20000 in
theorem zk_L_buy_0 {X : ZX} (C : zCx X cL_buy RL (some .int) 8 142 11 66) (hn : X.nL = 7) (h0 : X.ce = 0 ∧ X.sl = 0 ∧ X.Q = zEndP X.b X.g X.ad X.S0 X.K X.a X.s 10 60) (ht : X.c.exceptionTable.toList = tableOf [(0, 14, 17, 13), (0, 14, 21, 15), (0, 14, 25, 36)]) : ZOK X 0 (zb_L_buy_0) := by
  unfold zb_L_buy_0
  refine z_aload_ok (pc := 0) (i := 5) C.hx C.hb dL_buy_0 ?_
  refine z_iconst_ok (pc := 2) (v := 0) C.hx C.hb dL_buy_2 (by decide) ?_
  refine z_aload_n_ok (pc := 3) (i := 0) C.hx C.hb dL_buy_3 rfl ?_
  refine z_iload_n_ok (pc := 4) (i := 1) C.hx C.hb dL_buy_4 rfl ?_
  refine z_iload_n_ok (pc := 5) (i := 2) C.hx C.hb dL_buy_5 rfl ?_
  refine z_iload_n_ok (pc := 6) (i := 3) C.hx C.hb dL_buy_6 rfl ?_
  refine z_iload_ok (pc := 7) (i := 4) C.hx C.hb dL_buy_7 ?_
  have hh : ∀ (n : Nat) (v : Int32), (fun n => match n with | 1 => some 1 | 2 => some 2 | 3 => some 3 | _ => none) n = some v → zhnd X cL_buy RL 9 n v := by
    intro n v h
    rcases n with _ | _ | _ | _ | n
    · cases h
    · have h : some (1 : Int32) = some v := h
      cases h
      exact ⟨[], ⟨0, 14, 17, 13⟩, [⟨0, 14, 21, 15⟩, ⟨0, 14, 25, 36⟩], ht, fun _ h => (nomatch h), by decide, by decide, zw_187, List.mem_of_getElem? (i := 0) rfl, 6, 2, 1, zlt hn (by decide), Or.inl ⟨dL_buy_17, rfl⟩, dL_buy_19, by decide, dL_buy_20⟩
    · have h : some (2 : Int32) = some v := h
      cases h
      exact ⟨[⟨0, 14, 17, 13⟩], ⟨0, 14, 21, 15⟩, [⟨0, 14, 25, 36⟩], ht, List.forall_mem_cons.mpr ⟨Or.inr ⟨by decide, _, zw_187, C.hE.2.2.2.2.2.2.1.1⟩, fun _ h => (nomatch h)⟩, by decide, by decide, zw_188, List.mem_of_getElem? (i := 1) rfl, 6, 2, 2, zlt hn (by decide), Or.inl ⟨dL_buy_21, rfl⟩, dL_buy_23, by decide, dL_buy_24⟩
    · have h : some (3 : Int32) = some v := h
      cases h
      exact ⟨[⟨0, 14, 17, 13⟩, ⟨0, 14, 21, 15⟩], ⟨0, 14, 25, 36⟩, [], ht, List.forall_mem_cons.mpr ⟨Or.inr ⟨by decide, _, zw_187, C.hE.2.2.2.2.2.2.1.2.1⟩, List.forall_mem_cons.mpr ⟨Or.inr ⟨by decide, _, zw_188, C.hE.2.2.2.2.2.2.1.2.2⟩, fun _ h => (nomatch h)⟩⟩, by decide, by decide, zw_329, List.mem_of_getElem? (i := 2) rfl, 6, 2, 3, zlt hn (by decide), Or.inl ⟨dL_buy_25, rfl⟩, dL_buy_27, by decide, dL_buy_28⟩
    · cases h
  refine z_invH_ok (pc := 9) C (zQ_of h0.2.2 (by have := h0.1; omega) (by have := h0.2.1; omega)) (zm_X7_buy X.l C.htr) ⟨rfl, rfl⟩ ⟨by decide, by decide⟩ (by decide) (by decide) zcl_L_75 zw_625 zw_626 zK7 hh dL_buy_9 ?_
  have C := C.c (cx' := 1) (sx' := 6) (zQ_of h0.2.2 (a := X.ce + 0) (b := X.sl + 0) (by have := h0.1; omega) (by have := h0.2.1; omega)) (by omega) (by omega)
  refine z_lastI_ok (pc := 12) C dL_buy_12 dL_buy_13 ?_
  refine z_goto_ok (pc := 14) (tgt := 29) C.hx C.hb dL_buy_14 (by decide) ?_
  refine z_iconst_ok (pc := 29) (v := 0) C.hx C.hb dL_buy_29 (by decide) ?_
  exact z_iret_ok (pc := 30) C dL_buy_30
def sp_L_buy : ZSp := fun as S K => as.length ≤ 7 ∧ zsp 7 zb_L_buy_0 as S K
theorem zm_L_buy (l : Launch) (hl : l.stackTraces = false) : zMetW l yL_buy cL_buy 7 (some .int) [(0, 14, 17, 13), (0, 14, 21, 15), (0, 14, 25, 36)] { frames := 8, cells := 11, slots := 66, locals := 142 } 10 60 sp_L_buy := zMetW_of hl (by decide +kernel) rfl ⟨rfl, rfl⟩ (fun X C hn h0 ht => zk_L_buy_0 C hn h0 ht)
theorem dL_claim_0 : decode cL_claim 0 = .ok (.aload 4, 2) := by decide +kernel
theorem dL_claim_2 : decode cL_claim 2 = .ok (.iconst 0, 1) := by decide +kernel
theorem dL_claim_3 : decode cL_claim 3 = .ok (.aload_n 0, 1) := by decide +kernel
theorem dL_claim_4 : decode cL_claim 4 = .ok (.iload_n 1, 1) := by decide +kernel
theorem dL_claim_5 : decode cL_claim 5 = .ok (.iload_n 2, 1) := by decide +kernel
theorem dL_claim_6 : decode cL_claim 6 = .ok (.iload_n 3, 1) := by decide +kernel
theorem dL_claim_7 : decode cL_claim 7 = .ok (.invokevirtual 79, 3) := by decide +kernel
theorem dL_claim_10 : decode cL_claim 10 = .ok (.i2l, 1) := by decide +kernel
theorem dL_claim_11 : decode cL_claim 11 = .ok (.lastore, 1) := by decide +kernel
theorem dL_claim_12 : decode cL_claim 12 = .ok (.goto 15, 3) := by decide +kernel
theorem dL_claim_15 : decode cL_claim 15 = .ok (.astore 5, 2) := by decide +kernel
theorem dL_claim_17 : decode cL_claim 17 = .ok (.iconst 1, 1) := by decide +kernel
theorem dL_claim_18 : decode cL_claim 18 = .ok (.ireturn, 1) := by decide +kernel
theorem dL_claim_19 : decode cL_claim 19 = .ok (.astore 5, 2) := by decide +kernel
theorem dL_claim_21 : decode cL_claim 21 = .ok (.iconst 2, 1) := by decide +kernel
theorem dL_claim_22 : decode cL_claim 22 = .ok (.ireturn, 1) := by decide +kernel
theorem dL_claim_23 : decode cL_claim 23 = .ok (.astore 5, 2) := by decide +kernel
theorem dL_claim_25 : decode cL_claim 25 = .ok (.iconst 3, 1) := by decide +kernel
theorem dL_claim_26 : decode cL_claim 26 = .ok (.ireturn, 1) := by decide +kernel
theorem dL_claim_27 : decode cL_claim 27 = .ok (.iconst 0, 1) := by decide +kernel
theorem dL_claim_28 : decode cL_claim 28 = .ok (.ireturn, 1) := by decide +kernel
def zb_L_claim_0 : ZP := (z_ald 4 (z_push 0 (z_ald 0 (z_ild 1 (z_ild 2 (z_ild 3 (z_invH 7 3 sp_X7_claim (fun n => match n with | 1 => some 1 | 2 => some 2 | 3 => some 3 | _ => none) (z_lastI (z_push 0 (z_ret 1))))))))))
set_option maxRecDepth 20000 in
theorem zk_L_claim_0 {X : ZX} (C : zCx X cL_claim RL (some .int) 8 139 11 66) (hn : X.nL = 6) (h0 : X.ce = 0 ∧ X.sl = 0 ∧ X.Q = zEndP X.b X.g X.ad X.S0 X.K X.a X.s 10 60) (ht : X.c.exceptionTable.toList = tableOf [(0, 12, 15, 13), (0, 12, 19, 15), (0, 12, 23, 36)]) : ZOK X 0 (zb_L_claim_0) := by
  unfold zb_L_claim_0
  refine z_aload_ok (pc := 0) (i := 4) C.hx C.hb dL_claim_0 ?_
  refine z_iconst_ok (pc := 2) (v := 0) C.hx C.hb dL_claim_2 (by decide) ?_
  refine z_aload_n_ok (pc := 3) (i := 0) C.hx C.hb dL_claim_3 rfl ?_
  refine z_iload_n_ok (pc := 4) (i := 1) C.hx C.hb dL_claim_4 rfl ?_
  refine z_iload_n_ok (pc := 5) (i := 2) C.hx C.hb dL_claim_5 rfl ?_
  refine z_iload_n_ok (pc := 6) (i := 3) C.hx C.hb dL_claim_6 rfl ?_
  have hh : ∀ (n : Nat) (v : Int32), (fun n => match n with | 1 => some 1 | 2 => some 2 | 3 => some 3 | _ => none) n = some v → zhnd X cL_claim RL 7 n v := by
    intro n v h
    rcases n with _ | _ | _ | _ | n
    · cases h
    · have h : some (1 : Int32) = some v := h
      cases h
      exact ⟨[], ⟨0, 12, 15, 13⟩, [⟨0, 12, 19, 15⟩, ⟨0, 12, 23, 36⟩], ht, fun _ h => (nomatch h), by decide, by decide, zw_187, List.mem_of_getElem? (i := 0) rfl, 5, 2, 1, zlt hn (by decide), Or.inl ⟨dL_claim_15, rfl⟩, dL_claim_17, by decide, dL_claim_18⟩
    · have h : some (2 : Int32) = some v := h
      cases h
      exact ⟨[⟨0, 12, 15, 13⟩], ⟨0, 12, 19, 15⟩, [⟨0, 12, 23, 36⟩], ht, List.forall_mem_cons.mpr ⟨Or.inr ⟨by decide, _, zw_187, C.hE.2.2.2.2.2.2.1.1⟩, fun _ h => (nomatch h)⟩, by decide, by decide, zw_188, List.mem_of_getElem? (i := 1) rfl, 5, 2, 2, zlt hn (by decide), Or.inl ⟨dL_claim_19, rfl⟩, dL_claim_21, by decide, dL_claim_22⟩
    · have h : some (3 : Int32) = some v := h
      cases h
      exact ⟨[⟨0, 12, 15, 13⟩, ⟨0, 12, 19, 15⟩], ⟨0, 12, 23, 36⟩, [], ht, List.forall_mem_cons.mpr ⟨Or.inr ⟨by decide, _, zw_187, C.hE.2.2.2.2.2.2.1.2.1⟩, List.forall_mem_cons.mpr ⟨Or.inr ⟨by decide, _, zw_188, C.hE.2.2.2.2.2.2.1.2.2⟩, fun _ h => (nomatch h)⟩⟩, by decide, by decide, zw_329, List.mem_of_getElem? (i := 2) rfl, 5, 2, 3, zlt hn (by decide), Or.inl ⟨dL_claim_23, rfl⟩, dL_claim_25, by decide, dL_claim_26⟩
    · cases h
  refine z_invH_ok (pc := 7) C (zQ_of h0.2.2 (by have := h0.1; omega) (by have := h0.2.1; omega)) (zm_X7_claim X.l C.htr) ⟨rfl, rfl⟩ ⟨by decide, by decide⟩ (by decide) (by decide) zcl_L_79 zw_656 zw_657 zK7 hh dL_claim_7 ?_
  have C := C.c (cx' := 1) (sx' := 6) (zQ_of h0.2.2 (a := X.ce + 0) (b := X.sl + 0) (by have := h0.1; omega) (by have := h0.2.1; omega)) (by omega) (by omega)
  refine z_lastI_ok (pc := 10) C dL_claim_10 dL_claim_11 ?_
  refine z_goto_ok (pc := 12) (tgt := 27) C.hx C.hb dL_claim_12 (by decide) ?_
  refine z_iconst_ok (pc := 27) (v := 0) C.hx C.hb dL_claim_27 (by decide) ?_
  exact z_iret_ok (pc := 28) C dL_claim_28
def sp_L_claim : ZSp := fun as S K => as.length ≤ 6 ∧ zsp 6 zb_L_claim_0 as S K
theorem zm_L_claim (l : Launch) (hl : l.stackTraces = false) : zMetW l yL_claim cL_claim 6 (some .int) [(0, 12, 15, 13), (0, 12, 19, 15), (0, 12, 23, 36)] { frames := 8, cells := 11, slots := 66, locals := 139 } 10 60 sp_L_claim := zMetW_of hl (by decide +kernel) rfl ⟨rfl, rfl⟩ (fun X C hn h0 ht => zk_L_claim_0 C hn h0 ht)
theorem dL_deliver_0 : decode cL_deliver 0 = .ok (.aload_n 3, 1) := by decide +kernel
theorem dL_deliver_1 : decode cL_deliver 1 = .ok (.iconst 0, 1) := by decide +kernel
theorem dL_deliver_2 : decode cL_deliver 2 = .ok (.aload_n 0, 1) := by decide +kernel
theorem dL_deliver_3 : decode cL_deliver 3 = .ok (.iload_n 1, 1) := by decide +kernel
theorem dL_deliver_4 : decode cL_deliver 4 = .ok (.iload_n 2, 1) := by decide +kernel
theorem dL_deliver_5 : decode cL_deliver 5 = .ok (.invokevirtual 109, 3) := by decide +kernel
theorem dL_deliver_8 : decode cL_deliver 8 = .ok (.i2l, 1) := by decide +kernel
theorem dL_deliver_9 : decode cL_deliver 9 = .ok (.lastore, 1) := by decide +kernel
theorem dL_deliver_10 : decode cL_deliver 10 = .ok (.goto 11, 3) := by decide +kernel
theorem dL_deliver_13 : decode cL_deliver 13 = .ok (.astore 4, 2) := by decide +kernel
theorem dL_deliver_15 : decode cL_deliver 15 = .ok (.iconst 1, 1) := by decide +kernel
theorem dL_deliver_16 : decode cL_deliver 16 = .ok (.ireturn, 1) := by decide +kernel
theorem dL_deliver_17 : decode cL_deliver 17 = .ok (.astore 4, 2) := by decide +kernel
theorem dL_deliver_19 : decode cL_deliver 19 = .ok (.iconst 2, 1) := by decide +kernel
theorem dL_deliver_20 : decode cL_deliver 20 = .ok (.ireturn, 1) := by decide +kernel
theorem dL_deliver_21 : decode cL_deliver 21 = .ok (.iconst 0, 1) := by decide +kernel
theorem dL_deliver_22 : decode cL_deliver 22 = .ok (.ireturn, 1) := by decide +kernel
def zb_L_deliver_0 : ZP := (z_ald 3 (z_push 0 (z_ald 0 (z_ild 1 (z_ild 2 (z_invH 7 2 sp_X7_deliver (fun n => match n with | 1 => some 1 | 2 => some 2 | _ => none) (z_lastI (z_push 0 (z_ret 1)))))))))
set_option maxRecDepth 20000 in
theorem zk_L_deliver_0 {X : ZX} (C : zCx X cL_deliver RL (some .int) 8 135 11 66) (hn : X.nL = 5) (h0 : X.ce = 0 ∧ X.sl = 0 ∧ X.Q = zEndP X.b X.g X.ad X.S0 X.K X.a X.s 10 60) (ht : X.c.exceptionTable.toList = tableOf [(0, 10, 13, 13), (0, 10, 17, 15)]) : ZOK X 0 (zb_L_deliver_0) := by
  unfold zb_L_deliver_0
  refine z_aload_n_ok (pc := 0) (i := 3) C.hx C.hb dL_deliver_0 rfl ?_
  refine z_iconst_ok (pc := 1) (v := 0) C.hx C.hb dL_deliver_1 (by decide) ?_
  refine z_aload_n_ok (pc := 2) (i := 0) C.hx C.hb dL_deliver_2 rfl ?_
  refine z_iload_n_ok (pc := 3) (i := 1) C.hx C.hb dL_deliver_3 rfl ?_
  refine z_iload_n_ok (pc := 4) (i := 2) C.hx C.hb dL_deliver_4 rfl ?_
  have hh : ∀ (n : Nat) (v : Int32), (fun n => match n with | 1 => some 1 | 2 => some 2 | _ => none) n = some v → zhnd X cL_deliver RL 5 n v := by
    intro n v h
    rcases n with _ | _ | _ | _ | n
    · cases h
    · have h : some (1 : Int32) = some v := h
      cases h
      exact ⟨[], ⟨0, 10, 13, 13⟩, [⟨0, 10, 17, 15⟩], ht, fun _ h => (nomatch h), by decide, by decide, zw_187, List.mem_of_getElem? (i := 0) rfl, 4, 2, 1, zlt hn (by decide), Or.inl ⟨dL_deliver_13, rfl⟩, dL_deliver_15, by decide, dL_deliver_16⟩
    · have h : some (2 : Int32) = some v := h
      cases h
      exact ⟨[⟨0, 10, 13, 13⟩], ⟨0, 10, 17, 15⟩, [], ht, List.forall_mem_cons.mpr ⟨Or.inr ⟨by decide, _, zw_187, C.hE.2.2.2.2.2.2.1.1⟩, fun _ h => (nomatch h)⟩, by decide, by decide, zw_188, List.mem_of_getElem? (i := 1) rfl, 4, 2, 2, zlt hn (by decide), Or.inl ⟨dL_deliver_17, rfl⟩, dL_deliver_19, by decide, dL_deliver_20⟩
    · cases h
    · cases h
  refine z_invH_ok (pc := 5) C (zQ_of h0.2.2 (by have := h0.1; omega) (by have := h0.2.1; omega)) (zm_X7_deliver X.l C.htr) ⟨rfl, rfl⟩ ⟨by decide, by decide⟩ (by decide) (by decide) zcl_L_109 zw_762 zw_763 zK7 hh dL_deliver_5 ?_
  have C := C.c (cx' := 1) (sx' := 6) (zQ_of h0.2.2 (a := X.ce + 0) (b := X.sl + 0) (by have := h0.1; omega) (by have := h0.2.1; omega)) (by omega) (by omega)
  refine z_lastI_ok (pc := 8) C dL_deliver_8 dL_deliver_9 ?_
  refine z_goto_ok (pc := 10) (tgt := 21) C.hx C.hb dL_deliver_10 (by decide) ?_
  refine z_iconst_ok (pc := 21) (v := 0) C.hx C.hb dL_deliver_21 (by decide) ?_
  exact z_iret_ok (pc := 22) C dL_deliver_22
def sp_L_deliver : ZSp := fun as S K => as.length ≤ 5 ∧ zsp 5 zb_L_deliver_0 as S K
theorem zm_L_deliver (l : Launch) (hl : l.stackTraces = false) : zMetW l yL_deliver cL_deliver 5 (some .int) [(0, 10, 13, 13), (0, 10, 17, 15)] { frames := 8, cells := 11, slots := 66, locals := 135 } 10 60 sp_L_deliver := zMetW_of hl (by decide +kernel) rfl ⟨rfl, rfl⟩ (fun X C hn h0 ht => zk_L_deliver_0 C hn h0 ht)
theorem dL_depot_0 : decode cL_depot 0 = .ok (.aload_n 2, 1) := by decide +kernel
theorem dL_depot_1 : decode cL_depot 1 = .ok (.iconst 0, 1) := by decide +kernel
theorem dL_depot_2 : decode cL_depot 2 = .ok (.aload_n 0, 1) := by decide +kernel
theorem dL_depot_3 : decode cL_depot 3 = .ok (.iload_n 1, 1) := by decide +kernel
theorem dL_depot_4 : decode cL_depot 4 = .ok (.invokevirtual 60, 3) := by decide +kernel
theorem dL_depot_7 : decode cL_depot 7 = .ok (.i2l, 1) := by decide +kernel
theorem dL_depot_8 : decode cL_depot 8 = .ok (.lastore, 1) := by decide +kernel
theorem dL_depot_9 : decode cL_depot 9 = .ok (.goto 9, 3) := by decide +kernel
theorem dL_depot_12 : decode cL_depot 12 = .ok (.astore_n 3, 1) := by decide +kernel
theorem dL_depot_13 : decode cL_depot 13 = .ok (.iconst 1, 1) := by decide +kernel
theorem dL_depot_14 : decode cL_depot 14 = .ok (.ireturn, 1) := by decide +kernel
theorem dL_depot_15 : decode cL_depot 15 = .ok (.astore_n 3, 1) := by decide +kernel
theorem dL_depot_16 : decode cL_depot 16 = .ok (.iconst 2, 1) := by decide +kernel
theorem dL_depot_17 : decode cL_depot 17 = .ok (.ireturn, 1) := by decide +kernel
theorem dL_depot_18 : decode cL_depot 18 = .ok (.iconst 0, 1) := by decide +kernel
theorem dL_depot_19 : decode cL_depot 19 = .ok (.ireturn, 1) := by decide +kernel
def zb_L_depot_0 : ZP := (z_ald 2 (z_push 0 (z_ald 0 (z_ild 1 (z_invH 7 1 sp_X7_depot (fun n => match n with | 1 => some 1 | 3 => some 2 | _ => none) (z_lastI (z_push 0 (z_ret 1))))))))
set_option maxRecDepth 20000 in
theorem zk_L_depot_0 {X : ZX} (C : zCx X cL_depot RL (some .int) 8 133 11 66) (hn : X.nL = 4) (h0 : X.ce = 0 ∧ X.sl = 0 ∧ X.Q = zEndP X.b X.g X.ad X.S0 X.K X.a X.s 10 60) (ht : X.c.exceptionTable.toList = tableOf [(0, 9, 12, 13), (0, 9, 15, 36)]) : ZOK X 0 (zb_L_depot_0) := by
  unfold zb_L_depot_0
  refine z_aload_n_ok (pc := 0) (i := 2) C.hx C.hb dL_depot_0 rfl ?_
  refine z_iconst_ok (pc := 1) (v := 0) C.hx C.hb dL_depot_1 (by decide) ?_
  refine z_aload_n_ok (pc := 2) (i := 0) C.hx C.hb dL_depot_2 rfl ?_
  refine z_iload_n_ok (pc := 3) (i := 1) C.hx C.hb dL_depot_3 rfl ?_
  have hh : ∀ (n : Nat) (v : Int32), (fun n => match n with | 1 => some 1 | 3 => some 2 | _ => none) n = some v → zhnd X cL_depot RL 4 n v := by
    intro n v h
    rcases n with _ | _ | _ | _ | n
    · cases h
    · have h : some (1 : Int32) = some v := h
      cases h
      exact ⟨[], ⟨0, 9, 12, 13⟩, [⟨0, 9, 15, 36⟩], ht, fun _ h => (nomatch h), by decide, by decide, zw_187, List.mem_of_getElem? (i := 0) rfl, 3, 1, 1, zlt hn (by decide), Or.inr ⟨3, dL_depot_12, rfl, rfl⟩, dL_depot_13, by decide, dL_depot_14⟩
    · cases h
    · have h : some (2 : Int32) = some v := h
      cases h
      exact ⟨[⟨0, 9, 12, 13⟩], ⟨0, 9, 15, 36⟩, [], ht, List.forall_mem_cons.mpr ⟨Or.inr ⟨by decide, _, zw_187, C.hE.2.2.2.2.2.2.1.2.1⟩, fun _ h => (nomatch h)⟩, by decide, by decide, zw_329, List.mem_of_getElem? (i := 2) rfl, 3, 1, 2, zlt hn (by decide), Or.inr ⟨3, dL_depot_15, rfl, rfl⟩, dL_depot_16, by decide, dL_depot_17⟩
    · cases h
  refine z_invH_ok (pc := 4) C (zQ_of h0.2.2 (by have := h0.1; omega) (by have := h0.2.1; omega)) (zm_X7_depot X.l C.htr) ⟨rfl, rfl⟩ ⟨by decide, by decide⟩ (by decide) (by decide) zcl_L_60 zw_508 zw_509 zK7 hh dL_depot_4 ?_
  have C := C.c (cx' := 1) (sx' := 6) (zQ_of h0.2.2 (a := X.ce + 2) (b := X.sl + 9) (by have := h0.1; omega) (by have := h0.2.1; omega)) (by omega) (by omega)
  refine z_lastI_ok (pc := 7) C dL_depot_7 dL_depot_8 ?_
  refine z_goto_ok (pc := 9) (tgt := 18) C.hx C.hb dL_depot_9 (by decide) ?_
  refine z_iconst_ok (pc := 18) (v := 0) C.hx C.hb dL_depot_18 (by decide) ?_
  exact z_iret_ok (pc := 19) C dL_depot_19
def sp_L_depot : ZSp := fun as S K => as.length ≤ 4 ∧ zsp 4 zb_L_depot_0 as S K
theorem zm_L_depot (l : Launch) (hl : l.stackTraces = false) : zMetW l yL_depot cL_depot 4 (some .int) [(0, 9, 12, 13), (0, 9, 15, 36)] { frames := 8, cells := 11, slots := 66, locals := 133 } 10 60 sp_L_depot := zMetW_of hl (by decide +kernel) rfl ⟨rfl, rfl⟩ (fun X C hn h0 ht => zk_L_depot_0 C hn h0 ht)
theorem dL_depotHas_0 : decode cL_depotHas 0 = .ok (.aload_n 3, 1) := by decide +kernel
theorem dL_depotHas_1 : decode cL_depotHas 1 = .ok (.iconst 0, 1) := by decide +kernel
theorem dL_depotHas_2 : decode cL_depotHas 2 = .ok (.aload_n 0, 1) := by decide +kernel
theorem dL_depotHas_3 : decode cL_depotHas 3 = .ok (.iload_n 1, 1) := by decide +kernel
theorem dL_depotHas_4 : decode cL_depotHas 4 = .ok (.iload_n 2, 1) := by decide +kernel
theorem dL_depotHas_5 : decode cL_depotHas 5 = .ok (.invokevirtual 72, 3) := by decide +kernel
theorem dL_depotHas_8 : decode cL_depotHas 8 = .ok (.i2l, 1) := by decide +kernel
theorem dL_depotHas_9 : decode cL_depotHas 9 = .ok (.lastore, 1) := by decide +kernel
theorem dL_depotHas_10 : decode cL_depotHas 10 = .ok (.goto 7, 3) := by decide +kernel
theorem dL_depotHas_13 : decode cL_depotHas 13 = .ok (.astore 4, 2) := by decide +kernel
theorem dL_depotHas_15 : decode cL_depotHas 15 = .ok (.iconst 1, 1) := by decide +kernel
theorem dL_depotHas_16 : decode cL_depotHas 16 = .ok (.ireturn, 1) := by decide +kernel
theorem dL_depotHas_17 : decode cL_depotHas 17 = .ok (.iconst 0, 1) := by decide +kernel
theorem dL_depotHas_18 : decode cL_depotHas 18 = .ok (.ireturn, 1) := by decide +kernel
def zb_L_depotHas_0 : ZP := (z_ald 3 (z_push 0 (z_ald 0 (z_ild 1 (z_ild 2 (z_invH 7 2 sp_X7_depotHas (fun n => match n with | 1 => some 1 | _ => none) (z_lastI (z_push 0 (z_ret 1)))))))))
set_option maxRecDepth 20000 in
theorem zk_L_depotHas_0 {X : ZX} (C : zCx X cL_depotHas RL (some .int) 8 134 11 66) (hn : X.nL = 5) (h0 : X.ce = 0 ∧ X.sl = 0 ∧ X.Q = zEndP X.b X.g X.ad X.S0 X.K X.a X.s 10 60) (ht : X.c.exceptionTable.toList = tableOf [(0, 10, 13, 13)]) : ZOK X 0 (zb_L_depotHas_0) := by
  unfold zb_L_depotHas_0
  refine z_aload_n_ok (pc := 0) (i := 3) C.hx C.hb dL_depotHas_0 rfl ?_
  refine z_iconst_ok (pc := 1) (v := 0) C.hx C.hb dL_depotHas_1 (by decide) ?_
  refine z_aload_n_ok (pc := 2) (i := 0) C.hx C.hb dL_depotHas_2 rfl ?_
  refine z_iload_n_ok (pc := 3) (i := 1) C.hx C.hb dL_depotHas_3 rfl ?_
  refine z_iload_n_ok (pc := 4) (i := 2) C.hx C.hb dL_depotHas_4 rfl ?_
  have hh : ∀ (n : Nat) (v : Int32), (fun n => match n with | 1 => some 1 | _ => none) n = some v → zhnd X cL_depotHas RL 5 n v := by
    intro n v h
    rcases n with _ | _ | _ | _ | n
    · cases h
    · have h : some (1 : Int32) = some v := h
      cases h
      exact ⟨[], ⟨0, 10, 13, 13⟩, [], ht, fun _ h => (nomatch h), by decide, by decide, zw_187, List.mem_of_getElem? (i := 0) rfl, 4, 2, 1, zlt hn (by decide), Or.inl ⟨dL_depotHas_13, rfl⟩, dL_depotHas_15, by decide, dL_depotHas_16⟩
    · cases h
    · cases h
    · cases h
  refine z_invH_ok (pc := 5) C (zQ_of h0.2.2 (by have := h0.1; omega) (by have := h0.2.1; omega)) (zm_X7_depotHas X.l C.htr) ⟨rfl, rfl⟩ ⟨by decide, by decide⟩ (by decide) (by decide) zcl_L_72 zw_618 zw_619 zK7 hh dL_depotHas_5 ?_
  have C := C.c (cx' := 1) (sx' := 6) (zQ_of h0.2.2 (a := X.ce + 0) (b := X.sl + 0) (by have := h0.1; omega) (by have := h0.2.1; omega)) (by omega) (by omega)
  refine z_lastI_ok (pc := 8) C dL_depotHas_8 dL_depotHas_9 ?_
  refine z_goto_ok (pc := 10) (tgt := 17) C.hx C.hb dL_depotHas_10 (by decide) ?_
  refine z_iconst_ok (pc := 17) (v := 0) C.hx C.hb dL_depotHas_17 (by decide) ?_
  exact z_iret_ok (pc := 18) C dL_depotHas_18
def sp_L_depotHas : ZSp := fun as S K => as.length ≤ 5 ∧ zsp 5 zb_L_depotHas_0 as S K
theorem zm_L_depotHas (l : Launch) (hl : l.stackTraces = false) : zMetW l yL_depotHas cL_depotHas 5 (some .int) [(0, 10, 13, 13)] { frames := 8, cells := 11, slots := 66, locals := 134 } 10 60 sp_L_depotHas := zMetW_of hl (by decide +kernel) rfl ⟨rfl, rfl⟩ (fun X C hn h0 ht => zk_L_depotHas_0 C hn h0 ht)
theorem dL_diet_0 : decode cL_diet 0 = .ok (.aload_n 2, 1) := by decide +kernel
theorem dL_diet_1 : decode cL_diet 1 = .ok (.iconst 0, 1) := by decide +kernel
theorem dL_diet_2 : decode cL_diet 2 = .ok (.aload_n 0, 1) := by decide +kernel
theorem dL_diet_3 : decode cL_diet 3 = .ok (.iload_n 1, 1) := by decide +kernel
theorem dL_diet_4 : decode cL_diet 4 = .ok (.invokevirtual 119, 3) := by decide +kernel
theorem dL_diet_7 : decode cL_diet 7 = .ok (.i2l, 1) := by decide +kernel
theorem dL_diet_8 : decode cL_diet 8 = .ok (.lastore, 1) := by decide +kernel
theorem dL_diet_9 : decode cL_diet 9 = .ok (.goto 6, 3) := by decide +kernel
theorem dL_diet_12 : decode cL_diet 12 = .ok (.astore_n 3, 1) := by decide +kernel
theorem dL_diet_13 : decode cL_diet 13 = .ok (.iconst 1, 1) := by decide +kernel
theorem dL_diet_14 : decode cL_diet 14 = .ok (.ireturn, 1) := by decide +kernel
theorem dL_diet_15 : decode cL_diet 15 = .ok (.iconst 0, 1) := by decide +kernel
theorem dL_diet_16 : decode cL_diet 16 = .ok (.ireturn, 1) := by decide +kernel
def zb_L_diet_0 : ZP := (z_ald 2 (z_push 0 (z_ald 0 (z_ild 1 (z_invH 7 1 sp_X7_diet (fun n => match n with | 2 => some 1 | _ => none) (z_lastI (z_push 0 (z_ret 1))))))))
set_option maxRecDepth 20000 in
theorem zk_L_diet_0 {X : ZX} (C : zCx X cL_diet RL (some .int) 8 134 11 66) (hn : X.nL = 4) (h0 : X.ce = 0 ∧ X.sl = 0 ∧ X.Q = zEndP X.b X.g X.ad X.S0 X.K X.a X.s 10 60) (ht : X.c.exceptionTable.toList = tableOf [(0, 9, 12, 15)]) : ZOK X 0 (zb_L_diet_0) := by
  unfold zb_L_diet_0
  refine z_aload_n_ok (pc := 0) (i := 2) C.hx C.hb dL_diet_0 rfl ?_
  refine z_iconst_ok (pc := 1) (v := 0) C.hx C.hb dL_diet_1 (by decide) ?_
  refine z_aload_n_ok (pc := 2) (i := 0) C.hx C.hb dL_diet_2 rfl ?_
  refine z_iload_n_ok (pc := 3) (i := 1) C.hx C.hb dL_diet_3 rfl ?_
  have hh : ∀ (n : Nat) (v : Int32), (fun n => match n with | 2 => some 1 | _ => none) n = some v → zhnd X cL_diet RL 4 n v := by
    intro n v h
    rcases n with _ | _ | _ | _ | n
    · cases h
    · cases h
    · have h : some (1 : Int32) = some v := h
      cases h
      exact ⟨[], ⟨0, 9, 12, 15⟩, [], ht, fun _ h => (nomatch h), by decide, by decide, zw_188, List.mem_of_getElem? (i := 1) rfl, 3, 1, 1, zlt hn (by decide), Or.inr ⟨3, dL_diet_12, rfl, rfl⟩, dL_diet_13, by decide, dL_diet_14⟩
    · cases h
    · cases h
  refine z_invH_ok (pc := 4) C (zQ_of h0.2.2 (by have := h0.1; omega) (by have := h0.2.1; omega)) (zm_X7_diet X.l C.htr) ⟨rfl, rfl⟩ ⟨by decide, by decide⟩ (by decide) (by decide) zcl_L_119 zw_821 zw_822 zK7 hh dL_diet_4 ?_
  have C := C.c (cx' := 1) (sx' := 6) (zQ_of h0.2.2 (a := X.ce + 0) (b := X.sl + 0) (by have := h0.1; omega) (by have := h0.2.1; omega)) (by omega) (by omega)
  refine z_lastI_ok (pc := 7) C dL_diet_7 dL_diet_8 ?_
  refine z_goto_ok (pc := 9) (tgt := 15) C.hx C.hb dL_diet_9 (by decide) ?_
  refine z_iconst_ok (pc := 15) (v := 0) C.hx C.hb dL_diet_15 (by decide) ?_
  exact z_iret_ok (pc := 16) C dL_diet_16
def sp_L_diet : ZSp := fun as S K => as.length ≤ 4 ∧ zsp 4 zb_L_diet_0 as S K
theorem zm_L_diet (l : Launch) (hl : l.stackTraces = false) : zMetW l yL_diet cL_diet 4 (some .int) [(0, 9, 12, 15)] { frames := 8, cells := 11, slots := 66, locals := 134 } 10 60 sp_L_diet := zMetW_of hl (by decide +kernel) rfl ⟨rfl, rfl⟩ (fun X C hn h0 ht => zk_L_diet_0 C hn h0 ht)
theorem dL_energy_0 : decode cL_energy 0 = .ok (.aload_n 3, 1) := by decide +kernel
theorem dL_energy_1 : decode cL_energy 1 = .ok (.iconst 0, 1) := by decide +kernel
theorem dL_energy_2 : decode cL_energy 2 = .ok (.aload_n 0, 1) := by decide +kernel
theorem dL_energy_3 : decode cL_energy 3 = .ok (.iload_n 1, 1) := by decide +kernel
theorem dL_energy_4 : decode cL_energy 4 = .ok (.iload_n 2, 1) := by decide +kernel
theorem dL_energy_5 : decode cL_energy 5 = .ok (.invokevirtual 24, 3) := by decide +kernel
theorem dL_energy_8 : decode cL_energy 8 = .ok (.i2l, 1) := by decide +kernel
theorem dL_energy_9 : decode cL_energy 9 = .ok (.lastore, 1) := by decide +kernel
theorem dL_energy_10 : decode cL_energy 10 = .ok (.goto 11, 3) := by decide +kernel
theorem dL_energy_13 : decode cL_energy 13 = .ok (.astore 4, 2) := by decide +kernel
theorem dL_energy_15 : decode cL_energy 15 = .ok (.iconst 1, 1) := by decide +kernel
theorem dL_energy_16 : decode cL_energy 16 = .ok (.ireturn, 1) := by decide +kernel
theorem dL_energy_17 : decode cL_energy 17 = .ok (.astore 4, 2) := by decide +kernel
theorem dL_energy_19 : decode cL_energy 19 = .ok (.iconst 2, 1) := by decide +kernel
theorem dL_energy_20 : decode cL_energy 20 = .ok (.ireturn, 1) := by decide +kernel
theorem dL_energy_21 : decode cL_energy 21 = .ok (.iconst 0, 1) := by decide +kernel
theorem dL_energy_22 : decode cL_energy 22 = .ok (.ireturn, 1) := by decide +kernel
def zb_L_energy_0 : ZP := (z_ald 3 (z_push 0 (z_ald 0 (z_ild 1 (z_ild 2 (z_invH 7 2 sp_X7_energy (fun n => match n with | 1 => some 1 | 2 => some 2 | _ => none) (z_lastI (z_push 0 (z_ret 1)))))))))
set_option maxRecDepth 20000 in
theorem zk_L_energy_0 {X : ZX} (C : zCx X cL_energy RL (some .int) 8 136 11 66) (hn : X.nL = 5) (h0 : X.ce = 0 ∧ X.sl = 0 ∧ X.Q = zEndP X.b X.g X.ad X.S0 X.K X.a X.s 10 60) (ht : X.c.exceptionTable.toList = tableOf [(0, 10, 13, 13), (0, 10, 17, 15)]) : ZOK X 0 (zb_L_energy_0) := by
  unfold zb_L_energy_0
  refine z_aload_n_ok (pc := 0) (i := 3) C.hx C.hb dL_energy_0 rfl ?_
  refine z_iconst_ok (pc := 1) (v := 0) C.hx C.hb dL_energy_1 (by decide) ?_
  refine z_aload_n_ok (pc := 2) (i := 0) C.hx C.hb dL_energy_2 rfl ?_
  refine z_iload_n_ok (pc := 3) (i := 1) C.hx C.hb dL_energy_3 rfl ?_
  refine z_iload_n_ok (pc := 4) (i := 2) C.hx C.hb dL_energy_4 rfl ?_
  have hh : ∀ (n : Nat) (v : Int32), (fun n => match n with | 1 => some 1 | 2 => some 2 | _ => none) n = some v → zhnd X cL_energy RL 5 n v := by
    intro n v h
    rcases n with _ | _ | _ | _ | n
    · cases h
    · have h : some (1 : Int32) = some v := h
      cases h
      exact ⟨[], ⟨0, 10, 13, 13⟩, [⟨0, 10, 17, 15⟩], ht, fun _ h => (nomatch h), by decide, by decide, zw_187, List.mem_of_getElem? (i := 0) rfl, 4, 2, 1, zlt hn (by decide), Or.inl ⟨dL_energy_13, rfl⟩, dL_energy_15, by decide, dL_energy_16⟩
    · have h : some (2 : Int32) = some v := h
      cases h
      exact ⟨[⟨0, 10, 13, 13⟩], ⟨0, 10, 17, 15⟩, [], ht, List.forall_mem_cons.mpr ⟨Or.inr ⟨by decide, _, zw_187, C.hE.2.2.2.2.2.2.1.1⟩, fun _ h => (nomatch h)⟩, by decide, by decide, zw_188, List.mem_of_getElem? (i := 1) rfl, 4, 2, 2, zlt hn (by decide), Or.inl ⟨dL_energy_17, rfl⟩, dL_energy_19, by decide, dL_energy_20⟩
    · cases h
    · cases h
  refine z_invH_ok (pc := 5) C (zQ_of h0.2.2 (by have := h0.1; omega) (by have := h0.2.1; omega)) (zm_X7_energy X.l C.htr) ⟨rfl, rfl⟩ ⟨by decide, by decide⟩ (by decide) (by decide) zcl_L_24 zw_305 zw_306 zK7 hh dL_energy_5 ?_
  have C := C.c (cx' := 1) (sx' := 6) (zQ_of h0.2.2 (a := X.ce + 0) (b := X.sl + 0) (by have := h0.1; omega) (by have := h0.2.1; omega)) (by omega) (by omega)
  refine z_lastI_ok (pc := 8) C dL_energy_8 dL_energy_9 ?_
  refine z_goto_ok (pc := 10) (tgt := 21) C.hx C.hb dL_energy_10 (by decide) ?_
  refine z_iconst_ok (pc := 21) (v := 0) C.hx C.hb dL_energy_21 (by decide) ?_
  exact z_iret_ok (pc := 22) C dL_energy_22
def sp_L_energy : ZSp := fun as S K => as.length ≤ 5 ∧ zsp 5 zb_L_energy_0 as S K
theorem zm_L_energy (l : Launch) (hl : l.stackTraces = false) : zMetW l yL_energy cL_energy 5 (some .int) [(0, 10, 13, 13), (0, 10, 17, 15)] { frames := 8, cells := 11, slots := 66, locals := 136 } 10 60 sp_L_energy := zMetW_of hl (by decide +kernel) rfl ⟨rfl, rfl⟩ (fun X C hn h0 ht => zk_L_energy_0 C hn h0 ht)
theorem dL_failed_0 : decode cL_failed 0 = .ok (.aload_n 2, 1) := by decide +kernel
theorem dL_failed_1 : decode cL_failed 1 = .ok (.iconst 0, 1) := by decide +kernel
theorem dL_failed_2 : decode cL_failed 2 = .ok (.aload_n 0, 1) := by decide +kernel
theorem dL_failed_3 : decode cL_failed 3 = .ok (.iload_n 1, 1) := by decide +kernel
theorem dL_failed_4 : decode cL_failed 4 = .ok (.invokevirtual 112, 3) := by decide +kernel
theorem dL_failed_7 : decode cL_failed 7 = .ok (.i2l, 1) := by decide +kernel
theorem dL_failed_8 : decode cL_failed 8 = .ok (.lastore, 1) := by decide +kernel
theorem dL_failed_9 : decode cL_failed 9 = .ok (.goto 6, 3) := by decide +kernel
theorem dL_failed_12 : decode cL_failed 12 = .ok (.astore_n 3, 1) := by decide +kernel
theorem dL_failed_13 : decode cL_failed 13 = .ok (.iconst 1, 1) := by decide +kernel
theorem dL_failed_14 : decode cL_failed 14 = .ok (.ireturn, 1) := by decide +kernel
theorem dL_failed_15 : decode cL_failed 15 = .ok (.iconst 0, 1) := by decide +kernel
theorem dL_failed_16 : decode cL_failed 16 = .ok (.ireturn, 1) := by decide +kernel
def zb_L_failed_0 : ZP := (z_ald 2 (z_push 0 (z_ald 0 (z_ild 1 (z_invH 7 1 sp_X7_failed (fun n => match n with | 1 => some 1 | _ => none) (z_lastI (z_push 0 (z_ret 1))))))))
set_option maxRecDepth 20000 in
theorem zk_L_failed_0 {X : ZX} (C : zCx X cL_failed RL (some .int) 8 132 11 66) (hn : X.nL = 4) (h0 : X.ce = 0 ∧ X.sl = 0 ∧ X.Q = zEndP X.b X.g X.ad X.S0 X.K X.a X.s 10 60) (ht : X.c.exceptionTable.toList = tableOf [(0, 9, 12, 13)]) : ZOK X 0 (zb_L_failed_0) := by
  unfold zb_L_failed_0
  refine z_aload_n_ok (pc := 0) (i := 2) C.hx C.hb dL_failed_0 rfl ?_
  refine z_iconst_ok (pc := 1) (v := 0) C.hx C.hb dL_failed_1 (by decide) ?_
  refine z_aload_n_ok (pc := 2) (i := 0) C.hx C.hb dL_failed_2 rfl ?_
  refine z_iload_n_ok (pc := 3) (i := 1) C.hx C.hb dL_failed_3 rfl ?_
  have hh : ∀ (n : Nat) (v : Int32), (fun n => match n with | 1 => some 1 | _ => none) n = some v → zhnd X cL_failed RL 4 n v := by
    intro n v h
    rcases n with _ | _ | _ | _ | n
    · cases h
    · have h : some (1 : Int32) = some v := h
      cases h
      exact ⟨[], ⟨0, 9, 12, 13⟩, [], ht, fun _ h => (nomatch h), by decide, by decide, zw_187, List.mem_of_getElem? (i := 0) rfl, 3, 1, 1, zlt hn (by decide), Or.inr ⟨3, dL_failed_12, rfl, rfl⟩, dL_failed_13, by decide, dL_failed_14⟩
    · cases h
    · cases h
    · cases h
  refine z_invH_ok (pc := 4) C (zQ_of h0.2.2 (by have := h0.1; omega) (by have := h0.2.1; omega)) (zm_X7_failed X.l C.htr) ⟨rfl, rfl⟩ ⟨by decide, by decide⟩ (by decide) (by decide) zcl_L_112 zw_774 zw_775 zK7 hh dL_failed_4 ?_
  have C := C.c (cx' := 1) (sx' := 6) (zQ_of h0.2.2 (a := X.ce + 0) (b := X.sl + 0) (by have := h0.1; omega) (by have := h0.2.1; omega)) (by omega) (by omega)
  refine z_lastI_ok (pc := 7) C dL_failed_7 dL_failed_8 ?_
  refine z_goto_ok (pc := 9) (tgt := 15) C.hx C.hb dL_failed_9 (by decide) ?_
  refine z_iconst_ok (pc := 15) (v := 0) C.hx C.hb dL_failed_15 (by decide) ?_
  exact z_iret_ok (pc := 16) C dL_failed_16
def sp_L_failed : ZSp := fun as S K => as.length ≤ 4 ∧ zsp 4 zb_L_failed_0 as S K
theorem zm_L_failed (l : Launch) (hl : l.stackTraces = false) : zMetW l yL_failed cL_failed 4 (some .int) [(0, 9, 12, 13)] { frames := 8, cells := 11, slots := 66, locals := 132 } 10 60 sp_L_failed := zMetW_of hl (by decide +kernel) rfl ⟨rfl, rfl⟩ (fun X C hn h0 ht => zk_L_failed_0 C hn h0 ht)
theorem dL_farm_0 : decode cL_farm 0 = .ok (.aload 4, 2) := by decide +kernel
theorem dL_farm_2 : decode cL_farm 2 = .ok (.iconst 0, 1) := by decide +kernel
theorem dL_farm_3 : decode cL_farm 3 = .ok (.aload_n 0, 1) := by decide +kernel
theorem dL_farm_4 : decode cL_farm 4 = .ok (.iload_n 1, 1) := by decide +kernel
theorem dL_farm_5 : decode cL_farm 5 = .ok (.iload_n 2, 1) := by decide +kernel
theorem dL_farm_6 : decode cL_farm 6 = .ok (.iload_n 3, 1) := by decide +kernel
theorem dL_farm_7 : decode cL_farm 7 = .ok (.invokevirtual 106, 3) := by decide +kernel
theorem dL_farm_10 : decode cL_farm 10 = .ok (.i2l, 1) := by decide +kernel
theorem dL_farm_11 : decode cL_farm 11 = .ok (.lastore, 1) := by decide +kernel
theorem dL_farm_12 : decode cL_farm 12 = .ok (.goto 15, 3) := by decide +kernel
theorem dL_farm_15 : decode cL_farm 15 = .ok (.astore 5, 2) := by decide +kernel
theorem dL_farm_17 : decode cL_farm 17 = .ok (.iconst 1, 1) := by decide +kernel
theorem dL_farm_18 : decode cL_farm 18 = .ok (.ireturn, 1) := by decide +kernel
theorem dL_farm_19 : decode cL_farm 19 = .ok (.astore 5, 2) := by decide +kernel
theorem dL_farm_21 : decode cL_farm 21 = .ok (.iconst 2, 1) := by decide +kernel
theorem dL_farm_22 : decode cL_farm 22 = .ok (.ireturn, 1) := by decide +kernel
theorem dL_farm_23 : decode cL_farm 23 = .ok (.astore 5, 2) := by decide +kernel
theorem dL_farm_25 : decode cL_farm 25 = .ok (.iconst 3, 1) := by decide +kernel
theorem dL_farm_26 : decode cL_farm 26 = .ok (.ireturn, 1) := by decide +kernel
theorem dL_farm_27 : decode cL_farm 27 = .ok (.iconst 0, 1) := by decide +kernel
theorem dL_farm_28 : decode cL_farm 28 = .ok (.ireturn, 1) := by decide +kernel
def zb_L_farm_0 : ZP := (z_ald 4 (z_push 0 (z_ald 0 (z_ild 1 (z_ild 2 (z_ild 3 (z_invH 7 3 sp_X7_farm (fun n => match n with | 1 => some 1 | 2 => some 2 | 3 => some 3 | _ => none) (z_lastI (z_push 0 (z_ret 1))))))))))
set_option maxRecDepth 20000 in
theorem zk_L_farm_0 {X : ZX} (C : zCx X cL_farm RL (some .int) 8 136 11 66) (hn : X.nL = 6) (h0 : X.ce = 0 ∧ X.sl = 0 ∧ X.Q = zEndP X.b X.g X.ad X.S0 X.K X.a X.s 10 60) (ht : X.c.exceptionTable.toList = tableOf [(0, 12, 15, 13), (0, 12, 19, 15), (0, 12, 23, 36)]) : ZOK X 0 (zb_L_farm_0) := by
  unfold zb_L_farm_0
  refine z_aload_ok (pc := 0) (i := 4) C.hx C.hb dL_farm_0 ?_
  refine z_iconst_ok (pc := 2) (v := 0) C.hx C.hb dL_farm_2 (by decide) ?_
  refine z_aload_n_ok (pc := 3) (i := 0) C.hx C.hb dL_farm_3 rfl ?_
  refine z_iload_n_ok (pc := 4) (i := 1) C.hx C.hb dL_farm_4 rfl ?_
  refine z_iload_n_ok (pc := 5) (i := 2) C.hx C.hb dL_farm_5 rfl ?_
  refine z_iload_n_ok (pc := 6) (i := 3) C.hx C.hb dL_farm_6 rfl ?_
  have hh : ∀ (n : Nat) (v : Int32), (fun n => match n with | 1 => some 1 | 2 => some 2 | 3 => some 3 | _ => none) n = some v → zhnd X cL_farm RL 7 n v := by
    intro n v h
    rcases n with _ | _ | _ | _ | n
    · cases h
    · have h : some (1 : Int32) = some v := h
      cases h
      exact ⟨[], ⟨0, 12, 15, 13⟩, [⟨0, 12, 19, 15⟩, ⟨0, 12, 23, 36⟩], ht, fun _ h => (nomatch h), by decide, by decide, zw_187, List.mem_of_getElem? (i := 0) rfl, 5, 2, 1, zlt hn (by decide), Or.inl ⟨dL_farm_15, rfl⟩, dL_farm_17, by decide, dL_farm_18⟩
    · have h : some (2 : Int32) = some v := h
      cases h
      exact ⟨[⟨0, 12, 15, 13⟩], ⟨0, 12, 19, 15⟩, [⟨0, 12, 23, 36⟩], ht, List.forall_mem_cons.mpr ⟨Or.inr ⟨by decide, _, zw_187, C.hE.2.2.2.2.2.2.1.1⟩, fun _ h => (nomatch h)⟩, by decide, by decide, zw_188, List.mem_of_getElem? (i := 1) rfl, 5, 2, 2, zlt hn (by decide), Or.inl ⟨dL_farm_19, rfl⟩, dL_farm_21, by decide, dL_farm_22⟩
    · have h : some (3 : Int32) = some v := h
      cases h
      exact ⟨[⟨0, 12, 15, 13⟩, ⟨0, 12, 19, 15⟩], ⟨0, 12, 23, 36⟩, [], ht, List.forall_mem_cons.mpr ⟨Or.inr ⟨by decide, _, zw_187, C.hE.2.2.2.2.2.2.1.2.1⟩, List.forall_mem_cons.mpr ⟨Or.inr ⟨by decide, _, zw_188, C.hE.2.2.2.2.2.2.1.2.2⟩, fun _ h => (nomatch h)⟩⟩, by decide, by decide, zw_329, List.mem_of_getElem? (i := 2) rfl, 5, 2, 3, zlt hn (by decide), Or.inl ⟨dL_farm_23, rfl⟩, dL_farm_25, by decide, dL_farm_26⟩
    · cases h
  refine z_invH_ok (pc := 7) C (zQ_of h0.2.2 (by have := h0.1; omega) (by have := h0.2.1; omega)) (zm_X7_farm X.l C.htr) ⟨rfl, rfl⟩ ⟨by decide, by decide⟩ (by decide) (by decide) zcl_L_106 zw_729 zw_730 zK7 hh dL_farm_7 ?_
  have C := C.c (cx' := 1) (sx' := 6) (zQ_of h0.2.2 (a := X.ce + 1) (b := X.sl + 5) (by have := h0.1; omega) (by have := h0.2.1; omega)) (by omega) (by omega)
  refine z_lastI_ok (pc := 10) C dL_farm_10 dL_farm_11 ?_
  refine z_goto_ok (pc := 12) (tgt := 27) C.hx C.hb dL_farm_12 (by decide) ?_
  refine z_iconst_ok (pc := 27) (v := 0) C.hx C.hb dL_farm_27 (by decide) ?_
  exact z_iret_ok (pc := 28) C dL_farm_28
def sp_L_farm : ZSp := fun as S K => as.length ≤ 6 ∧ zsp 6 zb_L_farm_0 as S K
theorem zm_L_farm (l : Launch) (hl : l.stackTraces = false) : zMetW l yL_farm cL_farm 6 (some .int) [(0, 12, 15, 13), (0, 12, 19, 15), (0, 12, 23, 36)] { frames := 8, cells := 11, slots := 66, locals := 136 } 10 60 sp_L_farm := zMetW_of hl (by decide +kernel) rfl ⟨rfl, rfl⟩ (fun X C hn h0 ht => zk_L_farm_0 C hn h0 ht)
theorem dL_forge_0 : decode cL_forge 0 = .ok (.aload 4, 2) := by decide +kernel
theorem dL_forge_2 : decode cL_forge 2 = .ok (.iconst 0, 1) := by decide +kernel
theorem dL_forge_3 : decode cL_forge 3 = .ok (.aload_n 0, 1) := by decide +kernel
theorem dL_forge_4 : decode cL_forge 4 = .ok (.iload_n 1, 1) := by decide +kernel
theorem dL_forge_5 : decode cL_forge 5 = .ok (.iload_n 2, 1) := by decide +kernel
theorem dL_forge_6 : decode cL_forge 6 = .ok (.iload_n 3, 1) := by decide +kernel
theorem dL_forge_7 : decode cL_forge 7 = .ok (.invokevirtual 94, 3) := by decide +kernel
theorem dL_forge_10 : decode cL_forge 10 = .ok (.i2l, 1) := by decide +kernel
theorem dL_forge_11 : decode cL_forge 11 = .ok (.lastore, 1) := by decide +kernel
theorem dL_forge_12 : decode cL_forge 12 = .ok (.goto 11, 3) := by decide +kernel
theorem dL_forge_15 : decode cL_forge 15 = .ok (.astore 5, 2) := by decide +kernel
theorem dL_forge_17 : decode cL_forge 17 = .ok (.iconst 1, 1) := by decide +kernel
theorem dL_forge_18 : decode cL_forge 18 = .ok (.ireturn, 1) := by decide +kernel
theorem dL_forge_19 : decode cL_forge 19 = .ok (.astore 5, 2) := by decide +kernel
theorem dL_forge_21 : decode cL_forge 21 = .ok (.iconst 2, 1) := by decide +kernel
theorem dL_forge_22 : decode cL_forge 22 = .ok (.ireturn, 1) := by decide +kernel
theorem dL_forge_23 : decode cL_forge 23 = .ok (.iconst 0, 1) := by decide +kernel
theorem dL_forge_24 : decode cL_forge 24 = .ok (.ireturn, 1) := by decide +kernel
def zb_L_forge_0 : ZP := (z_ald 4 (z_push 0 (z_ald 0 (z_ild 1 (z_ild 2 (z_ild 3 (z_invH 7 3 sp_X7_forge (fun n => match n with | 1 => some 1 | 2 => some 2 | _ => none) (z_lastI (z_push 0 (z_ret 1))))))))))
set_option maxRecDepth 20000 in
theorem zk_L_forge_0 {X : ZX} (C : zCx X cL_forge RL (some .int) 8 137 11 66) (hn : X.nL = 6) (h0 : X.ce = 0 ∧ X.sl = 0 ∧ X.Q = zEndP X.b X.g X.ad X.S0 X.K X.a X.s 10 60) (ht : X.c.exceptionTable.toList = tableOf [(0, 12, 15, 13), (0, 12, 19, 15)]) : ZOK X 0 (zb_L_forge_0) := by
  unfold zb_L_forge_0
  refine z_aload_ok (pc := 0) (i := 4) C.hx C.hb dL_forge_0 ?_
  refine z_iconst_ok (pc := 2) (v := 0) C.hx C.hb dL_forge_2 (by decide) ?_
  refine z_aload_n_ok (pc := 3) (i := 0) C.hx C.hb dL_forge_3 rfl ?_
  refine z_iload_n_ok (pc := 4) (i := 1) C.hx C.hb dL_forge_4 rfl ?_
  refine z_iload_n_ok (pc := 5) (i := 2) C.hx C.hb dL_forge_5 rfl ?_
  refine z_iload_n_ok (pc := 6) (i := 3) C.hx C.hb dL_forge_6 rfl ?_
  have hh : ∀ (n : Nat) (v : Int32), (fun n => match n with | 1 => some 1 | 2 => some 2 | _ => none) n = some v → zhnd X cL_forge RL 7 n v := by
    intro n v h
    rcases n with _ | _ | _ | _ | n
    · cases h
    · have h : some (1 : Int32) = some v := h
      cases h
      exact ⟨[], ⟨0, 12, 15, 13⟩, [⟨0, 12, 19, 15⟩], ht, fun _ h => (nomatch h), by decide, by decide, zw_187, List.mem_of_getElem? (i := 0) rfl, 5, 2, 1, zlt hn (by decide), Or.inl ⟨dL_forge_15, rfl⟩, dL_forge_17, by decide, dL_forge_18⟩
    · have h : some (2 : Int32) = some v := h
      cases h
      exact ⟨[⟨0, 12, 15, 13⟩], ⟨0, 12, 19, 15⟩, [], ht, List.forall_mem_cons.mpr ⟨Or.inr ⟨by decide, _, zw_187, C.hE.2.2.2.2.2.2.1.1⟩, fun _ h => (nomatch h)⟩, by decide, by decide, zw_188, List.mem_of_getElem? (i := 1) rfl, 5, 2, 2, zlt hn (by decide), Or.inl ⟨dL_forge_19, rfl⟩, dL_forge_21, by decide, dL_forge_22⟩
    · cases h
    · cases h
  refine z_invH_ok (pc := 7) C (zQ_of h0.2.2 (by have := h0.1; omega) (by have := h0.2.1; omega)) (zm_X7_forge X.l C.htr) ⟨rfl, rfl⟩ ⟨by decide, by decide⟩ (by decide) (by decide) zcl_L_94 zw_701 zw_702 zK7 hh dL_forge_7 ?_
  have C := C.c (cx' := 1) (sx' := 6) (zQ_of h0.2.2 (a := X.ce + 0) (b := X.sl + 0) (by have := h0.1; omega) (by have := h0.2.1; omega)) (by omega) (by omega)
  refine z_lastI_ok (pc := 10) C dL_forge_10 dL_forge_11 ?_
  refine z_goto_ok (pc := 12) (tgt := 23) C.hx C.hb dL_forge_12 (by decide) ?_
  refine z_iconst_ok (pc := 23) (v := 0) C.hx C.hb dL_forge_23 (by decide) ?_
  exact z_iret_ok (pc := 24) C dL_forge_24
def sp_L_forge : ZSp := fun as S K => as.length ≤ 6 ∧ zsp 6 zb_L_forge_0 as S K
theorem zm_L_forge (l : Launch) (hl : l.stackTraces = false) : zMetW l yL_forge cL_forge 6 (some .int) [(0, 12, 15, 13), (0, 12, 19, 15)] { frames := 8, cells := 11, slots := 66, locals := 137 } 10 60 sp_L_forge := zMetW_of hl (by decide +kernel) rfl ⟨rfl, rfl⟩ (fun X C hn h0 ht => zk_L_forge_0 C hn h0 ht)
theorem dL_free_0 : decode cL_free 0 = .ok (.aload_n 2, 1) := by decide +kernel
theorem dL_free_1 : decode cL_free 1 = .ok (.iconst 0, 1) := by decide +kernel
theorem dL_free_2 : decode cL_free 2 = .ok (.aload_n 0, 1) := by decide +kernel
theorem dL_free_3 : decode cL_free 3 = .ok (.iload_n 1, 1) := by decide +kernel
theorem dL_free_4 : decode cL_free 4 = .ok (.invokevirtual 20, 3) := by decide +kernel
theorem dL_free_7 : decode cL_free 7 = .ok (.i2l, 1) := by decide +kernel
theorem dL_free_8 : decode cL_free 8 = .ok (.lastore, 1) := by decide +kernel
theorem dL_free_9 : decode cL_free 9 = .ok (.goto 6, 3) := by decide +kernel
theorem dL_free_12 : decode cL_free 12 = .ok (.astore_n 3, 1) := by decide +kernel
theorem dL_free_13 : decode cL_free 13 = .ok (.iconst 1, 1) := by decide +kernel
theorem dL_free_14 : decode cL_free 14 = .ok (.ireturn, 1) := by decide +kernel
theorem dL_free_15 : decode cL_free 15 = .ok (.iconst 0, 1) := by decide +kernel
theorem dL_free_16 : decode cL_free 16 = .ok (.ireturn, 1) := by decide +kernel
def zb_L_free_0 : ZP := (z_ald 2 (z_push 0 (z_ald 0 (z_ild 1 (z_invH 7 1 sp_X7_free (fun n => match n with | 1 => some 1 | _ => none) (z_lastI (z_push 0 (z_ret 1))))))))
set_option maxRecDepth 20000 in
theorem zk_L_free_0 {X : ZX} (C : zCx X cL_free RL (some .int) 8 132 11 66) (hn : X.nL = 4) (h0 : X.ce = 0 ∧ X.sl = 0 ∧ X.Q = zEndP X.b X.g X.ad X.S0 X.K X.a X.s 10 60) (ht : X.c.exceptionTable.toList = tableOf [(0, 9, 12, 13)]) : ZOK X 0 (zb_L_free_0) := by
  unfold zb_L_free_0
  refine z_aload_n_ok (pc := 0) (i := 2) C.hx C.hb dL_free_0 rfl ?_
  refine z_iconst_ok (pc := 1) (v := 0) C.hx C.hb dL_free_1 (by decide) ?_
  refine z_aload_n_ok (pc := 2) (i := 0) C.hx C.hb dL_free_2 rfl ?_
  refine z_iload_n_ok (pc := 3) (i := 1) C.hx C.hb dL_free_3 rfl ?_
  have hh : ∀ (n : Nat) (v : Int32), (fun n => match n with | 1 => some 1 | _ => none) n = some v → zhnd X cL_free RL 4 n v := by
    intro n v h
    rcases n with _ | _ | _ | _ | n
    · cases h
    · have h : some (1 : Int32) = some v := h
      cases h
      exact ⟨[], ⟨0, 9, 12, 13⟩, [], ht, fun _ h => (nomatch h), by decide, by decide, zw_187, List.mem_of_getElem? (i := 0) rfl, 3, 1, 1, zlt hn (by decide), Or.inr ⟨3, dL_free_12, rfl, rfl⟩, dL_free_13, by decide, dL_free_14⟩
    · cases h
    · cases h
    · cases h
  refine z_invH_ok (pc := 4) C (zQ_of h0.2.2 (by have := h0.1; omega) (by have := h0.2.1; omega)) (zm_X7_free X.l C.htr) ⟨rfl, rfl⟩ ⟨by decide, by decide⟩ (by decide) (by decide) zcl_L_20 zw_298 zw_299 zK7 hh dL_free_4 ?_
  have C := C.c (cx' := 1) (sx' := 6) (zQ_of h0.2.2 (a := X.ce + 0) (b := X.sl + 0) (by have := h0.1; omega) (by have := h0.2.1; omega)) (by omega) (by omega)
  refine z_lastI_ok (pc := 7) C dL_free_7 dL_free_8 ?_
  refine z_goto_ok (pc := 9) (tgt := 15) C.hx C.hb dL_free_9 (by decide) ?_
  refine z_iconst_ok (pc := 15) (v := 0) C.hx C.hb dL_free_15 (by decide) ?_
  exact z_iret_ok (pc := 16) C dL_free_16
def sp_L_free : ZSp := fun as S K => as.length ≤ 4 ∧ zsp 4 zb_L_free_0 as S K
theorem zm_L_free (l : Launch) (hl : l.stackTraces = false) : zMetW l yL_free cL_free 4 (some .int) [(0, 9, 12, 13)] { frames := 8, cells := 11, slots := 66, locals := 132 } 10 60 sp_L_free := zMetW_of hl (by decide +kernel) rfl ⟨rfl, rfl⟩ (fun X C hn h0 ht => zk_L_free_0 C hn h0 ht)
theorem dL_give_0 : decode cL_give 0 = .ok (.aload 4, 2) := by decide +kernel
theorem dL_give_2 : decode cL_give 2 = .ok (.iconst 0, 1) := by decide +kernel
theorem dL_give_3 : decode cL_give 3 = .ok (.aload_n 0, 1) := by decide +kernel
theorem dL_give_4 : decode cL_give 4 = .ok (.iload_n 1, 1) := by decide +kernel
theorem dL_give_5 : decode cL_give 5 = .ok (.iload_n 2, 1) := by decide +kernel
theorem dL_give_6 : decode cL_give 6 = .ok (.iload_n 3, 1) := by decide +kernel
theorem dL_give_7 : decode cL_give 7 = .ok (.invokevirtual 44, 3) := by decide +kernel
theorem dL_give_10 : decode cL_give 10 = .ok (.i2l, 1) := by decide +kernel
theorem dL_give_11 : decode cL_give 11 = .ok (.lastore, 1) := by decide +kernel
theorem dL_give_12 : decode cL_give 12 = .ok (.goto 15, 3) := by decide +kernel
theorem dL_give_15 : decode cL_give 15 = .ok (.astore 5, 2) := by decide +kernel
theorem dL_give_17 : decode cL_give 17 = .ok (.iconst 1, 1) := by decide +kernel
theorem dL_give_18 : decode cL_give 18 = .ok (.ireturn, 1) := by decide +kernel
theorem dL_give_19 : decode cL_give 19 = .ok (.astore 5, 2) := by decide +kernel
theorem dL_give_21 : decode cL_give 21 = .ok (.iconst 2, 1) := by decide +kernel
theorem dL_give_22 : decode cL_give 22 = .ok (.ireturn, 1) := by decide +kernel
theorem dL_give_23 : decode cL_give 23 = .ok (.astore 5, 2) := by decide +kernel
theorem dL_give_25 : decode cL_give 25 = .ok (.iconst 3, 1) := by decide +kernel
theorem dL_give_26 : decode cL_give 26 = .ok (.ireturn, 1) := by decide +kernel
theorem dL_give_27 : decode cL_give 27 = .ok (.iconst 0, 1) := by decide +kernel
theorem dL_give_28 : decode cL_give 28 = .ok (.ireturn, 1) := by decide +kernel
def zb_L_give_0 : ZP := (z_ald 4 (z_push 0 (z_ald 0 (z_ild 1 (z_ild 2 (z_ild 3 (z_invH 7 3 sp_X7_give (fun n => match n with | 1 => some 1 | 2 => some 2 | 3 => some 3 | _ => none) (z_lastI (z_push 0 (z_ret 1))))))))))
set_option maxRecDepth 20000 in
theorem zk_L_give_0 {X : ZX} (C : zCx X cL_give RL (some .int) 8 137 11 66) (hn : X.nL = 6) (h0 : X.ce = 0 ∧ X.sl = 0 ∧ X.Q = zEndP X.b X.g X.ad X.S0 X.K X.a X.s 10 60) (ht : X.c.exceptionTable.toList = tableOf [(0, 12, 15, 13), (0, 12, 19, 15), (0, 12, 23, 36)]) : ZOK X 0 (zb_L_give_0) := by
  unfold zb_L_give_0
  refine z_aload_ok (pc := 0) (i := 4) C.hx C.hb dL_give_0 ?_
  refine z_iconst_ok (pc := 2) (v := 0) C.hx C.hb dL_give_2 (by decide) ?_
  refine z_aload_n_ok (pc := 3) (i := 0) C.hx C.hb dL_give_3 rfl ?_
  refine z_iload_n_ok (pc := 4) (i := 1) C.hx C.hb dL_give_4 rfl ?_
  refine z_iload_n_ok (pc := 5) (i := 2) C.hx C.hb dL_give_5 rfl ?_
  refine z_iload_n_ok (pc := 6) (i := 3) C.hx C.hb dL_give_6 rfl ?_
  have hh : ∀ (n : Nat) (v : Int32), (fun n => match n with | 1 => some 1 | 2 => some 2 | 3 => some 3 | _ => none) n = some v → zhnd X cL_give RL 7 n v := by
    intro n v h
    rcases n with _ | _ | _ | _ | n
    · cases h
    · have h : some (1 : Int32) = some v := h
      cases h
      exact ⟨[], ⟨0, 12, 15, 13⟩, [⟨0, 12, 19, 15⟩, ⟨0, 12, 23, 36⟩], ht, fun _ h => (nomatch h), by decide, by decide, zw_187, List.mem_of_getElem? (i := 0) rfl, 5, 2, 1, zlt hn (by decide), Or.inl ⟨dL_give_15, rfl⟩, dL_give_17, by decide, dL_give_18⟩
    · have h : some (2 : Int32) = some v := h
      cases h
      exact ⟨[⟨0, 12, 15, 13⟩], ⟨0, 12, 19, 15⟩, [⟨0, 12, 23, 36⟩], ht, List.forall_mem_cons.mpr ⟨Or.inr ⟨by decide, _, zw_187, C.hE.2.2.2.2.2.2.1.1⟩, fun _ h => (nomatch h)⟩, by decide, by decide, zw_188, List.mem_of_getElem? (i := 1) rfl, 5, 2, 2, zlt hn (by decide), Or.inl ⟨dL_give_19, rfl⟩, dL_give_21, by decide, dL_give_22⟩
    · have h : some (3 : Int32) = some v := h
      cases h
      exact ⟨[⟨0, 12, 15, 13⟩, ⟨0, 12, 19, 15⟩], ⟨0, 12, 23, 36⟩, [], ht, List.forall_mem_cons.mpr ⟨Or.inr ⟨by decide, _, zw_187, C.hE.2.2.2.2.2.2.1.2.1⟩, List.forall_mem_cons.mpr ⟨Or.inr ⟨by decide, _, zw_188, C.hE.2.2.2.2.2.2.1.2.2⟩, fun _ h => (nomatch h)⟩⟩, by decide, by decide, zw_329, List.mem_of_getElem? (i := 2) rfl, 5, 2, 3, zlt hn (by decide), Or.inl ⟨dL_give_23, rfl⟩, dL_give_25, by decide, dL_give_26⟩
    · cases h
  refine z_invH_ok (pc := 7) C (zQ_of h0.2.2 (by have := h0.1; omega) (by have := h0.2.1; omega)) (zm_X7_give X.l C.htr) ⟨rfl, rfl⟩ ⟨by decide, by decide⟩ (by decide) (by decide) zcl_L_44 zw_439 zw_440 zK7 hh dL_give_7 ?_
  have C := C.c (cx' := 1) (sx' := 6) (zQ_of h0.2.2 (a := X.ce + 0) (b := X.sl + 0) (by have := h0.1; omega) (by have := h0.2.1; omega)) (by omega) (by omega)
  refine z_lastI_ok (pc := 10) C dL_give_10 dL_give_11 ?_
  refine z_goto_ok (pc := 12) (tgt := 27) C.hx C.hb dL_give_12 (by decide) ?_
  refine z_iconst_ok (pc := 27) (v := 0) C.hx C.hb dL_give_27 (by decide) ?_
  exact z_iret_ok (pc := 28) C dL_give_28
def sp_L_give : ZSp := fun as S K => as.length ≤ 6 ∧ zsp 6 zb_L_give_0 as S K
theorem zm_L_give (l : Launch) (hl : l.stackTraces = false) : zMetW l yL_give cL_give 6 (some .int) [(0, 12, 15, 13), (0, 12, 19, 15), (0, 12, 23, 36)] { frames := 8, cells := 11, slots := 66, locals := 137 } 10 60 sp_L_give := zMetW_of hl (by decide +kernel) rfl ⟨rfl, rfl⟩ (fun X C hn h0 ht => zk_L_give_0 C hn h0 ht)
theorem dL_goodIs_0 : decode cL_goodIs 0 = .ok (.aload_n 3, 1) := by decide +kernel
theorem dL_goodIs_1 : decode cL_goodIs 1 = .ok (.iconst 0, 1) := by decide +kernel
theorem dL_goodIs_2 : decode cL_goodIs 2 = .ok (.aload_n 0, 1) := by decide +kernel
theorem dL_goodIs_3 : decode cL_goodIs 3 = .ok (.iload_n 1, 1) := by decide +kernel
theorem dL_goodIs_4 : decode cL_goodIs 4 = .ok (.iload_n 2, 1) := by decide +kernel
theorem dL_goodIs_5 : decode cL_goodIs 5 = .ok (.invokevirtual 30, 3) := by decide +kernel
theorem dL_goodIs_8 : decode cL_goodIs 8 = .ok (.i2l, 1) := by decide +kernel
theorem dL_goodIs_9 : decode cL_goodIs 9 = .ok (.lastore, 1) := by decide +kernel
theorem dL_goodIs_10 : decode cL_goodIs 10 = .ok (.goto 11, 3) := by decide +kernel
theorem dL_goodIs_13 : decode cL_goodIs 13 = .ok (.astore 4, 2) := by decide +kernel
theorem dL_goodIs_15 : decode cL_goodIs 15 = .ok (.iconst 1, 1) := by decide +kernel
theorem dL_goodIs_16 : decode cL_goodIs 16 = .ok (.ireturn, 1) := by decide +kernel
theorem dL_goodIs_17 : decode cL_goodIs 17 = .ok (.astore 4, 2) := by decide +kernel
theorem dL_goodIs_19 : decode cL_goodIs 19 = .ok (.iconst 2, 1) := by decide +kernel
theorem dL_goodIs_20 : decode cL_goodIs 20 = .ok (.ireturn, 1) := by decide +kernel
theorem dL_goodIs_21 : decode cL_goodIs 21 = .ok (.iconst 0, 1) := by decide +kernel
theorem dL_goodIs_22 : decode cL_goodIs 22 = .ok (.ireturn, 1) := by decide +kernel
def zb_L_goodIs_0 : ZP := (z_ald 3 (z_push 0 (z_ald 0 (z_ild 1 (z_ild 2 (z_invH 7 2 sp_X7_goodIs (fun n => match n with | 1 => some 1 | 2 => some 2 | _ => none) (z_lastI (z_push 0 (z_ret 1)))))))))
set_option maxRecDepth 20000 in
theorem zk_L_goodIs_0 {X : ZX} (C : zCx X cL_goodIs RL (some .int) 8 135 11 66) (hn : X.nL = 5) (h0 : X.ce = 0 ∧ X.sl = 0 ∧ X.Q = zEndP X.b X.g X.ad X.S0 X.K X.a X.s 10 60) (ht : X.c.exceptionTable.toList = tableOf [(0, 10, 13, 13), (0, 10, 17, 15)]) : ZOK X 0 (zb_L_goodIs_0) := by
  unfold zb_L_goodIs_0
  refine z_aload_n_ok (pc := 0) (i := 3) C.hx C.hb dL_goodIs_0 rfl ?_
  refine z_iconst_ok (pc := 1) (v := 0) C.hx C.hb dL_goodIs_1 (by decide) ?_
  refine z_aload_n_ok (pc := 2) (i := 0) C.hx C.hb dL_goodIs_2 rfl ?_
  refine z_iload_n_ok (pc := 3) (i := 1) C.hx C.hb dL_goodIs_3 rfl ?_
  refine z_iload_n_ok (pc := 4) (i := 2) C.hx C.hb dL_goodIs_4 rfl ?_
  have hh : ∀ (n : Nat) (v : Int32), (fun n => match n with | 1 => some 1 | 2 => some 2 | _ => none) n = some v → zhnd X cL_goodIs RL 5 n v := by
    intro n v h
    rcases n with _ | _ | _ | _ | n
    · cases h
    · have h : some (1 : Int32) = some v := h
      cases h
      exact ⟨[], ⟨0, 10, 13, 13⟩, [⟨0, 10, 17, 15⟩], ht, fun _ h => (nomatch h), by decide, by decide, zw_187, List.mem_of_getElem? (i := 0) rfl, 4, 2, 1, zlt hn (by decide), Or.inl ⟨dL_goodIs_13, rfl⟩, dL_goodIs_15, by decide, dL_goodIs_16⟩
    · have h : some (2 : Int32) = some v := h
      cases h
      exact ⟨[⟨0, 10, 13, 13⟩], ⟨0, 10, 17, 15⟩, [], ht, List.forall_mem_cons.mpr ⟨Or.inr ⟨by decide, _, zw_187, C.hE.2.2.2.2.2.2.1.1⟩, fun _ h => (nomatch h)⟩, by decide, by decide, zw_188, List.mem_of_getElem? (i := 1) rfl, 4, 2, 2, zlt hn (by decide), Or.inl ⟨dL_goodIs_17, rfl⟩, dL_goodIs_19, by decide, dL_goodIs_20⟩
    · cases h
    · cases h
  refine z_invH_ok (pc := 5) C (zQ_of h0.2.2 (by have := h0.1; omega) (by have := h0.2.1; omega)) (zm_X7_goodIs X.l C.htr) ⟨rfl, rfl⟩ ⟨by decide, by decide⟩ (by decide) (by decide) zcl_L_30 zw_319 zw_320 zK7 hh dL_goodIs_5 ?_
  have C := C.c (cx' := 1) (sx' := 6) (zQ_of h0.2.2 (a := X.ce + 0) (b := X.sl + 0) (by have := h0.1; omega) (by have := h0.2.1; omega)) (by omega) (by omega)
  refine z_lastI_ok (pc := 8) C dL_goodIs_8 dL_goodIs_9 ?_
  refine z_goto_ok (pc := 10) (tgt := 21) C.hx C.hb dL_goodIs_10 (by decide) ?_
  refine z_iconst_ok (pc := 21) (v := 0) C.hx C.hb dL_goodIs_21 (by decide) ?_
  exact z_iret_ok (pc := 22) C dL_goodIs_22
def sp_L_goodIs : ZSp := fun as S K => as.length ≤ 5 ∧ zsp 5 zb_L_goodIs_0 as S K
theorem zm_L_goodIs (l : Launch) (hl : l.stackTraces = false) : zMetW l yL_goodIs cL_goodIs 5 (some .int) [(0, 10, 13, 13), (0, 10, 17, 15)] { frames := 8, cells := 11, slots := 66, locals := 135 } 10 60 sp_L_goodIs := zMetW_of hl (by decide +kernel) rfl ⟨rfl, rfl⟩ (fun X C hn h0 ht => zk_L_goodIs_0 C hn h0 ht)
theorem dL_inspect_0 : decode cL_inspect 0 = .ok (.aload_n 2, 1) := by decide +kernel
theorem dL_inspect_1 : decode cL_inspect 1 = .ok (.iconst 0, 1) := by decide +kernel
theorem dL_inspect_2 : decode cL_inspect 2 = .ok (.aload_n 0, 1) := by decide +kernel
theorem dL_inspect_3 : decode cL_inspect 3 = .ok (.iload_n 1, 1) := by decide +kernel
theorem dL_inspect_4 : decode cL_inspect 4 = .ok (.invokevirtual 100, 3) := by decide +kernel
theorem dL_inspect_7 : decode cL_inspect 7 = .ok (.i2l, 1) := by decide +kernel
theorem dL_inspect_8 : decode cL_inspect 8 = .ok (.lastore, 1) := by decide +kernel
theorem dL_inspect_9 : decode cL_inspect 9 = .ok (.goto 6, 3) := by decide +kernel
theorem dL_inspect_12 : decode cL_inspect 12 = .ok (.astore_n 3, 1) := by decide +kernel
theorem dL_inspect_13 : decode cL_inspect 13 = .ok (.iconst 1, 1) := by decide +kernel
theorem dL_inspect_14 : decode cL_inspect 14 = .ok (.ireturn, 1) := by decide +kernel
theorem dL_inspect_15 : decode cL_inspect 15 = .ok (.iconst 0, 1) := by decide +kernel
theorem dL_inspect_16 : decode cL_inspect 16 = .ok (.ireturn, 1) := by decide +kernel
def zb_L_inspect_0 : ZP := (z_ald 2 (z_push 0 (z_ald 0 (z_ild 1 (z_invH 7 1 sp_X7_inspect (fun n => match n with | 1 => some 1 | _ => none) (z_lastI (z_push 0 (z_ret 1))))))))
set_option maxRecDepth 20000 in
theorem zk_L_inspect_0 {X : ZX} (C : zCx X cL_inspect RL (some .int) 8 137 11 66) (hn : X.nL = 4) (h0 : X.ce = 0 ∧ X.sl = 0 ∧ X.Q = zEndP X.b X.g X.ad X.S0 X.K X.a X.s 10 60) (ht : X.c.exceptionTable.toList = tableOf [(0, 9, 12, 13)]) : ZOK X 0 (zb_L_inspect_0) := by
  unfold zb_L_inspect_0
  refine z_aload_n_ok (pc := 0) (i := 2) C.hx C.hb dL_inspect_0 rfl ?_
  refine z_iconst_ok (pc := 1) (v := 0) C.hx C.hb dL_inspect_1 (by decide) ?_
  refine z_aload_n_ok (pc := 2) (i := 0) C.hx C.hb dL_inspect_2 rfl ?_
  refine z_iload_n_ok (pc := 3) (i := 1) C.hx C.hb dL_inspect_3 rfl ?_
  have hh : ∀ (n : Nat) (v : Int32), (fun n => match n with | 1 => some 1 | _ => none) n = some v → zhnd X cL_inspect RL 4 n v := by
    intro n v h
    rcases n with _ | _ | _ | _ | n
    · cases h
    · have h : some (1 : Int32) = some v := h
      cases h
      exact ⟨[], ⟨0, 9, 12, 13⟩, [], ht, fun _ h => (nomatch h), by decide, by decide, zw_187, List.mem_of_getElem? (i := 0) rfl, 3, 1, 1, zlt hn (by decide), Or.inr ⟨3, dL_inspect_12, rfl, rfl⟩, dL_inspect_13, by decide, dL_inspect_14⟩
    · cases h
    · cases h
    · cases h
  refine z_invH_ok (pc := 4) C (zQ_of h0.2.2 (by have := h0.1; omega) (by have := h0.2.1; omega)) (zm_X7_inspect X.l C.htr) ⟨rfl, rfl⟩ ⟨by decide, by decide⟩ (by decide) (by decide) zcl_L_100 zw_715 zw_716 zK7 hh dL_inspect_4 ?_
  have C := C.c (cx' := 1) (sx' := 6) (zQ_of h0.2.2 (a := X.ce + 0) (b := X.sl + 0) (by have := h0.1; omega) (by have := h0.2.1; omega)) (by omega) (by omega)
  refine z_lastI_ok (pc := 7) C dL_inspect_7 dL_inspect_8 ?_
  refine z_goto_ok (pc := 9) (tgt := 15) C.hx C.hb dL_inspect_9 (by decide) ?_
  refine z_iconst_ok (pc := 15) (v := 0) C.hx C.hb dL_inspect_15 (by decide) ?_
  exact z_iret_ok (pc := 16) C dL_inspect_16
def sp_L_inspect : ZSp := fun as S K => as.length ≤ 4 ∧ zsp 4 zb_L_inspect_0 as S K
theorem zm_L_inspect (l : Launch) (hl : l.stackTraces = false) : zMetW l yL_inspect cL_inspect 4 (some .int) [(0, 9, 12, 13)] { frames := 8, cells := 11, slots := 66, locals := 137 } 10 60 sp_L_inspect := zMetW_of hl (by decide +kernel) rfl ⟨rfl, rfl⟩ (fun X C hn h0 ht => zk_L_inspect_0 C hn h0 ht)
theorem dL_lacks_0 : decode cL_lacks 0 = .ok (.aload 5, 2) := by decide +kernel
theorem dL_lacks_2 : decode cL_lacks 2 = .ok (.iconst 0, 1) := by decide +kernel
theorem dL_lacks_3 : decode cL_lacks 3 = .ok (.aload_n 0, 1) := by decide +kernel
theorem dL_lacks_4 : decode cL_lacks 4 = .ok (.iload_n 1, 1) := by decide +kernel
theorem dL_lacks_5 : decode cL_lacks 5 = .ok (.iload_n 2, 1) := by decide +kernel
theorem dL_lacks_6 : decode cL_lacks 6 = .ok (.iload_n 3, 1) := by decide +kernel
theorem dL_lacks_7 : decode cL_lacks 7 = .ok (.iload 4, 2) := by decide +kernel
theorem dL_lacks_9 : decode cL_lacks 9 = .ok (.invokevirtual 88, 3) := by decide +kernel
theorem dL_lacks_12 : decode cL_lacks 12 = .ok (.i2l, 1) := by decide +kernel
theorem dL_lacks_13 : decode cL_lacks 13 = .ok (.lastore, 1) := by decide +kernel
theorem dL_lacks_14 : decode cL_lacks 14 = .ok (.goto 11, 3) := by decide +kernel
theorem dL_lacks_17 : decode cL_lacks 17 = .ok (.astore 6, 2) := by decide +kernel
theorem dL_lacks_19 : decode cL_lacks 19 = .ok (.iconst 1, 1) := by decide +kernel
theorem dL_lacks_20 : decode cL_lacks 20 = .ok (.ireturn, 1) := by decide +kernel
theorem dL_lacks_21 : decode cL_lacks 21 = .ok (.astore 6, 2) := by decide +kernel
theorem dL_lacks_23 : decode cL_lacks 23 = .ok (.iconst 2, 1) := by decide +kernel
theorem dL_lacks_24 : decode cL_lacks 24 = .ok (.ireturn, 1) := by decide +kernel
theorem dL_lacks_25 : decode cL_lacks 25 = .ok (.iconst 0, 1) := by decide +kernel
theorem dL_lacks_26 : decode cL_lacks 26 = .ok (.ireturn, 1) := by decide +kernel
def zb_L_lacks_0 : ZP := (z_ald 5 (z_push 0 (z_ald 0 (z_ild 1 (z_ild 2 (z_ild 3 (z_ild 4 (z_invH 7 4 sp_X7_lacks (fun n => match n with | 1 => some 1 | 2 => some 2 | _ => none) (z_lastI (z_push 0 (z_ret 1)))))))))))
set_option maxRecDepth 20000 in
theorem zk_L_lacks_0 {X : ZX} (C : zCx X cL_lacks RL (some .int) 8 142 11 66) (hn : X.nL = 7) (h0 : X.ce = 0 ∧ X.sl = 0 ∧ X.Q = zEndP X.b X.g X.ad X.S0 X.K X.a X.s 10 60) (ht : X.c.exceptionTable.toList = tableOf [(0, 14, 17, 13), (0, 14, 21, 15)]) : ZOK X 0 (zb_L_lacks_0) := by
  unfold zb_L_lacks_0
  refine z_aload_ok (pc := 0) (i := 5) C.hx C.hb dL_lacks_0 ?_
  refine z_iconst_ok (pc := 2) (v := 0) C.hx C.hb dL_lacks_2 (by decide) ?_
  refine z_aload_n_ok (pc := 3) (i := 0) C.hx C.hb dL_lacks_3 rfl ?_
  refine z_iload_n_ok (pc := 4) (i := 1) C.hx C.hb dL_lacks_4 rfl ?_
  refine z_iload_n_ok (pc := 5) (i := 2) C.hx C.hb dL_lacks_5 rfl ?_
  refine z_iload_n_ok (pc := 6) (i := 3) C.hx C.hb dL_lacks_6 rfl ?_
  refine z_iload_ok (pc := 7) (i := 4) C.hx C.hb dL_lacks_7 ?_
  have hh : ∀ (n : Nat) (v : Int32), (fun n => match n with | 1 => some 1 | 2 => some 2 | _ => none) n = some v → zhnd X cL_lacks RL 9 n v := by
    intro n v h
    rcases n with _ | _ | _ | _ | n
    · cases h
    · have h : some (1 : Int32) = some v := h
      cases h
      exact ⟨[], ⟨0, 14, 17, 13⟩, [⟨0, 14, 21, 15⟩], ht, fun _ h => (nomatch h), by decide, by decide, zw_187, List.mem_of_getElem? (i := 0) rfl, 6, 2, 1, zlt hn (by decide), Or.inl ⟨dL_lacks_17, rfl⟩, dL_lacks_19, by decide, dL_lacks_20⟩
    · have h : some (2 : Int32) = some v := h
      cases h
      exact ⟨[⟨0, 14, 17, 13⟩], ⟨0, 14, 21, 15⟩, [], ht, List.forall_mem_cons.mpr ⟨Or.inr ⟨by decide, _, zw_187, C.hE.2.2.2.2.2.2.1.1⟩, fun _ h => (nomatch h)⟩, by decide, by decide, zw_188, List.mem_of_getElem? (i := 1) rfl, 6, 2, 2, zlt hn (by decide), Or.inl ⟨dL_lacks_21, rfl⟩, dL_lacks_23, by decide, dL_lacks_24⟩
    · cases h
    · cases h
  refine z_invH_ok (pc := 9) C (zQ_of h0.2.2 (by have := h0.1; omega) (by have := h0.2.1; omega)) (zm_X7_lacks X.l C.htr) ⟨rfl, rfl⟩ ⟨by decide, by decide⟩ (by decide) (by decide) zcl_L_88 zw_687 zw_688 zK7 hh dL_lacks_9 ?_
  have C := C.c (cx' := 1) (sx' := 6) (zQ_of h0.2.2 (a := X.ce + 0) (b := X.sl + 0) (by have := h0.1; omega) (by have := h0.2.1; omega)) (by omega) (by omega)
  refine z_lastI_ok (pc := 12) C dL_lacks_12 dL_lacks_13 ?_
  refine z_goto_ok (pc := 14) (tgt := 25) C.hx C.hb dL_lacks_14 (by decide) ?_
  refine z_iconst_ok (pc := 25) (v := 0) C.hx C.hb dL_lacks_25 (by decide) ?_
  exact z_iret_ok (pc := 26) C dL_lacks_26
def sp_L_lacks : ZSp := fun as S K => as.length ≤ 7 ∧ zsp 7 zb_L_lacks_0 as S K
theorem zm_L_lacks (l : Launch) (hl : l.stackTraces = false) : zMetW l yL_lacks cL_lacks 7 (some .int) [(0, 14, 17, 13), (0, 14, 21, 15)] { frames := 8, cells := 11, slots := 66, locals := 142 } 10 60 sp_L_lacks := zMetW_of hl (by decide +kernel) rfl ⟨rfl, rfl⟩ (fun X C hn h0 ht => zk_L_lacks_0 C hn h0 ht)
theorem dL_left_0 : decode cL_left 0 = .ok (.aload_n 3, 1) := by decide +kernel
theorem dL_left_1 : decode cL_left 1 = .ok (.iconst 0, 1) := by decide +kernel
theorem dL_left_2 : decode cL_left 2 = .ok (.aload_n 0, 1) := by decide +kernel
theorem dL_left_3 : decode cL_left 3 = .ok (.iload_n 1, 1) := by decide +kernel
theorem dL_left_4 : decode cL_left 4 = .ok (.iload_n 2, 1) := by decide +kernel
theorem dL_left_5 : decode cL_left 5 = .ok (.invokevirtual 54, 3) := by decide +kernel
theorem dL_left_8 : decode cL_left 8 = .ok (.i2l, 1) := by decide +kernel
theorem dL_left_9 : decode cL_left 9 = .ok (.lastore, 1) := by decide +kernel
theorem dL_left_10 : decode cL_left 10 = .ok (.goto 7, 3) := by decide +kernel
theorem dL_left_13 : decode cL_left 13 = .ok (.astore 4, 2) := by decide +kernel
theorem dL_left_15 : decode cL_left 15 = .ok (.iconst 1, 1) := by decide +kernel
theorem dL_left_16 : decode cL_left 16 = .ok (.ireturn, 1) := by decide +kernel
theorem dL_left_17 : decode cL_left 17 = .ok (.iconst 0, 1) := by decide +kernel
theorem dL_left_18 : decode cL_left 18 = .ok (.ireturn, 1) := by decide +kernel
def zb_L_left_0 : ZP := (z_ald 3 (z_push 0 (z_ald 0 (z_ild 1 (z_ild 2 (z_invH 7 2 sp_X7_left (fun n => match n with | 1 => some 1 | _ => none) (z_lastI (z_push 0 (z_ret 1)))))))))
set_option maxRecDepth 20000 in
theorem zk_L_left_0 {X : ZX} (C : zCx X cL_left RL (some .int) 8 134 11 66) (hn : X.nL = 5) (h0 : X.ce = 0 ∧ X.sl = 0 ∧ X.Q = zEndP X.b X.g X.ad X.S0 X.K X.a X.s 10 60) (ht : X.c.exceptionTable.toList = tableOf [(0, 10, 13, 13)]) : ZOK X 0 (zb_L_left_0) := by
  unfold zb_L_left_0
  refine z_aload_n_ok (pc := 0) (i := 3) C.hx C.hb dL_left_0 rfl ?_
  refine z_iconst_ok (pc := 1) (v := 0) C.hx C.hb dL_left_1 (by decide) ?_
  refine z_aload_n_ok (pc := 2) (i := 0) C.hx C.hb dL_left_2 rfl ?_
  refine z_iload_n_ok (pc := 3) (i := 1) C.hx C.hb dL_left_3 rfl ?_
  refine z_iload_n_ok (pc := 4) (i := 2) C.hx C.hb dL_left_4 rfl ?_
  have hh : ∀ (n : Nat) (v : Int32), (fun n => match n with | 1 => some 1 | _ => none) n = some v → zhnd X cL_left RL 5 n v := by
    intro n v h
    rcases n with _ | _ | _ | _ | n
    · cases h
    · have h : some (1 : Int32) = some v := h
      cases h
      exact ⟨[], ⟨0, 10, 13, 13⟩, [], ht, fun _ h => (nomatch h), by decide, by decide, zw_187, List.mem_of_getElem? (i := 0) rfl, 4, 2, 1, zlt hn (by decide), Or.inl ⟨dL_left_13, rfl⟩, dL_left_15, by decide, dL_left_16⟩
    · cases h
    · cases h
    · cases h
  refine z_invH_ok (pc := 5) C (zQ_of h0.2.2 (by have := h0.1; omega) (by have := h0.2.1; omega)) (zm_X7_left X.l C.htr) ⟨rfl, rfl⟩ ⟨by decide, by decide⟩ (by decide) (by decide) zcl_L_54 zw_477 zw_478 zK7 hh dL_left_5 ?_
  have C := C.c (cx' := 1) (sx' := 6) (zQ_of h0.2.2 (a := X.ce + 0) (b := X.sl + 0) (by have := h0.1; omega) (by have := h0.2.1; omega)) (by omega) (by omega)
  refine z_lastI_ok (pc := 8) C dL_left_8 dL_left_9 ?_
  refine z_goto_ok (pc := 10) (tgt := 17) C.hx C.hb dL_left_10 (by decide) ?_
  refine z_iconst_ok (pc := 17) (v := 0) C.hx C.hb dL_left_17 (by decide) ?_
  exact z_iret_ok (pc := 18) C dL_left_18
def sp_L_left : ZSp := fun as S K => as.length ≤ 5 ∧ zsp 5 zb_L_left_0 as S K
theorem zm_L_left (l : Launch) (hl : l.stackTraces = false) : zMetW l yL_left cL_left 5 (some .int) [(0, 10, 13, 13)] { frames := 8, cells := 11, slots := 66, locals := 134 } 10 60 sp_L_left := zMetW_of hl (by decide +kernel) rfl ⟨rfl, rfl⟩ (fun X C hn h0 ht => zk_L_left_0 C hn h0 ht)
theorem dL_leftAnew_0 : decode cL_leftAnew 0 = .ok (.aload_n 3, 1) := by decide +kernel
theorem dL_leftAnew_1 : decode cL_leftAnew 1 = .ok (.iconst 0, 1) := by decide +kernel
theorem dL_leftAnew_2 : decode cL_leftAnew 2 = .ok (.aload_n 0, 1) := by decide +kernel
theorem dL_leftAnew_3 : decode cL_leftAnew 3 = .ok (.iload_n 1, 1) := by decide +kernel
theorem dL_leftAnew_4 : decode cL_leftAnew 4 = .ok (.iload_n 2, 1) := by decide +kernel
theorem dL_leftAnew_5 : decode cL_leftAnew 5 = .ok (.invokevirtual 57, 3) := by decide +kernel
theorem dL_leftAnew_8 : decode cL_leftAnew 8 = .ok (.i2l, 1) := by decide +kernel
theorem dL_leftAnew_9 : decode cL_leftAnew 9 = .ok (.lastore, 1) := by decide +kernel
theorem dL_leftAnew_10 : decode cL_leftAnew 10 = .ok (.goto 7, 3) := by decide +kernel
theorem dL_leftAnew_13 : decode cL_leftAnew 13 = .ok (.astore 4, 2) := by decide +kernel
theorem dL_leftAnew_15 : decode cL_leftAnew 15 = .ok (.iconst 1, 1) := by decide +kernel
theorem dL_leftAnew_16 : decode cL_leftAnew 16 = .ok (.ireturn, 1) := by decide +kernel
theorem dL_leftAnew_17 : decode cL_leftAnew 17 = .ok (.iconst 0, 1) := by decide +kernel
theorem dL_leftAnew_18 : decode cL_leftAnew 18 = .ok (.ireturn, 1) := by decide +kernel
def zb_L_leftAnew_0 : ZP := (z_ald 3 (z_push 0 (z_ald 0 (z_ild 1 (z_ild 2 (z_invH 7 2 sp_X7_leftAnew (fun n => match n with | 1 => some 1 | _ => none) (z_lastI (z_push 0 (z_ret 1)))))))))
set_option maxRecDepth 20000 in
theorem zk_L_leftAnew_0 {X : ZX} (C : zCx X cL_leftAnew RL (some .int) 8 135 11 66) (hn : X.nL = 5) (h0 : X.ce = 0 ∧ X.sl = 0 ∧ X.Q = zEndP X.b X.g X.ad X.S0 X.K X.a X.s 10 60) (ht : X.c.exceptionTable.toList = tableOf [(0, 10, 13, 13)]) : ZOK X 0 (zb_L_leftAnew_0) := by
  unfold zb_L_leftAnew_0
  refine z_aload_n_ok (pc := 0) (i := 3) C.hx C.hb dL_leftAnew_0 rfl ?_
  refine z_iconst_ok (pc := 1) (v := 0) C.hx C.hb dL_leftAnew_1 (by decide) ?_
  refine z_aload_n_ok (pc := 2) (i := 0) C.hx C.hb dL_leftAnew_2 rfl ?_
  refine z_iload_n_ok (pc := 3) (i := 1) C.hx C.hb dL_leftAnew_3 rfl ?_
  refine z_iload_n_ok (pc := 4) (i := 2) C.hx C.hb dL_leftAnew_4 rfl ?_
  have hh : ∀ (n : Nat) (v : Int32), (fun n => match n with | 1 => some 1 | _ => none) n = some v → zhnd X cL_leftAnew RL 5 n v := by
    intro n v h
    rcases n with _ | _ | _ | _ | n
    · cases h
    · have h : some (1 : Int32) = some v := h
      cases h
      exact ⟨[], ⟨0, 10, 13, 13⟩, [], ht, fun _ h => (nomatch h), by decide, by decide, zw_187, List.mem_of_getElem? (i := 0) rfl, 4, 2, 1, zlt hn (by decide), Or.inl ⟨dL_leftAnew_13, rfl⟩, dL_leftAnew_15, by decide, dL_leftAnew_16⟩
    · cases h
    · cases h
    · cases h
  refine z_invH_ok (pc := 5) C (zQ_of h0.2.2 (by have := h0.1; omega) (by have := h0.2.1; omega)) (zm_X7_leftAnew X.l C.htr) ⟨rfl, rfl⟩ ⟨by decide, by decide⟩ (by decide) (by decide) zcl_L_57 zw_497 zw_498 zK7 hh dL_leftAnew_5 ?_
  have C := C.c (cx' := 1) (sx' := 6) (zQ_of h0.2.2 (a := X.ce + 0) (b := X.sl + 0) (by have := h0.1; omega) (by have := h0.2.1; omega)) (by omega) (by omega)
  refine z_lastI_ok (pc := 8) C dL_leftAnew_8 dL_leftAnew_9 ?_
  refine z_goto_ok (pc := 10) (tgt := 17) C.hx C.hb dL_leftAnew_10 (by decide) ?_
  refine z_iconst_ok (pc := 17) (v := 0) C.hx C.hb dL_leftAnew_17 (by decide) ?_
  exact z_iret_ok (pc := 18) C dL_leftAnew_18
def sp_L_leftAnew : ZSp := fun as S K => as.length ≤ 5 ∧ zsp 5 zb_L_leftAnew_0 as S K
theorem zm_L_leftAnew (l : Launch) (hl : l.stackTraces = false) : zMetW l yL_leftAnew cL_leftAnew 5 (some .int) [(0, 10, 13, 13)] { frames := 8, cells := 11, slots := 66, locals := 135 } 10 60 sp_L_leftAnew := zMetW_of hl (by decide +kernel) rfl ⟨rfl, rfl⟩ (fun X C hn h0 ht => zk_L_leftAnew_0 C hn h0 ht)
theorem dL_lose_0 : decode cL_lose 0 = .ok (.aload 4, 2) := by decide +kernel
theorem dL_lose_2 : decode cL_lose 2 = .ok (.iconst 0, 1) := by decide +kernel
theorem dL_lose_3 : decode cL_lose 3 = .ok (.aload_n 0, 1) := by decide +kernel
theorem dL_lose_4 : decode cL_lose 4 = .ok (.iload_n 1, 1) := by decide +kernel
theorem dL_lose_5 : decode cL_lose 5 = .ok (.iload_n 2, 1) := by decide +kernel
theorem dL_lose_6 : decode cL_lose 6 = .ok (.iload_n 3, 1) := by decide +kernel
theorem dL_lose_7 : decode cL_lose 7 = .ok (.invokevirtual 69, 3) := by decide +kernel
theorem dL_lose_10 : decode cL_lose 10 = .ok (.i2l, 1) := by decide +kernel
theorem dL_lose_11 : decode cL_lose 11 = .ok (.lastore, 1) := by decide +kernel
theorem dL_lose_12 : decode cL_lose 12 = .ok (.goto 15, 3) := by decide +kernel
theorem dL_lose_15 : decode cL_lose 15 = .ok (.astore 5, 2) := by decide +kernel
theorem dL_lose_17 : decode cL_lose 17 = .ok (.iconst 1, 1) := by decide +kernel
theorem dL_lose_18 : decode cL_lose 18 = .ok (.ireturn, 1) := by decide +kernel
theorem dL_lose_19 : decode cL_lose 19 = .ok (.astore 5, 2) := by decide +kernel
theorem dL_lose_21 : decode cL_lose 21 = .ok (.iconst 2, 1) := by decide +kernel
theorem dL_lose_22 : decode cL_lose 22 = .ok (.ireturn, 1) := by decide +kernel
theorem dL_lose_23 : decode cL_lose 23 = .ok (.astore 5, 2) := by decide +kernel
theorem dL_lose_25 : decode cL_lose 25 = .ok (.iconst 3, 1) := by decide +kernel
theorem dL_lose_26 : decode cL_lose 26 = .ok (.ireturn, 1) := by decide +kernel
theorem dL_lose_27 : decode cL_lose 27 = .ok (.iconst 0, 1) := by decide +kernel
theorem dL_lose_28 : decode cL_lose 28 = .ok (.ireturn, 1) := by decide +kernel
def zb_L_lose_0 : ZP := (z_ald 4 (z_push 0 (z_ald 0 (z_ild 1 (z_ild 2 (z_ild 3 (z_invH 7 3 sp_X7_lose (fun n => match n with | 1 => some 1 | 2 => some 2 | 3 => some 3 | _ => none) (z_lastI (z_push 0 (z_ret 1))))))))))
set_option maxRecDepth 20000 in
theorem zk_L_lose_0 {X : ZX} (C : zCx X cL_lose RL (some .int) 8 136 11 66) (hn : X.nL = 6) (h0 : X.ce = 0 ∧ X.sl = 0 ∧ X.Q = zEndP X.b X.g X.ad X.S0 X.K X.a X.s 10 60) (ht : X.c.exceptionTable.toList = tableOf [(0, 12, 15, 13), (0, 12, 19, 15), (0, 12, 23, 36)]) : ZOK X 0 (zb_L_lose_0) := by
  unfold zb_L_lose_0
  refine z_aload_ok (pc := 0) (i := 4) C.hx C.hb dL_lose_0 ?_
  refine z_iconst_ok (pc := 2) (v := 0) C.hx C.hb dL_lose_2 (by decide) ?_
  refine z_aload_n_ok (pc := 3) (i := 0) C.hx C.hb dL_lose_3 rfl ?_
  refine z_iload_n_ok (pc := 4) (i := 1) C.hx C.hb dL_lose_4 rfl ?_
  refine z_iload_n_ok (pc := 5) (i := 2) C.hx C.hb dL_lose_5 rfl ?_
  refine z_iload_n_ok (pc := 6) (i := 3) C.hx C.hb dL_lose_6 rfl ?_
  have hh : ∀ (n : Nat) (v : Int32), (fun n => match n with | 1 => some 1 | 2 => some 2 | 3 => some 3 | _ => none) n = some v → zhnd X cL_lose RL 7 n v := by
    intro n v h
    rcases n with _ | _ | _ | _ | n
    · cases h
    · have h : some (1 : Int32) = some v := h
      cases h
      exact ⟨[], ⟨0, 12, 15, 13⟩, [⟨0, 12, 19, 15⟩, ⟨0, 12, 23, 36⟩], ht, fun _ h => (nomatch h), by decide, by decide, zw_187, List.mem_of_getElem? (i := 0) rfl, 5, 2, 1, zlt hn (by decide), Or.inl ⟨dL_lose_15, rfl⟩, dL_lose_17, by decide, dL_lose_18⟩
    · have h : some (2 : Int32) = some v := h
      cases h
      exact ⟨[⟨0, 12, 15, 13⟩], ⟨0, 12, 19, 15⟩, [⟨0, 12, 23, 36⟩], ht, List.forall_mem_cons.mpr ⟨Or.inr ⟨by decide, _, zw_187, C.hE.2.2.2.2.2.2.1.1⟩, fun _ h => (nomatch h)⟩, by decide, by decide, zw_188, List.mem_of_getElem? (i := 1) rfl, 5, 2, 2, zlt hn (by decide), Or.inl ⟨dL_lose_19, rfl⟩, dL_lose_21, by decide, dL_lose_22⟩
    · have h : some (3 : Int32) = some v := h
      cases h
      exact ⟨[⟨0, 12, 15, 13⟩, ⟨0, 12, 19, 15⟩], ⟨0, 12, 23, 36⟩, [], ht, List.forall_mem_cons.mpr ⟨Or.inr ⟨by decide, _, zw_187, C.hE.2.2.2.2.2.2.1.2.1⟩, List.forall_mem_cons.mpr ⟨Or.inr ⟨by decide, _, zw_188, C.hE.2.2.2.2.2.2.1.2.2⟩, fun _ h => (nomatch h)⟩⟩, by decide, by decide, zw_329, List.mem_of_getElem? (i := 2) rfl, 5, 2, 3, zlt hn (by decide), Or.inl ⟨dL_lose_23, rfl⟩, dL_lose_25, by decide, dL_lose_26⟩
    · cases h
  refine z_invH_ok (pc := 7) C (zQ_of h0.2.2 (by have := h0.1; omega) (by have := h0.2.1; omega)) (zm_X7_lose X.l C.htr) ⟨rfl, rfl⟩ ⟨by decide, by decide⟩ (by decide) (by decide) zcl_L_69 zw_607 zw_608 zK7 hh dL_lose_7 ?_
  have C := C.c (cx' := 1) (sx' := 6) (zQ_of h0.2.2 (a := X.ce + 0) (b := X.sl + 0) (by have := h0.1; omega) (by have := h0.2.1; omega)) (by omega) (by omega)
  refine z_lastI_ok (pc := 10) C dL_lose_10 dL_lose_11 ?_
  refine z_goto_ok (pc := 12) (tgt := 27) C.hx C.hb dL_lose_12 (by decide) ?_
  refine z_iconst_ok (pc := 27) (v := 0) C.hx C.hb dL_lose_27 (by decide) ?_
  exact z_iret_ok (pc := 28) C dL_lose_28
def sp_L_lose : ZSp := fun as S K => as.length ≤ 6 ∧ zsp 6 zb_L_lose_0 as S K
theorem zm_L_lose (l : Launch) (hl : l.stackTraces = false) : zMetW l yL_lose cL_lose 6 (some .int) [(0, 12, 15, 13), (0, 12, 19, 15), (0, 12, 23, 36)] { frames := 8, cells := 11, slots := 66, locals := 136 } 10 60 sp_L_lose := zMetW_of hl (by decide +kernel) rfl ⟨rfl, rfl⟩ (fun X C hn h0 ht => zk_L_lose_0 C hn h0 ht)
theorem dL_month_0 : decode cL_month 0 = .ok (.aload_n 1, 1) := by decide +kernel
theorem dL_month_1 : decode cL_month 1 = .ok (.iconst 0, 1) := by decide +kernel
theorem dL_month_2 : decode cL_month 2 = .ok (.aload_n 0, 1) := by decide +kernel
theorem dL_month_3 : decode cL_month 3 = .ok (.invokevirtual 115, 3) := by decide +kernel
theorem dL_month_6 : decode cL_month 6 = .ok (.i2l, 1) := by decide +kernel
theorem dL_month_7 : decode cL_month 7 = .ok (.lastore, 1) := by decide +kernel
theorem dL_month_8 : decode cL_month 8 = .ok (.goto 6, 3) := by decide +kernel
theorem dL_month_11 : decode cL_month 11 = .ok (.astore_n 2, 1) := by decide +kernel
theorem dL_month_12 : decode cL_month 12 = .ok (.iconst 1, 1) := by decide +kernel
theorem dL_month_13 : decode cL_month 13 = .ok (.ireturn, 1) := by decide +kernel
theorem dL_month_14 : decode cL_month 14 = .ok (.iconst 0, 1) := by decide +kernel
theorem dL_month_15 : decode cL_month 15 = .ok (.ireturn, 1) := by decide +kernel
def zb_L_month_0 : ZP := (z_ald 1 (z_push 0 (z_ald 0 (z_invH 7 0 sp_X7_month (fun n => match n with | 3 => some 1 | _ => none) (z_lastI (z_push 0 (z_ret 1)))))))
set_option maxRecDepth 20000 in
theorem zk_L_month_0 {X : ZX} (C : zCx X cL_month RL (some .int) 7 151 11 66) (hn : X.nL = 3) (h0 : X.ce = 0 ∧ X.sl = 0 ∧ X.Q = zEndP X.b X.g X.ad X.S0 X.K X.a X.s 10 60) (ht : X.c.exceptionTable.toList = tableOf [(0, 8, 11, 36)]) : ZOK X 0 (zb_L_month_0) := by
  unfold zb_L_month_0
  refine z_aload_n_ok (pc := 0) (i := 1) C.hx C.hb dL_month_0 rfl ?_
  refine z_iconst_ok (pc := 1) (v := 0) C.hx C.hb dL_month_1 (by decide) ?_
  refine z_aload_n_ok (pc := 2) (i := 0) C.hx C.hb dL_month_2 rfl ?_
  have hh : ∀ (n : Nat) (v : Int32), (fun n => match n with | 3 => some 1 | _ => none) n = some v → zhnd X cL_month RL 3 n v := by
    intro n v h
    rcases n with _ | _ | _ | _ | n
    · cases h
    · cases h
    · cases h
    · have h : some (1 : Int32) = some v := h
      cases h
      exact ⟨[], ⟨0, 8, 11, 36⟩, [], ht, fun _ h => (nomatch h), by decide, by decide, zw_329, List.mem_of_getElem? (i := 2) rfl, 2, 1, 1, zlt hn (by decide), Or.inr ⟨2, dL_month_11, rfl, rfl⟩, dL_month_12, by decide, dL_month_13⟩
    · cases h
  refine z_invH_ok (pc := 3) C (zQ_of h0.2.2 (by have := h0.1; omega) (by have := h0.2.1; omega)) (zm_X7_month X.l C.htr) ⟨rfl, rfl⟩ ⟨by decide, by decide⟩ (by decide) (by decide) zcl_L_115 zw_781 zw_782 zK7 hh dL_month_3 ?_
  have C := C.c (cx' := 1) (sx' := 6) (zQ_of h0.2.2 (a := X.ce + 0) (b := X.sl + 0) (by have := h0.1; omega) (by have := h0.2.1; omega)) (by omega) (by omega)
  refine z_lastI_ok (pc := 6) C dL_month_6 dL_month_7 ?_
  refine z_goto_ok (pc := 8) (tgt := 14) C.hx C.hb dL_month_8 (by decide) ?_
  refine z_iconst_ok (pc := 14) (v := 0) C.hx C.hb dL_month_14 (by decide) ?_
  exact z_iret_ok (pc := 15) C dL_month_15
def sp_L_month : ZSp := fun as S K => as.length ≤ 3 ∧ zsp 3 zb_L_month_0 as S K
theorem zm_L_month (l : Launch) (hl : l.stackTraces = false) : zMetW l yL_month cL_month 3 (some .int) [(0, 8, 11, 36)] { frames := 7, cells := 11, slots := 66, locals := 151 } 10 60 sp_L_month := zMetW_of hl (by decide +kernel) rfl ⟨rfl, rfl⟩ (fun X C hn h0 ht => zk_L_month_0 C hn h0 ht)
theorem dL_moves_0 : decode cL_moves 0 = .ok (.aload_n 3, 1) := by decide +kernel
theorem dL_moves_1 : decode cL_moves 1 = .ok (.iconst 0, 1) := by decide +kernel
theorem dL_moves_2 : decode cL_moves 2 = .ok (.aload_n 0, 1) := by decide +kernel
theorem dL_moves_3 : decode cL_moves 3 = .ok (.iload_n 1, 1) := by decide +kernel
theorem dL_moves_4 : decode cL_moves 4 = .ok (.iload_n 2, 1) := by decide +kernel
theorem dL_moves_5 : decode cL_moves 5 = .ok (.invokevirtual 41, 3) := by decide +kernel
theorem dL_moves_8 : decode cL_moves 8 = .ok (.i2l, 1) := by decide +kernel
theorem dL_moves_9 : decode cL_moves 9 = .ok (.lastore, 1) := by decide +kernel
theorem dL_moves_10 : decode cL_moves 10 = .ok (.goto 11, 3) := by decide +kernel
theorem dL_moves_13 : decode cL_moves 13 = .ok (.astore 4, 2) := by decide +kernel
theorem dL_moves_15 : decode cL_moves 15 = .ok (.iconst 1, 1) := by decide +kernel
theorem dL_moves_16 : decode cL_moves 16 = .ok (.ireturn, 1) := by decide +kernel
theorem dL_moves_17 : decode cL_moves 17 = .ok (.astore 4, 2) := by decide +kernel
theorem dL_moves_19 : decode cL_moves 19 = .ok (.iconst 2, 1) := by decide +kernel
theorem dL_moves_20 : decode cL_moves 20 = .ok (.ireturn, 1) := by decide +kernel
theorem dL_moves_21 : decode cL_moves 21 = .ok (.iconst 0, 1) := by decide +kernel
theorem dL_moves_22 : decode cL_moves 22 = .ok (.ireturn, 1) := by decide +kernel
def zb_L_moves_0 : ZP := (z_ald 3 (z_push 0 (z_ald 0 (z_ild 1 (z_ild 2 (z_invH 7 2 sp_X7_moves (fun n => match n with | 1 => some 1 | 3 => some 2 | _ => none) (z_lastI (z_push 0 (z_ret 1)))))))))
set_option maxRecDepth 20000 in
theorem zk_L_moves_0 {X : ZX} (C : zCx X cL_moves RL (some .int) 8 135 11 66) (hn : X.nL = 5) (h0 : X.ce = 0 ∧ X.sl = 0 ∧ X.Q = zEndP X.b X.g X.ad X.S0 X.K X.a X.s 10 60) (ht : X.c.exceptionTable.toList = tableOf [(0, 10, 13, 13), (0, 10, 17, 36)]) : ZOK X 0 (zb_L_moves_0) := by
  unfold zb_L_moves_0
  refine z_aload_n_ok (pc := 0) (i := 3) C.hx C.hb dL_moves_0 rfl ?_
  refine z_iconst_ok (pc := 1) (v := 0) C.hx C.hb dL_moves_1 (by decide) ?_
  refine z_aload_n_ok (pc := 2) (i := 0) C.hx C.hb dL_moves_2 rfl ?_
  refine z_iload_n_ok (pc := 3) (i := 1) C.hx C.hb dL_moves_3 rfl ?_
  refine z_iload_n_ok (pc := 4) (i := 2) C.hx C.hb dL_moves_4 rfl ?_
  have hh : ∀ (n : Nat) (v : Int32), (fun n => match n with | 1 => some 1 | 3 => some 2 | _ => none) n = some v → zhnd X cL_moves RL 5 n v := by
    intro n v h
    rcases n with _ | _ | _ | _ | n
    · cases h
    · have h : some (1 : Int32) = some v := h
      cases h
      exact ⟨[], ⟨0, 10, 13, 13⟩, [⟨0, 10, 17, 36⟩], ht, fun _ h => (nomatch h), by decide, by decide, zw_187, List.mem_of_getElem? (i := 0) rfl, 4, 2, 1, zlt hn (by decide), Or.inl ⟨dL_moves_13, rfl⟩, dL_moves_15, by decide, dL_moves_16⟩
    · cases h
    · have h : some (2 : Int32) = some v := h
      cases h
      exact ⟨[⟨0, 10, 13, 13⟩], ⟨0, 10, 17, 36⟩, [], ht, List.forall_mem_cons.mpr ⟨Or.inr ⟨by decide, _, zw_187, C.hE.2.2.2.2.2.2.1.2.1⟩, fun _ h => (nomatch h)⟩, by decide, by decide, zw_329, List.mem_of_getElem? (i := 2) rfl, 4, 2, 2, zlt hn (by decide), Or.inl ⟨dL_moves_17, rfl⟩, dL_moves_19, by decide, dL_moves_20⟩
    · cases h
  refine z_invH_ok (pc := 5) C (zQ_of h0.2.2 (by have := h0.1; omega) (by have := h0.2.1; omega)) (zm_X7_moves X.l C.htr) ⟨rfl, rfl⟩ ⟨by decide, by decide⟩ (by decide) (by decide) zcl_L_41 zw_432 zw_433 zK7 hh dL_moves_5 ?_
  have C := C.c (cx' := 1) (sx' := 6) (zQ_of h0.2.2 (a := X.ce + 0) (b := X.sl + 0) (by have := h0.1; omega) (by have := h0.2.1; omega)) (by omega) (by omega)
  refine z_lastI_ok (pc := 8) C dL_moves_8 dL_moves_9 ?_
  refine z_goto_ok (pc := 10) (tgt := 21) C.hx C.hb dL_moves_10 (by decide) ?_
  refine z_iconst_ok (pc := 21) (v := 0) C.hx C.hb dL_moves_21 (by decide) ?_
  exact z_iret_ok (pc := 22) C dL_moves_22
def sp_L_moves : ZSp := fun as S K => as.length ≤ 5 ∧ zsp 5 zb_L_moves_0 as S K
theorem zm_L_moves (l : Launch) (hl : l.stackTraces = false) : zMetW l yL_moves cL_moves 5 (some .int) [(0, 10, 13, 13), (0, 10, 17, 36)] { frames := 8, cells := 11, slots := 66, locals := 135 } 10 60 sp_L_moves := zMetW_of hl (by decide +kernel) rfl ⟨rfl, rfl⟩ (fun X C hn h0 ht => zk_L_moves_0 C hn h0 ht)
theorem dL_onPoints_0 : decode cL_onPoints 0 = .ok (.aload_n 3, 1) := by decide +kernel
theorem dL_onPoints_1 : decode cL_onPoints 1 = .ok (.iconst 0, 1) := by decide +kernel
theorem dL_onPoints_2 : decode cL_onPoints 2 = .ok (.aload_n 0, 1) := by decide +kernel
theorem dL_onPoints_3 : decode cL_onPoints 3 = .ok (.iload_n 1, 1) := by decide +kernel
theorem dL_onPoints_4 : decode cL_onPoints 4 = .ok (.iload_n 2, 1) := by decide +kernel
theorem dL_onPoints_5 : decode cL_onPoints 5 = .ok (.invokevirtual 17, 3) := by decide +kernel
theorem dL_onPoints_8 : decode cL_onPoints 8 = .ok (.i2l, 1) := by decide +kernel
theorem dL_onPoints_9 : decode cL_onPoints 9 = .ok (.lastore, 1) := by decide +kernel
theorem dL_onPoints_10 : decode cL_onPoints 10 = .ok (.goto 11, 3) := by decide +kernel
theorem dL_onPoints_13 : decode cL_onPoints 13 = .ok (.astore 4, 2) := by decide +kernel
theorem dL_onPoints_15 : decode cL_onPoints 15 = .ok (.iconst 1, 1) := by decide +kernel
theorem dL_onPoints_16 : decode cL_onPoints 16 = .ok (.ireturn, 1) := by decide +kernel
theorem dL_onPoints_17 : decode cL_onPoints 17 = .ok (.astore 4, 2) := by decide +kernel
theorem dL_onPoints_19 : decode cL_onPoints 19 = .ok (.iconst 2, 1) := by decide +kernel
theorem dL_onPoints_20 : decode cL_onPoints 20 = .ok (.ireturn, 1) := by decide +kernel
theorem dL_onPoints_21 : decode cL_onPoints 21 = .ok (.iconst 0, 1) := by decide +kernel
theorem dL_onPoints_22 : decode cL_onPoints 22 = .ok (.ireturn, 1) := by decide +kernel
def zb_L_onPoints_0 : ZP := (z_ald 3 (z_push 0 (z_ald 0 (z_ild 1 (z_ild 2 (z_invH 7 2 sp_X7_onPoints (fun n => match n with | 1 => some 1 | 2 => some 2 | _ => none) (z_lastI (z_push 0 (z_ret 1)))))))))
set_option maxRecDepth 20000 in
theorem zk_L_onPoints_0 {X : ZX} (C : zCx X cL_onPoints RL (some .int) 8 135 11 66) (hn : X.nL = 5) (h0 : X.ce = 0 ∧ X.sl = 0 ∧ X.Q = zEndP X.b X.g X.ad X.S0 X.K X.a X.s 10 60) (ht : X.c.exceptionTable.toList = tableOf [(0, 10, 13, 13), (0, 10, 17, 15)]) : ZOK X 0 (zb_L_onPoints_0) := by
  unfold zb_L_onPoints_0
  refine z_aload_n_ok (pc := 0) (i := 3) C.hx C.hb dL_onPoints_0 rfl ?_
  refine z_iconst_ok (pc := 1) (v := 0) C.hx C.hb dL_onPoints_1 (by decide) ?_
  refine z_aload_n_ok (pc := 2) (i := 0) C.hx C.hb dL_onPoints_2 rfl ?_
  refine z_iload_n_ok (pc := 3) (i := 1) C.hx C.hb dL_onPoints_3 rfl ?_
  refine z_iload_n_ok (pc := 4) (i := 2) C.hx C.hb dL_onPoints_4 rfl ?_
  have hh : ∀ (n : Nat) (v : Int32), (fun n => match n with | 1 => some 1 | 2 => some 2 | _ => none) n = some v → zhnd X cL_onPoints RL 5 n v := by
    intro n v h
    rcases n with _ | _ | _ | _ | n
    · cases h
    · have h : some (1 : Int32) = some v := h
      cases h
      exact ⟨[], ⟨0, 10, 13, 13⟩, [⟨0, 10, 17, 15⟩], ht, fun _ h => (nomatch h), by decide, by decide, zw_187, List.mem_of_getElem? (i := 0) rfl, 4, 2, 1, zlt hn (by decide), Or.inl ⟨dL_onPoints_13, rfl⟩, dL_onPoints_15, by decide, dL_onPoints_16⟩
    · have h : some (2 : Int32) = some v := h
      cases h
      exact ⟨[⟨0, 10, 13, 13⟩], ⟨0, 10, 17, 15⟩, [], ht, List.forall_mem_cons.mpr ⟨Or.inr ⟨by decide, _, zw_187, C.hE.2.2.2.2.2.2.1.1⟩, fun _ h => (nomatch h)⟩, by decide, by decide, zw_188, List.mem_of_getElem? (i := 1) rfl, 4, 2, 2, zlt hn (by decide), Or.inl ⟨dL_onPoints_17, rfl⟩, dL_onPoints_19, by decide, dL_onPoints_20⟩
    · cases h
    · cases h
  refine z_invH_ok (pc := 5) C (zQ_of h0.2.2 (by have := h0.1; omega) (by have := h0.2.1; omega)) (zm_X7_onPoints X.l C.htr) ⟨rfl, rfl⟩ ⟨by decide, by decide⟩ (by decide) (by decide) zcl_L_17 zw_291 zw_292 zK7 hh dL_onPoints_5 ?_
  have C := C.c (cx' := 1) (sx' := 6) (zQ_of h0.2.2 (a := X.ce + 0) (b := X.sl + 0) (by have := h0.1; omega) (by have := h0.2.1; omega)) (by omega) (by omega)
  refine z_lastI_ok (pc := 8) C dL_onPoints_8 dL_onPoints_9 ?_
  refine z_goto_ok (pc := 10) (tgt := 21) C.hx C.hb dL_onPoints_10 (by decide) ?_
  refine z_iconst_ok (pc := 21) (v := 0) C.hx C.hb dL_onPoints_21 (by decide) ?_
  exact z_iret_ok (pc := 22) C dL_onPoints_22
def sp_L_onPoints : ZSp := fun as S K => as.length ≤ 5 ∧ zsp 5 zb_L_onPoints_0 as S K
theorem zm_L_onPoints (l : Launch) (hl : l.stackTraces = false) : zMetW l yL_onPoints cL_onPoints 5 (some .int) [(0, 10, 13, 13), (0, 10, 17, 15)] { frames := 8, cells := 11, slots := 66, locals := 135 } 10 60 sp_L_onPoints := zMetW_of hl (by decide +kernel) rfl ⟨rfl, rfl⟩ (fun X C hn h0 ht => zk_L_onPoints_0 C hn h0 ht)
theorem dL_person_0 : decode cL_person 0 = .ok (.aload_n 3, 1) := by decide +kernel
theorem dL_person_1 : decode cL_person 1 = .ok (.iconst 0, 1) := by decide +kernel
theorem dL_person_2 : decode cL_person 2 = .ok (.aload_n 0, 1) := by decide +kernel
theorem dL_person_3 : decode cL_person 3 = .ok (.iload_n 1, 1) := by decide +kernel
theorem dL_person_4 : decode cL_person 4 = .ok (.iload_n 2, 1) := by decide +kernel
theorem dL_person_5 : decode cL_person 5 = .ok (.invokevirtual 33, 3) := by decide +kernel
theorem dL_person_8 : decode cL_person 8 = .ok (.i2l, 1) := by decide +kernel
theorem dL_person_9 : decode cL_person 9 = .ok (.lastore, 1) := by decide +kernel
theorem dL_person_10 : decode cL_person 10 = .ok (.goto 15, 3) := by decide +kernel
theorem dL_person_13 : decode cL_person 13 = .ok (.astore 4, 2) := by decide +kernel
theorem dL_person_15 : decode cL_person 15 = .ok (.iconst 1, 1) := by decide +kernel
theorem dL_person_16 : decode cL_person 16 = .ok (.ireturn, 1) := by decide +kernel
theorem dL_person_17 : decode cL_person 17 = .ok (.astore 4, 2) := by decide +kernel
theorem dL_person_19 : decode cL_person 19 = .ok (.iconst 2, 1) := by decide +kernel
theorem dL_person_20 : decode cL_person 20 = .ok (.ireturn, 1) := by decide +kernel
theorem dL_person_21 : decode cL_person 21 = .ok (.astore 4, 2) := by decide +kernel
theorem dL_person_23 : decode cL_person 23 = .ok (.iconst 3, 1) := by decide +kernel
theorem dL_person_24 : decode cL_person 24 = .ok (.ireturn, 1) := by decide +kernel
theorem dL_person_25 : decode cL_person 25 = .ok (.iconst 0, 1) := by decide +kernel
theorem dL_person_26 : decode cL_person 26 = .ok (.ireturn, 1) := by decide +kernel
def zb_L_person_0 : ZP := (z_ald 3 (z_push 0 (z_ald 0 (z_ild 1 (z_ild 2 (z_invH 7 2 sp_X7_person (fun n => match n with | 1 => some 1 | 2 => some 2 | 3 => some 3 | _ => none) (z_lastI (z_push 0 (z_ret 1)))))))))
set_option maxRecDepth 20000 in
theorem zk_L_person_0 {X : ZX} (C : zCx X cL_person RL (some .int) 8 135 11 66) (hn : X.nL = 5) (h0 : X.ce = 0 ∧ X.sl = 0 ∧ X.Q = zEndP X.b X.g X.ad X.S0 X.K X.a X.s 10 60) (ht : X.c.exceptionTable.toList = tableOf [(0, 10, 13, 13), (0, 10, 17, 15), (0, 10, 21, 36)]) : ZOK X 0 (zb_L_person_0) := by
  unfold zb_L_person_0
  refine z_aload_n_ok (pc := 0) (i := 3) C.hx C.hb dL_person_0 rfl ?_
  refine z_iconst_ok (pc := 1) (v := 0) C.hx C.hb dL_person_1 (by decide) ?_
  refine z_aload_n_ok (pc := 2) (i := 0) C.hx C.hb dL_person_2 rfl ?_
  refine z_iload_n_ok (pc := 3) (i := 1) C.hx C.hb dL_person_3 rfl ?_
  refine z_iload_n_ok (pc := 4) (i := 2) C.hx C.hb dL_person_4 rfl ?_
  have hh : ∀ (n : Nat) (v : Int32), (fun n => match n with | 1 => some 1 | 2 => some 2 | 3 => some 3 | _ => none) n = some v → zhnd X cL_person RL 5 n v := by
    intro n v h
    rcases n with _ | _ | _ | _ | n
    · cases h
    · have h : some (1 : Int32) = some v := h
      cases h
      exact ⟨[], ⟨0, 10, 13, 13⟩, [⟨0, 10, 17, 15⟩, ⟨0, 10, 21, 36⟩], ht, fun _ h => (nomatch h), by decide, by decide, zw_187, List.mem_of_getElem? (i := 0) rfl, 4, 2, 1, zlt hn (by decide), Or.inl ⟨dL_person_13, rfl⟩, dL_person_15, by decide, dL_person_16⟩
    · have h : some (2 : Int32) = some v := h
      cases h
      exact ⟨[⟨0, 10, 13, 13⟩], ⟨0, 10, 17, 15⟩, [⟨0, 10, 21, 36⟩], ht, List.forall_mem_cons.mpr ⟨Or.inr ⟨by decide, _, zw_187, C.hE.2.2.2.2.2.2.1.1⟩, fun _ h => (nomatch h)⟩, by decide, by decide, zw_188, List.mem_of_getElem? (i := 1) rfl, 4, 2, 2, zlt hn (by decide), Or.inl ⟨dL_person_17, rfl⟩, dL_person_19, by decide, dL_person_20⟩
    · have h : some (3 : Int32) = some v := h
      cases h
      exact ⟨[⟨0, 10, 13, 13⟩, ⟨0, 10, 17, 15⟩], ⟨0, 10, 21, 36⟩, [], ht, List.forall_mem_cons.mpr ⟨Or.inr ⟨by decide, _, zw_187, C.hE.2.2.2.2.2.2.1.2.1⟩, List.forall_mem_cons.mpr ⟨Or.inr ⟨by decide, _, zw_188, C.hE.2.2.2.2.2.2.1.2.2⟩, fun _ h => (nomatch h)⟩⟩, by decide, by decide, zw_329, List.mem_of_getElem? (i := 2) rfl, 4, 2, 3, zlt hn (by decide), Or.inl ⟨dL_person_21, rfl⟩, dL_person_23, by decide, dL_person_24⟩
    · cases h
  refine z_invH_ok (pc := 5) C (zQ_of h0.2.2 (by have := h0.1; omega) (by have := h0.2.1; omega)) (zm_X7_person X.l C.htr) ⟨rfl, rfl⟩ ⟨by decide, by decide⟩ (by decide) (by decide) zcl_L_33 zw_331 zw_332 zK7 hh dL_person_5 ?_
  have C := C.c (cx' := 1) (sx' := 6) (zQ_of h0.2.2 (a := X.ce + 2) (b := X.sl + 17) (by have := h0.1; omega) (by have := h0.2.1; omega)) (by omega) (by omega)
  refine z_lastI_ok (pc := 8) C dL_person_8 dL_person_9 ?_
  refine z_goto_ok (pc := 10) (tgt := 25) C.hx C.hb dL_person_10 (by decide) ?_
  refine z_iconst_ok (pc := 25) (v := 0) C.hx C.hb dL_person_25 (by decide) ?_
  exact z_iret_ok (pc := 26) C dL_person_26
def sp_L_person : ZSp := fun as S K => as.length ≤ 5 ∧ zsp 5 zb_L_person_0 as S K
theorem zm_L_person (l : Launch) (hl : l.stackTraces = false) : zMetW l yL_person cL_person 5 (some .int) [(0, 10, 13, 13), (0, 10, 17, 15), (0, 10, 21, 36)] { frames := 8, cells := 11, slots := 66, locals := 135 } 10 60 sp_L_person := zMetW_of hl (by decide +kernel) rfl ⟨rfl, rfl⟩ (fun X C hn h0 ht => zk_L_person_0 C hn h0 ht)
theorem dL_personIs_0 : decode cL_personIs 0 = .ok (.aload_n 3, 1) := by decide +kernel
theorem dL_personIs_1 : decode cL_personIs 1 = .ok (.iconst 0, 1) := by decide +kernel
theorem dL_personIs_2 : decode cL_personIs 2 = .ok (.aload_n 0, 1) := by decide +kernel
theorem dL_personIs_3 : decode cL_personIs 3 = .ok (.iload_n 1, 1) := by decide +kernel
theorem dL_personIs_4 : decode cL_personIs 4 = .ok (.iload_n 2, 1) := by decide +kernel
theorem dL_personIs_5 : decode cL_personIs 5 = .ok (.invokevirtual 51, 3) := by decide +kernel
theorem dL_personIs_8 : decode cL_personIs 8 = .ok (.i2l, 1) := by decide +kernel
theorem dL_personIs_9 : decode cL_personIs 9 = .ok (.lastore, 1) := by decide +kernel
theorem dL_personIs_10 : decode cL_personIs 10 = .ok (.goto 11, 3) := by decide +kernel
theorem dL_personIs_13 : decode cL_personIs 13 = .ok (.astore 4, 2) := by decide +kernel
theorem dL_personIs_15 : decode cL_personIs 15 = .ok (.iconst 1, 1) := by decide +kernel
theorem dL_personIs_16 : decode cL_personIs 16 = .ok (.ireturn, 1) := by decide +kernel
theorem dL_personIs_17 : decode cL_personIs 17 = .ok (.astore 4, 2) := by decide +kernel
theorem dL_personIs_19 : decode cL_personIs 19 = .ok (.iconst 2, 1) := by decide +kernel
theorem dL_personIs_20 : decode cL_personIs 20 = .ok (.ireturn, 1) := by decide +kernel
theorem dL_personIs_21 : decode cL_personIs 21 = .ok (.iconst 0, 1) := by decide +kernel
theorem dL_personIs_22 : decode cL_personIs 22 = .ok (.ireturn, 1) := by decide +kernel
def zb_L_personIs_0 : ZP := (z_ald 3 (z_push 0 (z_ald 0 (z_ild 1 (z_ild 2 (z_invH 7 2 sp_X7_personIs (fun n => match n with | 1 => some 1 | 2 => some 2 | _ => none) (z_lastI (z_push 0 (z_ret 1)))))))))
set_option maxRecDepth 20000 in
theorem zk_L_personIs_0 {X : ZX} (C : zCx X cL_personIs RL (some .int) 8 135 11 66) (hn : X.nL = 5) (h0 : X.ce = 0 ∧ X.sl = 0 ∧ X.Q = zEndP X.b X.g X.ad X.S0 X.K X.a X.s 10 60) (ht : X.c.exceptionTable.toList = tableOf [(0, 10, 13, 13), (0, 10, 17, 15)]) : ZOK X 0 (zb_L_personIs_0) := by
  unfold zb_L_personIs_0
  refine z_aload_n_ok (pc := 0) (i := 3) C.hx C.hb dL_personIs_0 rfl ?_
  refine z_iconst_ok (pc := 1) (v := 0) C.hx C.hb dL_personIs_1 (by decide) ?_
  refine z_aload_n_ok (pc := 2) (i := 0) C.hx C.hb dL_personIs_2 rfl ?_
  refine z_iload_n_ok (pc := 3) (i := 1) C.hx C.hb dL_personIs_3 rfl ?_
  refine z_iload_n_ok (pc := 4) (i := 2) C.hx C.hb dL_personIs_4 rfl ?_
  have hh : ∀ (n : Nat) (v : Int32), (fun n => match n with | 1 => some 1 | 2 => some 2 | _ => none) n = some v → zhnd X cL_personIs RL 5 n v := by
    intro n v h
    rcases n with _ | _ | _ | _ | n
    · cases h
    · have h : some (1 : Int32) = some v := h
      cases h
      exact ⟨[], ⟨0, 10, 13, 13⟩, [⟨0, 10, 17, 15⟩], ht, fun _ h => (nomatch h), by decide, by decide, zw_187, List.mem_of_getElem? (i := 0) rfl, 4, 2, 1, zlt hn (by decide), Or.inl ⟨dL_personIs_13, rfl⟩, dL_personIs_15, by decide, dL_personIs_16⟩
    · have h : some (2 : Int32) = some v := h
      cases h
      exact ⟨[⟨0, 10, 13, 13⟩], ⟨0, 10, 17, 15⟩, [], ht, List.forall_mem_cons.mpr ⟨Or.inr ⟨by decide, _, zw_187, C.hE.2.2.2.2.2.2.1.1⟩, fun _ h => (nomatch h)⟩, by decide, by decide, zw_188, List.mem_of_getElem? (i := 1) rfl, 4, 2, 2, zlt hn (by decide), Or.inl ⟨dL_personIs_17, rfl⟩, dL_personIs_19, by decide, dL_personIs_20⟩
    · cases h
    · cases h
  refine z_invH_ok (pc := 5) C (zQ_of h0.2.2 (by have := h0.1; omega) (by have := h0.2.1; omega)) (zm_X7_personIs X.l C.htr) ⟨rfl, rfl⟩ ⟨by decide, by decide⟩ (by decide) (by decide) zcl_L_51 zw_470 zw_471 zK7 hh dL_personIs_5 ?_
  have C := C.c (cx' := 1) (sx' := 6) (zQ_of h0.2.2 (a := X.ce + 0) (b := X.sl + 0) (by have := h0.1; omega) (by have := h0.2.1; omega)) (by omega) (by omega)
  refine z_lastI_ok (pc := 8) C dL_personIs_8 dL_personIs_9 ?_
  refine z_goto_ok (pc := 10) (tgt := 21) C.hx C.hb dL_personIs_10 (by decide) ?_
  refine z_iconst_ok (pc := 21) (v := 0) C.hx C.hb dL_personIs_21 (by decide) ?_
  exact z_iret_ok (pc := 22) C dL_personIs_22
def sp_L_personIs : ZSp := fun as S K => as.length ≤ 5 ∧ zsp 5 zb_L_personIs_0 as S K
theorem zm_L_personIs (l : Launch) (hl : l.stackTraces = false) : zMetW l yL_personIs cL_personIs 5 (some .int) [(0, 10, 13, 13), (0, 10, 17, 15)] { frames := 8, cells := 11, slots := 66, locals := 135 } 10 60 sp_L_personIs := zMetW_of hl (by decide +kernel) rfl ⟨rfl, rfl⟩ (fun X C hn h0 ht => zk_L_personIs_0 C hn h0 ht)
theorem dL_points_0 : decode cL_points 0 = .ok (.aload_n 3, 1) := by decide +kernel
theorem dL_points_1 : decode cL_points 1 = .ok (.iconst 0, 1) := by decide +kernel
theorem dL_points_2 : decode cL_points 2 = .ok (.aload_n 0, 1) := by decide +kernel
theorem dL_points_3 : decode cL_points 3 = .ok (.iload_n 1, 1) := by decide +kernel
theorem dL_points_4 : decode cL_points 4 = .ok (.iload_n 2, 1) := by decide +kernel
theorem dL_points_5 : decode cL_points 5 = .ok (.invokevirtual 27, 3) := by decide +kernel
theorem dL_points_8 : decode cL_points 8 = .ok (.i2l, 1) := by decide +kernel
theorem dL_points_9 : decode cL_points 9 = .ok (.lastore, 1) := by decide +kernel
theorem dL_points_10 : decode cL_points 10 = .ok (.goto 7, 3) := by decide +kernel
theorem dL_points_13 : decode cL_points 13 = .ok (.astore 4, 2) := by decide +kernel
theorem dL_points_15 : decode cL_points 15 = .ok (.iconst 1, 1) := by decide +kernel
theorem dL_points_16 : decode cL_points 16 = .ok (.ireturn, 1) := by decide +kernel
theorem dL_points_17 : decode cL_points 17 = .ok (.iconst 0, 1) := by decide +kernel
theorem dL_points_18 : decode cL_points 18 = .ok (.ireturn, 1) := by decide +kernel
def zb_L_points_0 : ZP := (z_ald 3 (z_push 0 (z_ald 0 (z_ild 1 (z_ild 2 (z_invH 7 2 sp_X7_points (fun n => match n with | 2 => some 1 | _ => none) (z_lastI (z_push 0 (z_ret 1)))))))))
set_option maxRecDepth 20000 in
theorem zk_L_points_0 {X : ZX} (C : zCx X cL_points RL (some .int) 8 135 11 66) (hn : X.nL = 5) (h0 : X.ce = 0 ∧ X.sl = 0 ∧ X.Q = zEndP X.b X.g X.ad X.S0 X.K X.a X.s 10 60) (ht : X.c.exceptionTable.toList = tableOf [(0, 10, 13, 15)]) : ZOK X 0 (zb_L_points_0) := by
  unfold zb_L_points_0
  refine z_aload_n_ok (pc := 0) (i := 3) C.hx C.hb dL_points_0 rfl ?_
  refine z_iconst_ok (pc := 1) (v := 0) C.hx C.hb dL_points_1 (by decide) ?_
  refine z_aload_n_ok (pc := 2) (i := 0) C.hx C.hb dL_points_2 rfl ?_
  refine z_iload_n_ok (pc := 3) (i := 1) C.hx C.hb dL_points_3 rfl ?_
  refine z_iload_n_ok (pc := 4) (i := 2) C.hx C.hb dL_points_4 rfl ?_
  have hh : ∀ (n : Nat) (v : Int32), (fun n => match n with | 2 => some 1 | _ => none) n = some v → zhnd X cL_points RL 5 n v := by
    intro n v h
    rcases n with _ | _ | _ | _ | n
    · cases h
    · cases h
    · have h : some (1 : Int32) = some v := h
      cases h
      exact ⟨[], ⟨0, 10, 13, 15⟩, [], ht, fun _ h => (nomatch h), by decide, by decide, zw_188, List.mem_of_getElem? (i := 1) rfl, 4, 2, 1, zlt hn (by decide), Or.inl ⟨dL_points_13, rfl⟩, dL_points_15, by decide, dL_points_16⟩
    · cases h
    · cases h
  refine z_invH_ok (pc := 5) C (zQ_of h0.2.2 (by have := h0.1; omega) (by have := h0.2.1; omega)) (zm_X7_points X.l C.htr) ⟨rfl, rfl⟩ ⟨by decide, by decide⟩ (by decide) (by decide) zcl_L_27 zw_312 zw_313 zK7 hh dL_points_5 ?_
  have C := C.c (cx' := 1) (sx' := 6) (zQ_of h0.2.2 (a := X.ce + 0) (b := X.sl + 0) (by have := h0.1; omega) (by have := h0.2.1; omega)) (by omega) (by omega)
  refine z_lastI_ok (pc := 8) C dL_points_8 dL_points_9 ?_
  refine z_goto_ok (pc := 10) (tgt := 17) C.hx C.hb dL_points_10 (by decide) ?_
  refine z_iconst_ok (pc := 17) (v := 0) C.hx C.hb dL_points_17 (by decide) ?_
  exact z_iret_ok (pc := 18) C dL_points_18
def sp_L_points : ZSp := fun as S K => as.length ≤ 5 ∧ zsp 5 zb_L_points_0 as S K
theorem zm_L_points (l : Launch) (hl : l.stackTraces = false) : zMetW l yL_points cL_points 5 (some .int) [(0, 10, 13, 15)] { frames := 8, cells := 11, slots := 66, locals := 135 } 10 60 sp_L_points := zMetW_of hl (by decide +kernel) rfl ⟨rfl, rfl⟩ (fun X C hn h0 ht => zk_L_points_0 C hn h0 ht)
theorem dL_ration_0 : decode cL_ration 0 = .ok (.aload_n 3, 1) := by decide +kernel
theorem dL_ration_1 : decode cL_ration 1 = .ok (.iconst 0, 1) := by decide +kernel
theorem dL_ration_2 : decode cL_ration 2 = .ok (.aload_n 0, 1) := by decide +kernel
theorem dL_ration_3 : decode cL_ration 3 = .ok (.iload_n 1, 1) := by decide +kernel
theorem dL_ration_4 : decode cL_ration 4 = .ok (.iload_n 2, 1) := by decide +kernel
theorem dL_ration_5 : decode cL_ration 5 = .ok (.invokevirtual 7, 3) := by decide +kernel
theorem dL_ration_8 : decode cL_ration 8 = .ok (.i2l, 1) := by decide +kernel
theorem dL_ration_9 : decode cL_ration 9 = .ok (.lastore, 1) := by decide +kernel
theorem dL_ration_10 : decode cL_ration 10 = .ok (.goto 11, 3) := by decide +kernel
theorem dL_ration_13 : decode cL_ration 13 = .ok (.astore 4, 2) := by decide +kernel
theorem dL_ration_15 : decode cL_ration 15 = .ok (.iconst 1, 1) := by decide +kernel
theorem dL_ration_16 : decode cL_ration 16 = .ok (.ireturn, 1) := by decide +kernel
theorem dL_ration_17 : decode cL_ration 17 = .ok (.astore 4, 2) := by decide +kernel
theorem dL_ration_19 : decode cL_ration 19 = .ok (.iconst 2, 1) := by decide +kernel
theorem dL_ration_20 : decode cL_ration 20 = .ok (.ireturn, 1) := by decide +kernel
theorem dL_ration_21 : decode cL_ration 21 = .ok (.iconst 0, 1) := by decide +kernel
theorem dL_ration_22 : decode cL_ration 22 = .ok (.ireturn, 1) := by decide +kernel
def zb_L_ration_0 : ZP := (z_ald 3 (z_push 0 (z_ald 0 (z_ild 1 (z_ild 2 (z_invH 7 2 sp_X7_ration (fun n => match n with | 1 => some 1 | 2 => some 2 | _ => none) (z_lastI (z_push 0 (z_ret 1)))))))))
set_option maxRecDepth 20000 in
theorem zk_L_ration_0 {X : ZX} (C : zCx X cL_ration RL (some .int) 8 135 11 66) (hn : X.nL = 5) (h0 : X.ce = 0 ∧ X.sl = 0 ∧ X.Q = zEndP X.b X.g X.ad X.S0 X.K X.a X.s 10 60) (ht : X.c.exceptionTable.toList = tableOf [(0, 10, 13, 13), (0, 10, 17, 15)]) : ZOK X 0 (zb_L_ration_0) := by
  unfold zb_L_ration_0
  refine z_aload_n_ok (pc := 0) (i := 3) C.hx C.hb dL_ration_0 rfl ?_
  refine z_iconst_ok (pc := 1) (v := 0) C.hx C.hb dL_ration_1 (by decide) ?_
  refine z_aload_n_ok (pc := 2) (i := 0) C.hx C.hb dL_ration_2 rfl ?_
  refine z_iload_n_ok (pc := 3) (i := 1) C.hx C.hb dL_ration_3 rfl ?_
  refine z_iload_n_ok (pc := 4) (i := 2) C.hx C.hb dL_ration_4 rfl ?_
  have hh : ∀ (n : Nat) (v : Int32), (fun n => match n with | 1 => some 1 | 2 => some 2 | _ => none) n = some v → zhnd X cL_ration RL 5 n v := by
    intro n v h
    rcases n with _ | _ | _ | _ | n
    · cases h
    · have h : some (1 : Int32) = some v := h
      cases h
      exact ⟨[], ⟨0, 10, 13, 13⟩, [⟨0, 10, 17, 15⟩], ht, fun _ h => (nomatch h), by decide, by decide, zw_187, List.mem_of_getElem? (i := 0) rfl, 4, 2, 1, zlt hn (by decide), Or.inl ⟨dL_ration_13, rfl⟩, dL_ration_15, by decide, dL_ration_16⟩
    · have h : some (2 : Int32) = some v := h
      cases h
      exact ⟨[⟨0, 10, 13, 13⟩], ⟨0, 10, 17, 15⟩, [], ht, List.forall_mem_cons.mpr ⟨Or.inr ⟨by decide, _, zw_187, C.hE.2.2.2.2.2.2.1.1⟩, fun _ h => (nomatch h)⟩, by decide, by decide, zw_188, List.mem_of_getElem? (i := 1) rfl, 4, 2, 2, zlt hn (by decide), Or.inl ⟨dL_ration_17, rfl⟩, dL_ration_19, by decide, dL_ration_20⟩
    · cases h
    · cases h
  refine z_invH_ok (pc := 5) C (zQ_of h0.2.2 (by have := h0.1; omega) (by have := h0.2.1; omega)) (zm_X7_ration X.l C.htr) ⟨rfl, rfl⟩ ⟨by decide, by decide⟩ (by decide) (by decide) zcl_L_7 zw_190 zw_191 zK7 hh dL_ration_5 ?_
  have C := C.c (cx' := 1) (sx' := 6) (zQ_of h0.2.2 (a := X.ce + 0) (b := X.sl + 0) (by have := h0.1; omega) (by have := h0.2.1; omega)) (by omega) (by omega)
  refine z_lastI_ok (pc := 8) C dL_ration_8 dL_ration_9 ?_
  refine z_goto_ok (pc := 10) (tgt := 21) C.hx C.hb dL_ration_10 (by decide) ?_
  refine z_iconst_ok (pc := 21) (v := 0) C.hx C.hb dL_ration_21 (by decide) ?_
  exact z_iret_ok (pc := 22) C dL_ration_22
def sp_L_ration : ZSp := fun as S K => as.length ≤ 5 ∧ zsp 5 zb_L_ration_0 as S K
theorem zm_L_ration (l : Launch) (hl : l.stackTraces = false) : zMetW l yL_ration cL_ration 5 (some .int) [(0, 10, 13, 13), (0, 10, 17, 15)] { frames := 8, cells := 11, slots := 66, locals := 135 } 10 60 sp_L_ration := zMetW_of hl (by decide +kernel) rfl ⟨rfl, rfl⟩ (fun X C hn h0 ht => zk_L_ration_0 C hn h0 ht)
theorem dL_settle_0 : decode cL_settle 0 = .ok (.aload_n 3, 1) := by decide +kernel
theorem dL_settle_1 : decode cL_settle 1 = .ok (.iconst 0, 1) := by decide +kernel
theorem dL_settle_2 : decode cL_settle 2 = .ok (.aload_n 0, 1) := by decide +kernel
theorem dL_settle_3 : decode cL_settle 3 = .ok (.iload_n 1, 1) := by decide +kernel
theorem dL_settle_4 : decode cL_settle 4 = .ok (.iload_n 2, 1) := by decide +kernel
theorem dL_settle_5 : decode cL_settle 5 = .ok (.invokevirtual 85, 3) := by decide +kernel
theorem dL_settle_8 : decode cL_settle 8 = .ok (.i2l, 1) := by decide +kernel
theorem dL_settle_9 : decode cL_settle 9 = .ok (.lastore, 1) := by decide +kernel
theorem dL_settle_10 : decode cL_settle 10 = .ok (.goto 7, 3) := by decide +kernel
theorem dL_settle_13 : decode cL_settle 13 = .ok (.astore 4, 2) := by decide +kernel
theorem dL_settle_15 : decode cL_settle 15 = .ok (.iconst 1, 1) := by decide +kernel
theorem dL_settle_16 : decode cL_settle 16 = .ok (.ireturn, 1) := by decide +kernel
theorem dL_settle_17 : decode cL_settle 17 = .ok (.iconst 0, 1) := by decide +kernel
theorem dL_settle_18 : decode cL_settle 18 = .ok (.ireturn, 1) := by decide +kernel
def zb_L_settle_0 : ZP := (z_ald 3 (z_push 0 (z_ald 0 (z_ild 1 (z_ild 2 (z_invH 7 2 sp_X7_settle (fun n => match n with | 1 => some 1 | _ => none) (z_lastI (z_push 0 (z_ret 1)))))))))
set_option maxRecDepth 20000 in
theorem zk_L_settle_0 {X : ZX} (C : zCx X cL_settle RL (some .int) 8 136 11 66) (hn : X.nL = 5) (h0 : X.ce = 0 ∧ X.sl = 0 ∧ X.Q = zEndP X.b X.g X.ad X.S0 X.K X.a X.s 10 60) (ht : X.c.exceptionTable.toList = tableOf [(0, 10, 13, 13)]) : ZOK X 0 (zb_L_settle_0) := by
  unfold zb_L_settle_0
  refine z_aload_n_ok (pc := 0) (i := 3) C.hx C.hb dL_settle_0 rfl ?_
  refine z_iconst_ok (pc := 1) (v := 0) C.hx C.hb dL_settle_1 (by decide) ?_
  refine z_aload_n_ok (pc := 2) (i := 0) C.hx C.hb dL_settle_2 rfl ?_
  refine z_iload_n_ok (pc := 3) (i := 1) C.hx C.hb dL_settle_3 rfl ?_
  refine z_iload_n_ok (pc := 4) (i := 2) C.hx C.hb dL_settle_4 rfl ?_
  have hh : ∀ (n : Nat) (v : Int32), (fun n => match n with | 1 => some 1 | _ => none) n = some v → zhnd X cL_settle RL 5 n v := by
    intro n v h
    rcases n with _ | _ | _ | _ | n
    · cases h
    · have h : some (1 : Int32) = some v := h
      cases h
      exact ⟨[], ⟨0, 10, 13, 13⟩, [], ht, fun _ h => (nomatch h), by decide, by decide, zw_187, List.mem_of_getElem? (i := 0) rfl, 4, 2, 1, zlt hn (by decide), Or.inl ⟨dL_settle_13, rfl⟩, dL_settle_15, by decide, dL_settle_16⟩
    · cases h
    · cases h
    · cases h
  refine z_invH_ok (pc := 5) C (zQ_of h0.2.2 (by have := h0.1; omega) (by have := h0.2.1; omega)) (zm_X7_settle X.l C.htr) ⟨rfl, rfl⟩ ⟨by decide, by decide⟩ (by decide) (by decide) zcl_L_85 zw_680 zw_681 zK7 hh dL_settle_5 ?_
  have C := C.c (cx' := 1) (sx' := 6) (zQ_of h0.2.2 (a := X.ce + 0) (b := X.sl + 0) (by have := h0.1; omega) (by have := h0.2.1; omega)) (by omega) (by omega)
  refine z_lastI_ok (pc := 8) C dL_settle_8 dL_settle_9 ?_
  refine z_goto_ok (pc := 10) (tgt := 17) C.hx C.hb dL_settle_10 (by decide) ?_
  refine z_iconst_ok (pc := 17) (v := 0) C.hx C.hb dL_settle_17 (by decide) ?_
  exact z_iret_ok (pc := 18) C dL_settle_18
def sp_L_settle : ZSp := fun as S K => as.length ≤ 5 ∧ zsp 5 zb_L_settle_0 as S K
theorem zm_L_settle (l : Launch) (hl : l.stackTraces = false) : zMetW l yL_settle cL_settle 5 (some .int) [(0, 10, 13, 13)] { frames := 8, cells := 11, slots := 66, locals := 136 } 10 60 sp_L_settle := zMetW_of hl (by decide +kernel) rfl ⟨rfl, rfl⟩ (fun X C hn h0 ht => zk_L_settle_0 C hn h0 ht)
theorem dL_ship_0 : decode cL_ship 0 = .ok (.aload 4, 2) := by decide +kernel
theorem dL_ship_2 : decode cL_ship 2 = .ok (.iconst 0, 1) := by decide +kernel
theorem dL_ship_3 : decode cL_ship 3 = .ok (.aload_n 0, 1) := by decide +kernel
theorem dL_ship_4 : decode cL_ship 4 = .ok (.iload_n 1, 1) := by decide +kernel
theorem dL_ship_5 : decode cL_ship 5 = .ok (.iload_n 2, 1) := by decide +kernel
theorem dL_ship_6 : decode cL_ship 6 = .ok (.iload_n 3, 1) := by decide +kernel
theorem dL_ship_7 : decode cL_ship 7 = .ok (.invokevirtual 66, 3) := by decide +kernel
theorem dL_ship_10 : decode cL_ship 10 = .ok (.i2l, 1) := by decide +kernel
theorem dL_ship_11 : decode cL_ship 11 = .ok (.lastore, 1) := by decide +kernel
theorem dL_ship_12 : decode cL_ship 12 = .ok (.goto 11, 3) := by decide +kernel
theorem dL_ship_15 : decode cL_ship 15 = .ok (.astore 5, 2) := by decide +kernel
theorem dL_ship_17 : decode cL_ship 17 = .ok (.iconst 1, 1) := by decide +kernel
theorem dL_ship_18 : decode cL_ship 18 = .ok (.ireturn, 1) := by decide +kernel
theorem dL_ship_19 : decode cL_ship 19 = .ok (.astore 5, 2) := by decide +kernel
theorem dL_ship_21 : decode cL_ship 21 = .ok (.iconst 2, 1) := by decide +kernel
theorem dL_ship_22 : decode cL_ship 22 = .ok (.ireturn, 1) := by decide +kernel
theorem dL_ship_23 : decode cL_ship 23 = .ok (.iconst 0, 1) := by decide +kernel
theorem dL_ship_24 : decode cL_ship 24 = .ok (.ireturn, 1) := by decide +kernel
def zb_L_ship_0 : ZP := (z_ald 4 (z_push 0 (z_ald 0 (z_ild 1 (z_ild 2 (z_ild 3 (z_invH 7 3 sp_X7_ship (fun n => match n with | 1 => some 1 | 2 => some 2 | _ => none) (z_lastI (z_push 0 (z_ret 1))))))))))
set_option maxRecDepth 20000 in
theorem zk_L_ship_0 {X : ZX} (C : zCx X cL_ship RL (some .int) 8 136 11 66) (hn : X.nL = 6) (h0 : X.ce = 0 ∧ X.sl = 0 ∧ X.Q = zEndP X.b X.g X.ad X.S0 X.K X.a X.s 10 60) (ht : X.c.exceptionTable.toList = tableOf [(0, 12, 15, 13), (0, 12, 19, 15)]) : ZOK X 0 (zb_L_ship_0) := by
  unfold zb_L_ship_0
  refine z_aload_ok (pc := 0) (i := 4) C.hx C.hb dL_ship_0 ?_
  refine z_iconst_ok (pc := 2) (v := 0) C.hx C.hb dL_ship_2 (by decide) ?_
  refine z_aload_n_ok (pc := 3) (i := 0) C.hx C.hb dL_ship_3 rfl ?_
  refine z_iload_n_ok (pc := 4) (i := 1) C.hx C.hb dL_ship_4 rfl ?_
  refine z_iload_n_ok (pc := 5) (i := 2) C.hx C.hb dL_ship_5 rfl ?_
  refine z_iload_n_ok (pc := 6) (i := 3) C.hx C.hb dL_ship_6 rfl ?_
  have hh : ∀ (n : Nat) (v : Int32), (fun n => match n with | 1 => some 1 | 2 => some 2 | _ => none) n = some v → zhnd X cL_ship RL 7 n v := by
    intro n v h
    rcases n with _ | _ | _ | _ | n
    · cases h
    · have h : some (1 : Int32) = some v := h
      cases h
      exact ⟨[], ⟨0, 12, 15, 13⟩, [⟨0, 12, 19, 15⟩], ht, fun _ h => (nomatch h), by decide, by decide, zw_187, List.mem_of_getElem? (i := 0) rfl, 5, 2, 1, zlt hn (by decide), Or.inl ⟨dL_ship_15, rfl⟩, dL_ship_17, by decide, dL_ship_18⟩
    · have h : some (2 : Int32) = some v := h
      cases h
      exact ⟨[⟨0, 12, 15, 13⟩], ⟨0, 12, 19, 15⟩, [], ht, List.forall_mem_cons.mpr ⟨Or.inr ⟨by decide, _, zw_187, C.hE.2.2.2.2.2.2.1.1⟩, fun _ h => (nomatch h)⟩, by decide, by decide, zw_188, List.mem_of_getElem? (i := 1) rfl, 5, 2, 2, zlt hn (by decide), Or.inl ⟨dL_ship_19, rfl⟩, dL_ship_21, by decide, dL_ship_22⟩
    · cases h
    · cases h
  refine z_invH_ok (pc := 7) C (zQ_of h0.2.2 (by have := h0.1; omega) (by have := h0.2.1; omega)) (zm_X7_ship X.l C.htr) ⟨rfl, rfl⟩ ⟨by decide, by decide⟩ (by decide) (by decide) zcl_L_66 zw_595 zw_596 zK7 hh dL_ship_7 ?_
  have C := C.c (cx' := 1) (sx' := 6) (zQ_of h0.2.2 (a := X.ce + 0) (b := X.sl + 0) (by have := h0.1; omega) (by have := h0.2.1; omega)) (by omega) (by omega)
  refine z_lastI_ok (pc := 10) C dL_ship_10 dL_ship_11 ?_
  refine z_goto_ok (pc := 12) (tgt := 23) C.hx C.hb dL_ship_12 (by decide) ?_
  refine z_iconst_ok (pc := 23) (v := 0) C.hx C.hb dL_ship_23 (by decide) ?_
  exact z_iret_ok (pc := 24) C dL_ship_24
def sp_L_ship : ZSp := fun as S K => as.length ≤ 6 ∧ zsp 6 zb_L_ship_0 as S K
theorem zm_L_ship (l : Launch) (hl : l.stackTraces = false) : zMetW l yL_ship cL_ship 6 (some .int) [(0, 12, 15, 13), (0, 12, 19, 15)] { frames := 8, cells := 11, slots := 66, locals := 136 } 10 60 sp_L_ship := zMetW_of hl (by decide +kernel) rfl ⟨rfl, rfl⟩ (fun X C hn h0 ht => zk_L_ship_0 C hn h0 ht)
theorem dL_shop_0 : decode cL_shop 0 = .ok (.aload_n 2, 1) := by decide +kernel
theorem dL_shop_1 : decode cL_shop 1 = .ok (.iconst 0, 1) := by decide +kernel
theorem dL_shop_2 : decode cL_shop 2 = .ok (.aload_n 0, 1) := by decide +kernel
theorem dL_shop_3 : decode cL_shop 3 = .ok (.iload_n 1, 1) := by decide +kernel
theorem dL_shop_4 : decode cL_shop 4 = .ok (.invokevirtual 63, 3) := by decide +kernel
theorem dL_shop_7 : decode cL_shop 7 = .ok (.i2l, 1) := by decide +kernel
theorem dL_shop_8 : decode cL_shop 8 = .ok (.lastore, 1) := by decide +kernel
theorem dL_shop_9 : decode cL_shop 9 = .ok (.goto 9, 3) := by decide +kernel
theorem dL_shop_12 : decode cL_shop 12 = .ok (.astore_n 3, 1) := by decide +kernel
theorem dL_shop_13 : decode cL_shop 13 = .ok (.iconst 1, 1) := by decide +kernel
theorem dL_shop_14 : decode cL_shop 14 = .ok (.ireturn, 1) := by decide +kernel
theorem dL_shop_15 : decode cL_shop 15 = .ok (.astore_n 3, 1) := by decide +kernel
theorem dL_shop_16 : decode cL_shop 16 = .ok (.iconst 2, 1) := by decide +kernel
theorem dL_shop_17 : decode cL_shop 17 = .ok (.ireturn, 1) := by decide +kernel
theorem dL_shop_18 : decode cL_shop 18 = .ok (.iconst 0, 1) := by decide +kernel
theorem dL_shop_19 : decode cL_shop 19 = .ok (.ireturn, 1) := by decide +kernel
def zb_L_shop_0 : ZP := (z_ald 2 (z_push 0 (z_ald 0 (z_ild 1 (z_invH 7 1 sp_X7_shop (fun n => match n with | 1 => some 1 | 3 => some 2 | _ => none) (z_lastI (z_push 0 (z_ret 1))))))))
set_option maxRecDepth 20000 in
theorem zk_L_shop_0 {X : ZX} (C : zCx X cL_shop RL (some .int) 8 133 11 66) (hn : X.nL = 4) (h0 : X.ce = 0 ∧ X.sl = 0 ∧ X.Q = zEndP X.b X.g X.ad X.S0 X.K X.a X.s 10 60) (ht : X.c.exceptionTable.toList = tableOf [(0, 9, 12, 13), (0, 9, 15, 36)]) : ZOK X 0 (zb_L_shop_0) := by
  unfold zb_L_shop_0
  refine z_aload_n_ok (pc := 0) (i := 2) C.hx C.hb dL_shop_0 rfl ?_
  refine z_iconst_ok (pc := 1) (v := 0) C.hx C.hb dL_shop_1 (by decide) ?_
  refine z_aload_n_ok (pc := 2) (i := 0) C.hx C.hb dL_shop_2 rfl ?_
  refine z_iload_n_ok (pc := 3) (i := 1) C.hx C.hb dL_shop_3 rfl ?_
  have hh : ∀ (n : Nat) (v : Int32), (fun n => match n with | 1 => some 1 | 3 => some 2 | _ => none) n = some v → zhnd X cL_shop RL 4 n v := by
    intro n v h
    rcases n with _ | _ | _ | _ | n
    · cases h
    · have h : some (1 : Int32) = some v := h
      cases h
      exact ⟨[], ⟨0, 9, 12, 13⟩, [⟨0, 9, 15, 36⟩], ht, fun _ h => (nomatch h), by decide, by decide, zw_187, List.mem_of_getElem? (i := 0) rfl, 3, 1, 1, zlt hn (by decide), Or.inr ⟨3, dL_shop_12, rfl, rfl⟩, dL_shop_13, by decide, dL_shop_14⟩
    · cases h
    · have h : some (2 : Int32) = some v := h
      cases h
      exact ⟨[⟨0, 9, 12, 13⟩], ⟨0, 9, 15, 36⟩, [], ht, List.forall_mem_cons.mpr ⟨Or.inr ⟨by decide, _, zw_187, C.hE.2.2.2.2.2.2.1.2.1⟩, fun _ h => (nomatch h)⟩, by decide, by decide, zw_329, List.mem_of_getElem? (i := 2) rfl, 3, 1, 2, zlt hn (by decide), Or.inr ⟨3, dL_shop_15, rfl, rfl⟩, dL_shop_16, by decide, dL_shop_17⟩
    · cases h
  refine z_invH_ok (pc := 4) C (zQ_of h0.2.2 (by have := h0.1; omega) (by have := h0.2.1; omega)) (zm_X7_shop X.l C.htr) ⟨rfl, rfl⟩ ⟨by decide, by decide⟩ (by decide) (by decide) zcl_L_63 zw_538 zw_539 zK7 hh dL_shop_4 ?_
  have C := C.c (cx' := 1) (sx' := 6) (zQ_of h0.2.2 (a := X.ce + 8) (b := X.sl + 45) (by have := h0.1; omega) (by have := h0.2.1; omega)) (by omega) (by omega)
  refine z_lastI_ok (pc := 7) C dL_shop_7 dL_shop_8 ?_
  refine z_goto_ok (pc := 9) (tgt := 18) C.hx C.hb dL_shop_9 (by decide) ?_
  refine z_iconst_ok (pc := 18) (v := 0) C.hx C.hb dL_shop_18 (by decide) ?_
  exact z_iret_ok (pc := 19) C dL_shop_19
def sp_L_shop : ZSp := fun as S K => as.length ≤ 4 ∧ zsp 4 zb_L_shop_0 as S K
theorem zm_L_shop (l : Launch) (hl : l.stackTraces = false) : zMetW l yL_shop cL_shop 4 (some .int) [(0, 9, 12, 13), (0, 9, 15, 36)] { frames := 8, cells := 11, slots := 66, locals := 133 } 10 60 sp_L_shop := zMetW_of hl (by decide +kernel) rfl ⟨rfl, rfl⟩ (fun X C hn h0 ht => zk_L_shop_0 C hn h0 ht)
theorem dL_shopIs_0 : decode cL_shopIs 0 = .ok (.aload 4, 2) := by decide +kernel
theorem dL_shopIs_2 : decode cL_shopIs 2 = .ok (.iconst 0, 1) := by decide +kernel
theorem dL_shopIs_3 : decode cL_shopIs 3 = .ok (.aload_n 0, 1) := by decide +kernel
theorem dL_shopIs_4 : decode cL_shopIs 4 = .ok (.iload_n 1, 1) := by decide +kernel
theorem dL_shopIs_5 : decode cL_shopIs 5 = .ok (.iload_n 2, 1) := by decide +kernel
theorem dL_shopIs_6 : decode cL_shopIs 6 = .ok (.iload_n 3, 1) := by decide +kernel
theorem dL_shopIs_7 : decode cL_shopIs 7 = .ok (.invokevirtual 91, 3) := by decide +kernel
theorem dL_shopIs_10 : decode cL_shopIs 10 = .ok (.i2l, 1) := by decide +kernel
theorem dL_shopIs_11 : decode cL_shopIs 11 = .ok (.lastore, 1) := by decide +kernel
theorem dL_shopIs_12 : decode cL_shopIs 12 = .ok (.goto 11, 3) := by decide +kernel
theorem dL_shopIs_15 : decode cL_shopIs 15 = .ok (.astore 5, 2) := by decide +kernel
theorem dL_shopIs_17 : decode cL_shopIs 17 = .ok (.iconst 1, 1) := by decide +kernel
theorem dL_shopIs_18 : decode cL_shopIs 18 = .ok (.ireturn, 1) := by decide +kernel
theorem dL_shopIs_19 : decode cL_shopIs 19 = .ok (.astore 5, 2) := by decide +kernel
theorem dL_shopIs_21 : decode cL_shopIs 21 = .ok (.iconst 2, 1) := by decide +kernel
theorem dL_shopIs_22 : decode cL_shopIs 22 = .ok (.ireturn, 1) := by decide +kernel
theorem dL_shopIs_23 : decode cL_shopIs 23 = .ok (.iconst 0, 1) := by decide +kernel
theorem dL_shopIs_24 : decode cL_shopIs 24 = .ok (.ireturn, 1) := by decide +kernel
def zb_L_shopIs_0 : ZP := (z_ald 4 (z_push 0 (z_ald 0 (z_ild 1 (z_ild 2 (z_ild 3 (z_invH 7 3 sp_X7_shopIs (fun n => match n with | 1 => some 1 | 2 => some 2 | _ => none) (z_lastI (z_push 0 (z_ret 1))))))))))
set_option maxRecDepth 20000 in
theorem zk_L_shopIs_0 {X : ZX} (C : zCx X cL_shopIs RL (some .int) 8 137 11 66) (hn : X.nL = 6) (h0 : X.ce = 0 ∧ X.sl = 0 ∧ X.Q = zEndP X.b X.g X.ad X.S0 X.K X.a X.s 10 60) (ht : X.c.exceptionTable.toList = tableOf [(0, 12, 15, 13), (0, 12, 19, 15)]) : ZOK X 0 (zb_L_shopIs_0) := by
  unfold zb_L_shopIs_0
  refine z_aload_ok (pc := 0) (i := 4) C.hx C.hb dL_shopIs_0 ?_
  refine z_iconst_ok (pc := 2) (v := 0) C.hx C.hb dL_shopIs_2 (by decide) ?_
  refine z_aload_n_ok (pc := 3) (i := 0) C.hx C.hb dL_shopIs_3 rfl ?_
  refine z_iload_n_ok (pc := 4) (i := 1) C.hx C.hb dL_shopIs_4 rfl ?_
  refine z_iload_n_ok (pc := 5) (i := 2) C.hx C.hb dL_shopIs_5 rfl ?_
  refine z_iload_n_ok (pc := 6) (i := 3) C.hx C.hb dL_shopIs_6 rfl ?_
  have hh : ∀ (n : Nat) (v : Int32), (fun n => match n with | 1 => some 1 | 2 => some 2 | _ => none) n = some v → zhnd X cL_shopIs RL 7 n v := by
    intro n v h
    rcases n with _ | _ | _ | _ | n
    · cases h
    · have h : some (1 : Int32) = some v := h
      cases h
      exact ⟨[], ⟨0, 12, 15, 13⟩, [⟨0, 12, 19, 15⟩], ht, fun _ h => (nomatch h), by decide, by decide, zw_187, List.mem_of_getElem? (i := 0) rfl, 5, 2, 1, zlt hn (by decide), Or.inl ⟨dL_shopIs_15, rfl⟩, dL_shopIs_17, by decide, dL_shopIs_18⟩
    · have h : some (2 : Int32) = some v := h
      cases h
      exact ⟨[⟨0, 12, 15, 13⟩], ⟨0, 12, 19, 15⟩, [], ht, List.forall_mem_cons.mpr ⟨Or.inr ⟨by decide, _, zw_187, C.hE.2.2.2.2.2.2.1.1⟩, fun _ h => (nomatch h)⟩, by decide, by decide, zw_188, List.mem_of_getElem? (i := 1) rfl, 5, 2, 2, zlt hn (by decide), Or.inl ⟨dL_shopIs_19, rfl⟩, dL_shopIs_21, by decide, dL_shopIs_22⟩
    · cases h
    · cases h
  refine z_invH_ok (pc := 7) C (zQ_of h0.2.2 (by have := h0.1; omega) (by have := h0.2.1; omega)) (zm_X7_shopIs X.l C.htr) ⟨rfl, rfl⟩ ⟨by decide, by decide⟩ (by decide) (by decide) zcl_L_91 zw_694 zw_695 zK7 hh dL_shopIs_7 ?_
  have C := C.c (cx' := 1) (sx' := 6) (zQ_of h0.2.2 (a := X.ce + 0) (b := X.sl + 0) (by have := h0.1; omega) (by have := h0.2.1; omega)) (by omega) (by omega)
  refine z_lastI_ok (pc := 10) C dL_shopIs_10 dL_shopIs_11 ?_
  refine z_goto_ok (pc := 12) (tgt := 23) C.hx C.hb dL_shopIs_12 (by decide) ?_
  refine z_iconst_ok (pc := 23) (v := 0) C.hx C.hb dL_shopIs_23 (by decide) ?_
  exact z_iret_ok (pc := 24) C dL_shopIs_24
def sp_L_shopIs : ZSp := fun as S K => as.length ≤ 6 ∧ zsp 6 zb_L_shopIs_0 as S K
theorem zm_L_shopIs (l : Launch) (hl : l.stackTraces = false) : zMetW l yL_shopIs cL_shopIs 6 (some .int) [(0, 12, 15, 13), (0, 12, 19, 15)] { frames := 8, cells := 11, slots := 66, locals := 137 } 10 60 sp_L_shopIs := zMetW_of hl (by decide +kernel) rfl ⟨rfl, rfl⟩ (fun X C hn h0 ht => zk_L_shopIs_0 C hn h0 ht)
theorem dL_steal_0 : decode cL_steal 0 = .ok (.aload 4, 2) := by decide +kernel
theorem dL_steal_2 : decode cL_steal 2 = .ok (.iconst 0, 1) := by decide +kernel
theorem dL_steal_3 : decode cL_steal 3 = .ok (.aload_n 0, 1) := by decide +kernel
theorem dL_steal_4 : decode cL_steal 4 = .ok (.iload_n 1, 1) := by decide +kernel
theorem dL_steal_5 : decode cL_steal 5 = .ok (.iload_n 2, 1) := by decide +kernel
theorem dL_steal_6 : decode cL_steal 6 = .ok (.iload_n 3, 1) := by decide +kernel
theorem dL_steal_7 : decode cL_steal 7 = .ok (.invokevirtual 97, 3) := by decide +kernel
theorem dL_steal_10 : decode cL_steal 10 = .ok (.i2l, 1) := by decide +kernel
theorem dL_steal_11 : decode cL_steal 11 = .ok (.lastore, 1) := by decide +kernel
theorem dL_steal_12 : decode cL_steal 12 = .ok (.goto 15, 3) := by decide +kernel
theorem dL_steal_15 : decode cL_steal 15 = .ok (.astore 5, 2) := by decide +kernel
theorem dL_steal_17 : decode cL_steal 17 = .ok (.iconst 1, 1) := by decide +kernel
theorem dL_steal_18 : decode cL_steal 18 = .ok (.ireturn, 1) := by decide +kernel
theorem dL_steal_19 : decode cL_steal 19 = .ok (.astore 5, 2) := by decide +kernel
theorem dL_steal_21 : decode cL_steal 21 = .ok (.iconst 2, 1) := by decide +kernel
theorem dL_steal_22 : decode cL_steal 22 = .ok (.ireturn, 1) := by decide +kernel
theorem dL_steal_23 : decode cL_steal 23 = .ok (.astore 5, 2) := by decide +kernel
theorem dL_steal_25 : decode cL_steal 25 = .ok (.iconst 3, 1) := by decide +kernel
theorem dL_steal_26 : decode cL_steal 26 = .ok (.ireturn, 1) := by decide +kernel
theorem dL_steal_27 : decode cL_steal 27 = .ok (.iconst 0, 1) := by decide +kernel
theorem dL_steal_28 : decode cL_steal 28 = .ok (.ireturn, 1) := by decide +kernel
def zb_L_steal_0 : ZP := (z_ald 4 (z_push 0 (z_ald 0 (z_ild 1 (z_ild 2 (z_ild 3 (z_invH 7 3 sp_X7_steal (fun n => match n with | 1 => some 1 | 2 => some 2 | 3 => some 3 | _ => none) (z_lastI (z_push 0 (z_ret 1))))))))))
set_option maxRecDepth 20000 in
theorem zk_L_steal_0 {X : ZX} (C : zCx X cL_steal RL (some .int) 8 138 11 66) (hn : X.nL = 6) (h0 : X.ce = 0 ∧ X.sl = 0 ∧ X.Q = zEndP X.b X.g X.ad X.S0 X.K X.a X.s 10 60) (ht : X.c.exceptionTable.toList = tableOf [(0, 12, 15, 13), (0, 12, 19, 15), (0, 12, 23, 36)]) : ZOK X 0 (zb_L_steal_0) := by
  unfold zb_L_steal_0
  refine z_aload_ok (pc := 0) (i := 4) C.hx C.hb dL_steal_0 ?_
  refine z_iconst_ok (pc := 2) (v := 0) C.hx C.hb dL_steal_2 (by decide) ?_
  refine z_aload_n_ok (pc := 3) (i := 0) C.hx C.hb dL_steal_3 rfl ?_
  refine z_iload_n_ok (pc := 4) (i := 1) C.hx C.hb dL_steal_4 rfl ?_
  refine z_iload_n_ok (pc := 5) (i := 2) C.hx C.hb dL_steal_5 rfl ?_
  refine z_iload_n_ok (pc := 6) (i := 3) C.hx C.hb dL_steal_6 rfl ?_
  have hh : ∀ (n : Nat) (v : Int32), (fun n => match n with | 1 => some 1 | 2 => some 2 | 3 => some 3 | _ => none) n = some v → zhnd X cL_steal RL 7 n v := by
    intro n v h
    rcases n with _ | _ | _ | _ | n
    · cases h
    · have h : some (1 : Int32) = some v := h
      cases h
      exact ⟨[], ⟨0, 12, 15, 13⟩, [⟨0, 12, 19, 15⟩, ⟨0, 12, 23, 36⟩], ht, fun _ h => (nomatch h), by decide, by decide, zw_187, List.mem_of_getElem? (i := 0) rfl, 5, 2, 1, zlt hn (by decide), Or.inl ⟨dL_steal_15, rfl⟩, dL_steal_17, by decide, dL_steal_18⟩
    · have h : some (2 : Int32) = some v := h
      cases h
      exact ⟨[⟨0, 12, 15, 13⟩], ⟨0, 12, 19, 15⟩, [⟨0, 12, 23, 36⟩], ht, List.forall_mem_cons.mpr ⟨Or.inr ⟨by decide, _, zw_187, C.hE.2.2.2.2.2.2.1.1⟩, fun _ h => (nomatch h)⟩, by decide, by decide, zw_188, List.mem_of_getElem? (i := 1) rfl, 5, 2, 2, zlt hn (by decide), Or.inl ⟨dL_steal_19, rfl⟩, dL_steal_21, by decide, dL_steal_22⟩
    · have h : some (3 : Int32) = some v := h
      cases h
      exact ⟨[⟨0, 12, 15, 13⟩, ⟨0, 12, 19, 15⟩], ⟨0, 12, 23, 36⟩, [], ht, List.forall_mem_cons.mpr ⟨Or.inr ⟨by decide, _, zw_187, C.hE.2.2.2.2.2.2.1.2.1⟩, List.forall_mem_cons.mpr ⟨Or.inr ⟨by decide, _, zw_188, C.hE.2.2.2.2.2.2.1.2.2⟩, fun _ h => (nomatch h)⟩⟩, by decide, by decide, zw_329, List.mem_of_getElem? (i := 2) rfl, 5, 2, 3, zlt hn (by decide), Or.inl ⟨dL_steal_23, rfl⟩, dL_steal_25, by decide, dL_steal_26⟩
    · cases h
  refine z_invH_ok (pc := 7) C (zQ_of h0.2.2 (by have := h0.1; omega) (by have := h0.2.1; omega)) (zm_X7_steal X.l C.htr) ⟨rfl, rfl⟩ ⟨by decide, by decide⟩ (by decide) (by decide) zcl_L_97 zw_708 zw_709 zK7 hh dL_steal_7 ?_
  have C := C.c (cx' := 1) (sx' := 6) (zQ_of h0.2.2 (a := X.ce + 0) (b := X.sl + 0) (by have := h0.1; omega) (by have := h0.2.1; omega)) (by omega) (by omega)
  refine z_lastI_ok (pc := 10) C dL_steal_10 dL_steal_11 ?_
  refine z_goto_ok (pc := 12) (tgt := 27) C.hx C.hb dL_steal_12 (by decide) ?_
  refine z_iconst_ok (pc := 27) (v := 0) C.hx C.hb dL_steal_27 (by decide) ?_
  exact z_iret_ok (pc := 28) C dL_steal_28
def sp_L_steal : ZSp := fun as S K => as.length ≤ 6 ∧ zsp 6 zb_L_steal_0 as S K
theorem zm_L_steal (l : Launch) (hl : l.stackTraces = false) : zMetW l yL_steal cL_steal 6 (some .int) [(0, 12, 15, 13), (0, 12, 19, 15), (0, 12, 23, 36)] { frames := 8, cells := 11, slots := 66, locals := 138 } 10 60 sp_L_steal := zMetW_of hl (by decide +kernel) rfl ⟨rfl, rfl⟩ (fun X C hn h0 ht => zk_L_steal_0 C hn h0 ht)
theorem dL_stealBook_0 : decode cL_stealBook 0 = .ok (.aload_n 2, 1) := by decide +kernel
theorem dL_stealBook_1 : decode cL_stealBook 1 = .ok (.iconst 0, 1) := by decide +kernel
theorem dL_stealBook_2 : decode cL_stealBook 2 = .ok (.aload_n 0, 1) := by decide +kernel
theorem dL_stealBook_3 : decode cL_stealBook 3 = .ok (.iload_n 1, 1) := by decide +kernel
theorem dL_stealBook_4 : decode cL_stealBook 4 = .ok (.invokevirtual 48, 3) := by decide +kernel
theorem dL_stealBook_7 : decode cL_stealBook 7 = .ok (.i2l, 1) := by decide +kernel
theorem dL_stealBook_8 : decode cL_stealBook 8 = .ok (.lastore, 1) := by decide +kernel
theorem dL_stealBook_9 : decode cL_stealBook 9 = .ok (.goto 9, 3) := by decide +kernel
theorem dL_stealBook_12 : decode cL_stealBook 12 = .ok (.astore_n 3, 1) := by decide +kernel
theorem dL_stealBook_13 : decode cL_stealBook 13 = .ok (.iconst 1, 1) := by decide +kernel
theorem dL_stealBook_14 : decode cL_stealBook 14 = .ok (.ireturn, 1) := by decide +kernel
theorem dL_stealBook_15 : decode cL_stealBook 15 = .ok (.astore_n 3, 1) := by decide +kernel
theorem dL_stealBook_16 : decode cL_stealBook 16 = .ok (.iconst 2, 1) := by decide +kernel
theorem dL_stealBook_17 : decode cL_stealBook 17 = .ok (.ireturn, 1) := by decide +kernel
theorem dL_stealBook_18 : decode cL_stealBook 18 = .ok (.iconst 0, 1) := by decide +kernel
theorem dL_stealBook_19 : decode cL_stealBook 19 = .ok (.ireturn, 1) := by decide +kernel
def zb_L_stealBook_0 : ZP := (z_ald 2 (z_push 0 (z_ald 0 (z_ild 1 (z_invH 7 1 sp_X7_stealBook (fun n => match n with | 1 => some 1 | 3 => some 2 | _ => none) (z_lastI (z_push 0 (z_ret 1))))))))
set_option maxRecDepth 20000 in
theorem zk_L_stealBook_0 {X : ZX} (C : zCx X cL_stealBook RL (some .int) 8 134 11 66) (hn : X.nL = 4) (h0 : X.ce = 0 ∧ X.sl = 0 ∧ X.Q = zEndP X.b X.g X.ad X.S0 X.K X.a X.s 10 60) (ht : X.c.exceptionTable.toList = tableOf [(0, 9, 12, 13), (0, 9, 15, 36)]) : ZOK X 0 (zb_L_stealBook_0) := by
  unfold zb_L_stealBook_0
  refine z_aload_n_ok (pc := 0) (i := 2) C.hx C.hb dL_stealBook_0 rfl ?_
  refine z_iconst_ok (pc := 1) (v := 0) C.hx C.hb dL_stealBook_1 (by decide) ?_
  refine z_aload_n_ok (pc := 2) (i := 0) C.hx C.hb dL_stealBook_2 rfl ?_
  refine z_iload_n_ok (pc := 3) (i := 1) C.hx C.hb dL_stealBook_3 rfl ?_
  have hh : ∀ (n : Nat) (v : Int32), (fun n => match n with | 1 => some 1 | 3 => some 2 | _ => none) n = some v → zhnd X cL_stealBook RL 4 n v := by
    intro n v h
    rcases n with _ | _ | _ | _ | n
    · cases h
    · have h : some (1 : Int32) = some v := h
      cases h
      exact ⟨[], ⟨0, 9, 12, 13⟩, [⟨0, 9, 15, 36⟩], ht, fun _ h => (nomatch h), by decide, by decide, zw_187, List.mem_of_getElem? (i := 0) rfl, 3, 1, 1, zlt hn (by decide), Or.inr ⟨3, dL_stealBook_12, rfl, rfl⟩, dL_stealBook_13, by decide, dL_stealBook_14⟩
    · cases h
    · have h : some (2 : Int32) = some v := h
      cases h
      exact ⟨[⟨0, 9, 12, 13⟩], ⟨0, 9, 15, 36⟩, [], ht, List.forall_mem_cons.mpr ⟨Or.inr ⟨by decide, _, zw_187, C.hE.2.2.2.2.2.2.1.2.1⟩, fun _ h => (nomatch h)⟩, by decide, by decide, zw_329, List.mem_of_getElem? (i := 2) rfl, 3, 1, 2, zlt hn (by decide), Or.inr ⟨3, dL_stealBook_15, rfl, rfl⟩, dL_stealBook_16, by decide, dL_stealBook_17⟩
    · cases h
  refine z_invH_ok (pc := 4) C (zQ_of h0.2.2 (by have := h0.1; omega) (by have := h0.2.1; omega)) (zm_X7_stealBook X.l C.htr) ⟨rfl, rfl⟩ ⟨by decide, by decide⟩ (by decide) (by decide) zcl_L_48 zw_463 zw_464 zK7 hh dL_stealBook_4 ?_
  have C := C.c (cx' := 1) (sx' := 6) (zQ_of h0.2.2 (a := X.ce + 0) (b := X.sl + 0) (by have := h0.1; omega) (by have := h0.2.1; omega)) (by omega) (by omega)
  refine z_lastI_ok (pc := 7) C dL_stealBook_7 dL_stealBook_8 ?_
  refine z_goto_ok (pc := 9) (tgt := 18) C.hx C.hb dL_stealBook_9 (by decide) ?_
  refine z_iconst_ok (pc := 18) (v := 0) C.hx C.hb dL_stealBook_18 (by decide) ?_
  exact z_iret_ok (pc := 19) C dL_stealBook_19
def sp_L_stealBook : ZSp := fun as S K => as.length ≤ 4 ∧ zsp 4 zb_L_stealBook_0 as S K
theorem zm_L_stealBook (l : Launch) (hl : l.stackTraces = false) : zMetW l yL_stealBook cL_stealBook 4 (some .int) [(0, 9, 12, 13), (0, 9, 15, 36)] { frames := 8, cells := 11, slots := 66, locals := 134 } 10 60 sp_L_stealBook := zMetW_of hl (by decide +kernel) rfl ⟨rfl, rfl⟩ (fun X C hn h0 ht => zk_L_stealBook_0 C hn h0 ht)
theorem dL_sum_0 : decode cL_sum 0 = .ok (.aload_n 2, 1) := by decide +kernel
theorem dL_sum_1 : decode cL_sum 1 = .ok (.iconst 0, 1) := by decide +kernel
theorem dL_sum_2 : decode cL_sum 2 = .ok (.aload_n 0, 1) := by decide +kernel
theorem dL_sum_3 : decode cL_sum 3 = .ok (.iload_n 1, 1) := by decide +kernel
theorem dL_sum_4 : decode cL_sum 4 = .ok (.invokevirtual 122, 3) := by decide +kernel
theorem dL_sum_7 : decode cL_sum 7 = .ok (.i2l, 1) := by decide +kernel
theorem dL_sum_8 : decode cL_sum 8 = .ok (.lastore, 1) := by decide +kernel
theorem dL_sum_9 : decode cL_sum 9 = .ok (.goto 6, 3) := by decide +kernel
theorem dL_sum_12 : decode cL_sum 12 = .ok (.astore_n 3, 1) := by decide +kernel
theorem dL_sum_13 : decode cL_sum 13 = .ok (.iconst 1, 1) := by decide +kernel
theorem dL_sum_14 : decode cL_sum 14 = .ok (.ireturn, 1) := by decide +kernel
theorem dL_sum_15 : decode cL_sum 15 = .ok (.iconst 0, 1) := by decide +kernel
theorem dL_sum_16 : decode cL_sum 16 = .ok (.ireturn, 1) := by decide +kernel
def zb_L_sum_0 : ZP := (z_ald 2 (z_push 0 (z_ald 0 (z_ild 1 (z_invH 7 1 sp_X7_sum (fun n => match n with | 2 => some 1 | _ => none) (z_lastI (z_push 0 (z_ret 1))))))))
set_option maxRecDepth 20000 in
theorem zk_L_sum_0 {X : ZX} (C : zCx X cL_sum RL (some .int) 8 133 11 66) (hn : X.nL = 4) (h0 : X.ce = 0 ∧ X.sl = 0 ∧ X.Q = zEndP X.b X.g X.ad X.S0 X.K X.a X.s 10 60) (ht : X.c.exceptionTable.toList = tableOf [(0, 9, 12, 15)]) : ZOK X 0 (zb_L_sum_0) := by
  unfold zb_L_sum_0
  refine z_aload_n_ok (pc := 0) (i := 2) C.hx C.hb dL_sum_0 rfl ?_
  refine z_iconst_ok (pc := 1) (v := 0) C.hx C.hb dL_sum_1 (by decide) ?_
  refine z_aload_n_ok (pc := 2) (i := 0) C.hx C.hb dL_sum_2 rfl ?_
  refine z_iload_n_ok (pc := 3) (i := 1) C.hx C.hb dL_sum_3 rfl ?_
  have hh : ∀ (n : Nat) (v : Int32), (fun n => match n with | 2 => some 1 | _ => none) n = some v → zhnd X cL_sum RL 4 n v := by
    intro n v h
    rcases n with _ | _ | _ | _ | n
    · cases h
    · cases h
    · have h : some (1 : Int32) = some v := h
      cases h
      exact ⟨[], ⟨0, 9, 12, 15⟩, [], ht, fun _ h => (nomatch h), by decide, by decide, zw_188, List.mem_of_getElem? (i := 1) rfl, 3, 1, 1, zlt hn (by decide), Or.inr ⟨3, dL_sum_12, rfl, rfl⟩, dL_sum_13, by decide, dL_sum_14⟩
    · cases h
    · cases h
  refine z_invH_ok (pc := 4) C (zQ_of h0.2.2 (by have := h0.1; omega) (by have := h0.2.1; omega)) (zm_X7_sum X.l C.htr) ⟨rfl, rfl⟩ ⟨by decide, by decide⟩ (by decide) (by decide) zcl_L_122 zw_832 zw_833 zK7 hh dL_sum_4 ?_
  have C := C.c (cx' := 1) (sx' := 6) (zQ_of h0.2.2 (a := X.ce + 0) (b := X.sl + 0) (by have := h0.1; omega) (by have := h0.2.1; omega)) (by omega) (by omega)
  refine z_lastI_ok (pc := 7) C dL_sum_7 dL_sum_8 ?_
  refine z_goto_ok (pc := 9) (tgt := 15) C.hx C.hb dL_sum_9 (by decide) ?_
  refine z_iconst_ok (pc := 15) (v := 0) C.hx C.hb dL_sum_15 (by decide) ?_
  exact z_iret_ok (pc := 16) C dL_sum_16
def sp_L_sum : ZSp := fun as S K => as.length ≤ 4 ∧ zsp 4 zb_L_sum_0 as S K
theorem zm_L_sum (l : Launch) (hl : l.stackTraces = false) : zMetW l yL_sum cL_sum 4 (some .int) [(0, 9, 12, 15)] { frames := 8, cells := 11, slots := 66, locals := 133 } 10 60 sp_L_sum := zMetW_of hl (by decide +kernel) rfl ⟨rfl, rfl⟩ (fun X C hn h0 ht => zk_L_sum_0 C hn h0 ht)
