/-! Person.quarters: the static table -/
theorem zw_319 : Cond.fieldLink RX3 38 "Pointsbook$Person" "kind" "I" ∈ wG := zg 319 (by decide +kernel) (by decide +kernel)
section ZQ
variable {X : ZX} {cc : ByteArray} {ret : Option FieldType} {F Lo cx sx : Nat}
/-- getstatic QUARTERS; arraylength -/
theorem z_q1_ok {pc : Nat} {k : ZP} (C : zCx X cc RX3 ret F Lo cx sx) (d0 : decode cc pc = .ok (.getstatic 48, 3)) (d1 : decode cc (pc + 3) = .ok (.arraylength, 1)) (hk : ZOK X (pc + 4) k) : ZOK X pc (z_push 4 k) := by
  intro L st S ad H locs ls hP hW hM hE hS hL hl
  obtain ⟨qt, hz, ht⟩ := C.hE.2.2.2.2.2.2.2
  have hlink : (Cond.fieldLinkNest "Pointsbook$Person" 48 "Pointsbook" "QUARTERS" "[I" "Pointsbook").before X.a X.s = true := va_Nw.use rfl (C.hE.2.2.2.2.2.1 _ (List.mem_of_getElem? (i := 3) rfl))
  refine va_getsN C.hx C.hb hz hS C.hown hlink (fun x h => h) d0 ?_
  exact va_tlen C.hx C.hb ht hS (v := 4) (by decide) d1 (hk L (.inl 4 :: st) S ad H locs ls hP hW hM hE hS hL ⟨trivial, hl⟩)
/-- getstatic QUARTERS; aload_0; getfield kind; iaload -/
def z_q2 (k : ZP) : ZP := fun L st S K => match znth L 0 with
  | some (.inr (.inr (some q))) => bif Nat.beq q.1 3 then vp_in (S 3 q.2 1) 4 ∧ k L (.inl (zqu (S 3 q.2 1).toNatClampNeg) :: st) S K else False
  | _ => False
theorem z_q2_ok {pc : Nat} {k : ZP} (C : zCx X cc RX3 ret F Lo cx sx) (hlk : Cond.fieldLink RX3 38 "Pointsbook$Person" "kind" "I" ∈ wG) (d0 : decode cc pc = .ok (.getstatic 48, 3)) (d1 : decode cc (pc + 3) = .ok (.aload_n 0, 1)) (d2 : decode cc (pc + 4) = .ok (.getfield 38, 3)) (d3 : decode cc (pc + 7) = .ok (.iaload, 1)) (hk : ZOK X (pc + 8) k) : ZOK X pc (z_q2 k) := by
  intro L st S ad H locs ls hP hW hM hE hS hL hl
  unfold z_q2 at hP
  cases hv : znth L 0 with
  | none => rw [hv] at hP; exact False.elim hP
  | some v =>
    rw [hv] at hP
    rcases v with x | x | _ | ⟨a, i⟩ <;> try exact False.elim hP
    have hP1 : (bif Nat.beq a 3 then vp_in (S 3 i 1) 4 ∧ k L (.inl (zqu (S 3 i 1).toNatClampNeg) :: st) S X.K else False) := hP
    cases hq : Nat.beq a 3 with
    | false => rw [hq] at hP1; exact False.elim hP1
    | true =>
      rw [hq] at hP1
      obtain ⟨hin, hP2⟩ := hP1
      have ha : a = 3 := Nat.eq_of_beq_eq_true hq
      subst ha
      obtain ⟨qt, hz, ht⟩ := C.hE.2.2.2.2.2.2.2
      have hlink : (Cond.fieldLinkNest "Pointsbook$Person" 48 "Pointsbook" "QUARTERS" "[I" "Pointsbook").before X.a X.s = true := va_Nw.use rfl (C.hE.2.2.2.2.2.1 _ (List.mem_of_getElem? (i := 3) rfl))
      have hlv : zlv S 3 i := (hL.2.2.2 0 _ hv).2.1
      refine va_getsN C.hx C.hb hz hS C.hown hlink (fun x h => h) d0 ?_
      refine lv_aload_n (i := 0) C.hx C.hb d1 rfl (hL.2.2.2 0 _ hv).1 ?_
      refine va_get (D := X.g.1) (ci := 3) (v := .int (S 3 i 1)) (C := RX3) (T := TX3) (N := 11) C.hx C.hb C.hw zK3.2.1 C.hown C.hE.2.1 (zP1 (hW.ob hlv (by decide))) 0 rfl zK3.1 1 (by decide) (C.hw _ hlk) (fun x hx => hx) (zobj_get ad (S 3 i) 3 i 1 (by decide)) d2 ?_
      exact va_ti C.hx C.hb ht hS hin rfl d3 (hk L (.inl (zqu (S 3 i 1).toNatClampNeg) :: st) S ad H locs ls hP2 hW hM hE hS hL ⟨trivial, hl⟩)
end ZQ
theorem dX3_quarters_0 : decode cX3_quarters 0 = .ok (.aload_n 0, 1) := by decide +kernel
theorem dX3_quarters_1 : decode cX3_quarters 1 = .ok (.getfield 38, 3) := by decide +kernel
theorem dX3_quarters_4 : decode cX3_quarters 4 = .ok (.ifCond .lt 14, 3) := by decide +kernel
theorem dX3_quarters_7 : decode cX3_quarters 7 = .ok (.aload_n 0, 1) := by decide +kernel
theorem dX3_quarters_8 : decode cX3_quarters 8 = .ok (.getfield 38, 3) := by decide +kernel
theorem dX3_quarters_11 : decode cX3_quarters 11 = .ok (.getstatic 48, 3) := by decide +kernel
theorem dX3_quarters_14 : decode cX3_quarters 14 = .ok (.arraylength, 1) := by decide +kernel
theorem dX3_quarters_15 : decode cX3_quarters 15 = .ok (.if_icmp .lt 7, 3) := by decide +kernel
theorem dX3_quarters_18 : decode cX3_quarters 18 = .ok (.iconst 0, 1) := by decide +kernel
theorem dX3_quarters_19 : decode cX3_quarters 19 = .ok (.goto 11, 3) := by decide +kernel
theorem dX3_quarters_22 : decode cX3_quarters 22 = .ok (.getstatic 48, 3) := by decide +kernel
theorem dX3_quarters_25 : decode cX3_quarters 25 = .ok (.aload_n 0, 1) := by decide +kernel
theorem dX3_quarters_26 : decode cX3_quarters 26 = .ok (.getfield 38, 3) := by decide +kernel
theorem dX3_quarters_29 : decode cX3_quarters 29 = .ok (.iaload, 1) := by decide +kernel
theorem dX3_quarters_30 : decode cX3_quarters 30 = .ok (.ireturn, 1) := by decide +kernel
def zb_X3_quarters_30 : ZP := z_ret 1
def zb_X3_quarters_18 : ZP := z_push 0 zb_X3_quarters_30
def zb_X3_quarters_0 : ZP := z_ald 0 (z_gf 3 1 (z_if (fun x => x < 0) zb_X3_quarters_18 (z_ald 0 (z_gf 3 1 (z_push 4 (z_cmp (fun x y => x < y) (z_q2 zb_X3_quarters_30) zb_X3_quarters_18))))))
theorem zk_X3_quarters_30 {X : ZX} (C : zCx X cX3_quarters RX3 (some .int) 0 0 1 6) : ZOK X 30 zb_X3_quarters_30 := z_iret_ok (pc := 30) C dX3_quarters_30
theorem zk_X3_quarters_18 {X : ZX} (C : zCx X cX3_quarters RX3 (some .int) 0 0 1 6) : ZOK X 18 zb_X3_quarters_18 := by
  refine z_iconst_ok (pc := 18) (v := 0) C.hx C.hb dX3_quarters_18 (by decide) ?_
  exact z_goto_ok (pc := 19) (tgt := 30) C.hx C.hb dX3_quarters_19 (by decide) (zk_X3_quarters_30 C)
theorem zk_X3_quarters_0 {X : ZX} (C : zCx X cX3_quarters RX3 (some .int) 0 0 1 6) : ZOK X 0 zb_X3_quarters_0 := by
  refine z_aload_n_ok (pc := 0) (i := 0) C.hx C.hb dX3_quarters_0 rfl ?_
  refine z_gf_ok (pc := 1) C zK3 (f := 1) (by decide) zw_319 rfl dX3_quarters_1 ?_
  refine z_if_lt_ok (pc := 4) (tgt := 18) C.hx C.hb dX3_quarters_4 (by decide) (zk_X3_quarters_18 C) ?_
  refine z_aload_n_ok (pc := 7) (i := 0) C.hx C.hb dX3_quarters_7 rfl ?_
  refine z_gf_ok (pc := 8) C zK3 (f := 1) (by decide) zw_319 rfl dX3_quarters_8 ?_
  refine z_q1_ok (pc := 11) C dX3_quarters_11 dX3_quarters_14 ?_
  refine z_icmp_lt_ok (pc := 15) (tgt := 22) C.hx C.hb dX3_quarters_15 (by decide) ?_ (zk_X3_quarters_18 C)
  exact z_q2_ok (pc := 22) C zw_319 dX3_quarters_22 dX3_quarters_25 dX3_quarters_26 dX3_quarters_29 (zk_X3_quarters_30 C)
def sp_X3_quarters : ZSp := fun as S K => as.length ≤ 1 ∧ zsp 1 zb_X3_quarters_0 as S K
theorem zm_X3_quarters (l : Launch) (hl : l.stackTraces = false) : zMet l yX3_quarters cX3_quarters 1 (some .int) { frames := 0, cells := 1, slots := 6, locals := 0 } 0 0 sp_X3_quarters := zMet_of hl (by decide +kernel) ⟨rfl, rfl⟩ (fun X C hn _ => zk_X3_quarters_0 C)
