theorem dX6_init_0 : decode cX6_init 0 = .ok (.aload_n 0, 1) := by decide +kernel
theorem dX6_init_1 : decode cX6_init 1 = .ok (.invokespecial 3, 3) := by decide +kernel
theorem dX6_init_4 : decode cX6_init 4 = .ok (.aload_n 0, 1) := by decide +kernel
theorem dX6_init_5 : decode cX6_init 5 = .ok (.bipush 6, 2) := by decide +kernel
theorem dX6_init_7 : decode cX6_init 7 = .ok (.anewarray 9, 3) := by decide +kernel
theorem dX6_init_10 : decode cX6_init 10 = .ok (.putfield 11, 3) := by decide +kernel
theorem dX6_init_13 : decode cX6_init 13 = .ok (.aload_n 0, 1) := by decide +kernel
theorem dX6_init_14 : decode cX6_init 14 = .ok (.iload_n 1, 1) := by decide +kernel
theorem dX6_init_15 : decode cX6_init 15 = .ok (.putfield 17, 3) := by decide +kernel
theorem dX6_init_18 : decode cX6_init 18 = .ok (.aload_n 0, 1) := by decide +kernel
theorem dX6_init_19 : decode cX6_init 19 = .ok (.aload_n 2, 1) := by decide +kernel
theorem dX6_init_20 : decode cX6_init 20 = .ok (.putfield 21, 3) := by decide +kernel
theorem dX6_init_23 : decode cX6_init 23 = .ok (.iconst 0, 1) := by decide +kernel
theorem dX6_init_24 : decode cX6_init 24 = .ok (.istore_n 3, 1) := by decide +kernel
theorem dX6_init_25 : decode cX6_init 25 = .ok (.iload_n 3, 1) := by decide +kernel
theorem dX6_init_26 : decode cX6_init 26 = .ok (.aload_n 0, 1) := by decide +kernel
theorem dX6_init_27 : decode cX6_init 27 = .ok (.getfield 11, 3) := by decide +kernel
theorem dX6_init_30 : decode cX6_init 30 = .ok (.arraylength, 1) := by decide +kernel
theorem dX6_init_31 : decode cX6_init 31 = .ok (.if_icmp .ge 22, 3) := by decide +kernel
theorem dX6_init_34 : decode cX6_init 34 = .ok (.aload_n 0, 1) := by decide +kernel
theorem dX6_init_35 : decode cX6_init 35 = .ok (.getfield 11, 3) := by decide +kernel
theorem dX6_init_38 : decode cX6_init 38 = .ok (.iload_n 3, 1) := by decide +kernel
theorem dX6_init_39 : decode cX6_init 39 = .ok (.new 9, 3) := by decide +kernel
theorem dX6_init_42 : decode cX6_init 42 = .ok (.dup, 1) := by decide +kernel
theorem dX6_init_43 : decode cX6_init 43 = .ok (.invokespecial 25, 3) := by decide +kernel
theorem dX6_init_46 : decode cX6_init 46 = .ok (.aastore, 1) := by decide +kernel
theorem dX6_init_47 : decode cX6_init 47 = .ok (.iinc 3 1, 3) := by decide +kernel
theorem dX6_init_50 : decode cX6_init 50 = .ok (.goto (-25), 3) := by decide +kernel
theorem dX6_init_53 : decode cX6_init 53 = .ok (.return_, 1) := by decide +kernel
def w_X6 (g : ZG) (n : Int32) (d : Nat) (o : Nat) (qs : List Nat) : va_W := [(o, .inr (6, [.int n, .ref d, .ref (qs.getD 0 0)])), ((qs.getD 0 0), .inl (g.2.1 6, (6, .inr (.inr (.inr (.inr (va_up (va_up (va_up (va_up (va_up (va_up (fun _ => none) 0 (some (qs.getD 1 0))) 1 (some (qs.getD 2 0))) 2 (some (qs.getD 3 0))) 3 (some (qs.getD 4 0))) 4 (some (qs.getD 5 0))) 5 (some (qs.getD 6 0))))))))), ((qs.getD 1 0), .inr (5, [.int 0, .int 0, .int 0, .int 0, .int 0, .int 0])), ((qs.getD 2 0), .inr (5, [.int 0, .int 0, .int 0, .int 0, .int 0, .int 0])), ((qs.getD 3 0), .inr (5, [.int 0, .int 0, .int 0, .int 0, .int 0, .int 0])), ((qs.getD 4 0), .inr (5, [.int 0, .int 0, .int 0, .int 0, .int 0, .int 0])), ((qs.getD 5 0), .inr (5, [.int 0, .int 0, .int 0, .int 0, .int 0, .int 0])), ((qs.getD 6 0), .inr (5, [.int 0, .int 0, .int 0, .int 0, .int 0, .int 0]))]
set_option maxRecDepth 100000 in
set_option maxHeartbeats 4000000 in
theorem zmk_X6 (l : Launch) (g : ZG) (n : Int32) (d : Nat) : zMk l yX6_init cX6_init 4 { frames := 2, cells := 7, slots := 42, locals := 32 } 7 42 g [.int n, .ref d] 6 [.int 0, .null, .null] (w_X6 g n d) := by
  refine zMk_of (by decide +kernel) rfl (fun o => (Nat.le_of_ble_eq_true rfl)) (fun o p e s m args below meth c A ls B hin hr hlk hP hD hS hl => ?_)
  have hl : lv_has ls 4 [(0, .ref o), (1, .int n), (2, .ref d)] := hl
  refine lv_aload_n B.hx B.hb dX6_init_0 rfl (lv_at hl 0 rfl) ?_
  refine zc_obj B ⟨(Nat.le_of_ble_eq_true rfl), (Nat.le_of_ble_eq_true rfl)⟩ hl.1 zv_438 zv_47 zv_48 dX6_init_1 ?_
  refine lv_aload_n B.hx B.hb dX6_init_4 rfl (lv_at hl 0 rfl) ?_
  refine lv_bipush (v := 6) B.hx B.hb dX6_init_5 (by decide) ?_
  refine zc_newq (C := "Pointsbook$Shelf") (k := 6) (N' := 6) B (by decide +kernel) zv_439 (fun _ => rfl) hP hD hS (by decide) rfl (Nat.le_of_ble_eq_true rfl) (Nat.le_of_ble_eq_true rfl) (Nat.le_of_ble_eq_true rfl) dX6_init_7 (fun q1 H hP hD hS => ?_)
  refine zc_put (f := 2) (ft := tyX6 2) B hin zK6 (by decide) zv_475 rfl rfl (tyX6_ok 2 (by decide)) rfl rfl rfl hP hD hS dX6_init_10 (fun H locs hP hD hS hfl => ?_)
  refine lv_aload_n B.hx B.hb dX6_init_13 rfl (lv_at hl 0 rfl) ?_
  refine lv_iload_n B.hx B.hb dX6_init_14 rfl (lv_at hl 1 rfl) ?_
  refine zc_put (f := 0) (ft := tyX6 0) B hin zK6 (by decide) zv_471 rfl rfl (tyX6_ok 0 (by decide)) rfl rfl hfl hP hD hS dX6_init_15 (fun H locs hP hD hS hfl => ?_)
  refine lv_aload_n B.hx B.hb dX6_init_18 rfl (lv_at hl 0 rfl) ?_
  refine lv_aload_n B.hx B.hb dX6_init_19 rfl (lv_at hl 2 rfl) ?_
  refine zc_put (f := 1) (ft := tyX6 1) B hin zK6 (by decide) zv_473 rfl rfl (tyX6_ok 1 (by decide)) rfl rfl hfl hP hD hS dX6_init_20 (fun H locs hP hD hS hfl => ?_)
  refine lv_iconst (v := 0) B.hx B.hb dX6_init_23 (by decide) ?_
  refine lv_istore_n (lv' := [(3, .int 0), (0, .ref o), (1, .int n), (2, .ref d)]) B.hx B.hb dX6_init_24 rfl hl (by decide) rfl (fun ls hl => ?_)
  have hP : va_P g.1 vwCl [(o, .inr (6, [.int n, .ref d, .ref q1])), (q1, .inl (g.2.1 6, (6, .inr (.inr (.inr (.inr (fun _ => none)))))))] H := hP
  have hD : va_D A [(o, .inr (6, [.int n, .ref d, .ref q1])), (q1, .inl (g.2.1 6, (6, .inr (.inr (.inr (.inr (fun _ => none)))))))] := hD
  refine lv_iload_n B.hx B.hb dX6_init_25 rfl (lv_at hl 0 rfl) ?_
  refine lv_aload_n B.hx B.hb dX6_init_26 rfl (lv_at hl 1 rfl) ?_
  refine va_get (D := g.1) (ci := 6) (v := .ref q1) (C := RX6) (T := TX6) (N := 3) B.hx B.hb B.hw zK6.2.1 B.hown B.hE.2.1 hP 0 rfl zK6.1 2 (by decide) (B.hw _ zv_475) (fun _ h9 => h9) rfl dX6_init_27 ?_
  refine va_alen (v := 6) B.hx B.hb B.hE.2.1 hP 1 6 rfl rfl rfl dX6_init_30 ?_
  refine lv_icmp_ge (tgt := 53) B.hx B.hb dX6_init_31 (by decide) (fun c9 => absurd c9 (by decide)) (fun _ => ?_)
  refine lv_aload_n B.hx B.hb dX6_init_34 rfl (lv_at hl 1 rfl) ?_
  refine va_get (D := g.1) (ci := 6) (v := .ref q1) (C := RX6) (T := TX6) (N := 3) B.hx B.hb B.hw zK6.2.1 B.hown B.hE.2.1 hP 0 rfl zK6.1 2 (by decide) (B.hw _ zv_475) (fun _ h9 => h9) rfl dX6_init_35 ?_
  refine lv_iload_n B.hx B.hb dX6_init_38 rfl (lv_at hl 0 rfl) ?_
  refine zc_mk (ci := 5) (T := TX5) (ty := tyX5) (y := yX5_init) B zK5 zv_439 zv_441 (fun j hj => by rcases (show j = 0 ∨ j = 1 ∨ j = 2 ∨ j = 3 ∨ j = 4 ∨ j = 5 by omega) with rfl | rfl | rfl | rfl | rfl | rfl <;> rfl) (zmk_X5 l g) (Or.inr ⟨"Pointsbook", by decide +kernel⟩) zv_444 zv_36 zv_443 rfl ⟨by decide +kernel, by decide +kernel, by decide +kernel⟩ ⟨rfl, rfl⟩ ⟨(Nat.le_of_ble_eq_true rfl), (Nat.le_of_ble_eq_true rfl)⟩ (Nat.le_of_ble_eq_true rfl) (Nat.le_of_ble_eq_true rfl) hP hD hS hl.1 (Nat.le_of_ble_eq_true rfl) dX6_init_39 dX6_init_42 dX6_init_43 (fun q2 u3 H locs hP hD hS => ?_)
  have hP : va_P g.1 vwCl [(o, .inr (6, [.int n, .ref d, .ref q1])), (q1, .inl (g.2.1 6, (6, .inr (.inr (.inr (.inr (fun _ => none))))))), (q2, .inr (5, [.int 0, .int 0, .int 0, .int 0, .int 0, .int 0]))] H := hP
  have hD : va_D A [(o, .inr (6, [.int n, .ref d, .ref q1])), (q1, .inl (g.2.1 6, (6, .inr (.inr (.inr (.inr (fun _ => none))))))), (q2, .inr (5, [.int 0, .int 0, .int 0, .int 0, .int 0, .int 0]))] := hD
  refine va_astq B.hx B.hb B.hE.2.1 hP hD hS 1 6 2 5 rfl rfl rfl rfl (vp_in_nI (n := 0) (N := 6) (by decide) (by decide)) dX6_init_46 (fun H locs hP hD hS => ?_)
  have hP : va_P g.1 vwCl [(o, .inr (6, [.int n, .ref d, .ref q1])), (q1, .inl (g.2.1 6, (6, .inr (.inr (.inr (.inr (va_up (fun _ => none) 0 (some q2)))))))), (q2, .inr (5, [.int 0, .int 0, .int 0, .int 0, .int 0, .int 0]))] H := hP
  have hD : va_D A [(o, .inr (6, [.int n, .ref d, .ref q1])), (q1, .inl (g.2.1 6, (6, .inr (.inr (.inr (.inr (va_up (fun _ => none) 0 (some q2)))))))), (q2, .inr (5, [.int 0, .int 0, .int 0, .int 0, .int 0, .int 0]))] := hD
  refine lv_iinc (v := 1) (lv' := [(3, .int 1), (0, .ref o), (1, .int n), (2, .ref d)]) B.hx B.hb dX6_init_47 hl (k := 0) rfl (by decide) (by decide) rfl (fun ls hl => ?_)
  refine lv_goto (tgt := 25) B.hx B.hb dX6_init_50 (by decide) ?_
  refine lv_iload_n B.hx B.hb dX6_init_25 rfl (lv_at hl 0 rfl) ?_
  refine lv_aload_n B.hx B.hb dX6_init_26 rfl (lv_at hl 1 rfl) ?_
  refine va_get (D := g.1) (ci := 6) (v := .ref q1) (C := RX6) (T := TX6) (N := 3) B.hx B.hb B.hw zK6.2.1 B.hown B.hE.2.1 hP 0 rfl zK6.1 2 (by decide) (B.hw _ zv_475) (fun _ h9 => h9) rfl dX6_init_27 ?_
  refine va_alen (v := 6) B.hx B.hb B.hE.2.1 hP 1 6 rfl rfl rfl dX6_init_30 ?_
  refine lv_icmp_ge (tgt := 53) B.hx B.hb dX6_init_31 (by decide) (fun c9 => absurd c9 (by decide)) (fun _ => ?_)
  refine lv_aload_n B.hx B.hb dX6_init_34 rfl (lv_at hl 1 rfl) ?_
  refine va_get (D := g.1) (ci := 6) (v := .ref q1) (C := RX6) (T := TX6) (N := 3) B.hx B.hb B.hw zK6.2.1 B.hown B.hE.2.1 hP 0 rfl zK6.1 2 (by decide) (B.hw _ zv_475) (fun _ h9 => h9) rfl dX6_init_35 ?_
  refine lv_iload_n B.hx B.hb dX6_init_38 rfl (lv_at hl 0 rfl) ?_
  refine zc_mk (ci := 5) (T := TX5) (ty := tyX5) (y := yX5_init) B zK5 zv_439 zv_441 (fun j hj => by rcases (show j = 0 ∨ j = 1 ∨ j = 2 ∨ j = 3 ∨ j = 4 ∨ j = 5 by omega) with rfl | rfl | rfl | rfl | rfl | rfl <;> rfl) (zmk_X5 l g) (Or.inr ⟨"Pointsbook", by decide +kernel⟩) zv_444 zv_36 zv_443 rfl ⟨by decide +kernel, by decide +kernel, by decide +kernel⟩ ⟨rfl, rfl⟩ ⟨(Nat.le_of_ble_eq_true rfl), (Nat.le_of_ble_eq_true rfl)⟩ (Nat.le_of_ble_eq_true rfl) (Nat.le_of_ble_eq_true rfl) hP hD hS hl.1 (Nat.le_of_ble_eq_true rfl) dX6_init_39 dX6_init_42 dX6_init_43 (fun q4 u5 H locs hP hD hS => ?_)
  have hP : va_P g.1 vwCl [(o, .inr (6, [.int n, .ref d, .ref q1])), (q1, .inl (g.2.1 6, (6, .inr (.inr (.inr (.inr (va_up (fun _ => none) 0 (some q2)))))))), (q2, .inr (5, [.int 0, .int 0, .int 0, .int 0, .int 0, .int 0])), (q4, .inr (5, [.int 0, .int 0, .int 0, .int 0, .int 0, .int 0]))] H := hP
  have hD : va_D A [(o, .inr (6, [.int n, .ref d, .ref q1])), (q1, .inl (g.2.1 6, (6, .inr (.inr (.inr (.inr (va_up (fun _ => none) 0 (some q2)))))))), (q2, .inr (5, [.int 0, .int 0, .int 0, .int 0, .int 0, .int 0])), (q4, .inr (5, [.int 0, .int 0, .int 0, .int 0, .int 0, .int 0]))] := hD
  refine va_astq B.hx B.hb B.hE.2.1 hP hD hS 1 6 3 5 rfl rfl rfl rfl (vp_in_nI (n := 1) (N := 6) (by decide) (by decide)) dX6_init_46 (fun H locs hP hD hS => ?_)
  have hP : va_P g.1 vwCl [(o, .inr (6, [.int n, .ref d, .ref q1])), (q1, .inl (g.2.1 6, (6, .inr (.inr (.inr (.inr (va_up (va_up (fun _ => none) 0 (some q2)) 1 (some q4)))))))), (q2, .inr (5, [.int 0, .int 0, .int 0, .int 0, .int 0, .int 0])), (q4, .inr (5, [.int 0, .int 0, .int 0, .int 0, .int 0, .int 0]))] H := hP
  have hD : va_D A [(o, .inr (6, [.int n, .ref d, .ref q1])), (q1, .inl (g.2.1 6, (6, .inr (.inr (.inr (.inr (va_up (va_up (fun _ => none) 0 (some q2)) 1 (some q4)))))))), (q2, .inr (5, [.int 0, .int 0, .int 0, .int 0, .int 0, .int 0])), (q4, .inr (5, [.int 0, .int 0, .int 0, .int 0, .int 0, .int 0]))] := hD
  refine lv_iinc (v := 2) (lv' := [(3, .int 2), (0, .ref o), (1, .int n), (2, .ref d)]) B.hx B.hb dX6_init_47 hl (k := 0) rfl (by decide) (by decide) rfl (fun ls hl => ?_)
  refine lv_goto (tgt := 25) B.hx B.hb dX6_init_50 (by decide) ?_
  refine lv_iload_n B.hx B.hb dX6_init_25 rfl (lv_at hl 0 rfl) ?_
  refine lv_aload_n B.hx B.hb dX6_init_26 rfl (lv_at hl 1 rfl) ?_
  refine va_get (D := g.1) (ci := 6) (v := .ref q1) (C := RX6) (T := TX6) (N := 3) B.hx B.hb B.hw zK6.2.1 B.hown B.hE.2.1 hP 0 rfl zK6.1 2 (by decide) (B.hw _ zv_475) (fun _ h9 => h9) rfl dX6_init_27 ?_
  refine va_alen (v := 6) B.hx B.hb B.hE.2.1 hP 1 6 rfl rfl rfl dX6_init_30 ?_
  refine lv_icmp_ge (tgt := 53) B.hx B.hb dX6_init_31 (by decide) (fun c9 => absurd c9 (by decide)) (fun _ => ?_)
  refine lv_aload_n B.hx B.hb dX6_init_34 rfl (lv_at hl 1 rfl) ?_
  refine va_get (D := g.1) (ci := 6) (v := .ref q1) (C := RX6) (T := TX6) (N := 3) B.hx B.hb B.hw zK6.2.1 B.hown B.hE.2.1 hP 0 rfl zK6.1 2 (by decide) (B.hw _ zv_475) (fun _ h9 => h9) rfl dX6_init_35 ?_
  refine lv_iload_n B.hx B.hb dX6_init_38 rfl (lv_at hl 0 rfl) ?_
  refine zc_mk (ci := 5) (T := TX5) (ty := tyX5) (y := yX5_init) B zK5 zv_439 zv_441 (fun j hj => by rcases (show j = 0 ∨ j = 1 ∨ j = 2 ∨ j = 3 ∨ j = 4 ∨ j = 5 by omega) with rfl | rfl | rfl | rfl | rfl | rfl <;> rfl) (zmk_X5 l g) (Or.inr ⟨"Pointsbook", by decide +kernel⟩) zv_444 zv_36 zv_443 rfl ⟨by decide +kernel, by decide +kernel, by decide +kernel⟩ ⟨rfl, rfl⟩ ⟨(Nat.le_of_ble_eq_true rfl), (Nat.le_of_ble_eq_true rfl)⟩ (Nat.le_of_ble_eq_true rfl) (Nat.le_of_ble_eq_true rfl) hP hD hS hl.1 (Nat.le_of_ble_eq_true rfl) dX6_init_39 dX6_init_42 dX6_init_43 (fun q6 u7 H locs hP hD hS => ?_)
  have hP : va_P g.1 vwCl [(o, .inr (6, [.int n, .ref d, .ref q1])), (q1, .inl (g.2.1 6, (6, .inr (.inr (.inr (.inr (va_up (va_up (fun _ => none) 0 (some q2)) 1 (some q4)))))))), (q2, .inr (5, [.int 0, .int 0, .int 0, .int 0, .int 0, .int 0])), (q4, .inr (5, [.int 0, .int 0, .int 0, .int 0, .int 0, .int 0])), (q6, .inr (5, [.int 0, .int 0, .int 0, .int 0, .int 0, .int 0]))] H := hP
  have hD : va_D A [(o, .inr (6, [.int n, .ref d, .ref q1])), (q1, .inl (g.2.1 6, (6, .inr (.inr (.inr (.inr (va_up (va_up (fun _ => none) 0 (some q2)) 1 (some q4)))))))), (q2, .inr (5, [.int 0, .int 0, .int 0, .int 0, .int 0, .int 0])), (q4, .inr (5, [.int 0, .int 0, .int 0, .int 0, .int 0, .int 0])), (q6, .inr (5, [.int 0, .int 0, .int 0, .int 0, .int 0, .int 0]))] := hD
  refine va_astq B.hx B.hb B.hE.2.1 hP hD hS 1 6 4 5 rfl rfl rfl rfl (vp_in_nI (n := 2) (N := 6) (by decide) (by decide)) dX6_init_46 (fun H locs hP hD hS => ?_)
  have hP : va_P g.1 vwCl [(o, .inr (6, [.int n, .ref d, .ref q1])), (q1, .inl (g.2.1 6, (6, .inr (.inr (.inr (.inr (va_up (va_up (va_up (fun _ => none) 0 (some q2)) 1 (some q4)) 2 (some q6)))))))), (q2, .inr (5, [.int 0, .int 0, .int 0, .int 0, .int 0, .int 0])), (q4, .inr (5, [.int 0, .int 0, .int 0, .int 0, .int 0, .int 0])), (q6, .inr (5, [.int 0, .int 0, .int 0, .int 0, .int 0, .int 0]))] H := hP
  have hD : va_D A [(o, .inr (6, [.int n, .ref d, .ref q1])), (q1, .inl (g.2.1 6, (6, .inr (.inr (.inr (.inr (va_up (va_up (va_up (fun _ => none) 0 (some q2)) 1 (some q4)) 2 (some q6)))))))), (q2, .inr (5, [.int 0, .int 0, .int 0, .int 0, .int 0, .int 0])), (q4, .inr (5, [.int 0, .int 0, .int 0, .int 0, .int 0, .int 0])), (q6, .inr (5, [.int 0, .int 0, .int 0, .int 0, .int 0, .int 0]))] := hD
  refine lv_iinc (v := 3) (lv' := [(3, .int 3), (0, .ref o), (1, .int n), (2, .ref d)]) B.hx B.hb dX6_init_47 hl (k := 0) rfl (by decide) (by decide) rfl (fun ls hl => ?_)
  refine lv_goto (tgt := 25) B.hx B.hb dX6_init_50 (by decide) ?_
  refine lv_iload_n B.hx B.hb dX6_init_25 rfl (lv_at hl 0 rfl) ?_
  refine lv_aload_n B.hx B.hb dX6_init_26 rfl (lv_at hl 1 rfl) ?_
  refine va_get (D := g.1) (ci := 6) (v := .ref q1) (C := RX6) (T := TX6) (N := 3) B.hx B.hb B.hw zK6.2.1 B.hown B.hE.2.1 hP 0 rfl zK6.1 2 (by decide) (B.hw _ zv_475) (fun _ h9 => h9) rfl dX6_init_27 ?_
  refine va_alen (v := 6) B.hx B.hb B.hE.2.1 hP 1 6 rfl rfl rfl dX6_init_30 ?_
  refine lv_icmp_ge (tgt := 53) B.hx B.hb dX6_init_31 (by decide) (fun c9 => absurd c9 (by decide)) (fun _ => ?_)
  refine lv_aload_n B.hx B.hb dX6_init_34 rfl (lv_at hl 1 rfl) ?_
  refine va_get (D := g.1) (ci := 6) (v := .ref q1) (C := RX6) (T := TX6) (N := 3) B.hx B.hb B.hw zK6.2.1 B.hown B.hE.2.1 hP 0 rfl zK6.1 2 (by decide) (B.hw _ zv_475) (fun _ h9 => h9) rfl dX6_init_35 ?_
  refine lv_iload_n B.hx B.hb dX6_init_38 rfl (lv_at hl 0 rfl) ?_
  refine zc_mk (ci := 5) (T := TX5) (ty := tyX5) (y := yX5_init) B zK5 zv_439 zv_441 (fun j hj => by rcases (show j = 0 ∨ j = 1 ∨ j = 2 ∨ j = 3 ∨ j = 4 ∨ j = 5 by omega) with rfl | rfl | rfl | rfl | rfl | rfl <;> rfl) (zmk_X5 l g) (Or.inr ⟨"Pointsbook", by decide +kernel⟩) zv_444 zv_36 zv_443 rfl ⟨by decide +kernel, by decide +kernel, by decide +kernel⟩ ⟨rfl, rfl⟩ ⟨(Nat.le_of_ble_eq_true rfl), (Nat.le_of_ble_eq_true rfl)⟩ (Nat.le_of_ble_eq_true rfl) (Nat.le_of_ble_eq_true rfl) hP hD hS hl.1 (Nat.le_of_ble_eq_true rfl) dX6_init_39 dX6_init_42 dX6_init_43 (fun q8 u9 H locs hP hD hS => ?_)
  have hP : va_P g.1 vwCl [(o, .inr (6, [.int n, .ref d, .ref q1])), (q1, .inl (g.2.1 6, (6, .inr (.inr (.inr (.inr (va_up (va_up (va_up (fun _ => none) 0 (some q2)) 1 (some q4)) 2 (some q6)))))))), (q2, .inr (5, [.int 0, .int 0, .int 0, .int 0, .int 0, .int 0])), (q4, .inr (5, [.int 0, .int 0, .int 0, .int 0, .int 0, .int 0])), (q6, .inr (5, [.int 0, .int 0, .int 0, .int 0, .int 0, .int 0])), (q8, .inr (5, [.int 0, .int 0, .int 0, .int 0, .int 0, .int 0]))] H := hP
  have hD : va_D A [(o, .inr (6, [.int n, .ref d, .ref q1])), (q1, .inl (g.2.1 6, (6, .inr (.inr (.inr (.inr (va_up (va_up (va_up (fun _ => none) 0 (some q2)) 1 (some q4)) 2 (some q6)))))))), (q2, .inr (5, [.int 0, .int 0, .int 0, .int 0, .int 0, .int 0])), (q4, .inr (5, [.int 0, .int 0, .int 0, .int 0, .int 0, .int 0])), (q6, .inr (5, [.int 0, .int 0, .int 0, .int 0, .int 0, .int 0])), (q8, .inr (5, [.int 0, .int 0, .int 0, .int 0, .int 0, .int 0]))] := hD
  refine va_astq B.hx B.hb B.hE.2.1 hP hD hS 1 6 5 5 rfl rfl rfl rfl (vp_in_nI (n := 3) (N := 6) (by decide) (by decide)) dX6_init_46 (fun H locs hP hD hS => ?_)
  have hP : va_P g.1 vwCl [(o, .inr (6, [.int n, .ref d, .ref q1])), (q1, .inl (g.2.1 6, (6, .inr (.inr (.inr (.inr (va_up (va_up (va_up (va_up (fun _ => none) 0 (some q2)) 1 (some q4)) 2 (some q6)) 3 (some q8)))))))), (q2, .inr (5, [.int 0, .int 0, .int 0, .int 0, .int 0, .int 0])), (q4, .inr (5, [.int 0, .int 0, .int 0, .int 0, .int 0, .int 0])), (q6, .inr (5, [.int 0, .int 0, .int 0, .int 0, .int 0, .int 0])), (q8, .inr (5, [.int 0, .int 0, .int 0, .int 0, .int 0, .int 0]))] H := hP
  have hD : va_D A [(o, .inr (6, [.int n, .ref d, .ref q1])), (q1, .inl (g.2.1 6, (6, .inr (.inr (.inr (.inr (va_up (va_up (va_up (va_up (fun _ => none) 0 (some q2)) 1 (some q4)) 2 (some q6)) 3 (some q8)))))))), (q2, .inr (5, [.int 0, .int 0, .int 0, .int 0, .int 0, .int 0])), (q4, .inr (5, [.int 0, .int 0, .int 0, .int 0, .int 0, .int 0])), (q6, .inr (5, [.int 0, .int 0, .int 0, .int 0, .int 0, .int 0])), (q8, .inr (5, [.int 0, .int 0, .int 0, .int 0, .int 0, .int 0]))] := hD
  refine lv_iinc (v := 4) (lv' := [(3, .int 4), (0, .ref o), (1, .int n), (2, .ref d)]) B.hx B.hb dX6_init_47 hl (k := 0) rfl (by decide) (by decide) rfl (fun ls hl => ?_)
  refine lv_goto (tgt := 25) B.hx B.hb dX6_init_50 (by decide) ?_
  refine lv_iload_n B.hx B.hb dX6_init_25 rfl (lv_at hl 0 rfl) ?_
  refine lv_aload_n B.hx B.hb dX6_init_26 rfl (lv_at hl 1 rfl) ?_
  refine va_get (D := g.1) (ci := 6) (v := .ref q1) (C := RX6) (T := TX6) (N := 3) B.hx B.hb B.hw zK6.2.1 B.hown B.hE.2.1 hP 0 rfl zK6.1 2 (by decide) (B.hw _ zv_475) (fun _ h9 => h9) rfl dX6_init_27 ?_
  refine va_alen (v := 6) B.hx B.hb B.hE.2.1 hP 1 6 rfl rfl rfl dX6_init_30 ?_
  refine lv_icmp_ge (tgt := 53) B.hx B.hb dX6_init_31 (by decide) (fun c9 => absurd c9 (by decide)) (fun _ => ?_)
  refine lv_aload_n B.hx B.hb dX6_init_34 rfl (lv_at hl 1 rfl) ?_
  refine va_get (D := g.1) (ci := 6) (v := .ref q1) (C := RX6) (T := TX6) (N := 3) B.hx B.hb B.hw zK6.2.1 B.hown B.hE.2.1 hP 0 rfl zK6.1 2 (by decide) (B.hw _ zv_475) (fun _ h9 => h9) rfl dX6_init_35 ?_
  refine lv_iload_n B.hx B.hb dX6_init_38 rfl (lv_at hl 0 rfl) ?_
  refine zc_mk (ci := 5) (T := TX5) (ty := tyX5) (y := yX5_init) B zK5 zv_439 zv_441 (fun j hj => by rcases (show j = 0 ∨ j = 1 ∨ j = 2 ∨ j = 3 ∨ j = 4 ∨ j = 5 by omega) with rfl | rfl | rfl | rfl | rfl | rfl <;> rfl) (zmk_X5 l g) (Or.inr ⟨"Pointsbook", by decide +kernel⟩) zv_444 zv_36 zv_443 rfl ⟨by decide +kernel, by decide +kernel, by decide +kernel⟩ ⟨rfl, rfl⟩ ⟨(Nat.le_of_ble_eq_true rfl), (Nat.le_of_ble_eq_true rfl)⟩ (Nat.le_of_ble_eq_true rfl) (Nat.le_of_ble_eq_true rfl) hP hD hS hl.1 (Nat.le_of_ble_eq_true rfl) dX6_init_39 dX6_init_42 dX6_init_43 (fun q10 u11 H locs hP hD hS => ?_)
  have hP : va_P g.1 vwCl [(o, .inr (6, [.int n, .ref d, .ref q1])), (q1, .inl (g.2.1 6, (6, .inr (.inr (.inr (.inr (va_up (va_up (va_up (va_up (fun _ => none) 0 (some q2)) 1 (some q4)) 2 (some q6)) 3 (some q8)))))))), (q2, .inr (5, [.int 0, .int 0, .int 0, .int 0, .int 0, .int 0])), (q4, .inr (5, [.int 0, .int 0, .int 0, .int 0, .int 0, .int 0])), (q6, .inr (5, [.int 0, .int 0, .int 0, .int 0, .int 0, .int 0])), (q8, .inr (5, [.int 0, .int 0, .int 0, .int 0, .int 0, .int 0])), (q10, .inr (5, [.int 0, .int 0, .int 0, .int 0, .int 0, .int 0]))] H := hP
  have hD : va_D A [(o, .inr (6, [.int n, .ref d, .ref q1])), (q1, .inl (g.2.1 6, (6, .inr (.inr (.inr (.inr (va_up (va_up (va_up (va_up (fun _ => none) 0 (some q2)) 1 (some q4)) 2 (some q6)) 3 (some q8)))))))), (q2, .inr (5, [.int 0, .int 0, .int 0, .int 0, .int 0, .int 0])), (q4, .inr (5, [.int 0, .int 0, .int 0, .int 0, .int 0, .int 0])), (q6, .inr (5, [.int 0, .int 0, .int 0, .int 0, .int 0, .int 0])), (q8, .inr (5, [.int 0, .int 0, .int 0, .int 0, .int 0, .int 0])), (q10, .inr (5, [.int 0, .int 0, .int 0, .int 0, .int 0, .int 0]))] := hD
  refine va_astq B.hx B.hb B.hE.2.1 hP hD hS 1 6 6 5 rfl rfl rfl rfl (vp_in_nI (n := 4) (N := 6) (by decide) (by decide)) dX6_init_46 (fun H locs hP hD hS => ?_)
  have hP : va_P g.1 vwCl [(o, .inr (6, [.int n, .ref d, .ref q1])), (q1, .inl (g.2.1 6, (6, .inr (.inr (.inr (.inr (va_up (va_up (va_up (va_up (va_up (fun _ => none) 0 (some q2)) 1 (some q4)) 2 (some q6)) 3 (some q8)) 4 (some q10)))))))), (q2, .inr (5, [.int 0, .int 0, .int 0, .int 0, .int 0, .int 0])), (q4, .inr (5, [.int 0, .int 0, .int 0, .int 0, .int 0, .int 0])), (q6, .inr (5, [.int 0, .int 0, .int 0, .int 0, .int 0, .int 0])), (q8, .inr (5, [.int 0, .int 0, .int 0, .int 0, .int 0, .int 0])), (q10, .inr (5, [.int 0, .int 0, .int 0, .int 0, .int 0, .int 0]))] H := hP
  have hD : va_D A [(o, .inr (6, [.int n, .ref d, .ref q1])), (q1, .inl (g.2.1 6, (6, .inr (.inr (.inr (.inr (va_up (va_up (va_up (va_up (va_up (fun _ => none) 0 (some q2)) 1 (some q4)) 2 (some q6)) 3 (some q8)) 4 (some q10)))))))), (q2, .inr (5, [.int 0, .int 0, .int 0, .int 0, .int 0, .int 0])), (q4, .inr (5, [.int 0, .int 0, .int 0, .int 0, .int 0, .int 0])), (q6, .inr (5, [.int 0, .int 0, .int 0, .int 0, .int 0, .int 0])), (q8, .inr (5, [.int 0, .int 0, .int 0, .int 0, .int 0, .int 0])), (q10, .inr (5, [.int 0, .int 0, .int 0, .int 0, .int 0, .int 0]))] := hD
  refine lv_iinc (v := 5) (lv' := [(3, .int 5), (0, .ref o), (1, .int n), (2, .ref d)]) B.hx B.hb dX6_init_47 hl (k := 0) rfl (by decide) (by decide) rfl (fun ls hl => ?_)
  refine lv_goto (tgt := 25) B.hx B.hb dX6_init_50 (by decide) ?_
  refine lv_iload_n B.hx B.hb dX6_init_25 rfl (lv_at hl 0 rfl) ?_
  refine lv_aload_n B.hx B.hb dX6_init_26 rfl (lv_at hl 1 rfl) ?_
  refine va_get (D := g.1) (ci := 6) (v := .ref q1) (C := RX6) (T := TX6) (N := 3) B.hx B.hb B.hw zK6.2.1 B.hown B.hE.2.1 hP 0 rfl zK6.1 2 (by decide) (B.hw _ zv_475) (fun _ h9 => h9) rfl dX6_init_27 ?_
  refine va_alen (v := 6) B.hx B.hb B.hE.2.1 hP 1 6 rfl rfl rfl dX6_init_30 ?_
  refine lv_icmp_ge (tgt := 53) B.hx B.hb dX6_init_31 (by decide) (fun c9 => absurd c9 (by decide)) (fun _ => ?_)
  refine lv_aload_n B.hx B.hb dX6_init_34 rfl (lv_at hl 1 rfl) ?_
  refine va_get (D := g.1) (ci := 6) (v := .ref q1) (C := RX6) (T := TX6) (N := 3) B.hx B.hb B.hw zK6.2.1 B.hown B.hE.2.1 hP 0 rfl zK6.1 2 (by decide) (B.hw _ zv_475) (fun _ h9 => h9) rfl dX6_init_35 ?_
  refine lv_iload_n B.hx B.hb dX6_init_38 rfl (lv_at hl 0 rfl) ?_
  refine zc_mk (ci := 5) (T := TX5) (ty := tyX5) (y := yX5_init) B zK5 zv_439 zv_441 (fun j hj => by rcases (show j = 0 ∨ j = 1 ∨ j = 2 ∨ j = 3 ∨ j = 4 ∨ j = 5 by omega) with rfl | rfl | rfl | rfl | rfl | rfl <;> rfl) (zmk_X5 l g) (Or.inr ⟨"Pointsbook", by decide +kernel⟩) zv_444 zv_36 zv_443 rfl ⟨by decide +kernel, by decide +kernel, by decide +kernel⟩ ⟨rfl, rfl⟩ ⟨(Nat.le_of_ble_eq_true rfl), (Nat.le_of_ble_eq_true rfl)⟩ (Nat.le_of_ble_eq_true rfl) (Nat.le_of_ble_eq_true rfl) hP hD hS hl.1 (Nat.le_of_ble_eq_true rfl) dX6_init_39 dX6_init_42 dX6_init_43 (fun q12 u13 H locs hP hD hS => ?_)
  have hP : va_P g.1 vwCl [(o, .inr (6, [.int n, .ref d, .ref q1])), (q1, .inl (g.2.1 6, (6, .inr (.inr (.inr (.inr (va_up (va_up (va_up (va_up (va_up (fun _ => none) 0 (some q2)) 1 (some q4)) 2 (some q6)) 3 (some q8)) 4 (some q10)))))))), (q2, .inr (5, [.int 0, .int 0, .int 0, .int 0, .int 0, .int 0])), (q4, .inr (5, [.int 0, .int 0, .int 0, .int 0, .int 0, .int 0])), (q6, .inr (5, [.int 0, .int 0, .int 0, .int 0, .int 0, .int 0])), (q8, .inr (5, [.int 0, .int 0, .int 0, .int 0, .int 0, .int 0])), (q10, .inr (5, [.int 0, .int 0, .int 0, .int 0, .int 0, .int 0])), (q12, .inr (5, [.int 0, .int 0, .int 0, .int 0, .int 0, .int 0]))] H := hP
  have hD : va_D A [(o, .inr (6, [.int n, .ref d, .ref q1])), (q1, .inl (g.2.1 6, (6, .inr (.inr (.inr (.inr (va_up (va_up (va_up (va_up (va_up (fun _ => none) 0 (some q2)) 1 (some q4)) 2 (some q6)) 3 (some q8)) 4 (some q10)))))))), (q2, .inr (5, [.int 0, .int 0, .int 0, .int 0, .int 0, .int 0])), (q4, .inr (5, [.int 0, .int 0, .int 0, .int 0, .int 0, .int 0])), (q6, .inr (5, [.int 0, .int 0, .int 0, .int 0, .int 0, .int 0])), (q8, .inr (5, [.int 0, .int 0, .int 0, .int 0, .int 0, .int 0])), (q10, .inr (5, [.int 0, .int 0, .int 0, .int 0, .int 0, .int 0])), (q12, .inr (5, [.int 0, .int 0, .int 0, .int 0, .int 0, .int 0]))] := hD
  refine va_astq B.hx B.hb B.hE.2.1 hP hD hS 1 6 7 5 rfl rfl rfl rfl (vp_in_nI (n := 5) (N := 6) (by decide) (by decide)) dX6_init_46 (fun H locs hP hD hS => ?_)
  have hP : va_P g.1 vwCl [(o, .inr (6, [.int n, .ref d, .ref q1])), (q1, .inl (g.2.1 6, (6, .inr (.inr (.inr (.inr (va_up (va_up (va_up (va_up (va_up (va_up (fun _ => none) 0 (some q2)) 1 (some q4)) 2 (some q6)) 3 (some q8)) 4 (some q10)) 5 (some q12)))))))), (q2, .inr (5, [.int 0, .int 0, .int 0, .int 0, .int 0, .int 0])), (q4, .inr (5, [.int 0, .int 0, .int 0, .int 0, .int 0, .int 0])), (q6, .inr (5, [.int 0, .int 0, .int 0, .int 0, .int 0, .int 0])), (q8, .inr (5, [.int 0, .int 0, .int 0, .int 0, .int 0, .int 0])), (q10, .inr (5, [.int 0, .int 0, .int 0, .int 0, .int 0, .int 0])), (q12, .inr (5, [.int 0, .int 0, .int 0, .int 0, .int 0, .int 0]))] H := hP
  have hD : va_D A [(o, .inr (6, [.int n, .ref d, .ref q1])), (q1, .inl (g.2.1 6, (6, .inr (.inr (.inr (.inr (va_up (va_up (va_up (va_up (va_up (va_up (fun _ => none) 0 (some q2)) 1 (some q4)) 2 (some q6)) 3 (some q8)) 4 (some q10)) 5 (some q12)))))))), (q2, .inr (5, [.int 0, .int 0, .int 0, .int 0, .int 0, .int 0])), (q4, .inr (5, [.int 0, .int 0, .int 0, .int 0, .int 0, .int 0])), (q6, .inr (5, [.int 0, .int 0, .int 0, .int 0, .int 0, .int 0])), (q8, .inr (5, [.int 0, .int 0, .int 0, .int 0, .int 0, .int 0])), (q10, .inr (5, [.int 0, .int 0, .int 0, .int 0, .int 0, .int 0])), (q12, .inr (5, [.int 0, .int 0, .int 0, .int 0, .int 0, .int 0]))] := hD
  refine lv_iinc (v := 6) (lv' := [(3, .int 6), (0, .ref o), (1, .int n), (2, .ref d)]) B.hx B.hb dX6_init_47 hl (k := 0) rfl (by decide) (by decide) rfl (fun ls hl => ?_)
  refine lv_goto (tgt := 25) B.hx B.hb dX6_init_50 (by decide) ?_
  refine lv_iload_n B.hx B.hb dX6_init_25 rfl (lv_at hl 0 rfl) ?_
  refine lv_aload_n B.hx B.hb dX6_init_26 rfl (lv_at hl 1 rfl) ?_
  refine va_get (D := g.1) (ci := 6) (v := .ref q1) (C := RX6) (T := TX6) (N := 3) B.hx B.hb B.hw zK6.2.1 B.hown B.hE.2.1 hP 0 rfl zK6.1 2 (by decide) (B.hw _ zv_475) (fun _ h9 => h9) rfl dX6_init_27 ?_
  refine va_alen (v := 6) B.hx B.hb B.hE.2.1 hP 1 6 rfl rfl rfl dX6_init_30 ?_
  refine lv_icmp_ge (tgt := 53) B.hx B.hb dX6_init_31 (by decide) (fun _ => ?_) (fun c9 => absurd (by decide) c9)
  exact zc_vret (w1 := w_X6 g n d) [q1, q2, q4, q6, q8, q10, q12] B hr hlk hP hD hS dX6_init_53
