theorem dX0_init_0 : decode cX0_init 0 = .ok (.aload_n 0, 1) := by decide +kernel
theorem dX0_init_1 : decode cX0_init 1 = .ok (.invokespecial 3, 3) := by decide +kernel
theorem dX0_init_4 : decode cX0_init 4 = .ok (.aload_n 0, 1) := by decide +kernel
theorem dX0_init_5 : decode cX0_init 5 = .ok (.bipush 6, 2) := by decide +kernel
theorem dX0_init_7 : decode cX0_init 7 = .ok (.newarray .int, 2) := by decide +kernel
theorem dX0_init_9 : decode cX0_init 9 = .ok (.putfield 9, 3) := by decide +kernel
theorem dX0_init_12 : decode cX0_init 12 = .ok (.aload_n 0, 1) := by decide +kernel
theorem dX0_init_13 : decode cX0_init 13 = .ok (.iload_n 1, 1) := by decide +kernel
theorem dX0_init_14 : decode cX0_init 14 = .ok (.putfield 15, 3) := by decide +kernel
theorem dX0_init_17 : decode cX0_init 17 = .ok (.aload_n 0, 1) := by decide +kernel
theorem dX0_init_18 : decode cX0_init 18 = .ok (.aload_n 2, 1) := by decide +kernel
theorem dX0_init_19 : decode cX0_init 19 = .ok (.putfield 19, 3) := by decide +kernel
theorem dX0_init_22 : decode cX0_init 22 = .ok (.return_, 1) := by decide +kernel
def w_X0 (g : ZG) (n : Int32) (x : Option Nat) (o : Nat) (qs : List Nat) : va_W := [(o, .inr (0, [.int n, va_rf x, .ref (qs.getD 0 0)])), ((qs.getD 0 0), .inl (g.2.1 0, (6, .inl (fun _ => 0))))]
set_option maxRecDepth 100000 in
set_option maxHeartbeats 4000000 in
theorem zmk_X0 (l : Launch) (g : ZG) (n : Int32) (x : Option Nat) : zMk l yX0_init cX0_init 3 { frames := 1, cells := 1, slots := 6, locals := 12 } 1 6 g [.int n, va_rf x] 0 [.int 0, .null, .null] (w_X0 g n x) := by
  rcases x with _ | x9
  · refine zMk_of (by decide +kernel) rfl (fun o => (Nat.le_of_ble_eq_true rfl)) (fun o p e s m args below meth c A ls B hin hr hlk hP hD hS hl => ?_)
    have hl : lv_has ls 3 [(0, .ref o), (1, .int n), (2, .null)] := hl
    refine lv_aload_n B.hx B.hb dX0_init_0 rfl (lv_at hl 0 rfl) ?_
    refine zc_obj B ⟨(Nat.le_of_ble_eq_true rfl), (Nat.le_of_ble_eq_true rfl)⟩ hl.1 zv_416 zv_47 zv_48 dX0_init_1 ?_
    refine lv_aload_n B.hx B.hb dX0_init_4 rfl (lv_at hl 0 rfl) ?_
    refine lv_bipush (v := 6) B.hx B.hb dX0_init_5 (by decide) ?_
    refine zc_newT (k := 0) (ty := .int) (a0 := (6, .inl (fun _ => 0))) (N' := 6) B zv_81 rfl (fun _ => rfl) (fun _ h => h) (fun _ => rfl) hP hD hS (by decide) rfl (Nat.le_of_ble_eq_true rfl) (Nat.le_of_ble_eq_true rfl) (Nat.le_of_ble_eq_true rfl) dX0_init_7 (fun q1 H hP hD hS => ?_)
    refine zc_put (f := 2) (ft := tyX0 2) B hin zK0 (by decide) zv_421 rfl rfl (tyX0_ok 2 (by decide)) rfl rfl rfl hP hD hS dX0_init_9 (fun H locs hP hD hS hfl => ?_)
    refine lv_aload_n B.hx B.hb dX0_init_12 rfl (lv_at hl 0 rfl) ?_
    refine lv_iload_n B.hx B.hb dX0_init_13 rfl (lv_at hl 1 rfl) ?_
    refine zc_put (f := 0) (ft := tyX0 0) B hin zK0 (by decide) zv_417 rfl rfl (tyX0_ok 0 (by decide)) rfl rfl hfl hP hD hS dX0_init_14 (fun H locs hP hD hS hfl => ?_)
    refine lv_aload_n B.hx B.hb dX0_init_17 rfl (lv_at hl 0 rfl) ?_
    refine lv_aload_nN B.hx B.hb dX0_init_18 rfl (lv_at hl 2 rfl) ?_
    refine zc_put (f := 1) (ft := tyX0 1) B hin zK0 (by decide) zv_419 rfl rfl (tyX0_ok 1 (by decide)) rfl rfl hfl hP hD hS dX0_init_19 (fun H locs hP hD hS hfl => ?_)
    exact zc_vret (w1 := w_X0 g n none) [q1] B hr hlk hP hD hS dX0_init_22
  · refine zMk_of (by decide +kernel) rfl (fun o => (Nat.le_of_ble_eq_true rfl)) (fun o p e s m args below meth c A ls B hin hr hlk hP hD hS hl => ?_)
    have hl : lv_has ls 3 [(0, .ref o), (1, .int n), (2, .ref x9)] := hl
    refine lv_aload_n B.hx B.hb dX0_init_0 rfl (lv_at hl 0 rfl) ?_
    refine zc_obj B ⟨(Nat.le_of_ble_eq_true rfl), (Nat.le_of_ble_eq_true rfl)⟩ hl.1 zv_416 zv_47 zv_48 dX0_init_1 ?_
    refine lv_aload_n B.hx B.hb dX0_init_4 rfl (lv_at hl 0 rfl) ?_
    refine lv_bipush (v := 6) B.hx B.hb dX0_init_5 (by decide) ?_
    refine zc_newT (k := 0) (ty := .int) (a0 := (6, .inl (fun _ => 0))) (N' := 6) B zv_81 rfl (fun _ => rfl) (fun _ h => h) (fun _ => rfl) hP hD hS (by decide) rfl (Nat.le_of_ble_eq_true rfl) (Nat.le_of_ble_eq_true rfl) (Nat.le_of_ble_eq_true rfl) dX0_init_7 (fun q1 H hP hD hS => ?_)
    refine zc_put (f := 2) (ft := tyX0 2) B hin zK0 (by decide) zv_421 rfl rfl (tyX0_ok 2 (by decide)) rfl rfl rfl hP hD hS dX0_init_9 (fun H locs hP hD hS hfl => ?_)
    refine lv_aload_n B.hx B.hb dX0_init_12 rfl (lv_at hl 0 rfl) ?_
    refine lv_iload_n B.hx B.hb dX0_init_13 rfl (lv_at hl 1 rfl) ?_
    refine zc_put (f := 0) (ft := tyX0 0) B hin zK0 (by decide) zv_417 rfl rfl (tyX0_ok 0 (by decide)) rfl rfl hfl hP hD hS dX0_init_14 (fun H locs hP hD hS hfl => ?_)
    refine lv_aload_n B.hx B.hb dX0_init_17 rfl (lv_at hl 0 rfl) ?_
    refine lv_aload_n B.hx B.hb dX0_init_18 rfl (lv_at hl 2 rfl) ?_
    refine zc_put (f := 1) (ft := tyX0 1) B hin zK0 (by decide) zv_419 rfl rfl (tyX0_ok 1 (by decide)) rfl rfl hfl hP hD hS dX0_init_19 (fun H locs hP hD hS hfl => ?_)
    exact zc_vret (w1 := w_X0 g n (some x9)) [q1] B hr hlk hP hD hS dX0_init_22
theorem dX1_init_0 : decode cX1_init 0 = .ok (.aload_n 0, 1) := by decide +kernel
theorem dX1_init_1 : decode cX1_init 1 = .ok (.invokespecial 1, 3) := by decide +kernel
theorem dX1_init_4 : decode cX1_init 4 = .ok (.aload_n 0, 1) := by decide +kernel
theorem dX1_init_5 : decode cX1_init 5 = .ok (.iconst 0, 1) := by decide +kernel
theorem dX1_init_6 : decode cX1_init 6 = .ok (.putfield 7, 3) := by decide +kernel
theorem dX1_init_9 : decode cX1_init 9 = .ok (.aload_n 0, 1) := by decide +kernel
theorem dX1_init_10 : decode cX1_init 10 = .ok (.iconst 0, 1) := by decide +kernel
theorem dX1_init_11 : decode cX1_init 11 = .ok (.putfield 13, 3) := by decide +kernel
theorem dX1_init_14 : decode cX1_init 14 = .ok (.aload_n 0, 1) := by decide +kernel
theorem dX1_init_15 : decode cX1_init 15 = .ok (.aload_n 1, 1) := by decide +kernel
theorem dX1_init_16 : decode cX1_init 16 = .ok (.putfield 16, 3) := by decide +kernel
theorem dX1_init_19 : decode cX1_init 19 = .ok (.aload_n 0, 1) := by decide +kernel
theorem dX1_init_20 : decode cX1_init 20 = .ok (.iload_n 2, 1) := by decide +kernel
theorem dX1_init_21 : decode cX1_init 21 = .ok (.putfield 20, 3) := by decide +kernel
theorem dX1_init_24 : decode cX1_init 24 = .ok (.aload_n 0, 1) := by decide +kernel
theorem dX1_init_25 : decode cX1_init 25 = .ok (.iload_n 3, 1) := by decide +kernel
theorem dX1_init_26 : decode cX1_init 26 = .ok (.putfield 23, 3) := by decide +kernel
theorem dX1_init_29 : decode cX1_init 29 = .ok (.return_, 1) := by decide +kernel
def w_X1 (g : ZG) (d : Nat) (gd : Int32) (qt : Int32) (o : Nat) (qs : List Nat) : va_W := [(o, .inr (1, [.ref d, .int gd, .int qt, .int 0, .int 0]))]
set_option maxRecDepth 100000 in
set_option maxHeartbeats 4000000 in
theorem zmk_X1 (l : Launch) (g : ZG) (d : Nat) (gd : Int32) (qt : Int32) : zMk l yX1_init cX1_init 4 { frames := 1, cells := 0, slots := 0, locals := 12 } 0 0 g [.ref d, .int gd, .int qt] 1 [.null, .int 0, .int 0, .int 0, .int 0] (w_X1 g d gd qt) := by
  refine zMk_of (by decide +kernel) rfl (fun o => (Nat.le_of_ble_eq_true rfl)) (fun o p e s m args below meth c A ls B hin hr hlk hP hD hS hl => ?_)
  have hl : lv_has ls 4 [(0, .ref o), (1, .ref d), (2, .int gd), (3, .int qt)] := hl
  refine lv_aload_n B.hx B.hb dX1_init_0 rfl (lv_at hl 0 rfl) ?_
  refine zc_obj B ⟨(Nat.le_of_ble_eq_true rfl), (Nat.le_of_ble_eq_true rfl)⟩ hl.1 zv_524 zv_47 zv_48 dX1_init_1 ?_
  refine lv_aload_n B.hx B.hb dX1_init_4 rfl (lv_at hl 0 rfl) ?_
  refine lv_iconst (v := 0) B.hx B.hb dX1_init_5 (by decide) ?_
  refine zc_put (f := 3) (ft := tyX1 3) B hin zK1 (by decide) zv_531 rfl rfl (tyX1_ok 3 (by decide)) rfl rfl rfl hP hD hS dX1_init_6 (fun H locs hP hD hS hfl => ?_)
  refine lv_aload_n B.hx B.hb dX1_init_9 rfl (lv_at hl 0 rfl) ?_
  refine lv_iconst (v := 0) B.hx B.hb dX1_init_10 (by decide) ?_
  refine zc_put (f := 4) (ft := tyX1 4) B hin zK1 (by decide) zv_533 rfl rfl (tyX1_ok 4 (by decide)) rfl rfl hfl hP hD hS dX1_init_11 (fun H locs hP hD hS hfl => ?_)
  refine lv_aload_n B.hx B.hb dX1_init_14 rfl (lv_at hl 0 rfl) ?_
  refine lv_aload_n B.hx B.hb dX1_init_15 rfl (lv_at hl 1 rfl) ?_
  refine zc_put (f := 0) (ft := tyX1 0) B hin zK1 (by decide) zv_525 rfl rfl (tyX1_ok 0 (by decide)) rfl rfl hfl hP hD hS dX1_init_16 (fun H locs hP hD hS hfl => ?_)
  refine lv_aload_n B.hx B.hb dX1_init_19 rfl (lv_at hl 0 rfl) ?_
  refine lv_iload_n B.hx B.hb dX1_init_20 rfl (lv_at hl 2 rfl) ?_
  refine zc_put (f := 1) (ft := tyX1 1) B hin zK1 (by decide) zv_527 rfl rfl (tyX1_ok 1 (by decide)) rfl rfl hfl hP hD hS dX1_init_21 (fun H locs hP hD hS hfl => ?_)
  refine lv_aload_n B.hx B.hb dX1_init_24 rfl (lv_at hl 0 rfl) ?_
  refine lv_iload_n B.hx B.hb dX1_init_25 rfl (lv_at hl 3 rfl) ?_
  refine zc_put (f := 2) (ft := tyX1 2) B hin zK1 (by decide) zv_529 rfl rfl (tyX1_ok 2 (by decide)) rfl rfl hfl hP hD hS dX1_init_26 (fun H locs hP hD hS hfl => ?_)
  exact zc_vret (w1 := w_X1 g d gd qt) [] B hr hlk hP hD hS dX1_init_29
theorem dX2_init_0 : decode cX2_init 0 = .ok (.aload_n 0, 1) := by decide +kernel
theorem dX2_init_1 : decode cX2_init 1 = .ok (.invokespecial 3, 3) := by decide +kernel
theorem dX2_init_4 : decode cX2_init 4 = .ok (.aload_n 0, 1) := by decide +kernel
theorem dX2_init_5 : decode cX2_init 5 = .ok (.iconst 0, 1) := by decide +kernel
theorem dX2_init_6 : decode cX2_init 6 = .ok (.putfield 9, 3) := by decide +kernel
theorem dX2_init_9 : decode cX2_init 9 = .ok (.aload_n 0, 1) := by decide +kernel
theorem dX2_init_10 : decode cX2_init 10 = .ok (.iconst 0, 1) := by decide +kernel
theorem dX2_init_11 : decode cX2_init 11 = .ok (.putfield 15, 3) := by decide +kernel
theorem dX2_init_14 : decode cX2_init 14 = .ok (.aload_n 0, 1) := by decide +kernel
theorem dX2_init_15 : decode cX2_init 15 = .ok (.iconst 0, 1) := by decide +kernel
theorem dX2_init_16 : decode cX2_init 16 = .ok (.putfield 18, 3) := by decide +kernel
theorem dX2_init_19 : decode cX2_init 19 = .ok (.aload_n 0, 1) := by decide +kernel
theorem dX2_init_20 : decode cX2_init 20 = .ok (.iconst 0, 1) := by decide +kernel
theorem dX2_init_21 : decode cX2_init 21 = .ok (.putfield 21, 3) := by decide +kernel
theorem dX2_init_24 : decode cX2_init 24 = .ok (.aload_n 0, 1) := by decide +kernel
theorem dX2_init_25 : decode cX2_init 25 = .ok (.iconst 0, 1) := by decide +kernel
theorem dX2_init_26 : decode cX2_init 26 = .ok (.putfield 24, 3) := by decide +kernel
theorem dX2_init_29 : decode cX2_init 29 = .ok (.return_, 1) := by decide +kernel
def w_X2 (g : ZG) (o : Nat) (qs : List Nat) : va_W := [(o, .inr (2, [.int 0, .int 0, .int 0, .int 0, .int 0]))]
set_option maxRecDepth 100000 in
set_option maxHeartbeats 4000000 in
theorem zmk_X2 (l : Launch) (g : ZG) : zMk l yX2_init cX2_init 1 { frames := 1, cells := 0, slots := 0, locals := 12 } 0 0 g [] 2 [.int 0, .int 0, .int 0, .int 0, .int 0] (w_X2 g) := by
  refine zMk_of (by decide +kernel) rfl (fun o => (Nat.le_of_ble_eq_true rfl)) (fun o p e s m args below meth c A ls B hin hr hlk hP hD hS hl => ?_)
  have hl : lv_has ls 1 [(0, .ref o)] := hl
  refine lv_aload_n B.hx B.hb dX2_init_0 rfl (lv_at hl 0 rfl) ?_
  refine zc_obj B ⟨(Nat.le_of_ble_eq_true rfl), (Nat.le_of_ble_eq_true rfl)⟩ hl.1 zv_86 zv_47 zv_48 dX2_init_1 ?_
  refine lv_aload_n B.hx B.hb dX2_init_4 rfl (lv_at hl 0 rfl) ?_
  refine lv_iconst (v := 0) B.hx B.hb dX2_init_5 (by decide) ?_
  refine zc_put (f := 0) (ft := tyX2 0) B hin zK2 (by decide) zv_87 rfl rfl (tyX2_ok 0 (by decide)) rfl rfl rfl hP hD hS dX2_init_6 (fun H locs hP hD hS hfl => ?_)
  refine lv_aload_n B.hx B.hb dX2_init_9 rfl (lv_at hl 0 rfl) ?_
  refine lv_iconst (v := 0) B.hx B.hb dX2_init_10 (by decide) ?_
  refine zc_put (f := 1) (ft := tyX2 1) B hin zK2 (by decide) zv_89 rfl rfl (tyX2_ok 1 (by decide)) rfl rfl hfl hP hD hS dX2_init_11 (fun H locs hP hD hS hfl => ?_)
  refine lv_aload_n B.hx B.hb dX2_init_14 rfl (lv_at hl 0 rfl) ?_
  refine lv_iconst (v := 0) B.hx B.hb dX2_init_15 (by decide) ?_
  refine zc_put (f := 2) (ft := tyX2 2) B hin zK2 (by decide) zv_91 rfl rfl (tyX2_ok 2 (by decide)) rfl rfl hfl hP hD hS dX2_init_16 (fun H locs hP hD hS hfl => ?_)
  refine lv_aload_n B.hx B.hb dX2_init_19 rfl (lv_at hl 0 rfl) ?_
  refine lv_iconst (v := 0) B.hx B.hb dX2_init_20 (by decide) ?_
  refine zc_put (f := 3) (ft := tyX2 3) B hin zK2 (by decide) zv_93 rfl rfl (tyX2_ok 3 (by decide)) rfl rfl hfl hP hD hS dX2_init_21 (fun H locs hP hD hS hfl => ?_)
  refine lv_aload_n B.hx B.hb dX2_init_24 rfl (lv_at hl 0 rfl) ?_
  refine lv_iconst (v := 0) B.hx B.hb dX2_init_25 (by decide) ?_
  refine zc_put (f := 4) (ft := tyX2 4) B hin zK2 (by decide) zv_95 rfl rfl (tyX2_ok 4 (by decide)) rfl rfl hfl hP hD hS dX2_init_26 (fun H locs hP hD hS hfl => ?_)
  exact zc_vret (w1 := w_X2 g) [] B hr hlk hP hD hS dX2_init_29
theorem dX3_init_0 : decode cX3_init 0 = .ok (.aload_n 0, 1) := by decide +kernel
theorem dX3_init_1 : decode cX3_init 1 = .ok (.invokespecial 3, 3) := by decide +kernel
theorem dX3_init_4 : decode cX3_init 4 = .ok (.aload_n 0, 1) := by decide +kernel
theorem dX3_init_5 : decode cX3_init 5 = .ok (.bipush 100, 2) := by decide +kernel
theorem dX3_init_7 : decode cX3_init 7 = .ok (.putfield 9, 3) := by decide +kernel
theorem dX3_init_10 : decode cX3_init 10 = .ok (.aload_n 0, 1) := by decide +kernel
theorem dX3_init_11 : decode cX3_init 11 = .ok (.iconst (-1), 1) := by decide +kernel
theorem dX3_init_12 : decode cX3_init 12 = .ok (.putfield 15, 3) := by decide +kernel
theorem dX3_init_15 : decode cX3_init 15 = .ok (.aload_n 0, 1) := by decide +kernel
theorem dX3_init_16 : decode cX3_init 16 = .ok (.iconst 0, 1) := by decide +kernel
theorem dX3_init_17 : decode cX3_init 17 = .ok (.putfield 18, 3) := by decide +kernel
theorem dX3_init_20 : decode cX3_init 20 = .ok (.aload_n 0, 1) := by decide +kernel
theorem dX3_init_21 : decode cX3_init 21 = .ok (.iconst 0, 1) := by decide +kernel
theorem dX3_init_22 : decode cX3_init 22 = .ok (.putfield 22, 3) := by decide +kernel
theorem dX3_init_25 : decode cX3_init 25 = .ok (.aload_n 0, 1) := by decide +kernel
theorem dX3_init_26 : decode cX3_init 26 = .ok (.iconst 0, 1) := by decide +kernel
theorem dX3_init_27 : decode cX3_init 27 = .ok (.putfield 25, 3) := by decide +kernel
theorem dX3_init_30 : decode cX3_init 30 = .ok (.aload_n 0, 1) := by decide +kernel
theorem dX3_init_31 : decode cX3_init 31 = .ok (.iconst 0, 1) := by decide +kernel
theorem dX3_init_32 : decode cX3_init 32 = .ok (.putfield 28, 3) := by decide +kernel
theorem dX3_init_35 : decode cX3_init 35 = .ok (.aload_n 0, 1) := by decide +kernel
theorem dX3_init_36 : decode cX3_init 36 = .ok (.bipush 6, 2) := by decide +kernel
theorem dX3_init_38 : decode cX3_init 38 = .ok (.newarray .int, 2) := by decide +kernel
theorem dX3_init_40 : decode cX3_init 40 = .ok (.putfield 31, 3) := by decide +kernel
theorem dX3_init_43 : decode cX3_init 43 = .ok (.aload_n 0, 1) := by decide +kernel
theorem dX3_init_44 : decode cX3_init 44 = .ok (.iload_n 1, 1) := by decide +kernel
theorem dX3_init_45 : decode cX3_init 45 = .ok (.putfield 35, 3) := by decide +kernel
theorem dX3_init_48 : decode cX3_init 48 = .ok (.aload_n 0, 1) := by decide +kernel
theorem dX3_init_49 : decode cX3_init 49 = .ok (.iload_n 2, 1) := by decide +kernel
theorem dX3_init_50 : decode cX3_init 50 = .ok (.putfield 38, 3) := by decide +kernel
theorem dX3_init_53 : decode cX3_init 53 = .ok (.aload_n 0, 1) := by decide +kernel
theorem dX3_init_54 : decode cX3_init 54 = .ok (.aload_n 3, 1) := by decide +kernel
theorem dX3_init_55 : decode cX3_init 55 = .ok (.putfield 41, 3) := by decide +kernel
theorem dX3_init_58 : decode cX3_init 58 = .ok (.aload_n 0, 1) := by decide +kernel
theorem dX3_init_59 : decode cX3_init 59 = .ok (.aload_n 3, 1) := by decide +kernel
theorem dX3_init_60 : decode cX3_init 60 = .ok (.putfield 45, 3) := by decide +kernel
theorem dX3_init_63 : decode cX3_init 63 = .ok (.return_, 1) := by decide +kernel
def w_X3 (g : ZG) (n : Int32) (kd : Int32) (j : Nat) (o : Nat) (qs : List Nat) : va_W := [(o, .inr (3, [.int n, .int kd, .ref j, .ref j, .int 100, .int (-1), .int 0, .int 0, .int 0, .int 0, .ref (qs.getD 0 0)])), ((qs.getD 0 0), .inl (g.2.1 0, (6, .inl (fun _ => 0))))]
set_option maxRecDepth 100000 in
set_option maxHeartbeats 4000000 in
theorem zmk_X3 (l : Launch) (g : ZG) (n : Int32) (kd : Int32) (j : Nat) : zMk l yX3_init cX3_init 4 { frames := 1, cells := 1, slots := 6, locals := 12 } 1 6 g [.int n, .int kd, .ref j] 3 [.int 0, .int 0, .null, .null, .int 0, .int 0, .int 0, .int 0, .int 0, .int 0, .null] (w_X3 g n kd j) := by
  refine zMk_of (by decide +kernel) rfl (fun o => (Nat.le_of_ble_eq_true rfl)) (fun o p e s m args below meth c A ls B hin hr hlk hP hD hS hl => ?_)
  have hl : lv_has ls 4 [(0, .ref o), (1, .int n), (2, .int kd), (3, .ref j)] := hl
  refine lv_aload_n B.hx B.hb dX3_init_0 rfl (lv_at hl 0 rfl) ?_
  refine zc_obj B ⟨(Nat.le_of_ble_eq_true rfl), (Nat.le_of_ble_eq_true rfl)⟩ hl.1 zv_316 zv_47 zv_48 dX3_init_1 ?_
  refine lv_aload_n B.hx B.hb dX3_init_4 rfl (lv_at hl 0 rfl) ?_
  refine lv_bipush (v := 100) B.hx B.hb dX3_init_5 (by decide) ?_
  refine zc_put (f := 4) (ft := tyX3 4) B hin zK3 (by decide) zv_325 rfl rfl (tyX3_ok 4 (by decide)) rfl rfl rfl hP hD hS dX3_init_7 (fun H locs hP hD hS hfl => ?_)
  refine lv_aload_n B.hx B.hb dX3_init_10 rfl (lv_at hl 0 rfl) ?_
  refine lv_iconst (v := (-1)) B.hx B.hb dX3_init_11 (by decide) ?_
  refine zc_put (f := 5) (ft := tyX3 5) B hin zK3 (by decide) zv_327 rfl rfl (tyX3_ok 5 (by decide)) rfl rfl hfl hP hD hS dX3_init_12 (fun H locs hP hD hS hfl => ?_)
  refine lv_aload_n B.hx B.hb dX3_init_15 rfl (lv_at hl 0 rfl) ?_
  refine lv_iconst (v := 0) B.hx B.hb dX3_init_16 (by decide) ?_
  refine zc_put (f := 6) (ft := tyX3 6) B hin zK3 (by decide) zv_329 rfl rfl (tyX3_ok 6 (by decide)) rfl rfl hfl hP hD hS dX3_init_17 (fun H locs hP hD hS hfl => ?_)
  refine lv_aload_n B.hx B.hb dX3_init_20 rfl (lv_at hl 0 rfl) ?_
  refine lv_iconst (v := 0) B.hx B.hb dX3_init_21 (by decide) ?_
  refine zc_put (f := 7) (ft := tyX3 7) B hin zK3 (by decide) zv_331 rfl rfl (tyX3_ok 7 (by decide)) rfl rfl hfl hP hD hS dX3_init_22 (fun H locs hP hD hS hfl => ?_)
  refine lv_aload_n B.hx B.hb dX3_init_25 rfl (lv_at hl 0 rfl) ?_
  refine lv_iconst (v := 0) B.hx B.hb dX3_init_26 (by decide) ?_
  refine zc_put (f := 8) (ft := tyX3 8) B hin zK3 (by decide) zv_333 rfl rfl (tyX3_ok 8 (by decide)) rfl rfl hfl hP hD hS dX3_init_27 (fun H locs hP hD hS hfl => ?_)
  refine lv_aload_n B.hx B.hb dX3_init_30 rfl (lv_at hl 0 rfl) ?_
  refine lv_iconst (v := 0) B.hx B.hb dX3_init_31 (by decide) ?_
  refine zc_put (f := 9) (ft := tyX3 9) B hin zK3 (by decide) zv_335 rfl rfl (tyX3_ok 9 (by decide)) rfl rfl hfl hP hD hS dX3_init_32 (fun H locs hP hD hS hfl => ?_)
  refine lv_aload_n B.hx B.hb dX3_init_35 rfl (lv_at hl 0 rfl) ?_
  refine lv_bipush (v := 6) B.hx B.hb dX3_init_36 (by decide) ?_
  refine zc_newT (k := 0) (ty := .int) (a0 := (6, .inl (fun _ => 0))) (N' := 6) B zv_81 rfl (fun _ => rfl) (fun _ h => h) (fun _ => rfl) hP hD hS (by decide) rfl (Nat.le_of_ble_eq_true rfl) (Nat.le_of_ble_eq_true rfl) (Nat.le_of_ble_eq_true rfl) dX3_init_38 (fun q1 H hP hD hS => ?_)
  refine zc_put (f := 10) (ft := tyX3 10) B hin zK3 (by decide) zv_337 rfl rfl (tyX3_ok 10 (by decide)) rfl rfl hfl hP hD hS dX3_init_40 (fun H locs hP hD hS hfl => ?_)
  refine lv_aload_n B.hx B.hb dX3_init_43 rfl (lv_at hl 0 rfl) ?_
  refine lv_iload_n B.hx B.hb dX3_init_44 rfl (lv_at hl 1 rfl) ?_
  refine zc_put (f := 0) (ft := tyX3 0) B hin zK3 (by decide) zv_317 rfl rfl (tyX3_ok 0 (by decide)) rfl rfl hfl hP hD hS dX3_init_45 (fun H locs hP hD hS hfl => ?_)
  refine lv_aload_n B.hx B.hb dX3_init_48 rfl (lv_at hl 0 rfl) ?_
  refine lv_iload_n B.hx B.hb dX3_init_49 rfl (lv_at hl 2 rfl) ?_
  refine zc_put (f := 1) (ft := tyX3 1) B hin zK3 (by decide) zv_319 rfl rfl (tyX3_ok 1 (by decide)) rfl rfl hfl hP hD hS dX3_init_50 (fun H locs hP hD hS hfl => ?_)
  refine lv_aload_n B.hx B.hb dX3_init_53 rfl (lv_at hl 0 rfl) ?_
  refine lv_aload_n B.hx B.hb dX3_init_54 rfl (lv_at hl 3 rfl) ?_
  refine zc_put (f := 2) (ft := tyX3 2) B hin zK3 (by decide) zv_321 rfl rfl (tyX3_ok 2 (by decide)) rfl rfl hfl hP hD hS dX3_init_55 (fun H locs hP hD hS hfl => ?_)
  refine lv_aload_n B.hx B.hb dX3_init_58 rfl (lv_at hl 0 rfl) ?_
  refine lv_aload_n B.hx B.hb dX3_init_59 rfl (lv_at hl 3 rfl) ?_
  refine zc_put (f := 3) (ft := tyX3 3) B hin zK3 (by decide) zv_323 rfl rfl (tyX3_ok 3 (by decide)) rfl rfl hfl hP hD hS dX3_init_60 (fun H locs hP hD hS hfl => ?_)
  exact zc_vret (w1 := w_X3 g n kd j) [q1] B hr hlk hP hD hS dX3_init_63
theorem dX4_init_0 : decode cX4_init 0 = .ok (.aload_n 0, 1) := by decide +kernel
theorem dX4_init_1 : decode cX4_init 1 = .ok (.invokespecial 3, 3) := by decide +kernel
theorem dX4_init_4 : decode cX4_init 4 = .ok (.aload_n 0, 1) := by decide +kernel
theorem dX4_init_5 : decode cX4_init 5 = .ok (.sipush 512, 3) := by decide +kernel
theorem dX4_init_8 : decode cX4_init 8 = .ok (.newarray .int, 2) := by decide +kernel
theorem dX4_init_10 : decode cX4_init 10 = .ok (.putfield 9, 3) := by decide +kernel
theorem dX4_init_13 : decode cX4_init 13 = .ok (.aload_n 0, 1) := by decide +kernel
theorem dX4_init_14 : decode cX4_init 14 = .ok (.sipush 512, 3) := by decide +kernel
theorem dX4_init_17 : decode cX4_init 17 = .ok (.newarray .int, 2) := by decide +kernel
theorem dX4_init_19 : decode cX4_init 19 = .ok (.putfield 15, 3) := by decide +kernel
theorem dX4_init_22 : decode cX4_init 22 = .ok (.aload_n 0, 1) := by decide +kernel
theorem dX4_init_23 : decode cX4_init 23 = .ok (.sipush 512, 3) := by decide +kernel
theorem dX4_init_26 : decode cX4_init 26 = .ok (.newarray .int, 2) := by decide +kernel
theorem dX4_init_28 : decode cX4_init 28 = .ok (.putfield 18, 3) := by decide +kernel
theorem dX4_init_31 : decode cX4_init 31 = .ok (.aload_n 0, 1) := by decide +kernel
theorem dX4_init_32 : decode cX4_init 32 = .ok (.sipush 512, 3) := by decide +kernel
theorem dX4_init_35 : decode cX4_init 35 = .ok (.newarray .int, 2) := by decide +kernel
theorem dX4_init_37 : decode cX4_init 37 = .ok (.putfield 21, 3) := by decide +kernel
theorem dX4_init_40 : decode cX4_init 40 = .ok (.aload_n 0, 1) := by decide +kernel
theorem dX4_init_41 : decode cX4_init 41 = .ok (.iconst 0, 1) := by decide +kernel
theorem dX4_init_42 : decode cX4_init 42 = .ok (.putfield 24, 3) := by decide +kernel
theorem dX4_init_45 : decode cX4_init 45 = .ok (.return_, 1) := by decide +kernel
def w_X4 (g : ZG) (o : Nat) (qs : List Nat) : va_W := [(o, .inr (4, [.ref (qs.getD 0 0), .ref (qs.getD 1 0), .ref (qs.getD 2 0), .ref (qs.getD 3 0), .int 0])), ((qs.getD 0 0), .inl (g.2.1 0, (512, .inl (fun _ => 0)))), ((qs.getD 1 0), .inl (g.2.1 0, (512, .inl (fun _ => 0)))), ((qs.getD 2 0), .inl (g.2.1 0, (512, .inl (fun _ => 0)))), ((qs.getD 3 0), .inl (g.2.1 0, (512, .inl (fun _ => 0))))]
set_option maxRecDepth 100000 in
set_option maxHeartbeats 4000000 in
theorem zmk_X4 (l : Launch) (g : ZG) : zMk l yX4_init cX4_init 1 { frames := 1, cells := 4, slots := 2048, locals := 12 } 4 2048 g [] 4 [.null, .null, .null, .null, .int 0] (w_X4 g) := by
  refine zMk_of (by decide +kernel) rfl (fun o => (Nat.le_of_ble_eq_true rfl)) (fun o p e s m args below meth c A ls B hin hr hlk hP hD hS hl => ?_)
  have hl : lv_has ls 1 [(0, .ref o)] := hl
  refine lv_aload_n B.hx B.hb dX4_init_0 rfl (lv_at hl 0 rfl) ?_
  refine zc_obj B ⟨(Nat.le_of_ble_eq_true rfl), (Nat.le_of_ble_eq_true rfl)⟩ hl.1 zv_64 zv_47 zv_48 dX4_init_1 ?_
  refine lv_aload_n B.hx B.hb dX4_init_4 rfl (lv_at hl 0 rfl) ?_
  refine lv_sipush (v := 512) B.hx B.hb dX4_init_5 (by decide) ?_
  refine zc_newT (k := 0) (ty := .int) (a0 := (512, .inl (fun _ => 0))) (N' := 512) B zv_81 rfl (fun _ => rfl) (fun _ h => h) (fun _ => rfl) hP hD hS (by decide) rfl (Nat.le_of_ble_eq_true rfl) (Nat.le_of_ble_eq_true rfl) (Nat.le_of_ble_eq_true rfl) dX4_init_8 (fun q1 H hP hD hS => ?_)
  refine zc_put (f := 0) (ft := tyX4 0) B hin zK4 (by decide) zv_65 rfl rfl (tyX4_ok 0 (by decide)) rfl rfl rfl hP hD hS dX4_init_10 (fun H locs hP hD hS hfl => ?_)
  refine lv_aload_n B.hx B.hb dX4_init_13 rfl (lv_at hl 0 rfl) ?_
  refine lv_sipush (v := 512) B.hx B.hb dX4_init_14 (by decide) ?_
  refine zc_newT (k := 0) (ty := .int) (a0 := (512, .inl (fun _ => 0))) (N' := 512) B zv_81 rfl (fun _ => rfl) (fun _ h => h) (fun _ => rfl) hP hD hS (by decide) rfl (Nat.le_of_ble_eq_true rfl) (Nat.le_of_ble_eq_true rfl) (Nat.le_of_ble_eq_true rfl) dX4_init_17 (fun q2 H hP hD hS => ?_)
  refine zc_put (f := 1) (ft := tyX4 1) B hin zK4 (by decide) zv_66 rfl rfl (tyX4_ok 1 (by decide)) rfl rfl hfl hP hD hS dX4_init_19 (fun H locs hP hD hS hfl => ?_)
  refine lv_aload_n B.hx B.hb dX4_init_22 rfl (lv_at hl 0 rfl) ?_
  refine lv_sipush (v := 512) B.hx B.hb dX4_init_23 (by decide) ?_
  refine zc_newT (k := 0) (ty := .int) (a0 := (512, .inl (fun _ => 0))) (N' := 512) B zv_81 rfl (fun _ => rfl) (fun _ h => h) (fun _ => rfl) hP hD hS (by decide) rfl (Nat.le_of_ble_eq_true rfl) (Nat.le_of_ble_eq_true rfl) (Nat.le_of_ble_eq_true rfl) dX4_init_26 (fun q3 H hP hD hS => ?_)
  refine zc_put (f := 2) (ft := tyX4 2) B hin zK4 (by decide) zv_67 rfl rfl (tyX4_ok 2 (by decide)) rfl rfl hfl hP hD hS dX4_init_28 (fun H locs hP hD hS hfl => ?_)
  refine lv_aload_n B.hx B.hb dX4_init_31 rfl (lv_at hl 0 rfl) ?_
  refine lv_sipush (v := 512) B.hx B.hb dX4_init_32 (by decide) ?_
  refine zc_newT (k := 0) (ty := .int) (a0 := (512, .inl (fun _ => 0))) (N' := 512) B zv_81 rfl (fun _ => rfl) (fun _ h => h) (fun _ => rfl) hP hD hS (by decide) rfl (Nat.le_of_ble_eq_true rfl) (Nat.le_of_ble_eq_true rfl) (Nat.le_of_ble_eq_true rfl) dX4_init_35 (fun q4 H hP hD hS => ?_)
  refine zc_put (f := 3) (ft := tyX4 3) B hin zK4 (by decide) zv_68 rfl rfl (tyX4_ok 3 (by decide)) rfl rfl hfl hP hD hS dX4_init_37 (fun H locs hP hD hS hfl => ?_)
  refine lv_aload_n B.hx B.hb dX4_init_40 rfl (lv_at hl 0 rfl) ?_
  refine lv_iconst (v := 0) B.hx B.hb dX4_init_41 (by decide) ?_
  refine zc_put (f := 4) (ft := tyX4 4) B hin zK4 (by decide) zv_69 rfl rfl (tyX4_ok 4 (by decide)) rfl rfl hfl hP hD hS dX4_init_42 (fun H locs hP hD hS hfl => ?_)
  exact zc_vret (w1 := w_X4 g) [q1, q2, q3, q4] B hr hlk hP hD hS dX4_init_45
theorem dX5_init_0 : decode cX5_init 0 = .ok (.aload_n 0, 1) := by decide +kernel
theorem dX5_init_1 : decode cX5_init 1 = .ok (.invokespecial 1, 3) := by decide +kernel
theorem dX5_init_4 : decode cX5_init 4 = .ok (.aload_n 0, 1) := by decide +kernel
theorem dX5_init_5 : decode cX5_init 5 = .ok (.iconst 0, 1) := by decide +kernel
theorem dX5_init_6 : decode cX5_init 6 = .ok (.putfield 7, 3) := by decide +kernel
theorem dX5_init_9 : decode cX5_init 9 = .ok (.aload_n 0, 1) := by decide +kernel
theorem dX5_init_10 : decode cX5_init 10 = .ok (.iconst 0, 1) := by decide +kernel
theorem dX5_init_11 : decode cX5_init 11 = .ok (.putfield 13, 3) := by decide +kernel
theorem dX5_init_14 : decode cX5_init 14 = .ok (.aload_n 0, 1) := by decide +kernel
theorem dX5_init_15 : decode cX5_init 15 = .ok (.iconst 0, 1) := by decide +kernel
theorem dX5_init_16 : decode cX5_init 16 = .ok (.putfield 16, 3) := by decide +kernel
theorem dX5_init_19 : decode cX5_init 19 = .ok (.aload_n 0, 1) := by decide +kernel
theorem dX5_init_20 : decode cX5_init 20 = .ok (.iconst 0, 1) := by decide +kernel
theorem dX5_init_21 : decode cX5_init 21 = .ok (.putfield 19, 3) := by decide +kernel
theorem dX5_init_24 : decode cX5_init 24 = .ok (.aload_n 0, 1) := by decide +kernel
theorem dX5_init_25 : decode cX5_init 25 = .ok (.iconst 0, 1) := by decide +kernel
theorem dX5_init_26 : decode cX5_init 26 = .ok (.putfield 22, 3) := by decide +kernel
theorem dX5_init_29 : decode cX5_init 29 = .ok (.aload_n 0, 1) := by decide +kernel
theorem dX5_init_30 : decode cX5_init 30 = .ok (.iconst 0, 1) := by decide +kernel
theorem dX5_init_31 : decode cX5_init 31 = .ok (.putfield 25, 3) := by decide +kernel
theorem dX5_init_34 : decode cX5_init 34 = .ok (.return_, 1) := by decide +kernel
def w_X5 (g : ZG) (o : Nat) (qs : List Nat) : va_W := [(o, .inr (5, [.int 0, .int 0, .int 0, .int 0, .int 0, .int 0]))]
set_option maxRecDepth 100000 in
set_option maxHeartbeats 4000000 in
theorem zmk_X5 (l : Launch) (g : ZG) : zMk l yX5_init cX5_init 1 { frames := 1, cells := 0, slots := 0, locals := 12 } 0 0 g [] 5 [.int 0, .int 0, .int 0, .int 0, .int 0, .int 0] (w_X5 g) := by
  refine zMk_of (by decide +kernel) rfl (fun o => (Nat.le_of_ble_eq_true rfl)) (fun o p e s m args below meth c A ls B hin hr hlk hP hD hS hl => ?_)
  have hl : lv_has ls 1 [(0, .ref o)] := hl
  refine lv_aload_n B.hx B.hb dX5_init_0 rfl (lv_at hl 0 rfl) ?_
  refine zc_obj B ⟨(Nat.le_of_ble_eq_true rfl), (Nat.le_of_ble_eq_true rfl)⟩ hl.1 zv_445 zv_47 zv_48 dX5_init_1 ?_
  refine lv_aload_n B.hx B.hb dX5_init_4 rfl (lv_at hl 0 rfl) ?_
  refine lv_iconst (v := 0) B.hx B.hb dX5_init_5 (by decide) ?_
  refine zc_put (f := 0) (ft := tyX5 0) B hin zK5 (by decide) zv_446 rfl rfl (tyX5_ok 0 (by decide)) rfl rfl rfl hP hD hS dX5_init_6 (fun H locs hP hD hS hfl => ?_)
  refine lv_aload_n B.hx B.hb dX5_init_9 rfl (lv_at hl 0 rfl) ?_
  refine lv_iconst (v := 0) B.hx B.hb dX5_init_10 (by decide) ?_
  refine zc_put (f := 1) (ft := tyX5 1) B hin zK5 (by decide) zv_448 rfl rfl (tyX5_ok 1 (by decide)) rfl rfl hfl hP hD hS dX5_init_11 (fun H locs hP hD hS hfl => ?_)
  refine lv_aload_n B.hx B.hb dX5_init_14 rfl (lv_at hl 0 rfl) ?_
  refine lv_iconst (v := 0) B.hx B.hb dX5_init_15 (by decide) ?_
  refine zc_put (f := 2) (ft := tyX5 2) B hin zK5 (by decide) zv_450 rfl rfl (tyX5_ok 2 (by decide)) rfl rfl hfl hP hD hS dX5_init_16 (fun H locs hP hD hS hfl => ?_)
  refine lv_aload_n B.hx B.hb dX5_init_19 rfl (lv_at hl 0 rfl) ?_
  refine lv_iconst (v := 0) B.hx B.hb dX5_init_20 (by decide) ?_
  refine zc_put (f := 3) (ft := tyX5 3) B hin zK5 (by decide) zv_452 rfl rfl (tyX5_ok 3 (by decide)) rfl rfl hfl hP hD hS dX5_init_21 (fun H locs hP hD hS hfl => ?_)
  refine lv_aload_n B.hx B.hb dX5_init_24 rfl (lv_at hl 0 rfl) ?_
  refine lv_iconst (v := 0) B.hx B.hb dX5_init_25 (by decide) ?_
  refine zc_put (f := 4) (ft := tyX5 4) B hin zK5 (by decide) zv_454 rfl rfl (tyX5_ok 4 (by decide)) rfl rfl hfl hP hD hS dX5_init_26 (fun H locs hP hD hS hfl => ?_)
  refine lv_aload_n B.hx B.hb dX5_init_29 rfl (lv_at hl 0 rfl) ?_
  refine lv_iconst (v := 0) B.hx B.hb dX5_init_30 (by decide) ?_
  refine zc_put (f := 5) (ft := tyX5 5) B hin zK5 (by decide) zv_456 rfl rfl (tyX5_ok 5 (by decide)) rfl rfl hfl hP hD hS dX5_init_31 (fun H locs hP hD hS hfl => ?_)
  exact zc_vret (w1 := w_X5 g) [] B hr hlk hP hD hS dX5_init_34
