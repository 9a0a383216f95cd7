theorem zs_26 : Cond.initialized RX7 ∈ wG := zg 26 (by decide +kernel) (by decide +kernel)
theorem zs_41 : Cond.classLink RL 10 RX7 ∈ wG := zg 41 (by decide +kernel) (by decide +kernel)
theorem zs_42 : Cond.instantiable RX7 19 ∈ wG := zg 42 (by decide +kernel) (by decide +kernel)
theorem zs_43 : Cond.methodLink RL 63 yX7_init ∈ wG := zg 43 (by decide +kernel) (by decide +kernel)
theorem zs_44 : Cond.instanceMethod yX7_init ∈ wG := zg 44 (by decide +kernel) (by decide +kernel)
theorem zs_45 : Cond.code yX7_init cX7_init 2 none ∈ wG := zg 45 (by decide +kernel) (by decide +kernel)
set_option maxRecDepth 100000 in
set_option maxHeartbeats 4000000 in
theorem z_start {s : State} {b : Nat} {kS : ClassId} (hkS : ArrOfT s kS .int) (hts : ∀ w ∈ lw_tbl, w.before #[Value.ref b] s = true) (hgv : (Jvm.Cond.and given_1 narrow_1).before #[Value.ref b] s = true) : ∃ (D : va_G) (cA : Nat → ClassId), zE (D, cA, s.heap.size) s ∧ cA 1 = kS := by
  have hs := flat_of_before _ hgv
  have hw : ∀ w ∈ wG, w.before #[Value.ref b] s = true := fun w h => hts w (List.mem_filter.mp h).1
  have hA : ∀ a : Nat, a < s.heap.size → ¬ (fun q : Nat => s.heap.size ≤ q) a := fun a h => Nat.not_le.mpr h
  have hix : ∀ (i : Nat) (w : Cond), lw_tbl[i]? = some w → w.before #[Value.ref b] s = true := fun i w h => hts w (List.mem_of_getElem? h)
  obtain ⟨c0, iS0, hk0⟩ := u_known (ws := wG) (C := RX0) (T := TX0) (N := 3) (n := 3) hw zinX0 (hw _ zu_412)
  obtain ⟨c1, iS1, hk1⟩ := u_known (ws := wG) (C := RX1) (T := TX1) (N := 5) (n := 5) hw zinX1 (hw _ zu_520)
  obtain ⟨c2, iS2, hk2⟩ := u_known (ws := wG) (C := RX2) (T := TX2) (N := 5) (n := 5) hw zinX2 (hw _ zv_82)
  obtain ⟨c3, iS3, hk3⟩ := u_known (ws := wG) (C := RX3) (T := TX3) (N := 11) (n := 11) hw zinX3 (hw _ zu_312)
  obtain ⟨c4, iS4, hk4⟩ := u_known (ws := wG) (C := RX4) (T := TX4) (N := 5) (n := 5) hw zinX4 (hw _ zv_60)
  obtain ⟨c5, iS5, hk5⟩ := u_known (ws := wG) (C := RX5) (T := TX5) (N := 6) (n := 6) hw zinX5 (hw _ zv_441)
  obtain ⟨c6, iS6, hk6⟩ := u_known (ws := wG) (C := RX6) (T := TX6) (N := 3) (n := 3) hw zinX6 (hw _ zu_434)
  obtain ⟨c7, iS7, hk7⟩ := u_known (ws := wG) (C := RX7) (T := TX7) (N := 19) (n := 19) hw zinX7 (hw _ zs_42)
  have aoGood : va_AO "Pointsbook$Good" s := hix 50 (.arrayOver (.object "Pointsbook$Good")) (by decide +kernel)
  have aoPerson : va_AO "Pointsbook$Person" s := hix 52 (.arrayOver (.object "Pointsbook$Person")) (by decide +kernel)
  have aoDepot : va_AO "Pointsbook$Depot" s := hix 54 (.arrayOver (.object "Pointsbook$Depot")) (by decide +kernel)
  have aoShop : va_AO "Pointsbook$Shop" s := hix 56 (.arrayOver (.object "Pointsbook$Shop")) (by decide +kernel)
  have aoFarm : va_AO "Pointsbook$Farm" s := hix 58 (.arrayOver (.object "Pointsbook$Farm")) (by decide +kernel)
  have aoShelf : va_AO "Pointsbook$Shelf" s := hix 440 (.arrayOver (.object "Pointsbook$Shelf")) (by decide +kernel)
  obtain ⟨a0, r0⟩ : ∃ c : ClassId, ArrOfT s c .int ∧ va_RA s c .int := by
    obtain ⟨c, k, comp, h1, h2, h3⟩ := Cond.arrayClass_spec (hix 81 (.arrayClass .int) (by decide +kernel))
    exact ⟨c, fun N z => ⟨(fun k h => by cases h), k, h2, comp, h3⟩, h1⟩
  obtain ⟨a2, r2⟩ : ∃ c : ClassId, ArrOfT s c (.object "Pointsbook$Depot") ∧ va_RA s c (.object "Pointsbook$Depot") := by
    obtain ⟨comp, c, k, h1, h2, h3, h4, h5⟩ := Cond.arrayOver_spec aoDepot
    exact ⟨c, fun N z => ⟨(fun k h => by cases h), k, h3, comp, h4⟩, k, comp, h3, h4, h1, h5⟩
  obtain ⟨a3, r3⟩ : ∃ c : ClassId, ArrOfT s c (.object "Pointsbook$Farm") ∧ va_RA s c (.object "Pointsbook$Farm") := by
    obtain ⟨comp, c, k, h1, h2, h3, h4, h5⟩ := Cond.arrayOver_spec aoFarm
    exact ⟨c, fun N z => ⟨(fun k h => by cases h), k, h3, comp, h4⟩, k, comp, h3, h4, h1, h5⟩
  obtain ⟨a4, r4⟩ : ∃ c : ClassId, ArrOfT s c (.object "Pointsbook$Good") ∧ va_RA s c (.object "Pointsbook$Good") := by
    obtain ⟨comp, c, k, h1, h2, h3, h4, h5⟩ := Cond.arrayOver_spec aoGood
    exact ⟨c, fun N z => ⟨(fun k h => by cases h), k, h3, comp, h4⟩, k, comp, h3, h4, h1, h5⟩
  obtain ⟨a5, r5⟩ : ∃ c : ClassId, ArrOfT s c (.object "Pointsbook$Person") ∧ va_RA s c (.object "Pointsbook$Person") := by
    obtain ⟨comp, c, k, h1, h2, h3, h4, h5⟩ := Cond.arrayOver_spec aoPerson
    exact ⟨c, fun N z => ⟨(fun k h => by cases h), k, h3, comp, h4⟩, k, comp, h3, h4, h1, h5⟩
  obtain ⟨a6, r6⟩ : ∃ c : ClassId, ArrOfT s c (.object "Pointsbook$Shelf") ∧ va_RA s c (.object "Pointsbook$Shelf") := by
    obtain ⟨comp, c, k, h1, h2, h3, h4, h5⟩ := Cond.arrayOver_spec aoShelf
    exact ⟨c, fun N z => ⟨(fun k h => by cases h), k, h3, comp, h4⟩, k, comp, h3, h4, h1, h5⟩
  obtain ⟨a7, r7⟩ : ∃ c : ClassId, ArrOfT s c (.object "Pointsbook$Shop") ∧ va_RA s c (.object "Pointsbook$Shop") := by
    obtain ⟨comp, c, k, h1, h2, h3, h4, h5⟩ := Cond.arrayOver_spec aoShop
    exact ⟨c, fun N z => ⟨(fun k h => by cases h), k, h3, comp, h4⟩, k, comp, h3, h4, h1, h5⟩
  refine ⟨(fun k => match k with | 0 => c0 | 1 => c1 | 2 => c2 | 3 => c3 | 4 => c4 | 5 => c5 | 6 => c6 | _ => c7, fun k => match k with | 0 => iS0 | 1 => iS1 | 2 => iS2 | 3 => iS3 | 4 => iS4 | 5 => iS5 | 6 => iS6 | _ => iS7), fun k => match k with | 0 => a0 | 1 => kS | 2 => a2 | 3 => a3 | 4 => a4 | 5 => a5 | 6 => a6 | 7 => a7 | _ => a0, ⟨⟨Nat.le_refl _, ?_, hkS⟩, ⟨?_, ?_⟩, ?_, ?_, ?_, ?_, ⟨?_, ?_, ?_⟩, ?_⟩, rfl⟩
  · exact List.forall_mem_cons.mpr ⟨aoGood, List.forall_mem_cons.mpr ⟨aoPerson, List.forall_mem_cons.mpr ⟨aoDepot, List.forall_mem_cons.mpr ⟨aoShop, List.forall_mem_cons.mpr ⟨aoFarm, List.forall_mem_cons.mpr ⟨aoShelf, fun _ h => (nomatch h)⟩⟩⟩⟩⟩⟩
  · intro k q hq
    match k, hq with
    | 0, hq => cases hq; exact hk0
    | 1, hq => cases hq; exact hk1
    | 2, hq => cases hq; exact hk2
    | 3, hq => cases hq; exact hk3
    | 4, hq => cases hq; exact hk4
    | 5, hq => cases hq; exact hk5
    | 6, hq => cases hq; exact hk6
    | 7, hq => cases hq; exact hk7
    | k + 8, hq => simp [vwCl] at hq
  · intro k q hq
    match k, hq with
    | 0, hq => cases hq; exact r0
    | 1, hq => cases hq; exact r0
    | 2, hq => cases hq; exact r2
    | 3, hq => cases hq; exact r3
    | 4, hq => cases hq; exact r4
    | 5, hq => cases hq; exact r5
    | 6, hq => cases hq; exact r6
    | 7, hq => cases hq; exact r7
    | 8, hq => cases hq; exact r0
    | k + 9, hq => simp [zty] at hq
  · exact vx_Zqof (hix 201 (.laysStatic "java/lang/Throwable" "UNASSIGNED_STACK" "[Ljava/lang/StackTraceElement;") (by decide +kernel)) (hix 29 (.initialized "java/lang/Throwable") (by decide +kernel)) (hs (.isRef (.static "java/lang/Throwable" "UNASSIGNED_STACK" "[Ljava/lang/StackTraceElement;")) (by decide +kernel)) hA
  · exact vx_Zqof (hix 203 (.laysStatic "java/lang/Throwable" "SUPPRESSED_SENTINEL" "Ljava/util/List;") (by decide +kernel)) (hix 29 (.initialized "java/lang/Throwable") (by decide +kernel)) (hs (.isRef (.static "java/lang/Throwable" "SUPPRESSED_SENTINEL" "Ljava/util/List;")) (by decide +kernel)) hA
  · exact List.forall_mem_cons.mpr ⟨(by
      obtain ⟨a, c, cell, k, h1, -⟩ := Cond.exactly_spec (hs (.exactly (.string "Pointsbook" 153) "java/lang/String") (by decide +kernel))
      exact ⟨a, vk_R.of (hix 700 (.stringRef "Pointsbook" 153 "nobody gives points to themselves") (by decide +kernel)) h1⟩), List.forall_mem_cons.mpr ⟨(by
      obtain ⟨a, c, cell, k, h1, -⟩ := Cond.exactly_spec (hs (.exactly (.string "Pointsbook" 167) "java/lang/String") (by decide +kernel))
      exact ⟨a, vk_R.of (hix 651 (.stringRef "Pointsbook" 167 "fewer points are left") (by decide +kernel)) h1⟩), List.forall_mem_cons.mpr ⟨(by
      obtain ⟨a, c, cell, k, h1, -⟩ := Cond.exactly_spec (hs (.exactly (.string "Pointsbook" 225) "java/lang/String") (by decide +kernel))
      exact ⟨a, vk_R.of (hix 638 (.stringRef "Pointsbook" 225 "on points only whole hundreds of grams are sold") (by decide +kernel)) h1⟩), List.forall_mem_cons.mpr ⟨(by
      obtain ⟨a, c, cell, k, h1, -⟩ := Cond.exactly_spec (hs (.exactly (.string "Pointsbook" 303) "java/lang/String") (by decide +kernel))
      exact ⟨a, vk_R.of (hix 559 (.stringRef "Pointsbook" 303 "the last month does not end") (by decide +kernel)) h1⟩), List.forall_mem_cons.mpr ⟨(by
      obtain ⟨a, c, cell, k, h1, -⟩ := Cond.exactly_spec (hs (.exactly (.string "Pointsbook" 335) "java/lang/String") (by decide +kernel))
      exact ⟨a, vk_R.of (hix 215 (.stringRef "Pointsbook" 335 "no such good") (by decide +kernel)) h1⟩), List.forall_mem_cons.mpr ⟨(by
      obtain ⟨a, c, cell, k, h1, -⟩ := Cond.exactly_spec (hs (.exactly (.string "Pointsbook" 338) "java/lang/String") (by decide +kernel))
      exact ⟨a, vk_R.of (hix 370 (.stringRef "Pointsbook" 338 "no such person") (by decide +kernel)) h1⟩), List.forall_mem_cons.mpr ⟨(by
      obtain ⟨a, c, cell, k, h1, -⟩ := Cond.exactly_spec (hs (.exactly (.string "Pointsbook" 340) "java/lang/String") (by decide +kernel))
      exact ⟨a, vk_R.of (hix 411 (.stringRef "Pointsbook" 340 "no such depot") (by decide +kernel)) h1⟩), List.forall_mem_cons.mpr ⟨(by
      obtain ⟨a, c, cell, k, h1, -⟩ := Cond.exactly_spec (hs (.exactly (.string "Pointsbook" 342) "java/lang/String") (by decide +kernel))
      exact ⟨a, vk_R.of (hix 292 (.stringRef "Pointsbook" 342 "no such shop") (by decide +kernel)) h1⟩), List.forall_mem_cons.mpr ⟨(by
      obtain ⟨a, c, cell, k, h1, -⟩ := Cond.exactly_spec (hs (.exactly (.string "Pointsbook" 344) "java/lang/String") (by decide +kernel))
      exact ⟨a, vk_R.of (hix 554 (.stringRef "Pointsbook" 344 "no such farm") (by decide +kernel)) h1⟩), List.forall_mem_cons.mpr ⟨(by
      obtain ⟨a, c, cell, k, h1, -⟩ := Cond.exactly_spec (hs (.exactly (.string "Pointsbook" 346) "java/lang/String") (by decide +kernel))
      exact ⟨a, vk_R.of (hix 254 (.stringRef "Pointsbook" 346 "out of range") (by decide +kernel)) h1⟩), List.forall_mem_cons.mpr ⟨(by
      obtain ⟨a, c, cell, k, h1, -⟩ := Cond.exactly_spec (hs (.exactly (.string "Pointsbook" 348) "java/lang/String") (by decide +kernel))
      exact ⟨a, vk_R.of (hix 305 (.stringRef "Pointsbook" 348 "there are as many as can be") (by decide +kernel)) h1⟩), List.forall_mem_cons.mpr ⟨(by
      obtain ⟨a, c, cell, k, h1, -⟩ := Cond.exactly_spec (hs (.exactly (.string "Pointsbook" 350) "java/lang/String") (by decide +kernel))
      exact ⟨a, vk_R.of (hix 642 (.stringRef "Pointsbook" 350 "they are dead") (by decide +kernel)) h1⟩), List.forall_mem_cons.mpr ⟨(by
      obtain ⟨a, c, cell, k, h1, -⟩ := Cond.exactly_spec (hs (.exactly (.string "Pointsbook" 355) "java/lang/String") (by decide +kernel))
      exact ⟨a, vk_R.of (hix 704 (.stringRef "Pointsbook" 355 "they are dead, or the book is stolen") (by decide +kernel)) h1⟩), List.forall_mem_cons.mpr ⟨(by
      obtain ⟨a, c, cell, k, h1, -⟩ := Cond.exactly_spec (hs (.exactly (.string "Pointsbook" 357) "java/lang/String") (by decide +kernel))
      exact ⟨a, vk_R.of (hix 655 (.stringRef "Pointsbook" 357 "there are fewer") (by decide +kernel)) h1⟩), List.forall_mem_cons.mpr ⟨(by
      obtain ⟨a, c, cell, k, h1, -⟩ := Cond.exactly_spec (hs (.exactly (.string "Pointsbook" 359) "java/lang/String") (by decide +kernel))
      exact ⟨a, vk_R.of (hix 647 (.stringRef "Pointsbook" 359 "they may not buy so many grams there") (by decide +kernel)) h1⟩), List.forall_mem_cons.mpr ⟨(by
      obtain ⟨a, c, cell, k, h1, -⟩ := Cond.exactly_spec (hs (.exactly (.string "Pointsbook" 365) "java/lang/String") (by decide +kernel))
      exact ⟨a, vk_R.of (hix 681 (.stringRef "Pointsbook" 365 "the depots cannot supply so many") (by decide +kernel)) h1⟩), fun _ h => (nomatch h)⟩⟩⟩⟩⟩⟩⟩⟩⟩⟩⟩⟩⟩⟩⟩⟩
  · exact List.forall_mem_cons.mpr ⟨va_Nw.of (zxw_tab _ (List.mem_of_getElem? (i := 0) rfl)) (hix 176 _ (by decide +kernel : lw_tbl[176]? = some (Cond.castable "java/lang/IndexOutOfBoundsException" "java/lang/IndexOutOfBoundsException"))), List.forall_mem_cons.mpr ⟨va_Nw.of (zxw_tab _ (List.mem_of_getElem? (i := 1) rfl)) (hix 247 _ (by decide +kernel : lw_tbl[247]? = some (Cond.castable "java/lang/IllegalArgumentException" "java/lang/IllegalArgumentException"))), List.forall_mem_cons.mpr ⟨va_Nw.of (zxw_tab _ (List.mem_of_getElem? (i := 2) rfl)) (hix 298 _ (by decide +kernel : lw_tbl[298]? = some (Cond.castable "java/lang/IllegalStateException" "java/lang/IllegalStateException"))), List.forall_mem_cons.mpr ⟨va_Nw.of (zxw_tab _ (List.mem_of_getElem? (i := 3) rfl)) (hix 401 _ (by decide +kernel : lw_tbl[401]? = some (Cond.fieldLinkNest "Pointsbook$Person" 48 "Pointsbook" "QUARTERS" "[I" "Pointsbook"))), List.forall_mem_cons.mpr ⟨va_Nw.of (zxw_tab _ (List.mem_of_getElem? (i := 4) rfl)) (hix 178 _ (by decide +kernel : lw_tbl[178]? = some (Cond.declares ⟨"java/lang/RuntimeException", "<init>", "(Ljava/lang/String;)V"⟩))), List.forall_mem_cons.mpr ⟨va_Nw.of (zxw_tab _ (List.mem_of_getElem? (i := 5) rfl)) (hix 180 _ (by decide +kernel : lw_tbl[180]? = some (Cond.declares ⟨"java/lang/Exception", "<init>", "(Ljava/lang/String;)V"⟩))), List.forall_mem_cons.mpr ⟨va_Nw.of (zxw_tab _ (List.mem_of_getElem? (i := 6) rfl)) (hix 182 _ (by decide +kernel : lw_tbl[182]? = some (Cond.declares ⟨"java/lang/Throwable", "<init>", "(Ljava/lang/String;)V"⟩))), List.forall_mem_cons.mpr ⟨va_Nw.of (zxw_tab _ (List.mem_of_getElem? (i := 7) rfl)) (hix 61 _ (by decide +kernel : lw_tbl[61]? = some (Cond.methodLinkNest "Pointsbook" 41 ⟨"Pointsbook$Sales", "<init>", "()V"⟩ "Pointsbook"))), List.forall_mem_cons.mpr ⟨va_Nw.of (zxw_tab _ (List.mem_of_getElem? (i := 8) rfl)) (hix 83 _ (by decide +kernel : lw_tbl[83]? = some (Cond.methodLinkNest "Pointsbook" 87 ⟨"Pointsbook$Good", "<init>", "()V"⟩ "Pointsbook"))), List.forall_mem_cons.mpr ⟨va_Nw.of (zxw_tab _ (List.mem_of_getElem? (i := 9) rfl)) (hix 442 _ (by decide +kernel : lw_tbl[442]? = some (Cond.methodLinkNest "Pointsbook$Shop" 25 ⟨"Pointsbook$Shelf", "<init>", "()V"⟩ "Pointsbook"))), fun _ h => (nomatch h)⟩⟩⟩⟩⟩⟩⟩⟩⟩⟩
  · exact va_Nc.of (hs (.not (.castable "java/lang/IllegalArgumentException" "java/lang/IndexOutOfBoundsException")) (by decide +kernel))
  · exact va_Nc.of (hs (.not (.castable "java/lang/IllegalStateException" "java/lang/IndexOutOfBoundsException")) (by decide +kernel))
  · exact va_Nc.of (hs (.not (.castable "java/lang/IllegalStateException" "java/lang/IllegalArgumentException")) (by decide +kernel))
  · obtain ⟨qt, hq1, hq2⟩ := va_Tof (tm := .static "Pointsbook" "QUARTERS" "[I") (ty := .int) (N := 4) (f := fun j => .int (zqu j)) (A := fun q : Nat => s.heap.size ≤ q) (by decide) (hs (.arrayOf (.static "Pointsbook" "QUARTERS" "[I") .int) (by decide +kernel)) (va_eqt (hs (.eq (.length (.static "Pointsbook" "QUARTERS" "[I")) (.int 4)) (by decide +kernel))) (fun j hj => by
      rcases (show j = 0 ∨ j = 1 ∨ j = 2 ∨ j = 3 by omega) with rfl | rfl | rfl | rfl
      · exact va_eqt (hs (.eq (.elem (.static "Pointsbook" "QUARTERS" "[I") (.int 0)) (.int 2)) (by decide +kernel))
      · exact va_eqt (hs (.eq (.elem (.static "Pointsbook" "QUARTERS" "[I") (.int 1)) (.int 4)) (by decide +kernel))
      · exact va_eqt (hs (.eq (.elem (.static "Pointsbook" "QUARTERS" "[I") (.int 2)) (.int 6)) (by decide +kernel))
      · exact va_eqt (hs (.eq (.elem (.static "Pointsbook" "QUARTERS" "[I") (.int 3)) (.int 5)) (by decide +kernel))) hA
    exact ⟨qt, va_Zof (hix 402 (.laysStatic "Pointsbook" "QUARTERS" "[I") (by decide +kernel)) (hix 26 (.initialized "Pointsbook") (by decide +kernel)) hq1 hA, hq2⟩
