theorem eX7_shop_15 : decode cX7_shop 15 = .ok (.aload_n 0, 1) := by decide +kernel
theorem eX7_shop_16 : decode cX7_shop 16 = .ok (.getfield 29, 3) := by decide +kernel
theorem eX7_shop_19 : decode cX7_shop 19 = .ok (.aload_n 0, 1) := by decide +kernel
theorem eX7_shop_20 : decode cX7_shop 20 = .ok (.getfield 57, 3) := by decide +kernel
theorem eX7_shop_23 : decode cX7_shop 23 = .ok (.new 27, 3) := by decide +kernel
theorem eX7_shop_26 : decode cX7_shop 26 = .ok (.dup, 1) := by decide +kernel
theorem eX7_shop_27 : decode cX7_shop 27 = .ok (.aload_n 0, 1) := by decide +kernel
theorem eX7_shop_28 : decode cX7_shop 28 = .ok (.getfield 57, 3) := by decide +kernel
theorem eX7_shop_31 : decode cX7_shop 31 = .ok (.aload_n 2, 1) := by decide +kernel
theorem eX7_shop_32 : decode cX7_shop 32 = .ok (.invokespecial 213, 3) := by decide +kernel
theorem eX7_shop_35 : decode cX7_shop 35 = .ok (.aastore, 1) := by decide +kernel
theorem eX7_shop_36 : decode cX7_shop 36 = .ok (.aload_n 0, 1) := by decide +kernel
theorem eX7_shop_37 : decode cX7_shop 37 = .ok (.dup, 1) := by decide +kernel
theorem eX7_shop_38 : decode cX7_shop 38 = .ok (.getfield 57, 3) := by decide +kernel
theorem eX7_shop_41 : decode cX7_shop 41 = .ok (.iconst 1, 1) := by decide +kernel
theorem eX7_shop_42 : decode cX7_shop 42 = .ok (.iadd, 1) := by decide +kernel
theorem eX7_shop_43 : decode cX7_shop 43 = .ok (.putfield 57, 3) := by decide +kernel
set_option maxHeartbeats 4000000 in
set_option maxRecDepth 20000 in
theorem zgo_S {X : ZX} {kk : ZP} (C : zCx X cX7_shop RX7 (some .int) 7 111 9 51) (hk : ZOK (zXc X (X.ce + 8) (X.sl + 45)) 46 kk) {L : List (Option ZV)} {S : ZS} {ad : ZA} {H : Heap} {locs : List Loc} {ls : Array Slot} {j : Nat} (hP : kk L [] (zgrS S j) X.K) (hin : vp_in (S 7 0 9) 6) (g0 : ls[0]? = some (.val (.ref (ad 7 0)))) (g2 : ls[2]? = some (.val (.ref (ad 0 j)))) (hj : j < nD S) (hW : zW X.g ad S H) (hM : zMono X.S0 S) (hE : zExt X.S0 X.ad ad) (hS : va_S (zAA X.g) X.s.heap H locs) (hL : zLR ad S ls X.nL L) : zGo X H locs (F0 X.m 15 ls []) := by
  have hce := C.hce
  have hsl := C.hsl
  have hF := C.hF
  have hLo := C.hLo
  obtain ⟨hnv, hnl⟩ : S 7 0 9 = nI (nS S) ∧ nS S < 6 := by
    obtain ⟨n, h1, h2⟩ := vp_in_of hin (by decide)
    have h3 : nS S = n := by
      show (S 7 0 9).toNatClampNeg = n
      rw [h2]
      exact nI_clamp (by omega)
    rw [h3]
    exact ⟨h2, h1⟩
  have l7 : zlv S 7 0 := ⟨by decide, rfl⟩
  have lA : zlv S 19 0 := ⟨by decide, rfl⟩
  have hb : X.g.2.2 ≤ H.size := Nat.le_trans C.hE.1.1 hS.1
  have h7 := hW.ob l7 (by decide)
  refine lv_aload_n C.hx C.hb eX7_shop_15 rfl g0 ?_
  refine zr_gf (v := .ref (ad 19 0)) C zK7 (f := 3) (by decide) zv_111 rfl h7 rfl eX7_shop_16 ?_
  refine lv_aload_n C.hx C.hb eX7_shop_19 rfl g0 ?_
  refine zr_gf (v := .int (S 7 0 9)) C zK7 (f := 9) (by decide) zv_117 rfl h7 rfl eX7_shop_20 ?_
  refine zr_new (fs := [.int 0, .null, .null]) C.hx C.hb C.hw C.hown C.hE zK6 zv_55 zu_434 zu_35 (fun j hj => by rcases (show j = 0 ∨ j = 1 ∨ j = 2 by omega) with rfl | rfl | rfl <;> rfl) (by omega) (by omega) eX7_shop_23 (fun H1 hat z1 o1 => ?_)
  have hW1 := hW.kept o1
  have h71 := hW1.ob l7 (by decide)
  have hS1 : va_S (zAA X.g) X.s.heap H1 locs := ⟨Nat.le_trans hS.1 (by omega), fun q h1 h2 => (o1 q (Nat.lt_of_lt_of_le h1 hS.1)).trans (hS.2.1 q h1 h2), hS.2.2⟩
  refine lv_dup C.hx C.hb eX7_shop_26 rfl ?_
  refine lv_aload_n C.hx C.hb eX7_shop_27 rfl g0 ?_
  refine zr_gf (v := .int (S 7 0 9)) C zK7 (f := 9) (by decide) zv_117 rfl h71 rfl eX7_shop_28 ?_
  refine lv_aload_n C.hx C.hb eX7_shop_31 rfl g2 ?_
  refine zc_run (n := 2) (As := [.int (S 7 0 9), .ref (ad 0 j)]) (rest := [.ref H.size, .int (S 7 0 9), .ref (ad 19 0)]) C.B (zmk_X6 X.l X.g (S 7 0 9) (ad 0 j)) (Or.inl zu_435) zu_437 zu_35 zu_436 rfl ⟨by decide +kernel, by decide +kernel, by decide +kernel⟩ rfl ⟨rfl, rfl⟩ ⟨by show 2 + 1 ≤ _; omega, by show 8 + (4 + 11) + 32 ≤ _; omega⟩ (by omega) (by omega) hat hS1 hb hL.1 (Nat.le_of_ble_eq_true rfl) eX7_shop_32 (fun qs H2 locs2 hP2 hD2 z2 o2 hS2 => ?_)
  have o12 : ∀ q, q < H.size → H2[q]? = H[q]? := fun q hq => (o2 q (by omega) (by omega)).trans (o1 q hq)
  have hW2 := hW.kept o12
  refine zr_ast (t0 := 7) (n := 6) (ci := 6) (r := (RX6, TX6, 3)) (f := fun j => if j < nS S then some (ad 6 j) else none) C.hx C.hb C.hE (hW2.at (by decide) lA) rfl (hP2 0 _ rfl) rfl hin eX7_shop_35 (fun H3 j3 hat3 z3 o3 => ?_)
  have hne : ad 7 0 ≠ ad 19 0 := fun e => by have := (hW.2.1 7 0 19 0 (by decide) (by decide) l7 lA e).1; omega
  have h73 : va_at X.g.1 vwCl (ad 7 0, .inr (7, zobj ad (S 7 0) 7 0)) H3 := (hW2.ob l7 (by decide)).kept (o3 _ hne)
  refine lv_aload_n C.hx C.hb eX7_shop_36 rfl g0 ?_
  refine lv_dup C.hx C.hb eX7_shop_37 rfl ?_
  refine zr_gf (v := .int (S 7 0 9)) C zK7 (f := 9) (by decide) zv_117 rfl h73 rfl eX7_shop_38 ?_
  refine lv_iconst (v := 1) C.hx C.hb eX7_shop_41 (by decide) ?_
  refine lv_iadd C.hx C.hb eX7_shop_42 ?_
  have hv1 : S 7 0 9 + 1 = nI (nS S + 1) := by rw [hnv]; exact nI_add (nS S) 1
  rw [hv1]
  refine zput_raw (X := zXc X (X.ce + 1 + 7) (X.sl + 3 + 42)) (D := X.g.1) (ci := 7) (ty := .int) (C := RX7) (T := TX7) (N := 19) C.hx C.hb C.hw zK7.2.1 tyX7 tyX7_ok nmX7 C.hown C.hE.2.1 h73 rfl 9 (by decide) (C.hw _ zv_117) (fun x hx => hx) rfl (tyX7_ok 9 (by decide)) rfl rfl (by rw [zobj_len]; decide) eX7_shop_43 (fun H4 j4 hat4 z4 o4 => ?_)
  have hold4 : ∀ q, q < H.size → q ≠ ad 19 0 → q ≠ ad 7 0 → H4[q]? = H[q]? := fun q h1 h2 h3 => (o4 q h3).trans ((o3 q h2).trans (o12 q h1))
  have hlt7 := (hW.1 7 0 (by decide) l7).lt
  have hltA := (hW.1 19 0 (by decide) lA).lt
  have hn4 : ∀ q, H.size ≤ q → H4[q]? = H2[q]? := fun q hq => (o4 q (fun e => by rw [e] at hq; exact absurd hlt7 (Nat.not_lt.mpr hq))).trans (o3 q (fun e => by rw [e] at hq; exact absurd hltA (Nat.not_lt.mpr hq)))
  have hge : ∀ q, va_A [(H.size, .inr (6, [.int 0, .null, .null]))] H1.size q → H.size ≤ q := fun q h => by
    rcases h with ⟨k9, e9, h⟩ | h
    · have h1 : k9 < 1 := (List.getElem?_eq_some_iff.mp h).1
      cases (show k9 = 0 by omega)
      cases h
      exact Nat.le_refl _
    · omega
  obtain ⟨ad', had⟩ : ∃ ad' : ZA, ad' = fun k i => if k = 6 ∧ i = nS S then H.size else if k = 21 ∧ i = nS S then qs.getD 0 0 else if k = 5 ∧ 6 * nS S ≤ i then qs.getD (i - 6 * nS S + 1) 0 else ad k i := ⟨_, rfl⟩
  have a_o : ad' 6 (nS S) = H.size := by rw [had]; exact if_pos ⟨rfl, rfl⟩
  have a_q : ad' 21 (nS S) = qs.getD 0 0 := by rw [had]; exact (if_neg (by omega)).trans (if_pos ⟨rfl, rfl⟩)
  have a_s : ∀ t, ad' 5 (6 * nS S + t) = qs.getD (t + 1) 0 := fun t => by
    rw [had]
    refine (if_neg (by omega)).trans ((if_neg (by omega)).trans ((if_pos ⟨rfl, by omega⟩).trans ?_))
    rw [show 6 * nS S + t - 6 * nS S = t by omega]
  have hE' : zExt S ad ad' := fun k i hl => by
    rw [had]
    have h1 : ¬ (k = 6 ∧ i = nS S) := by rintro ⟨rfl, rfl⟩; exact absurd (show nS S < nS S from hl) (Nat.lt_irrefl _)
    have h2 : ¬ (k = 21 ∧ i = nS S) := by rintro ⟨rfl, rfl⟩; exact absurd (show nS S < nS S from hl) (Nat.lt_irrefl _)
    have h3 : ¬ (k = 5 ∧ 6 * nS S ≤ i) := by rintro ⟨rfl, h⟩; exact absurd (show i < 6 * nS S from hl) (Nat.not_lt.mpr h)
    exact (if_neg h1).trans ((if_neg h2).trans (if_neg h3))
  have hS7 : zgrS S j 7 0 = fun f => if f = 9 then nI (nS S + 1) else S 7 0 f := zgr7 (by decide) (fun i => rfl)
  have c_nD : nD (zgrS S j) = nD S := by
    show (zgrS S j 7 0 8).toNatClampNeg = _
    rw [hS7]
    rfl
  have c_nP : nP (zgrS S j) = nP S := by
    show (zgrS S j 7 0 7).toNatClampNeg = _
    rw [hS7]
    rfl
  have c_nS : nS (zgrS S j) = nS S + 1 := by
    show (zgrS S j 7 0 9).toNatClampNeg = _
    rw [hS7]
    exact nI_clamp (by omega)
  have c_nF : nF (zgrS S j) = nF S := by
    show (zgrS S j 7 0 10).toNatClampNeg = _
    rw [hS7]
    rfl
  have hs' : ∀ k i, zlv S k i → k ≠ 7 → zgrS S j k i = S k i := fun k i hl h7 => zgr_same (by rintro ⟨rfl, rfl⟩; exact absurd (show nS S < nS S from hl) (Nat.lt_irrefl _)) (fun h => h7 h.1) (by
    rw [Bool.eq_false_iff]
    intro h
    obtain ⟨h1, h2⟩ := (Bool.and_eq_true _ _).mp h
    cases Nat.eq_of_beq_eq_true h1
    have h3 := Nat.le_of_ble_eq_true ((Bool.and_eq_true _ _).mp h2).1
    exact absurd (show i < 6 * nS S from hl) (Nat.not_lt.mpr h3))
  have hz5 : ∀ t, t < 6 → zgrS S j 5 (6 * nS S + t) = fun _ => 0 := fun t ht => zgr_sub (by omega) (by decide) (by
    show (Nat.beq 5 5 && (Nat.ble (6 * nS S) (6 * nS S + t) && Nat.ble (6 * nS S + t) (6 * nS S + 5))) = true
    rw [zble_t (a := 6 * nS S) (b := 6 * nS S + t) (by omega), zble_t (a := 6 * nS S + t) (b := 6 * nS S + 5) (by omega)]
    rfl)
  have hwf : zWF (zgrS S j) := by
    obtain ⟨w1, w2, w3, w4⟩ := hW.2.2.2
    refine ⟨fun i hi => ?_, fun i hi => ?_, fun i hi => ?_, fun i hi => ?_⟩
    · rw [c_nD] at hi; rw [hs' 0 i hi (by decide)]; exact w1 i hi
    · rw [c_nF] at hi; rw [hs' 1 i hi (by decide), c_nD]; exact w2 i hi
    · rw [c_nP] at hi
      rw [hs' 3 i hi (by decide), c_nS]
      exact ⟨Nat.lt_succ_of_lt (w3 i hi).1, Nat.lt_succ_of_lt (w3 i hi).2⟩
    · rw [c_nS] at hi
      rw [c_nD]
      by_cases e : i = nS S
      · subst e
        rw [show zgrS S j 6 (nS S) = zFS (nS S) j from zgr_new]
        show (nI j).toNatClampNeg < nD S
        rw [nI_clamp (Nat.lt_trans hj (zn_lt _))]
        exact hj
      · have hi2 : i < nS S := by omega
        rw [hs' 6 i hi2 (by decide)]
        exact w4 i hi2
  have hM' : zMono S (zgrS S j) := ⟨by omega, by omega, by omega, by omega⟩
  have hW' : zW X.g ad' (zgrS S j) H4 := by
    refine hW.grown hb hE' hwf (hs' 23 0 rfl (by decide)) (hold4 _ (hW.1 23 0 (by decide) rfl).lt (fun e => absurd (hW.2.1 23 0 19 0 (by decide) (by decide) rfl lA e).1 (by decide)) (fun e => absurd (hW.2.1 23 0 7 0 (by decide) (by decide) rfl l7 e).1 (by decide))) (fun k i hk h23 hl => ?_) (fun k i hk hl hno => ?_) (fun k i k' i' hk hk' hl hno hl' hno' e => ?_)
    · by_cases k7 : k = 7
      · subst k7
        have hi : i = 0 := hl.2
        subst hi
        rw [zcon_ob (by decide), hS7]
        have e7 : zobj ad' (fun f => if f = 9 then nI (nS S + 1) else S 7 0 f) 7 0 = (zobj ad (S 7 0) 7 0).set 9 (.int (nI (nS S + 1))) := by
          rw [zobj_set ad' (S 7 0) 7 0 9 (nI (nS S + 1)) (by decide) (.inl (nI (nS S + 1))) rfl, zobj_ext hW.2.2.2 hE' l7 (by decide)]
          rfl
        rw [e7]
        exact hat4
      · by_cases kA : k = 19
        · subst kA
          have hi : i = 0 := hl.2
          subst hi
          refine va_at_q (f := va_up (fun j => if j < nS S then some (ad 6 j) else none) (S 7 0 9).toNatClampNeg (some H.size)) (hat3.kept (o4 _ (Ne.symm hne))) (fun t ht => ?_)
          show (if t < nS (zgrS S j) then some (ad' 6 t) else none) = if t = nS S then some H.size else if t < nS S then some (ad 6 t) else none
          rw [c_nS]
          by_cases e : t = nS S
          · rw [if_pos e, if_pos (by omega), e, a_o]
          · by_cases e2 : t < nS S
            · rw [if_neg e, if_pos e2, if_pos (by omega), hE' 6 t e2]
            · rw [if_neg e, if_neg e2, if_neg (by omega)]
        · refine zcon_old hW hE' hk h23 hl (hs' k i hl k7) (fun _ => c_nP) (fun _ => c_nD) (fun e => absurd e kA) (fun _ => c_nF) (hold4 _ (hW.1 k i hk hl).lt (fun e => kA (hW.2.1 k i 19 0 hk (by decide) hl lA e).1) (fun e => k7 (hW.2.1 k i 7 0 hk (by decide) hl l7 e).1))
    · have hc : (k = 6 ∧ i = nS S) ∨ (k = 21 ∧ i = nS S) ∨ (k = 5 ∧ i = 6 * nS S + 0) ∨ (k = 5 ∧ i = 6 * nS S + 1) ∨ (k = 5 ∧ i = 6 * nS S + 2) ∨ (k = 5 ∧ i = 6 * nS S + 3) ∨ (k = 5 ∧ i = 6 * nS S + 4) ∨ (k = 5 ∧ i = 6 * nS S + 5) := zlv_newS hk hl hno c_nD c_nP c_nS c_nF
      rcases hc with ⟨rfl, rfl⟩ | ⟨rfl, rfl⟩ | ⟨rfl, rfl⟩ | ⟨rfl, rfl⟩ | ⟨rfl, rfl⟩ | ⟨rfl, rfl⟩ | ⟨rfl, rfl⟩ | ⟨rfl, rfl⟩
      · rw [a_o]
        refine ⟨?_, Nat.le_refl _⟩
        rw [zcon_ob (by decide), show zgrS S j 6 (nS S) = zFS (nS S) j from zgr_new]
        have e : zobj ad' (zFS (nS S) j) 6 (nS S) = [.int (nI (nS S)), .ref (ad' 0 (nI j).toNatClampNeg), .ref (ad' 21 (nS S))] := rfl
        rw [e, nI_clamp (Nat.lt_trans hj (zn_lt _)), hE' 0 j hj, a_q, ← hnv]
        exact (hP2 0 _ rfl).kept (hn4 _ (Nat.le_refl _))
      · have hq := hge _ (hD2.2 1 _ rfl)
        rw [a_q]
        refine ⟨?_, hq⟩
        refine va_at_q ((hP2 1 _ rfl).kept (hn4 _ hq)) (fun t ht => ?_)
        show some (ad' 5 (6 * nS S + t)) = _
        rw [a_s t]
        rcases (show t = 0 ∨ t = 1 ∨ t = 2 ∨ t = 3 ∨ t = 4 ∨ t = 5 by omega) with rfl | rfl | rfl | rfl | rfl | rfl <;> rfl
      · have hq := hge _ (hD2.2 2 _ rfl)
        rw [a_s 0]
        refine ⟨?_, hq⟩
        rw [zcon_ob (by decide), hz5 0 (by decide)]
        exact (hP2 2 _ rfl).kept (hn4 _ hq)
      · have hq := hge _ (hD2.2 3 _ rfl)
        rw [a_s 1]
        refine ⟨?_, hq⟩
        rw [zcon_ob (by decide), hz5 1 (by decide)]
        exact (hP2 3 _ rfl).kept (hn4 _ hq)
      · have hq := hge _ (hD2.2 4 _ rfl)
        rw [a_s 2]
        refine ⟨?_, hq⟩
        rw [zcon_ob (by decide), hz5 2 (by decide)]
        exact (hP2 4 _ rfl).kept (hn4 _ hq)
      · have hq := hge _ (hD2.2 5 _ rfl)
        rw [a_s 3]
        refine ⟨?_, hq⟩
        rw [zcon_ob (by decide), hz5 3 (by decide)]
        exact (hP2 5 _ rfl).kept (hn4 _ hq)
      · have hq := hge _ (hD2.2 6 _ rfl)
        rw [a_s 4]
        refine ⟨?_, hq⟩
        rw [zcon_ob (by decide), hz5 4 (by decide)]
        exact (hP2 6 _ rfl).kept (hn4 _ hq)
      · have hq := hge _ (hD2.2 7 _ rfl)
        rw [a_s 5]
        refine ⟨?_, hq⟩
        rw [zcon_ob (by decide), hz5 5 (by decide)]
        exact (hP2 7 _ rfl).kept (hn4 _ hq)
    · have hc : (k = 6 ∧ i = nS S) ∨ (k = 21 ∧ i = nS S) ∨ (k = 5 ∧ i = 6 * nS S + 0) ∨ (k = 5 ∧ i = 6 * nS S + 1) ∨ (k = 5 ∧ i = 6 * nS S + 2) ∨ (k = 5 ∧ i = 6 * nS S + 3) ∨ (k = 5 ∧ i = 6 * nS S + 4) ∨ (k = 5 ∧ i = 6 * nS S + 5) := zlv_newS hk hl hno c_nD c_nP c_nS c_nF
      have hc' : (k' = 6 ∧ i' = nS S) ∨ (k' = 21 ∧ i' = nS S) ∨ (k' = 5 ∧ i' = 6 * nS S + 0) ∨ (k' = 5 ∧ i' = 6 * nS S + 1) ∨ (k' = 5 ∧ i' = 6 * nS S + 2) ∨ (k' = 5 ∧ i' = 6 * nS S + 3) ∨ (k' = 5 ∧ i' = 6 * nS S + 4) ∨ (k' = 5 ∧ i' = 6 * nS S + 5) := zlv_newS hk' hl' hno' c_nD c_nP c_nS c_nF
      have pos : ∀ k i, ((k = 6 ∧ i = nS S) ∨ (k = 21 ∧ i = nS S) ∨ (k = 5 ∧ i = 6 * nS S + 0) ∨ (k = 5 ∧ i = 6 * nS S + 1) ∨ (k = 5 ∧ i = 6 * nS S + 2) ∨ (k = 5 ∧ i = 6 * nS S + 3) ∨ (k = 5 ∧ i = 6 * nS S + 4) ∨ (k = 5 ∧ i = 6 * nS S + 5)) → ∃ (p : Nat) (c9 : va_E), (w_X6 X.g (S 7 0 9) (ad 0 j) H.size qs)[p]? = some (ad' k i, c9) ∧ p < 8 ∧ k = (if p = 0 then 6 else if p = 1 then 21 else 5) ∧ i = (if p = 0 then nS S else if p = 1 then nS S else 6 * nS S + (p - 2)) := fun k i h => by
        rcases h with ⟨rfl, rfl⟩ | ⟨rfl, rfl⟩ | ⟨rfl, rfl⟩ | ⟨rfl, rfl⟩ | ⟨rfl, rfl⟩ | ⟨rfl, rfl⟩ | ⟨rfl, rfl⟩ | ⟨rfl, rfl⟩
        · rw [a_o]; exact ⟨0, _, rfl, by decide, rfl, rfl⟩
        · rw [a_q]; exact ⟨1, _, rfl, by decide, rfl, rfl⟩
        · rw [a_s 0]; exact ⟨2, _, rfl, by decide, rfl, rfl⟩
        · rw [a_s 1]; exact ⟨3, _, rfl, by decide, rfl, rfl⟩
        · rw [a_s 2]; exact ⟨4, _, rfl, by decide, rfl, rfl⟩
        · rw [a_s 3]; exact ⟨5, _, rfl, by decide, rfl, rfl⟩
        · rw [a_s 4]; exact ⟨6, _, rfl, by decide, rfl, rfl⟩
        · rw [a_s 5]; exact ⟨7, _, rfl, by decide, rfl, rfl⟩
      obtain ⟨p, c9, p1, p2, p3, p4⟩ := pos k i hc
      obtain ⟨p', c9', p1', p2', p3', p4'⟩ := pos k' i' hc'
      have hpp := hD2.1 p p' _ _ p1 p1' e
      subst hpp
      exact ⟨p3.trans p3'.symm, p4.trans p4'.symm⟩
  exact hk L [] (zgrS S j) ad' H4 _ ls hP hW' (hM.tr hM') (hE.tr hM hE') ((hS2.put z3 o3 (hW.2.2.1 19 0 (by decide) lA)).put z4 o4 (hW.2.2.1 7 0 (by decide) l7)) (hL.ext hM' hE') trivial
