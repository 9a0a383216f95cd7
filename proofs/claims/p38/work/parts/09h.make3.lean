theorem eX7_farm_29 : decode cX7_farm 29 = .ok (.aload_n 0, 1) := by decide +kernel
theorem eX7_farm_30 : decode cX7_farm 30 = .ok (.getfield 35, 3) := by decide +kernel
theorem eX7_farm_33 : decode cX7_farm 33 = .ok (.aload_n 0, 1) := by decide +kernel
theorem eX7_farm_34 : decode cX7_farm 34 = .ok (.getfield 60, 3) := by decide +kernel
theorem eX7_farm_37 : decode cX7_farm 37 = .ok (.new 33, 3) := by decide +kernel
theorem eX7_farm_40 : decode cX7_farm 40 = .ok (.dup, 1) := by decide +kernel
theorem eX7_farm_41 : decode cX7_farm 41 = .ok (.aload 4, 2) := by decide +kernel
theorem eX7_farm_43 : decode cX7_farm 43 = .ok (.iload_n 2, 1) := by decide +kernel
theorem eX7_farm_44 : decode cX7_farm 44 = .ok (.iload_n 3, 1) := by decide +kernel
theorem eX7_farm_45 : decode cX7_farm 45 = .ok (.invokespecial 285, 3) := by decide +kernel
theorem eX7_farm_48 : decode cX7_farm 48 = .ok (.aastore, 1) := by decide +kernel
theorem eX7_farm_49 : decode cX7_farm 49 = .ok (.aload_n 0, 1) := by decide +kernel
theorem eX7_farm_50 : decode cX7_farm 50 = .ok (.dup, 1) := by decide +kernel
theorem eX7_farm_51 : decode cX7_farm 51 = .ok (.getfield 60, 3) := by decide +kernel
theorem eX7_farm_54 : decode cX7_farm 54 = .ok (.iconst 1, 1) := by decide +kernel
theorem eX7_farm_55 : decode cX7_farm 55 = .ok (.iadd, 1) := by decide +kernel
theorem eX7_farm_56 : decode cX7_farm 56 = .ok (.putfield 60, 3) := by decide +kernel
set_option maxHeartbeats 4000000 in
set_option maxRecDepth 20000 in
theorem zgo_F {X : ZX} {kk : ZP} (C : zCx X cX7_farm RX7 (some .int) 7 112 2 11) (hk : ZOK (zXc X (X.ce + 1) (X.sl + 5)) 59 kk) {L : List (Option ZV)} {S : ZS} {ad : ZA} {H : Heap} {locs : List Loc} {ls : Array Slot} {j : Nat} {gd qt : Int32} (hP : kk L [] (zgrF S j gd qt) X.K) (hin : vp_in (S 7 0 10) 6) (g0 : ls[0]? = some (.val (.ref (ad 7 0)))) (g4 : ls[4]? = some (.val (.ref (ad 0 j)))) (g2 : ls[2]? = some (.val (.int gd))) (g3 : ls[3]? = some (.val (.int qt))) (hj : j < nD S) (hW : zW X.g ad S H) (hM : zMono X.S0 S) (hE : zExt X.S0 X.ad ad) (hS : va_S (zAA X.g) X.s.heap H locs) (hL : zLR ad S ls X.nL L) : zGo X H locs (F0 X.m 29 ls []) := by
  have hce := C.hce
  have hsl := C.hsl
  have hF := C.hF
  have hLo := C.hLo
  obtain ⟨hnv, hnl⟩ : S 7 0 10 = nI (nF S) ∧ nF S < 6 := by
    obtain ⟨n, h1, h2⟩ := vp_in_of hin (by decide)
    have h3 : nF S = n := by
      show (S 7 0 10).toNatClampNeg = n
      rw [h2]
      exact nI_clamp (by omega)
    rw [h3]
    exact ⟨h2, h1⟩
  have l7 : zlv S 7 0 := ⟨by decide, rfl⟩
  have lA : zlv S 20 0 := ⟨by decide, rfl⟩
  have hb : X.g.2.2 ≤ H.size := Nat.le_trans C.hE.1.1 hS.1
  have h7 := hW.ob l7 (by decide)
  refine lv_aload_n C.hx C.hb eX7_farm_29 rfl g0 ?_
  refine zr_gf (v := .ref (ad 20 0)) C zK7 (f := 4) (by decide) zv_112 rfl h7 rfl eX7_farm_30 ?_
  refine lv_aload_n C.hx C.hb eX7_farm_33 rfl g0 ?_
  refine zr_gf (v := .int (S 7 0 10)) C zK7 (f := 10) (by decide) zv_118 rfl h7 rfl eX7_farm_34 ?_
  refine zr_new (fs := [.null, .int 0, .int 0, .int 0, .int 0]) C.hx C.hb C.hw C.hown C.hE zK1 zv_57 zu_520 zu_39 (fun j hj => by rcases (show j = 0 ∨ j = 1 ∨ j = 2 ∨ j = 3 ∨ j = 4 by omega) with rfl | rfl | rfl | rfl | rfl <;> rfl) (by omega) (by omega) eX7_farm_37 (fun H1 hat z1 o1 => ?_)
  have hW1 := hW.kept o1
  have h71 := hW1.ob l7 (by decide)
  have hS1 : va_S (zAA X.g) X.s.heap H1 locs := ⟨Nat.le_trans hS.1 (by omega), fun q h1 h2 => (o1 q (Nat.lt_of_lt_of_le h1 hS.1)).trans (hS.2.1 q h1 h2), hS.2.2⟩
  refine lv_dup C.hx C.hb eX7_farm_40 rfl ?_
  refine lv_aload C.hx C.hb eX7_farm_41 g4 ?_
  refine lv_iload_n C.hx C.hb eX7_farm_43 rfl g2 ?_
  refine lv_iload_n C.hx C.hb eX7_farm_44 rfl g3 ?_
  refine zc_run (n := 3) (As := [.ref (ad 0 j), .int gd, .int qt]) (rest := [.ref H.size, .int (S 7 0 10), .ref (ad 20 0)]) C.B (zmk_X1 X.l X.g (ad 0 j) gd qt) (Or.inl zu_521) zu_523 zu_39 zu_522 rfl ⟨by decide +kernel, by decide +kernel, by decide +kernel⟩ rfl ⟨rfl, rfl⟩ ⟨by show 1 + 1 ≤ _; omega, by show 8 + (4 + 11) + 12 ≤ _; omega⟩ (by omega) (by omega) hat hS1 hb hL.1 (Nat.le_of_ble_eq_true rfl) eX7_farm_45 (fun qs H2 locs2 hP2 hD2 z2 o2 hS2 => ?_)
  have o12 : ∀ q, q < H.size → H2[q]? = H[q]? := fun q hq => (o2 q (by omega) (by omega)).trans (o1 q hq)
  have hW2 := hW.kept o12
  refine zr_ast (t0 := 3) (n := 6) (ci := 1) (r := (RX1, TX1, 5)) (f := fun j => if j < nF S then some (ad 1 j) else none) C.hx C.hb C.hE (hW2.at (by decide) lA) rfl (hP2 0 _ rfl) rfl hin eX7_farm_48 (fun H3 j3 hat3 z3 o3 => ?_)
  have hne : ad 7 0 ≠ ad 20 0 := fun e => by have := (hW.2.1 7 0 20 0 (by decide) (by decide) l7 lA e).1; omega
  have h73 : va_at X.g.1 vwCl (ad 7 0, .inr (7, zobj ad (S 7 0) 7 0)) H3 := (hW2.ob l7 (by decide)).kept (o3 _ hne)
  refine lv_aload_n C.hx C.hb eX7_farm_49 rfl g0 ?_
  refine lv_dup C.hx C.hb eX7_farm_50 rfl ?_
  refine zr_gf (v := .int (S 7 0 10)) C zK7 (f := 10) (by decide) zv_118 rfl h73 rfl eX7_farm_51 ?_
  refine lv_iconst (v := 1) C.hx C.hb eX7_farm_54 (by decide) ?_
  refine lv_iadd C.hx C.hb eX7_farm_55 ?_
  have hv1 : S 7 0 10 + 1 = nI (nF S + 1) := by rw [hnv]; exact nI_add (nF S) 1
  rw [hv1]
  refine zput_raw (X := zXc X (X.ce + 1 + 0) (X.sl + 5 + 0)) (D := X.g.1) (ci := 7) (ty := .int) (C := RX7) (T := TX7) (N := 19) C.hx C.hb C.hw zK7.2.1 tyX7 tyX7_ok nmX7 C.hown C.hE.2.1 h73 rfl 10 (by decide) (C.hw _ zv_118) (fun x hx => hx) rfl (tyX7_ok 10 (by decide)) rfl rfl (by rw [zobj_len]; decide) eX7_farm_56 (fun H4 j4 hat4 z4 o4 => ?_)
  have hold4 : ∀ q, q < H.size → q ≠ ad 20 0 → q ≠ ad 7 0 → H4[q]? = H[q]? := fun q h1 h2 h3 => (o4 q h3).trans ((o3 q h2).trans (o12 q h1))
  have hlt7 := (hW.1 7 0 (by decide) l7).lt
  have hltA := (hW.1 20 0 (by decide) lA).lt
  have hn4 : ∀ q, H.size ≤ q → H4[q]? = H2[q]? := fun q hq => (o4 q (fun e => by rw [e] at hq; exact absurd hlt7 (Nat.not_lt.mpr hq))).trans (o3 q (fun e => by rw [e] at hq; exact absurd hltA (Nat.not_lt.mpr hq)))
  have hge : ∀ q, va_A [(H.size, .inr (1, [.null, .int 0, .int 0, .int 0, .int 0]))] H1.size q → H.size ≤ q := fun q h => by
    rcases h with ⟨k9, e9, h⟩ | h
    · have h1 : k9 < 1 := (List.getElem?_eq_some_iff.mp h).1
      cases (show k9 = 0 by omega)
      cases h
      exact Nat.le_refl _
    · omega
  obtain ⟨ad', had⟩ : ∃ ad' : ZA, ad' = fun k i => if k = 1 ∧ i = nF S then H.size else ad k i := ⟨_, rfl⟩
  have a_o : ad' 1 (nF S) = H.size := by rw [had]; exact if_pos ⟨rfl, rfl⟩
  have hE' : zExt S ad ad' := fun k i hl => by
    rw [had]
    have h1 : ¬ (k = 1 ∧ i = nF S) := by rintro ⟨rfl, rfl⟩; exact absurd (show nF S < nF S from hl) (Nat.lt_irrefl _)
    exact if_neg h1
  have hS7 : zgrF S j gd qt 7 0 = fun f => if f = 10 then nI (nF S + 1) else S 7 0 f := zgr7 (by decide) (fun i => rfl)
  have c_nD : nD (zgrF S j gd qt) = nD S := by
    show (zgrF S j gd qt 7 0 8).toNatClampNeg = _
    rw [hS7]
    rfl
  have c_nP : nP (zgrF S j gd qt) = nP S := by
    show (zgrF S j gd qt 7 0 7).toNatClampNeg = _
    rw [hS7]
    rfl
  have c_nS : nS (zgrF S j gd qt) = nS S := by
    show (zgrF S j gd qt 7 0 9).toNatClampNeg = _
    rw [hS7]
    rfl
  have c_nF : nF (zgrF S j gd qt) = nF S + 1 := by
    show (zgrF S j gd qt 7 0 10).toNatClampNeg = _
    rw [hS7]
    exact nI_clamp (by omega)
  have hs' : ∀ k i, zlv S k i → k ≠ 7 → zgrF S j gd qt k i = S k i := fun k i hl h7 => zgr_same (by rintro ⟨rfl, rfl⟩; exact absurd (show nF S < nF S from hl) (Nat.lt_irrefl _)) (fun h => h7 h.1) rfl
  have hwf : zWF (zgrF S j gd qt) := by
    obtain ⟨w1, w2, w3, w4⟩ := hW.2.2.2
    refine ⟨fun i hi => ?_, fun i hi => ?_, fun i hi => ?_, fun i hi => ?_⟩
    · rw [c_nD] at hi; rw [hs' 0 i hi (by decide)]; exact w1 i hi
    · rw [c_nF] at hi
      rw [c_nD]
      by_cases e : i = nF S
      · subst e
        rw [show zgrF S j gd qt 1 (nF S) = zFF j gd qt from zgr_new]
        show (nI j).toNatClampNeg < nD S
        rw [nI_clamp (Nat.lt_trans hj (zn_lt _))]
        exact hj
      · have hi2 : i < nF S := by omega
        rw [hs' 1 i hi2 (by decide)]
        exact w2 i hi2
    · rw [c_nP] at hi; rw [hs' 3 i hi (by decide), c_nS]; exact w3 i hi
    · rw [c_nS] at hi; rw [hs' 6 i hi (by decide), c_nD]; exact w4 i hi
  have hM' : zMono S (zgrF S j gd qt) := ⟨by omega, by omega, by omega, by omega⟩
  have hW' : zW X.g ad' (zgrF S j gd qt) H4 := by
    refine hW.grown hb hE' hwf (hs' 23 0 rfl (by decide)) (hold4 _ (hW.1 23 0 (by decide) rfl).lt (fun e => absurd (hW.2.1 23 0 20 0 (by decide) (by decide) rfl lA e).1 (by decide)) (fun e => absurd (hW.2.1 23 0 7 0 (by decide) (by decide) rfl l7 e).1 (by decide))) (fun k i hk h23 hl => ?_) (fun k i hk hl hno => ?_) (fun k i k' i' hk hk' hl hno hl' hno' e => ?_)
    · by_cases k7 : k = 7
      · subst k7
        have hi : i = 0 := hl.2
        subst hi
        rw [zcon_ob (by decide), hS7]
        have e7 : zobj ad' (fun f => if f = 10 then nI (nF S + 1) else S 7 0 f) 7 0 = (zobj ad (S 7 0) 7 0).set 10 (.int (nI (nF S + 1))) := by
          rw [zobj_set ad' (S 7 0) 7 0 10 (nI (nF S + 1)) (by decide) (.inl (nI (nF S + 1))) rfl, zobj_ext hW.2.2.2 hE' l7 (by decide)]
          rfl
        rw [e7]
        exact hat4
      · by_cases kA : k = 20
        · subst kA
          have hi : i = 0 := hl.2
          subst hi
          refine va_at_q (f := va_up (fun j => if j < nF S then some (ad 1 j) else none) (S 7 0 10).toNatClampNeg (some H.size)) (hat3.kept (o4 _ (Ne.symm hne))) (fun t ht => ?_)
          show (if t < nF (zgrF S j gd qt) then some (ad' 1 t) else none) = if t = nF S then some H.size else if t < nF S then some (ad 1 t) else none
          rw [c_nF]
          by_cases e : t = nF S
          · rw [if_pos e, if_pos (by omega), e, a_o]
          · by_cases e2 : t < nF S
            · rw [if_neg e, if_pos e2, if_pos (by omega), hE' 1 t e2]
            · rw [if_neg e, if_neg e2, if_neg (by omega)]
        · refine zcon_old hW hE' hk h23 hl (hs' k i hl k7) (fun _ => c_nP) (fun _ => c_nD) (fun _ => c_nS) (fun e => absurd e kA) (hold4 _ (hW.1 k i hk hl).lt (fun e => kA (hW.2.1 k i 20 0 hk (by decide) hl lA e).1) (fun e => k7 (hW.2.1 k i 7 0 hk (by decide) hl l7 e).1))
    · have hc : k = 1 ∧ i = nF S := zlv_newF hk hl hno c_nD c_nP c_nS c_nF
      obtain ⟨rfl, rfl⟩ := hc
      rw [a_o]
      refine ⟨?_, Nat.le_refl _⟩
      rw [zcon_ob (by decide), show zgrF S j gd qt 1 (nF S) = zFF j gd qt from zgr_new]
      have e : zobj ad' (zFF j gd qt) 1 (nF S) = [.ref (ad' 0 (nI j).toNatClampNeg), .int gd, .int qt, .int 0, .int 0] := rfl
      rw [e, nI_clamp (Nat.lt_trans hj (zn_lt _)), hE' 0 j hj]
      exact (hP2 0 _ rfl).kept (hn4 _ (Nat.le_refl _))
    · have hc : k = 1 ∧ i = nF S := zlv_newF hk hl hno c_nD c_nP c_nS c_nF
      have hc' : k' = 1 ∧ i' = nF S := zlv_newF hk' hl' hno' c_nD c_nP c_nS c_nF
      obtain ⟨rfl, rfl⟩ := hc
      obtain ⟨rfl, rfl⟩ := hc'
      exact ⟨rfl, rfl⟩
  exact hk L [] (zgrF S j gd qt) ad' H4 _ ls hP hW' (hM.tr hM') (hE.tr hM hE') ((hS2.put z3 o3 (hW.2.2.1 20 0 (by decide) lA)).put z4 o4 (hW.2.2.1 7 0 (by decide) l7)) (hL.ext hM' hE') trivial
