theorem eX7_person_21 : decode cX7_person 21 = .ok (.aload_n 0, 1) := by decide +kernel
theorem eX7_person_22 : decode cX7_person 22 = .ok (.getfield 17, 3) := by decide +kernel
theorem eX7_person_25 : decode cX7_person 25 = .ok (.aload_n 0, 1) := by decide +kernel
theorem eX7_person_26 : decode cX7_person 26 = .ok (.getfield 50, 3) := by decide +kernel
theorem eX7_person_29 : decode cX7_person 29 = .ok (.new 15, 3) := by decide +kernel
theorem eX7_person_32 : decode cX7_person 32 = .ok (.dup, 1) := by decide +kernel
theorem eX7_person_33 : decode cX7_person 33 = .ok (.aload_n 0, 1) := by decide +kernel
theorem eX7_person_34 : decode cX7_person 34 = .ok (.getfield 50, 3) := by decide +kernel
theorem eX7_person_37 : decode cX7_person 37 = .ok (.iload_n 1, 1) := by decide +kernel
theorem eX7_person_38 : decode cX7_person 38 = .ok (.aload_n 3, 1) := by decide +kernel
theorem eX7_person_39 : decode cX7_person 39 = .ok (.invokespecial 127, 3) := by decide +kernel
theorem eX7_person_42 : decode cX7_person 42 = .ok (.aastore, 1) := by decide +kernel
theorem eX7_person_43 : decode cX7_person 43 = .ok (.aload_n 0, 1) := by decide +kernel
theorem eX7_person_44 : decode cX7_person 44 = .ok (.dup, 1) := by decide +kernel
theorem eX7_person_45 : decode cX7_person 45 = .ok (.getfield 50, 3) := by decide +kernel
theorem eX7_person_48 : decode cX7_person 48 = .ok (.iconst 1, 1) := by decide +kernel
theorem eX7_person_49 : decode cX7_person 49 = .ok (.iadd, 1) := by decide +kernel
theorem eX7_person_50 : decode cX7_person 50 = .ok (.putfield 50, 3) := by decide +kernel
set_option maxHeartbeats 4000000 in
set_option maxRecDepth 20000 in
theorem zgo_P {X : ZX} {kk : ZP} (C : zCx X cX7_person RX7 (some .int) 7 112 3 23) (hk : ZOK (zXc X (X.ce + 2) (X.sl + 17)) 53 kk) {L : List (Option ZV)} {S : ZS} {ad : ZA} {H : Heap} {locs : List Loc} {ls : Array Slot} {kd : Int32} {j : Nat} (hP : kk L [] (zgrP S kd j) X.K) (hin : vp_in (S 7 0 7) 20) (g0 : ls[0]? = some (.val (.ref (ad 7 0)))) (g1 : ls[1]? = some (.val (.int kd))) (g3 : ls[3]? = some (.val (.ref (ad 6 j)))) (hj : j < nS S) (hW : zW X.g ad S H) (hM : zMono X.S0 S) (hE : zExt X.S0 X.ad ad) (hS : va_S (zAA X.g) X.s.heap H locs) (hL : zLR ad S ls X.nL L) : zGo X H locs (F0 X.m 21 ls []) := by
  have hce := C.hce
  have hsl := C.hsl
  have hF := C.hF
  have hLo := C.hLo
  obtain ⟨hnv, hnl⟩ : S 7 0 7 = nI (nP S) ∧ nP S < 20 := by
    obtain ⟨n, h1, h2⟩ := vp_in_of hin (by decide)
    have h3 : nP S = n := by
      show (S 7 0 7).toNatClampNeg = n
      rw [h2]
      exact nI_clamp (by omega)
    rw [h3]
    exact ⟨h2, h1⟩
  have l7 : zlv S 7 0 := ⟨by decide, rfl⟩
  have lA : zlv S 17 0 := ⟨by decide, rfl⟩
  have hb : X.g.2.2 ≤ H.size := Nat.le_trans C.hE.1.1 hS.1
  have h7 := hW.ob l7 (by decide)
  refine lv_aload_n C.hx C.hb eX7_person_21 rfl g0 ?_
  refine zr_gf (v := .ref (ad 17 0)) C zK7 (f := 1) (by decide) zv_109 rfl h7 rfl eX7_person_22 ?_
  refine lv_aload_n C.hx C.hb eX7_person_25 rfl g0 ?_
  refine zr_gf (v := .int (S 7 0 7)) C zK7 (f := 7) (by decide) zv_115 rfl h7 rfl eX7_person_26 ?_
  refine zr_new (fs := [.int 0, .int 0, .null, .null, .int 0, .int 0, .int 0, .int 0, .int 0, .int 0, .null]) C.hx C.hb C.hw C.hown C.hE zK3 zv_51 zu_312 zu_38 (fun j hj => by rcases (show j = 0 ∨ j = 1 ∨ j = 2 ∨ j = 3 ∨ j = 4 ∨ j = 5 ∨ j = 6 ∨ j = 7 ∨ j = 8 ∨ j = 9 ∨ j = 10 by omega) with rfl | rfl | rfl | rfl | rfl | rfl | rfl | rfl | rfl | rfl | rfl <;> rfl) (by omega) (by omega) eX7_person_29 (fun H1 hat z1 o1 => ?_)
  have hW1 := hW.kept o1
  have h71 := hW1.ob l7 (by decide)
  have hS1 : va_S (zAA X.g) X.s.heap H1 locs := ⟨Nat.le_trans hS.1 (by omega), fun q h1 h2 => (o1 q (Nat.lt_of_lt_of_le h1 hS.1)).trans (hS.2.1 q h1 h2), hS.2.2⟩
  refine lv_dup C.hx C.hb eX7_person_32 rfl ?_
  refine lv_aload_n C.hx C.hb eX7_person_33 rfl g0 ?_
  refine zr_gf (v := .int (S 7 0 7)) C zK7 (f := 7) (by decide) zv_115 rfl h71 rfl eX7_person_34 ?_
  refine lv_iload_n C.hx C.hb eX7_person_37 rfl g1 ?_
  refine lv_aload_n C.hx C.hb eX7_person_38 rfl g3 ?_
  refine zc_run (n := 3) (As := [.int (S 7 0 7), .int kd, .ref (ad 6 j)]) (rest := [.ref H.size, .int (S 7 0 7), .ref (ad 17 0)]) C.B (zmk_X3 X.l X.g (S 7 0 7) kd (ad 6 j)) (Or.inl zu_313) zu_315 zu_38 zu_314 rfl ⟨by decide +kernel, by decide +kernel, by decide +kernel⟩ rfl ⟨rfl, rfl⟩ ⟨by show 1 + 1 ≤ _; omega, by show 8 + (4 + 11) + 12 ≤ _; omega⟩ (by omega) (by omega) hat hS1 hb hL.1 (Nat.le_of_ble_eq_true rfl) eX7_person_39 (fun qs H2 locs2 hP2 hD2 z2 o2 hS2 => ?_)
  have o12 : ∀ q, q < H.size → H2[q]? = H[q]? := fun q hq => (o2 q (by omega) (by omega)).trans (o1 q hq)
  have hW2 := hW.kept o12
  refine zr_ast (t0 := 5) (n := 20) (ci := 3) (r := (RX3, TX3, 11)) (f := fun j => if j < nP S then some (ad 3 j) else none) C.hx C.hb C.hE (hW2.at (by decide) lA) rfl (hP2 0 _ rfl) rfl hin eX7_person_42 (fun H3 j3 hat3 z3 o3 => ?_)
  have hne : ad 7 0 ≠ ad 17 0 := fun e => by have := (hW.2.1 7 0 17 0 (by decide) (by decide) l7 lA e).1; omega
  have h73 : va_at X.g.1 vwCl (ad 7 0, .inr (7, zobj ad (S 7 0) 7 0)) H3 := (hW2.ob l7 (by decide)).kept (o3 _ hne)
  refine lv_aload_n C.hx C.hb eX7_person_43 rfl g0 ?_
  refine lv_dup C.hx C.hb eX7_person_44 rfl ?_
  refine zr_gf (v := .int (S 7 0 7)) C zK7 (f := 7) (by decide) zv_115 rfl h73 rfl eX7_person_45 ?_
  refine lv_iconst (v := 1) C.hx C.hb eX7_person_48 (by decide) ?_
  refine lv_iadd C.hx C.hb eX7_person_49 ?_
  have hv1 : S 7 0 7 + 1 = nI (nP S + 1) := by rw [hnv]; exact nI_add (nP S) 1
  rw [hv1]
  refine zput_raw (X := zXc X (X.ce + 1 + 1) (X.sl + 11 + 6)) (D := X.g.1) (ci := 7) (ty := .int) (C := RX7) (T := TX7) (N := 19) C.hx C.hb C.hw zK7.2.1 tyX7 tyX7_ok nmX7 C.hown C.hE.2.1 h73 rfl 7 (by decide) (C.hw _ zv_115) (fun x hx => hx) rfl (tyX7_ok 7 (by decide)) rfl rfl (by rw [zobj_len]; decide) eX7_person_50 (fun H4 j4 hat4 z4 o4 => ?_)
  have hold4 : ∀ q, q < H.size → q ≠ ad 17 0 → q ≠ ad 7 0 → H4[q]? = H[q]? := fun q h1 h2 h3 => (o4 q h3).trans ((o3 q h2).trans (o12 q h1))
  have hlt7 := (hW.1 7 0 (by decide) l7).lt
  have hltA := (hW.1 17 0 (by decide) lA).lt
  have hn4 : ∀ q, H.size ≤ q → H4[q]? = H2[q]? := fun q hq => (o4 q (fun e => by rw [e] at hq; exact absurd hlt7 (Nat.not_lt.mpr hq))).trans (o3 q (fun e => by rw [e] at hq; exact absurd hltA (Nat.not_lt.mpr hq)))
  have hge : ∀ q, va_A [(H.size, .inr (3, [.int 0, .int 0, .null, .null, .int 0, .int 0, .int 0, .int 0, .int 0, .int 0, .null]))] H1.size q → H.size ≤ q := fun q h => by
    rcases h with ⟨k9, e9, h⟩ | h
    · have h1 : k9 < 1 := (List.getElem?_eq_some_iff.mp h).1
      cases (show k9 = 0 by omega)
      cases h
      exact Nat.le_refl _
    · omega
  obtain ⟨ad', had⟩ : ∃ ad' : ZA, ad' = fun k i => if k = 3 ∧ i = nP S then H.size else if k = 10 ∧ i = nP S then qs.getD 0 0 else ad k i := ⟨_, rfl⟩
  have a_o : ad' 3 (nP S) = H.size := by rw [had]; exact if_pos ⟨rfl, rfl⟩
  have a_q : ad' 10 (nP S) = qs.getD 0 0 := by rw [had]; exact (if_neg (by omega)).trans (if_pos ⟨rfl, rfl⟩)
  have hE' : zExt S ad ad' := fun k i hl => by
    rw [had]
    have h1 : ¬ (k = 3 ∧ i = nP S) := by rintro ⟨rfl, rfl⟩; exact absurd (show nP S < nP S from hl) (Nat.lt_irrefl _)
    have h2 : ¬ (k = 10 ∧ i = nP S) := by rintro ⟨rfl, rfl⟩; exact absurd (show nP S < nP S from hl) (Nat.lt_irrefl _)
    exact (if_neg h1).trans (if_neg h2)
  have hS7 : zgrP S kd j 7 0 = fun f => if f = 7 then nI (nP S + 1) else S 7 0 f := zgr7 (by decide) (fun i => rfl)
  have c_nD : nD (zgrP S kd j) = nD S := by
    show (zgrP S kd j 7 0 8).toNatClampNeg = _
    rw [hS7]
    rfl
  have c_nP : nP (zgrP S kd j) = nP S + 1 := by
    show (zgrP S kd j 7 0 7).toNatClampNeg = _
    rw [hS7]
    exact nI_clamp (by omega)
  have c_nS : nS (zgrP S kd j) = nS S := by
    show (zgrP S kd j 7 0 9).toNatClampNeg = _
    rw [hS7]
    rfl
  have c_nF : nF (zgrP S kd j) = nF S := by
    show (zgrP S kd j 7 0 10).toNatClampNeg = _
    rw [hS7]
    rfl
  have hs' : ∀ k i, zlv S k i → k ≠ 7 → zgrP S kd j k i = S k i := fun k i hl h7 => zgr_same (by rintro ⟨rfl, rfl⟩; exact absurd (show nP S < nP S from hl) (Nat.lt_irrefl _)) (fun h => h7 h.1) (by
    rw [Bool.eq_false_iff]
    intro h
    obtain ⟨h1, h2⟩ := (Bool.and_eq_true _ _).mp h
    cases Nat.eq_of_beq_eq_true h1
    cases Nat.eq_of_beq_eq_true h2
    exact absurd (show nP S < nP S from hl) (Nat.lt_irrefl _))
  have hwf : zWF (zgrP S kd j) := by
    obtain ⟨w1, w2, w3, w4⟩ := hW.2.2.2
    refine ⟨fun i hi => ?_, fun i hi => ?_, fun i hi => ?_, fun i hi => ?_⟩
    · rw [c_nD] at hi; rw [hs' 0 i hi (by decide)]; exact w1 i hi
    · rw [c_nF] at hi; rw [hs' 1 i hi (by decide), c_nD]; exact w2 i hi
    · rw [c_nP] at hi
      rw [c_nS]
      by_cases e : i = nP S
      · subst e
        rw [show zgrP S kd j 3 (nP S) = zFP (nP S) kd j from zgr_new]
        show (nI j).toNatClampNeg < nS S ∧ (nI j).toNatClampNeg < nS S
        rw [nI_clamp (Nat.lt_trans hj (zn_lt _))]
        exact ⟨hj, hj⟩
      · have hi2 : i < nP S := by omega
        rw [hs' 3 i hi2 (by decide)]
        exact w3 i hi2
    · rw [c_nS] at hi; rw [hs' 6 i hi (by decide), c_nD]; exact w4 i hi
  have hM' : zMono S (zgrP S kd j) := ⟨by omega, by omega, by omega, by omega⟩
  have hW' : zW X.g ad' (zgrP S kd j) H4 := by
    refine hW.grown hb hE' hwf (hs' 23 0 rfl (by decide)) (hold4 _ (hW.1 23 0 (by decide) rfl).lt (fun e => absurd (hW.2.1 23 0 17 0 (by decide) (by decide) rfl lA e).1 (by decide)) (fun e => absurd (hW.2.1 23 0 7 0 (by decide) (by decide) rfl l7 e).1 (by decide))) (fun k i hk h23 hl => ?_) (fun k i hk hl hno => ?_) (fun k i k' i' hk hk' hl hno hl' hno' e => ?_)
    · by_cases k7 : k = 7
      · subst k7
        have hi : i = 0 := hl.2
        subst hi
        rw [zcon_ob (by decide), hS7]
        have e7 : zobj ad' (fun f => if f = 7 then nI (nP S + 1) else S 7 0 f) 7 0 = (zobj ad (S 7 0) 7 0).set 7 (.int (nI (nP S + 1))) := by
          rw [zobj_set ad' (S 7 0) 7 0 7 (nI (nP S + 1)) (by decide) (.inl (nI (nP S + 1))) rfl, zobj_ext hW.2.2.2 hE' l7 (by decide)]
          rfl
        rw [e7]
        exact hat4
      · by_cases kA : k = 17
        · subst kA
          have hi : i = 0 := hl.2
          subst hi
          refine va_at_q (f := va_up (fun j => if j < nP S then some (ad 3 j) else none) (S 7 0 7).toNatClampNeg (some H.size)) (hat3.kept (o4 _ (Ne.symm hne))) (fun t ht => ?_)
          show (if t < nP (zgrP S kd j) then some (ad' 3 t) else none) = if t = nP S then some H.size else if t < nP S then some (ad 3 t) else none
          rw [c_nP]
          by_cases e : t = nP S
          · rw [if_pos e, if_pos (by omega), e, a_o]
          · by_cases e2 : t < nP S
            · rw [if_neg e, if_pos e2, if_pos (by omega), hE' 3 t e2]
            · rw [if_neg e, if_neg e2, if_neg (by omega)]
        · refine zcon_old hW hE' hk h23 hl (hs' k i hl k7) (fun e => absurd e kA) (fun _ => c_nD) (fun _ => c_nS) (fun _ => c_nF) (hold4 _ (hW.1 k i hk hl).lt (fun e => kA (hW.2.1 k i 17 0 hk (by decide) hl lA e).1) (fun e => k7 (hW.2.1 k i 7 0 hk (by decide) hl l7 e).1))
    · have hc : (k = 3 ∧ i = nP S) ∨ (k = 10 ∧ i = nP S) := zlv_newP hk hl hno c_nD c_nP c_nS c_nF
      rcases hc with ⟨rfl, rfl⟩ | ⟨rfl, rfl⟩
      · rw [a_o]
        refine ⟨?_, Nat.le_refl _⟩
        rw [zcon_ob (by decide), show zgrP S kd j 3 (nP S) = zFP (nP S) kd j from zgr_new]
        have e : zobj ad' (zFP (nP S) kd j) 3 (nP S) = [.int (nI (nP S)), .int kd, .ref (ad' 6 (nI j).toNatClampNeg), .ref (ad' 6 (nI j).toNatClampNeg), .int 100, .int (-1), .int 0, .int 0, .int 0, .int 0, .ref (ad' 10 (nP S))] := rfl
        rw [e, nI_clamp (Nat.lt_trans hj (zn_lt _)), hE' 6 j hj, a_q, ← hnv]
        exact (hP2 0 _ rfl).kept (hn4 _ (Nat.le_refl _))
      · have hq := hge _ (hD2.2 1 _ rfl)
        rw [a_q]
        refine ⟨?_, hq⟩
        rw [zcon_row rfl, show zgrP S kd j 10 (nP S) = fun _ => 0 from zgr_sub (by omega) (by decide) (by simp [zsubP, zbq])]
        exact (hP2 1 _ rfl).kept (hn4 _ hq)
    · have hc : (k = 3 ∧ i = nP S) ∨ (k = 10 ∧ i = nP S) := zlv_newP hk hl hno c_nD c_nP c_nS c_nF
      have hc' : (k' = 3 ∧ i' = nP S) ∨ (k' = 10 ∧ i' = nP S) := zlv_newP hk' hl' hno' c_nD c_nP c_nS c_nF
      rcases hc with ⟨rfl, rfl⟩ | ⟨rfl, rfl⟩ <;> rcases hc' with ⟨rfl, rfl⟩ | ⟨rfl, rfl⟩
      · exact ⟨rfl, rfl⟩
      · rw [a_o, a_q] at e
        exact absurd (hD2.1 0 1 _ _ rfl rfl e) (by decide)
      · rw [a_o, a_q] at e
        exact absurd (hD2.1 1 0 _ _ rfl rfl e) (by decide)
      · exact ⟨rfl, rfl⟩
  exact hk L [] (zgrP S kd j) ad' H4 _ ls hP hW' (hM.tr hM') (hE.tr hM hE') ((hS2.put z3 o3 (hW.2.2.1 17 0 (by decide) lA)).put z4 o4 (hW.2.2.1 7 0 (by decide) l7)) (hL.ext hM' hE') trivial
