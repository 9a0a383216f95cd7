theorem eX7_depot_29 : decode cX7_depot 29 = .ok (.aload_n 0, 1) := by decide +kernel
theorem eX7_depot_30 : decode cX7_depot 30 = .ok (.getfield 23, 3) := by decide +kernel
theorem eX7_depot_33 : decode cX7_depot 33 = .ok (.aload_n 0, 1) := by decide +kernel
theorem eX7_depot_34 : decode cX7_depot 34 = .ok (.getfield 54, 3) := by decide +kernel
theorem eX7_depot_37 : decode cX7_depot 37 = .ok (.new 21, 3) := by decide +kernel
theorem eX7_depot_40 : decode cX7_depot 40 = .ok (.dup, 1) := by decide +kernel
theorem eX7_depot_41 : decode cX7_depot 41 = .ok (.aload_n 0, 1) := by decide +kernel
theorem eX7_depot_42 : decode cX7_depot 42 = .ok (.getfield 54, 3) := by decide +kernel
theorem eX7_depot_45 : decode cX7_depot 45 = .ok (.aload_n 2, 1) := by decide +kernel
theorem eX7_depot_46 : decode cX7_depot 46 = .ok (.invokespecial 210, 3) := by decide +kernel
theorem eX7_depot_49 : decode cX7_depot 49 = .ok (.aastore, 1) := by decide +kernel
theorem eX7_depot_50 : decode cX7_depot 50 = .ok (.aload_n 0, 1) := by decide +kernel
theorem eX7_depot_51 : decode cX7_depot 51 = .ok (.dup, 1) := by decide +kernel
theorem eX7_depot_52 : decode cX7_depot 52 = .ok (.getfield 54, 3) := by decide +kernel
theorem eX7_depot_55 : decode cX7_depot 55 = .ok (.iconst 1, 1) := by decide +kernel
theorem eX7_depot_56 : decode cX7_depot 56 = .ok (.iadd, 1) := by decide +kernel
theorem eX7_depot_57 : decode cX7_depot 57 = .ok (.putfield 54, 3) := by decide +kernel
set_option maxHeartbeats 4000000 in
set_option maxRecDepth 20000 in
theorem zgo_D {X : ZX} {kk : ZP} (C : zCx X cX7_depot RX7 (some .int) 7 111 3 15) (hk : ZOK (zXc X (X.ce + 2) (X.sl + 9)) 60 kk) {L : List (Option ZV)} {S : ZS} {ad : ZA} {H : Heap} {locs : List Loc} {ls : Array Slot} {x : Option Nat} {a : Int32} (hP : kk L [] (zgrD S a) X.K) (hin : vp_in (S 7 0 8) 6) (g0 : ls[0]? = some (.val (.ref (ad 7 0)))) (g2 : ls[2]? = some (.val (va_rf (x.map (ad 0))))) (hx1 : ∀ j, x = some j → j < nD S ∧ a = nI j) (hx2 : x = none → a = -1) (hW : zW X.g ad S H) (hM : zMono X.S0 S) (hE : zExt X.S0 X.ad ad) (hS : va_S (zAA X.g) X.s.heap H locs) (hL : zLR ad S ls X.nL L) : zGo X H locs (F0 X.m 29 ls []) := by
  have hce := C.hce
  have hsl := C.hsl
  have hF := C.hF
  have hLo := C.hLo
  obtain ⟨hnv, hnl⟩ : S 7 0 8 = nI (nD S) ∧ nD S < 6 := by
    obtain ⟨n, h1, h2⟩ := vp_in_of hin (by decide)
    have h3 : nD S = n := by
      show (S 7 0 8).toNatClampNeg = n
      rw [h2]
      exact nI_clamp (by omega)
    rw [h3]
    exact ⟨h2, h1⟩
  have l7 : zlv S 7 0 := ⟨by decide, rfl⟩
  have lA : zlv S 18 0 := ⟨by decide, rfl⟩
  have hb : X.g.2.2 ≤ H.size := Nat.le_trans C.hE.1.1 hS.1
  have h7 := hW.ob l7 (by decide)
  refine lv_aload_n C.hx C.hb eX7_depot_29 rfl g0 ?_
  refine zr_gf (v := .ref (ad 18 0)) C zK7 (f := 2) (by decide) zv_110 rfl h7 rfl eX7_depot_30 ?_
  refine lv_aload_n C.hx C.hb eX7_depot_33 rfl g0 ?_
  refine zr_gf (v := .int (S 7 0 8)) C zK7 (f := 8) (by decide) zv_116 rfl h7 rfl eX7_depot_34 ?_
  refine zr_new (fs := [.int 0, .null, .null]) C.hx C.hb C.hw C.hown C.hE zK0 zv_53 zu_412 zu_34 (fun j hj => by rcases (show j = 0 ∨ j = 1 ∨ j = 2 by omega) with rfl | rfl | rfl <;> rfl) (by omega) (by omega) eX7_depot_37 (fun H1 hat z1 o1 => ?_)
  have hW1 := hW.kept o1
  have h71 := hW1.ob l7 (by decide)
  have hS1 : va_S (zAA X.g) X.s.heap H1 locs := ⟨Nat.le_trans hS.1 (by omega), fun q h1 h2 => (o1 q (Nat.lt_of_lt_of_le h1 hS.1)).trans (hS.2.1 q h1 h2), hS.2.2⟩
  refine lv_dup C.hx C.hb eX7_depot_40 rfl ?_
  refine lv_aload_n C.hx C.hb eX7_depot_41 rfl g0 ?_
  refine zr_gf (v := .int (S 7 0 8)) C zK7 (f := 8) (by decide) zv_116 rfl h71 rfl eX7_depot_42 ?_
  refine zr_ald C.hx C.hb eX7_depot_45 rfl g2 ?_
  refine zc_run (n := 2) (As := [.int (S 7 0 8), va_rf (x.map (ad 0))]) (rest := [.ref H.size, .int (S 7 0 8), .ref (ad 18 0)]) C.B (zmk_X0 X.l X.g (S 7 0 8) (x.map (ad 0))) (Or.inl zu_413) zu_415 zu_34 zu_414 rfl ⟨by decide +kernel, by decide +kernel, by decide +kernel⟩ rfl ⟨rfl, rfl⟩ ⟨by show 1 + 1 ≤ _; omega, by show 8 + (3 + 11) + 12 ≤ _; omega⟩ (by omega) (by omega) hat hS1 hb hL.1 (Nat.le_of_ble_eq_true rfl) eX7_depot_46 (fun qs H2 locs2 hP2 hD2 z2 o2 hS2 => ?_)
  have o12 : ∀ q, q < H.size → H2[q]? = H[q]? := fun q hq => (o2 q (by omega) (by omega)).trans (o1 q hq)
  have hW2 := hW.kept o12
  refine zr_ast (t0 := 2) (n := 6) (ci := 0) (r := (RX0, TX0, 3)) (f := fun j => if j < nD S then some (ad 0 j) else none) C.hx C.hb C.hE (hW2.at (by decide) lA) rfl (hP2 0 _ rfl) rfl hin eX7_depot_49 (fun H3 j3 hat3 z3 o3 => ?_)
  have hne : ad 7 0 ≠ ad 18 0 := fun e => by have := (hW.2.1 7 0 18 0 (by decide) (by decide) l7 lA e).1; omega
  have h73 : va_at X.g.1 vwCl (ad 7 0, .inr (7, zobj ad (S 7 0) 7 0)) H3 := (hW2.ob l7 (by decide)).kept (o3 _ hne)
  refine lv_aload_n C.hx C.hb eX7_depot_50 rfl g0 ?_
  refine lv_dup C.hx C.hb eX7_depot_51 rfl ?_
  refine zr_gf (v := .int (S 7 0 8)) C zK7 (f := 8) (by decide) zv_116 rfl h73 rfl eX7_depot_52 ?_
  refine lv_iconst (v := 1) C.hx C.hb eX7_depot_55 (by decide) ?_
  refine lv_iadd C.hx C.hb eX7_depot_56 ?_
  have hv1 : S 7 0 8 + 1 = nI (nD S + 1) := by rw [hnv]; exact nI_add (nD S) 1
  rw [hv1]
  refine zput_raw (X := zXc X (X.ce + 1 + 1) (X.sl + 3 + 6)) (D := X.g.1) (ci := 7) (ty := .int) (C := RX7) (T := TX7) (N := 19) C.hx C.hb C.hw zK7.2.1 tyX7 tyX7_ok nmX7 C.hown C.hE.2.1 h73 rfl 8 (by decide) (C.hw _ zv_116) (fun x hx => hx) rfl (tyX7_ok 8 (by decide)) rfl rfl (by rw [zobj_len]; decide) eX7_depot_57 (fun H4 j4 hat4 z4 o4 => ?_)
  have hold4 : ∀ q, q < H.size → q ≠ ad 18 0 → q ≠ ad 7 0 → H4[q]? = H[q]? := fun q h1 h2 h3 => (o4 q h3).trans ((o3 q h2).trans (o12 q h1))
  have hlt7 := (hW.1 7 0 (by decide) l7).lt
  have hltA := (hW.1 18 0 (by decide) lA).lt
  have hn4 : ∀ q, H.size ≤ q → H4[q]? = H2[q]? := fun q hq => (o4 q (fun e => by rw [e] at hq; exact absurd hlt7 (Nat.not_lt.mpr hq))).trans (o3 q (fun e => by rw [e] at hq; exact absurd hltA (Nat.not_lt.mpr hq)))
  have hge : ∀ q, va_A [(H.size, .inr (0, [.int 0, .null, .null]))] H1.size q → H.size ≤ q := fun q h => by
    rcases h with ⟨k9, e9, h⟩ | h
    · have h1 : k9 < 1 := (List.getElem?_eq_some_iff.mp h).1
      cases (show k9 = 0 by omega)
      cases h
      exact Nat.le_refl _
    · omega
  obtain ⟨ad', had⟩ : ∃ ad' : ZA, ad' = fun k i => if k = 0 ∧ i = nD S then H.size else if k = 9 ∧ i = nD S then qs.getD 0 0 else ad k i := ⟨_, rfl⟩
  have a_o : ad' 0 (nD S) = H.size := by rw [had]; exact if_pos ⟨rfl, rfl⟩
  have a_q : ad' 9 (nD S) = qs.getD 0 0 := by rw [had]; exact (if_neg (by omega)).trans (if_pos ⟨rfl, rfl⟩)
  have hE' : zExt S ad ad' := fun k i hl => by
    rw [had]
    have h1 : ¬ (k = 0 ∧ i = nD S) := by rintro ⟨rfl, rfl⟩; exact absurd (show nD S < nD S from hl) (Nat.lt_irrefl _)
    have h2 : ¬ (k = 9 ∧ i = nD S) := by rintro ⟨rfl, rfl⟩; exact absurd (show nD S < nD S from hl) (Nat.lt_irrefl _)
    exact (if_neg h1).trans (if_neg h2)
  have hS7 : zgrD S a 7 0 = fun f => if f = 8 then nI (nD S + 1) else S 7 0 f := zgr7 (by decide) (fun i => rfl)
  have c_nD : nD (zgrD S a) = nD S + 1 := by
    show (zgrD S a 7 0 8).toNatClampNeg = _
    rw [hS7]
    exact nI_clamp (by omega)
  have c_nP : nP (zgrD S a) = nP S := by
    show (zgrD S a 7 0 7).toNatClampNeg = _
    rw [hS7]
    rfl
  have c_nS : nS (zgrD S a) = nS S := by
    show (zgrD S a 7 0 9).toNatClampNeg = _
    rw [hS7]
    rfl
  have c_nF : nF (zgrD S a) = nF S := by
    show (zgrD S a 7 0 10).toNatClampNeg = _
    rw [hS7]
    rfl
  have hs' : ∀ k i, zlv S k i → k ≠ 7 → zgrD S a k i = S k i := fun k i hl h7 => zgr_same (by rintro ⟨rfl, rfl⟩; exact absurd (show nD S < nD S from hl) (Nat.lt_irrefl _)) (fun h => h7 h.1) (by
    rw [Bool.eq_false_iff]
    intro h
    obtain ⟨h1, h2⟩ := (Bool.and_eq_true _ _).mp h
    cases Nat.eq_of_beq_eq_true h1
    cases Nat.eq_of_beq_eq_true h2
    exact absurd (show nD S < nD S from hl) (Nat.lt_irrefl _))
  have hwf : zWF (zgrD S a) := by
    obtain ⟨w1, w2, w3, w4⟩ := hW.2.2.2
    refine ⟨fun i hi => ?_, fun i hi => ?_, fun i hi => ?_, fun i hi => ?_⟩
    · rw [c_nD] at hi
      by_cases e : i = nD S
      · subst e
        rw [show zgrD S a 0 (nD S) = zFD (nD S) a from zgr_new]
        show a < 0 ∨ a.toNatClampNeg < nD S
        rcases x with _ | j9
        · rw [hx2 rfl]; exact Or.inl (by decide)
        · obtain ⟨h1, h2⟩ := hx1 j9 rfl
          rw [h2, nI_clamp (Nat.lt_trans h1 (zn_lt _))]
          exact Or.inr h1
      · have hi2 : i < nD S := by omega
        rw [hs' 0 i hi2 (by decide)]
        exact w1 i hi2
    · rw [c_nF] at hi; rw [hs' 1 i hi (by decide), c_nD]; exact Nat.lt_succ_of_lt (w2 i hi)
    · rw [c_nP] at hi; rw [hs' 3 i hi (by decide), c_nS]; exact w3 i hi
    · rw [c_nS] at hi; rw [hs' 6 i hi (by decide), c_nD]; exact Nat.lt_succ_of_lt (w4 i hi)
  have hM' : zMono S (zgrD S a) := ⟨by omega, by omega, by omega, by omega⟩
  have hW' : zW X.g ad' (zgrD S a) H4 := by
    refine hW.grown hb hE' hwf (hs' 23 0 rfl (by decide)) (hold4 _ (hW.1 23 0 (by decide) rfl).lt (fun e => absurd (hW.2.1 23 0 18 0 (by decide) (by decide) rfl lA e).1 (by decide)) (fun e => absurd (hW.2.1 23 0 7 0 (by decide) (by decide) rfl l7 e).1 (by decide))) (fun k i hk h23 hl => ?_) (fun k i hk hl hno => ?_) (fun k i k' i' hk hk' hl hno hl' hno' e => ?_)
    · by_cases k7 : k = 7
      · subst k7
        have hi : i = 0 := hl.2
        subst hi
        rw [zcon_ob (by decide), hS7]
        have e7 : zobj ad' (fun f => if f = 8 then nI (nD S + 1) else S 7 0 f) 7 0 = (zobj ad (S 7 0) 7 0).set 8 (.int (nI (nD S + 1))) := by
          rw [zobj_set ad' (S 7 0) 7 0 8 (nI (nD S + 1)) (by decide) (.inl (nI (nD S + 1))) rfl, zobj_ext hW.2.2.2 hE' l7 (by decide)]
          rfl
        rw [e7]
        exact hat4
      · by_cases kA : k = 18
        · subst kA
          have hi : i = 0 := hl.2
          subst hi
          refine va_at_q (f := va_up (fun j => if j < nD S then some (ad 0 j) else none) (S 7 0 8).toNatClampNeg (some H.size)) (hat3.kept (o4 _ (Ne.symm hne))) (fun t ht => ?_)
          show (if t < nD (zgrD S a) then some (ad' 0 t) else none) = if t = nD S then some H.size else if t < nD S then some (ad 0 t) else none
          rw [c_nD]
          by_cases e : t = nD S
          · rw [if_pos e, if_pos (by omega), e, a_o]
          · by_cases e2 : t < nD S
            · rw [if_neg e, if_pos e2, if_pos (by omega), hE' 0 t e2]
            · rw [if_neg e, if_neg e2, if_neg (by omega)]
        · refine zcon_old hW hE' hk h23 hl (hs' k i hl k7) (fun _ => c_nP) (fun e => absurd e kA) (fun _ => c_nS) (fun _ => c_nF) (hold4 _ (hW.1 k i hk hl).lt (fun e => kA (hW.2.1 k i 18 0 hk (by decide) hl lA e).1) (fun e => k7 (hW.2.1 k i 7 0 hk (by decide) hl l7 e).1))
    · have hc : (k = 0 ∧ i = nD S) ∨ (k = 9 ∧ i = nD S) := zlv_newD hk hl hno c_nD c_nP c_nS c_nF
      rcases hc with ⟨rfl, rfl⟩ | ⟨rfl, rfl⟩
      · rw [a_o]
        refine ⟨?_, Nat.le_refl _⟩
        rw [zcon_ob (by decide), show zgrD S a 0 (nD S) = zFD (nD S) a from zgr_new]
        have e : zobj ad' (zFD (nD S) a) 0 (nD S) = [.int (nI (nD S)), zc ad' (.inr (.inr (if a < 0 then none else some (0, a.toNatClampNeg)))), .ref (ad' 9 (nD S))] := rfl
        have e2 : zc ad' (.inr (.inr (if a < 0 then none else some (0, a.toNatClampNeg)))) = va_rf (x.map (ad 0)) := by
          rcases x with _ | j9
          · rw [hx2 rfl, if_pos (by decide)]; rfl
          · obtain ⟨h1, h2⟩ := hx1 j9 rfl
            have hj31 := Nat.lt_trans h1 (zn_lt _)
            rw [h2, if_neg (fun h => ((vp_in_nI (n := j9) (N := j9 + 1) (by omega) (by omega)) (Or.inl h)).elim), nI_clamp hj31]
            show Value.ref (ad' 0 j9) = Value.ref (ad 0 j9)
            rw [hE' 0 j9 h1]
        rw [e, e2, a_q, ← hnv]
        exact (hP2 0 _ rfl).kept (hn4 _ (Nat.le_refl _))
      · have hq := hge _ (hD2.2 1 _ rfl)
        rw [a_q]
        refine ⟨?_, hq⟩
        rw [zcon_row rfl, show zgrD S a 9 (nD S) = fun _ => 0 from zgr_sub (by omega) (by decide) (by simp [zsubD, zbq])]
        exact (hP2 1 _ rfl).kept (hn4 _ hq)
    · have hc : (k = 0 ∧ i = nD S) ∨ (k = 9 ∧ i = nD S) := zlv_newD hk hl hno c_nD c_nP c_nS c_nF
      have hc' : (k' = 0 ∧ i' = nD S) ∨ (k' = 9 ∧ i' = nD S) := zlv_newD hk' hl' hno' c_nD c_nP c_nS c_nF
      rcases hc with ⟨rfl, rfl⟩ | ⟨rfl, rfl⟩ <;> rcases hc' with ⟨rfl, rfl⟩ | ⟨rfl, rfl⟩
      · exact ⟨rfl, rfl⟩
      · rw [a_o, a_q] at e
        exact absurd (hD2.1 0 1 _ _ rfl rfl e) (by decide)
      · rw [a_o, a_q] at e
        exact absurd (hD2.1 1 0 _ _ rfl rfl e) (by decide)
      · exact ⟨rfl, rfl⟩
  exact hk L [] (zgrD S a) ad' H4 _ ls hP hW' (hM.tr hM') (hE.tr hM hE') ((hS2.put z3 o3 (hW.2.2.1 18 0 (by decide) lA)).put z4 o4 (hW.2.2.1 7 0 (by decide) l7)) (hL.ext hM' hE') trivial
