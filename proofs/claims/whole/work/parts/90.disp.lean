/-! THE LAW AT THE PURE LEVEL: its cases, its loop -/
def zlwt (J : ZP) : ZP := (z_ist 6 (z_ald 2 (z_invV 8 0 sp_X8_thrown (z_ild 5 (z_cmp (fun x y => x = y) (z_ild 5 (z_if (fun x => x = 0) (z_ald 3 (z_push 0 (z_lald (z_ild 6 (z_i2l (z_lcmp (z_if (fun x => x = 0) (zb_L_law_2620 J) (fun _ _ _ _ => False)))))))) (zb_L_law_2620 J))) (fun _ _ _ _ => False))))))
theorem zlwt_ok {J : ZP} {K : ZK} {S : ZS} {i k v : Int32} {x6 : Option ZV} {c : Nat} (hq : LQm k c (.inl (some (.inl v))) S) (hJ : ∀ (y5 y6 : Option ZV) (S' : ZS), Inv (c + 1) S' → J [some (zr 26 0), some (zr 7 0), some (zr 8 0), some (zr 24 0), some (zi (i + 5)), y5, y6] [] S' K) : zlwt J [some (zr 26 0), some (zr 7 0), some (zr 8 0), some (zr 24 0), some (zi i), some (zi k), x6] [zi v] S K := by
  obtain ⟨h46, h24, hI⟩ := LQm_i.mp hq
  have h01 : vp_in (0 : Int32) 1 := vp_in_nI (n := 0) (by decide) (by decide)
  have z0 : (0 : Int32).toNatClampNeg = 0 := rfl
  have hj := hJ (some (zi k)) (some (zi v)) S hI
  by_cases hk : k = 0
  · have hv := h24 hk
    subst hk
    simp [zlwt, zb_L_law_2620, zb_X8_thrown_0, sp_X8_thrown, zsp, zin, znth, ztake, zset, zcont, z_ist, z_ald, z_ild, z_invV, z_cmp, z_if, z_push, z_lald, z_i2l, z_lcmp, z_inc, z_gf, z_ret, zf_8_46, zc1b, h46, hv, h01, z0, lg_cmp]
    exact hj
  · simp [zlwt, zb_L_law_2620, zb_X8_thrown_0, sp_X8_thrown, zsp, zin, znth, ztake, zset, zcont, z_ist, z_ald, z_ild, z_invV, z_cmp, z_if, z_push, z_lald, z_i2l, z_lcmp, z_inc, z_gf, z_ret, zf_8_46, zc1b, h46, hk]
    exact hj
set_option maxRecDepth 20000 in
theorem zlc_192 {xs : Nat → Int32} {Len : Nat} {J : ZP} {K : ZK} {S : ZS} {i : Int32} {x5 x6 : Option ZV} {c : Nat} (hc : c < 512) (hI : Inv c S) (h1 : vp_in (i + 1) Len) (h2 : vp_in (i + 2) Len) (h3 : vp_in (i + 3) Len) (h4 : vp_in (i + 4) Len) (hJ : ∀ (y5 y6 : Option ZV) (S' : ZS), Inv (c + 1) S' → J [some (zr 26 0), some (zr 7 0), some (zr 8 0), some (zr 24 0), some (zi (i + 5)), y5, y6] [] S' K) : zb_L_law_192 xs Len J [some (zr 26 0), some (zr 7 0), some (zr 8 0), some (zr 24 0), some (zi i), x5, x6] [] S K := by
  have hl := lc_ration hI (xs (i + 1).toNatClampNeg) (xs (i + 2).toNatClampNeg)
  refine And.intro h1 (And.intro h2 (Exists.intro (LPm sp_X8_ration [zr 8 0, zi (xs (i + 1).toNatClampNeg), zi (xs (i + 2).toNatClampNeg)] c) (And.intro hl (fun o S1 ho => ?_))))
  obtain ⟨k, rfl, hM⟩ := ho
  refine And.intro h1 (And.intro h2 (Exists.intro (LQm k c) (And.intro hM (fun o S2 ho => ?_))))
  obtain ⟨v, rfl, hq⟩ := ho
  exact zlwt_ok (x6 := x6) (LQm_i.mpr hq) hJ
set_option maxRecDepth 20000 in
theorem zlc_260 {xs : Nat → Int32} {Len : Nat} {J : ZP} {K : ZK} {S : ZS} {i : Int32} {x5 x6 : Option ZV} {c : Nat} (hc : c < 512) (hI : Inv c S) (h1 : vp_in (i + 1) Len) (h2 : vp_in (i + 2) Len) (h3 : vp_in (i + 3) Len) (h4 : vp_in (i + 4) Len) (hJ : ∀ (y5 y6 : Option ZV) (S' : ZS), Inv (c + 1) S' → J [some (zr 26 0), some (zr 7 0), some (zr 8 0), some (zr 24 0), some (zi (i + 5)), y5, y6] [] S' K) : zb_L_law_260 xs Len J [some (zr 26 0), some (zr 7 0), some (zr 8 0), some (zr 24 0), some (zi i), x5, x6] [] S K := by
  have hl := lc_onPoints hI (xs (i + 1).toNatClampNeg) (xs (i + 2).toNatClampNeg)
  refine And.intro h1 (And.intro h2 (Exists.intro (LPm sp_X8_onPoints [zr 8 0, zi (xs (i + 1).toNatClampNeg), zi (xs (i + 2).toNatClampNeg)] c) (And.intro hl (fun o S1 ho => ?_))))
  obtain ⟨k, rfl, hM⟩ := ho
  refine And.intro h1 (And.intro h2 (Exists.intro (LQm k c) (And.intro hM (fun o S2 ho => ?_))))
  obtain ⟨v, rfl, hq⟩ := ho
  exact zlwt_ok (x6 := x6) (LQm_i.mpr hq) hJ
set_option maxRecDepth 20000 in
theorem zlc_328 {xs : Nat → Int32} {Len : Nat} {J : ZP} {K : ZK} {S : ZS} {i : Int32} {x5 x6 : Option ZV} {c : Nat} (hc : c < 512) (hI : Inv c S) (h1 : vp_in (i + 1) Len) (h2 : vp_in (i + 2) Len) (h3 : vp_in (i + 3) Len) (h4 : vp_in (i + 4) Len) (hJ : ∀ (y5 y6 : Option ZV) (S' : ZS), Inv (c + 1) S' → J [some (zr 26 0), some (zr 7 0), some (zr 8 0), some (zr 24 0), some (zi (i + 5)), y5, y6] [] S' K) : zb_L_law_328 xs Len J [some (zr 26 0), some (zr 7 0), some (zr 8 0), some (zr 24 0), some (zi i), x5, x6] [] S K := by
  have hl := lc_free hI (xs (i + 1).toNatClampNeg)
  refine And.intro h1 (Exists.intro (LPm sp_X8_free [zr 8 0, zi (xs (i + 1).toNatClampNeg)] c) (And.intro hl (fun o S1 ho => ?_)))
  obtain ⟨k, rfl, hM⟩ := ho
  refine And.intro h1 (Exists.intro (LQm k c) (And.intro hM (fun o S2 ho => ?_)))
  obtain ⟨v, rfl, hq⟩ := ho
  exact zlwt_ok (x6 := x6) (LQm_i.mpr hq) hJ
set_option maxRecDepth 20000 in
theorem zlc_384 {xs : Nat → Int32} {Len : Nat} {J : ZP} {K : ZK} {S : ZS} {i : Int32} {x5 x6 : Option ZV} {c : Nat} (hc : c < 512) (hI : Inv c S) (h1 : vp_in (i + 1) Len) (h2 : vp_in (i + 2) Len) (h3 : vp_in (i + 3) Len) (h4 : vp_in (i + 4) Len) (hJ : ∀ (y5 y6 : Option ZV) (S' : ZS), Inv (c + 1) S' → J [some (zr 26 0), some (zr 7 0), some (zr 8 0), some (zr 24 0), some (zi (i + 5)), y5, y6] [] S' K) : zb_L_law_384 xs Len J [some (zr 26 0), some (zr 7 0), some (zr 8 0), some (zr 24 0), some (zi i), x5, x6] [] S K := by
  have hl := lc_energy hI (xs (i + 1).toNatClampNeg) (xs (i + 2).toNatClampNeg)
  refine And.intro h1 (And.intro h2 (Exists.intro (LPm sp_X8_energy [zr 8 0, zi (xs (i + 1).toNatClampNeg), zi (xs (i + 2).toNatClampNeg)] c) (And.intro hl (fun o S1 ho => ?_))))
  obtain ⟨k, rfl, hM⟩ := ho
  refine And.intro h1 (And.intro h2 (Exists.intro (LQm k c) (And.intro hM (fun o S2 ho => ?_))))
  obtain ⟨v, rfl, hq⟩ := ho
  exact zlwt_ok (x6 := x6) (LQm_i.mpr hq) hJ
set_option maxRecDepth 20000 in
theorem zlc_452 {xs : Nat → Int32} {Len : Nat} {J : ZP} {K : ZK} {S : ZS} {i : Int32} {x5 x6 : Option ZV} {c : Nat} (hc : c < 512) (hI : Inv c S) (h1 : vp_in (i + 1) Len) (h2 : vp_in (i + 2) Len) (h3 : vp_in (i + 3) Len) (h4 : vp_in (i + 4) Len) (hJ : ∀ (y5 y6 : Option ZV) (S' : ZS), Inv (c + 1) S' → J [some (zr 26 0), some (zr 7 0), some (zr 8 0), some (zr 24 0), some (zi (i + 5)), y5, y6] [] S' K) : zb_L_law_452 xs Len J [some (zr 26 0), some (zr 7 0), some (zr 8 0), some (zr 24 0), some (zi i), x5, x6] [] S K := by
  have hl := lc_points hI (xs (i + 1).toNatClampNeg) (xs (i + 2).toNatClampNeg)
  refine And.intro h1 (And.intro h2 (Exists.intro (LPm sp_X8_points [zr 8 0, zi (xs (i + 1).toNatClampNeg), zi (xs (i + 2).toNatClampNeg)] c) (And.intro hl (fun o S1 ho => ?_))))
  obtain ⟨k, rfl, hM⟩ := ho
  refine And.intro h1 (And.intro h2 (Exists.intro (LQm k c) (And.intro hM (fun o S2 ho => ?_))))
  obtain ⟨v, rfl, hq⟩ := ho
  exact zlwt_ok (x6 := x6) (LQm_i.mpr hq) hJ
set_option maxRecDepth 20000 in
theorem zlc_520 {xs : Nat → Int32} {Len : Nat} {J : ZP} {K : ZK} {S : ZS} {i : Int32} {x5 x6 : Option ZV} {c : Nat} (hc : c < 512) (hI : Inv c S) (h1 : vp_in (i + 1) Len) (h2 : vp_in (i + 2) Len) (h3 : vp_in (i + 3) Len) (h4 : vp_in (i + 4) Len) (hJ : ∀ (y5 y6 : Option ZV) (S' : ZS), Inv (c + 1) S' → J [some (zr 26 0), some (zr 7 0), some (zr 8 0), some (zr 24 0), some (zi (i + 5)), y5, y6] [] S' K) : zb_L_law_520 xs Len J [some (zr 26 0), some (zr 7 0), some (zr 8 0), some (zr 24 0), some (zi i), x5, x6] [] S K := by
  have hl := lc_goodIs hc hI (xs (i + 1).toNatClampNeg) (xs (i + 2).toNatClampNeg)
  refine And.intro h1 (And.intro h2 (Exists.intro (LPm sp_X8_goodIs [zr 8 0, zi (xs (i + 1).toNatClampNeg), zi (xs (i + 2).toNatClampNeg)] c) (And.intro hl (fun o S1 ho => ?_))))
  obtain ⟨k, rfl, hM⟩ := ho
  refine And.intro h1 (And.intro h2 (Exists.intro (LQm k c) (And.intro hM (fun o S2 ho => ?_))))
  obtain ⟨v, rfl, hq⟩ := ho
  exact zlwt_ok (x6 := x6) (LQm_i.mpr hq) hJ
set_option maxRecDepth 20000 in
theorem zlc_588 {xs : Nat → Int32} {Len : Nat} {J : ZP} {K : ZK} {S : ZS} {i : Int32} {x5 x6 : Option ZV} {c : Nat} (hc : c < 512) (hI : Inv c S) (h1 : vp_in (i + 1) Len) (h2 : vp_in (i + 2) Len) (h3 : vp_in (i + 3) Len) (h4 : vp_in (i + 4) Len) (hJ : ∀ (y5 y6 : Option ZV) (S' : ZS), Inv (c + 1) S' → J [some (zr 26 0), some (zr 7 0), some (zr 8 0), some (zr 24 0), some (zi (i + 5)), y5, y6] [] S' K) : zb_L_law_588 xs Len J [some (zr 26 0), some (zr 7 0), some (zr 8 0), some (zr 24 0), some (zi i), x5, x6] [] S K := by
  have hl := lc_person hc hI (xs (i + 1).toNatClampNeg) (xs (i + 2).toNatClampNeg)
  refine And.intro h1 (And.intro h2 (Exists.intro (LPm sp_X8_person [zr 8 0, zi (xs (i + 1).toNatClampNeg), zi (xs (i + 2).toNatClampNeg)] c) (And.intro hl (fun o S1 ho => ?_))))
  obtain ⟨k, rfl, hM⟩ := ho
  refine And.intro h1 (And.intro h2 (Exists.intro (LQm k c) (And.intro hM (fun o S2 ho => ?_))))
  obtain ⟨v, rfl, hq⟩ := ho
  exact zlwt_ok (x6 := x6) (LQm_i.mpr hq) hJ
set_option maxRecDepth 20000 in
theorem zlc_656 {xs : Nat → Int32} {Len : Nat} {J : ZP} {K : ZK} {S : ZS} {i : Int32} {x5 x6 : Option ZV} {c : Nat} (hc : c < 512) (hI : Inv c S) (h1 : vp_in (i + 1) Len) (h2 : vp_in (i + 2) Len) (h3 : vp_in (i + 3) Len) (h4 : vp_in (i + 4) Len) (hJ : ∀ (y5 y6 : Option ZV) (S' : ZS), Inv (c + 1) S' → J [some (zr 26 0), some (zr 7 0), some (zr 8 0), some (zr 24 0), some (zi (i + 5)), y5, y6] [] S' K) : zb_L_law_656 xs Len J [some (zr 26 0), some (zr 7 0), some (zr 8 0), some (zr 24 0), some (zi i), x5, x6] [] S K := by
  have hl := lc_becomes hI (xs (i + 1).toNatClampNeg) (xs (i + 2).toNatClampNeg)
  refine And.intro h1 (And.intro h2 (Exists.intro (LPm sp_X8_becomes [zr 8 0, zi (xs (i + 1).toNatClampNeg), zi (xs (i + 2).toNatClampNeg)] c) (And.intro hl (fun o S1 ho => ?_))))
  obtain ⟨k, rfl, hM⟩ := ho
  refine And.intro h1 (And.intro h2 (Exists.intro (LQm k c) (And.intro hM (fun o S2 ho => ?_))))
  obtain ⟨v, rfl, hq⟩ := ho
  exact zlwt_ok (x6 := x6) (LQm_i.mpr hq) hJ
set_option maxRecDepth 20000 in
theorem zlc_724 {xs : Nat → Int32} {Len : Nat} {J : ZP} {K : ZK} {S : ZS} {i : Int32} {x5 x6 : Option ZV} {c : Nat} (hc : c < 512) (hI : Inv c S) (h1 : vp_in (i + 1) Len) (h2 : vp_in (i + 2) Len) (h3 : vp_in (i + 3) Len) (h4 : vp_in (i + 4) Len) (hJ : ∀ (y5 y6 : Option ZV) (S' : ZS), Inv (c + 1) S' → J [some (zr 26 0), some (zr 7 0), some (zr 8 0), some (zr 24 0), some (zi (i + 5)), y5, y6] [] S' K) : zb_L_law_724 xs Len J [some (zr 26 0), some (zr 7 0), some (zr 8 0), some (zr 24 0), some (zi i), x5, x6] [] S K := by
  have hl := lc_moves hI (xs (i + 1).toNatClampNeg) (xs (i + 2).toNatClampNeg)
  refine And.intro h1 (And.intro h2 (Exists.intro (LPm sp_X8_moves [zr 8 0, zi (xs (i + 1).toNatClampNeg), zi (xs (i + 2).toNatClampNeg)] c) (And.intro hl (fun o S1 ho => ?_))))
  obtain ⟨k, rfl, hM⟩ := ho
  refine And.intro h1 (And.intro h2 (Exists.intro (LQm k c) (And.intro hM (fun o S2 ho => ?_))))
  obtain ⟨v, rfl, hq⟩ := ho
  exact zlwt_ok (x6 := x6) (LQm_i.mpr hq) hJ
set_option maxRecDepth 20000 in
theorem zlc_792 {xs : Nat → Int32} {Len : Nat} {J : ZP} {K : ZK} {S : ZS} {i : Int32} {x5 x6 : Option ZV} {c : Nat} (hc : c < 512) (hI : Inv c S) (h1 : vp_in (i + 1) Len) (h2 : vp_in (i + 2) Len) (h3 : vp_in (i + 3) Len) (h4 : vp_in (i + 4) Len) (hJ : ∀ (y5 y6 : Option ZV) (S' : ZS), Inv (c + 1) S' → J [some (zr 26 0), some (zr 7 0), some (zr 8 0), some (zr 24 0), some (zi (i + 5)), y5, y6] [] S' K) : zb_L_law_792 xs Len J [some (zr 26 0), some (zr 7 0), some (zr 8 0), some (zr 24 0), some (zi i), x5, x6] [] S K := by
  have hl := lc_give hI (xs (i + 1).toNatClampNeg) (xs (i + 2).toNatClampNeg) (xs (i + 3).toNatClampNeg)
  refine And.intro h1 (And.intro h2 (And.intro h3 (Exists.intro (LPm sp_X8_give [zr 8 0, zi (xs (i + 1).toNatClampNeg), zi (xs (i + 2).toNatClampNeg), zi (xs (i + 3).toNatClampNeg)] c) (And.intro hl (fun o S1 ho => ?_)))))
  obtain ⟨k, rfl, hM⟩ := ho
  refine And.intro h1 (And.intro h2 (And.intro h3 (Exists.intro (LQm k c) (And.intro hM (fun o S2 ho => ?_)))))
  obtain ⟨v, rfl, hq⟩ := ho
  exact zlwt_ok (x6 := x6) (LQm_i.mpr hq) hJ
set_option maxRecDepth 20000 in
theorem zlc_872 {xs : Nat → Int32} {Len : Nat} {J : ZP} {K : ZK} {S : ZS} {i : Int32} {x5 x6 : Option ZV} {c : Nat} (hc : c < 512) (hI : Inv c S) (h1 : vp_in (i + 1) Len) (h2 : vp_in (i + 2) Len) (h3 : vp_in (i + 3) Len) (h4 : vp_in (i + 4) Len) (hJ : ∀ (y5 y6 : Option ZV) (S' : ZS), Inv (c + 1) S' → J [some (zr 26 0), some (zr 7 0), some (zr 8 0), some (zr 24 0), some (zi (i + 5)), y5, y6] [] S' K) : zb_L_law_872 xs Len J [some (zr 26 0), some (zr 7 0), some (zr 8 0), some (zr 24 0), some (zi i), x5, x6] [] S K := by
  have hl := lc_stealBook hI (xs (i + 1).toNatClampNeg)
  refine And.intro h1 (Exists.intro (LPm sp_X8_stealBook [zr 8 0, zi (xs (i + 1).toNatClampNeg)] c) (And.intro hl (fun o S1 ho => ?_)))
  obtain ⟨k, rfl, hM⟩ := ho
  refine And.intro h1 (Exists.intro (LQm k c) (And.intro hM (fun o S2 ho => ?_)))
  obtain ⟨v, rfl, hq⟩ := ho
  exact zlwt_ok (x6 := x6) (LQm_i.mpr hq) hJ
set_option maxRecDepth 20000 in
theorem zlc_928 {xs : Nat → Int32} {Len : Nat} {J : ZP} {K : ZK} {S : ZS} {i : Int32} {x5 x6 : Option ZV} {c : Nat} (hc : c < 512) (hI : Inv c S) (h1 : vp_in (i + 1) Len) (h2 : vp_in (i + 2) Len) (h3 : vp_in (i + 3) Len) (h4 : vp_in (i + 4) Len) (hJ : ∀ (y5 y6 : Option ZV) (S' : ZS), Inv (c + 1) S' → J [some (zr 26 0), some (zr 7 0), some (zr 8 0), some (zr 24 0), some (zi (i + 5)), y5, y6] [] S' K) : zb_L_law_928 xs Len J [some (zr 26 0), some (zr 7 0), some (zr 8 0), some (zr 24 0), some (zi i), x5, x6] [] S K := by
  have hl := lc_personIs hI (xs (i + 1).toNatClampNeg) (xs (i + 2).toNatClampNeg)
  refine And.intro h1 (And.intro h2 (Exists.intro (LPm sp_X8_personIs [zr 8 0, zi (xs (i + 1).toNatClampNeg), zi (xs (i + 2).toNatClampNeg)] c) (And.intro hl (fun o S1 ho => ?_))))
  obtain ⟨k, rfl, hM⟩ := ho
  refine And.intro h1 (And.intro h2 (Exists.intro (LQm k c) (And.intro hM (fun o S2 ho => ?_))))
  obtain ⟨v, rfl, hq⟩ := ho
  exact zlwt_ok (x6 := x6) (LQm_i.mpr hq) hJ
set_option maxRecDepth 20000 in
theorem zlc_996 {xs : Nat → Int32} {Len : Nat} {J : ZP} {K : ZK} {S : ZS} {i : Int32} {x5 x6 : Option ZV} {c : Nat} (hc : c < 512) (hI : Inv c S) (h1 : vp_in (i + 1) Len) (h2 : vp_in (i + 2) Len) (h3 : vp_in (i + 3) Len) (h4 : vp_in (i + 4) Len) (hJ : ∀ (y5 y6 : Option ZV) (S' : ZS), Inv (c + 1) S' → J [some (zr 26 0), some (zr 7 0), some (zr 8 0), some (zr 24 0), some (zi (i + 5)), y5, y6] [] S' K) : zb_L_law_996 xs Len J [some (zr 26 0), some (zr 7 0), some (zr 8 0), some (zr 24 0), some (zi i), x5, x6] [] S K := by
  have hl := lc_left hI (xs (i + 1).toNatClampNeg) (xs (i + 2).toNatClampNeg)
  refine And.intro h1 (And.intro h2 (Exists.intro (LPm sp_X8_left [zr 8 0, zi (xs (i + 1).toNatClampNeg), zi (xs (i + 2).toNatClampNeg)] c) (And.intro hl (fun o S1 ho => ?_))))
  obtain ⟨k, rfl, hM⟩ := ho
  refine And.intro h1 (And.intro h2 (Exists.intro (LQm k c) (And.intro hM (fun o S2 ho => ?_))))
  obtain ⟨v, rfl, hq⟩ := ho
  exact zlwt_ok (x6 := x6) (LQm_i.mpr hq) hJ
set_option maxRecDepth 20000 in
theorem zlc_1064 {xs : Nat → Int32} {Len : Nat} {J : ZP} {K : ZK} {S : ZS} {i : Int32} {x5 x6 : Option ZV} {c : Nat} (hc : c < 512) (hI : Inv c S) (h1 : vp_in (i + 1) Len) (h2 : vp_in (i + 2) Len) (h3 : vp_in (i + 3) Len) (h4 : vp_in (i + 4) Len) (hJ : ∀ (y5 y6 : Option ZV) (S' : ZS), Inv (c + 1) S' → J [some (zr 26 0), some (zr 7 0), some (zr 8 0), some (zr 24 0), some (zi (i + 5)), y5, y6] [] S' K) : zb_L_law_1064 xs Len J [some (zr 26 0), some (zr 7 0), some (zr 8 0), some (zr 24 0), some (zi i), x5, x6] [] S K := by
  have hl := lc_leftAnew hc hI (xs (i + 1).toNatClampNeg) (xs (i + 2).toNatClampNeg)
  refine And.intro h1 (And.intro h2 (Exists.intro (LPm sp_X8_leftAnew [zr 8 0, zi (xs (i + 1).toNatClampNeg), zi (xs (i + 2).toNatClampNeg)] c) (And.intro hl (fun o S1 ho => ?_))))
  obtain ⟨k, rfl, hM⟩ := ho
  refine And.intro h1 (And.intro h2 (Exists.intro (LQm k c) (And.intro hM (fun o S2 ho => ?_))))
  obtain ⟨v, rfl, hq⟩ := ho
  exact zlwt_ok (x6 := x6) (LQm_i.mpr hq) hJ
set_option maxRecDepth 20000 in
theorem zlc_1132 {xs : Nat → Int32} {Len : Nat} {J : ZP} {K : ZK} {S : ZS} {i : Int32} {x5 x6 : Option ZV} {c : Nat} (hc : c < 512) (hI : Inv c S) (h1 : vp_in (i + 1) Len) (h2 : vp_in (i + 2) Len) (h3 : vp_in (i + 3) Len) (h4 : vp_in (i + 4) Len) (hJ : ∀ (y5 y6 : Option ZV) (S' : ZS), Inv (c + 1) S' → J [some (zr 26 0), some (zr 7 0), some (zr 8 0), some (zr 24 0), some (zi (i + 5)), y5, y6] [] S' K) : zb_L_law_1132 xs Len J [some (zr 26 0), some (zr 7 0), some (zr 8 0), some (zr 24 0), some (zi i), x5, x6] [] S K := by
  have hl := lc_depot hc hI (xs (i + 1).toNatClampNeg)
  refine And.intro h1 (Exists.intro (LPm sp_X8_depot [zr 8 0, zi (xs (i + 1).toNatClampNeg)] c) (And.intro hl (fun o S1 ho => ?_)))
  obtain ⟨k, rfl, hM⟩ := ho
  refine And.intro h1 (Exists.intro (LQm k c) (And.intro hM (fun o S2 ho => ?_)))
  obtain ⟨v, rfl, hq⟩ := ho
  exact zlwt_ok (x6 := x6) (LQm_i.mpr hq) hJ
set_option maxRecDepth 20000 in
theorem zlc_1188 {xs : Nat → Int32} {Len : Nat} {J : ZP} {K : ZK} {S : ZS} {i : Int32} {x5 x6 : Option ZV} {c : Nat} (hc : c < 512) (hI : Inv c S) (h1 : vp_in (i + 1) Len) (h2 : vp_in (i + 2) Len) (h3 : vp_in (i + 3) Len) (h4 : vp_in (i + 4) Len) (hJ : ∀ (y5 y6 : Option ZV) (S' : ZS), Inv (c + 1) S' → J [some (zr 26 0), some (zr 7 0), some (zr 8 0), some (zr 24 0), some (zi (i + 5)), y5, y6] [] S' K) : zb_L_law_1188 xs Len J [some (zr 26 0), some (zr 7 0), some (zr 8 0), some (zr 24 0), some (zi i), x5, x6] [] S K := by
  have hl := lc_shop hc hI (xs (i + 1).toNatClampNeg)
  refine And.intro h1 (Exists.intro (LPm sp_X8_shop [zr 8 0, zi (xs (i + 1).toNatClampNeg)] c) (And.intro hl (fun o S1 ho => ?_)))
  obtain ⟨k, rfl, hM⟩ := ho
  refine And.intro h1 (Exists.intro (LQm k c) (And.intro hM (fun o S2 ho => ?_)))
  obtain ⟨v, rfl, hq⟩ := ho
  exact zlwt_ok (x6 := x6) (LQm_i.mpr hq) hJ
set_option maxRecDepth 20000 in
theorem zlc_1244 {xs : Nat → Int32} {Len : Nat} {J : ZP} {K : ZK} {S : ZS} {i : Int32} {x5 x6 : Option ZV} {c : Nat} (hc : c < 512) (hI : Inv c S) (h1 : vp_in (i + 1) Len) (h2 : vp_in (i + 2) Len) (h3 : vp_in (i + 3) Len) (h4 : vp_in (i + 4) Len) (hJ : ∀ (y5 y6 : Option ZV) (S' : ZS), Inv (c + 1) S' → J [some (zr 26 0), some (zr 7 0), some (zr 8 0), some (zr 24 0), some (zi (i + 5)), y5, y6] [] S' K) : zb_L_law_1244 xs Len J [some (zr 26 0), some (zr 7 0), some (zr 8 0), some (zr 24 0), some (zi i), x5, x6] [] S K := by
  have hl := lc_ship hc hI (xs (i + 1).toNatClampNeg) (xs (i + 2).toNatClampNeg) (xs (i + 3).toNatClampNeg)
  refine And.intro h1 (And.intro h2 (And.intro h3 (Exists.intro (LPm sp_X8_ship [zr 8 0, zi (xs (i + 1).toNatClampNeg), zi (xs (i + 2).toNatClampNeg), zi (xs (i + 3).toNatClampNeg)] c) (And.intro hl (fun o S1 ho => ?_)))))
  obtain ⟨k, rfl, hM⟩ := ho
  refine And.intro h1 (And.intro h2 (And.intro h3 (Exists.intro (LQm k c) (And.intro hM (fun o S2 ho => ?_)))))
  obtain ⟨v, rfl, hq⟩ := ho
  exact zlwt_ok (x6 := x6) (LQm_i.mpr hq) hJ
set_option maxRecDepth 20000 in
theorem zlc_1324 {xs : Nat → Int32} {Len : Nat} {J : ZP} {K : ZK} {S : ZS} {i : Int32} {x5 x6 : Option ZV} {c : Nat} (hc : c < 512) (hI : Inv c S) (h1 : vp_in (i + 1) Len) (h2 : vp_in (i + 2) Len) (h3 : vp_in (i + 3) Len) (h4 : vp_in (i + 4) Len) (hJ : ∀ (y5 y6 : Option ZV) (S' : ZS), Inv (c + 1) S' → J [some (zr 26 0), some (zr 7 0), some (zr 8 0), some (zr 24 0), some (zi (i + 5)), y5, y6] [] S' K) : zb_L_law_1324 xs Len J [some (zr 26 0), some (zr 7 0), some (zr 8 0), some (zr 24 0), some (zi i), x5, x6] [] S K := by
  have hl := lc_lose hc hI (xs (i + 1).toNatClampNeg) (xs (i + 2).toNatClampNeg) (xs (i + 3).toNatClampNeg)
  refine And.intro h1 (And.intro h2 (And.intro h3 (Exists.intro (LPm sp_X8_lose [zr 8 0, zi (xs (i + 1).toNatClampNeg), zi (xs (i + 2).toNatClampNeg), zi (xs (i + 3).toNatClampNeg)] c) (And.intro hl (fun o S1 ho => ?_)))))
  obtain ⟨k, rfl, hM⟩ := ho
  refine And.intro h1 (And.intro h2 (And.intro h3 (Exists.intro (LQm k c) (And.intro hM (fun o S2 ho => ?_)))))
  obtain ⟨v, rfl, hq⟩ := ho
  exact zlwt_ok (x6 := x6) (LQm_i.mpr hq) hJ
set_option maxRecDepth 20000 in
theorem zlc_1404 {xs : Nat → Int32} {Len : Nat} {J : ZP} {K : ZK} {S : ZS} {i : Int32} {x5 x6 : Option ZV} {c : Nat} (hc : c < 512) (hI : Inv c S) (h1 : vp_in (i + 1) Len) (h2 : vp_in (i + 2) Len) (h3 : vp_in (i + 3) Len) (h4 : vp_in (i + 4) Len) (hJ : ∀ (y5 y6 : Option ZV) (S' : ZS), Inv (c + 1) S' → J [some (zr 26 0), some (zr 7 0), some (zr 8 0), some (zr 24 0), some (zi (i + 5)), y5, y6] [] S' K) : zb_L_law_1404 xs Len J [some (zr 26 0), some (zr 7 0), some (zr 8 0), some (zr 24 0), some (zi i), x5, x6] [] S K := by
  have hl := lc_depotHas hc hI (xs (i + 1).toNatClampNeg) (xs (i + 2).toNatClampNeg)
  refine And.intro h1 (And.intro h2 (Exists.intro (LPm sp_X8_depotHas [zr 8 0, zi (xs (i + 1).toNatClampNeg), zi (xs (i + 2).toNatClampNeg)] c) (And.intro hl (fun o S1 ho => ?_))))
  obtain ⟨k, rfl, hM⟩ := ho
  refine And.intro h1 (And.intro h2 (Exists.intro (LQm k c) (And.intro hM (fun o S2 ho => ?_))))
  obtain ⟨v, rfl, hq⟩ := ho
  exact zlwt_ok (x6 := x6) (LQm_i.mpr hq) hJ
set_option maxRecDepth 20000 in
theorem zlc_1472 {xs : Nat → Int32} {Len : Nat} {J : ZP} {K : ZK} {S : ZS} {i : Int32} {x5 x6 : Option ZV} {c : Nat} (hc : c < 512) (hI : Inv c S) (h1 : vp_in (i + 1) Len) (h2 : vp_in (i + 2) Len) (h3 : vp_in (i + 3) Len) (h4 : vp_in (i + 4) Len) (hJ : ∀ (y5 y6 : Option ZV) (S' : ZS), Inv (c + 1) S' → J [some (zr 26 0), some (zr 7 0), some (zr 8 0), some (zr 24 0), some (zi (i + 5)), y5, y6] [] S' K) : zb_L_law_1472 xs Len J [some (zr 26 0), some (zr 7 0), some (zr 8 0), some (zr 24 0), some (zi i), x5, x6] [] S K := by
  have hl := lc_buy hc hI (xs (i + 1).toNatClampNeg) (xs (i + 2).toNatClampNeg) (xs (i + 3).toNatClampNeg) (xs (i + 4).toNatClampNeg) (fun k1 ha hb hg hd => lc_buy_free hc hI _ _ _ _ ha hb hg hd k1) (fun k1 ha hb hg hd => lc_buy_points hc hI _ _ _ _ ha hb hg hd k1) (fun hbad => lc_buy_bad hc hI _ _ _ _ hbad)
  refine And.intro h1 (And.intro h2 (And.intro h3 (And.intro h4 (Exists.intro (LPm sp_X8_buy [zr 8 0, zi (xs (i + 1).toNatClampNeg), zi (xs (i + 2).toNatClampNeg), zi (xs (i + 3).toNatClampNeg), zi (xs (i + 4).toNatClampNeg)] c) (And.intro hl (fun o S1 ho => ?_))))))
  obtain ⟨k, rfl, hM⟩ := ho
  refine And.intro h1 (And.intro h2 (And.intro h3 (And.intro h4 (Exists.intro (LQm k c) (And.intro hM (fun o S2 ho => ?_))))))
  obtain ⟨v, rfl, hq⟩ := ho
  exact zlwt_ok (x6 := x6) (LQm_i.mpr hq) hJ
set_option maxRecDepth 20000 in
theorem zlc_1564 {xs : Nat → Int32} {Len : Nat} {J : ZP} {K : ZK} {S : ZS} {i : Int32} {x5 x6 : Option ZV} {c : Nat} (hc : c < 512) (hI : Inv c S) (h1 : vp_in (i + 1) Len) (h2 : vp_in (i + 2) Len) (h3 : vp_in (i + 3) Len) (h4 : vp_in (i + 4) Len) (hJ : ∀ (y5 y6 : Option ZV) (S' : ZS), Inv (c + 1) S' → J [some (zr 26 0), some (zr 7 0), some (zr 8 0), some (zr 24 0), some (zi (i + 5)), y5, y6] [] S' K) : zb_L_law_1564 xs Len J [some (zr 26 0), some (zr 7 0), some (zr 8 0), some (zr 24 0), some (zi i), x5, x6] [] S K := by
  have hl := lc_claim hc hI (xs (i + 1).toNatClampNeg) (xs (i + 2).toNatClampNeg) (xs (i + 3).toNatClampNeg)
  refine And.intro h1 (And.intro h2 (And.intro h3 (Exists.intro (LPm sp_X8_claim [zr 8 0, zi (xs (i + 1).toNatClampNeg), zi (xs (i + 2).toNatClampNeg), zi (xs (i + 3).toNatClampNeg)] c) (And.intro hl (fun o S1 ho => ?_)))))
  obtain ⟨k, rfl, hM⟩ := ho
  refine And.intro h1 (And.intro h2 (And.intro h3 (Exists.intro (LQm k c) (And.intro hM (fun o S2 ho => ?_)))))
  obtain ⟨v, rfl, hq⟩ := ho
  exact zlwt_ok (x6 := x6) (LQm_i.mpr hq) hJ
set_option maxRecDepth 20000 in
theorem zlc_1644 {xs : Nat → Int32} {Len : Nat} {J : ZP} {K : ZK} {S : ZS} {i : Int32} {x5 x6 : Option ZV} {c : Nat} (hc : c < 512) (hI : Inv c S) (h1 : vp_in (i + 1) Len) (h2 : vp_in (i + 2) Len) (h3 : vp_in (i + 3) Len) (h4 : vp_in (i + 4) Len) (hJ : ∀ (y5 y6 : Option ZV) (S' : ZS), Inv (c + 1) S' → J [some (zr 26 0), some (zr 7 0), some (zr 8 0), some (zr 24 0), some (zi (i + 5)), y5, y6] [] S' K) : zb_L_law_1644 xs Len J [some (zr 26 0), some (zr 7 0), some (zr 8 0), some (zr 24 0), some (zi i), x5, x6] [] S K := by
  have hl := lc_advance hc hI (xs (i + 1).toNatClampNeg) (xs (i + 2).toNatClampNeg) (xs (i + 3).toNatClampNeg)
  refine And.intro h1 (And.intro h2 (And.intro h3 (Exists.intro (LPm sp_X8_advance [zr 8 0, zi (xs (i + 1).toNatClampNeg), zi (xs (i + 2).toNatClampNeg), zi (xs (i + 3).toNatClampNeg)] c) (And.intro hl (fun o S1 ho => ?_)))))
  obtain ⟨k, rfl, hM⟩ := ho
  refine And.intro h1 (And.intro h2 (And.intro h3 (Exists.intro (LQm k c) (And.intro hM (fun o S2 ho => ?_)))))
  obtain ⟨v, rfl, hq⟩ := ho
  exact zlwt_ok (x6 := x6) (LQm_i.mpr hq) hJ
set_option maxRecDepth 20000 in
theorem zlc_1724 {xs : Nat → Int32} {Len : Nat} {J : ZP} {K : ZK} {S : ZS} {i : Int32} {x5 x6 : Option ZV} {c : Nat} (hc : c < 512) (hI : Inv c S) (h1 : vp_in (i + 1) Len) (h2 : vp_in (i + 2) Len) (h3 : vp_in (i + 3) Len) (h4 : vp_in (i + 4) Len) (hJ : ∀ (y5 y6 : Option ZV) (S' : ZS), Inv (c + 1) S' → J [some (zr 26 0), some (zr 7 0), some (zr 8 0), some (zr 24 0), some (zi (i + 5)), y5, y6] [] S' K) : zb_L_law_1724 xs Len J [some (zr 26 0), some (zr 7 0), some (zr 8 0), some (zr 24 0), some (zi i), x5, x6] [] S K := by
  have hl := lc_settle hc hI (xs (i + 1).toNatClampNeg) (xs (i + 2).toNatClampNeg)
  refine And.intro h1 (And.intro h2 (Exists.intro (LPm sp_X8_settle [zr 8 0, zi (xs (i + 1).toNatClampNeg), zi (xs (i + 2).toNatClampNeg)] c) (And.intro hl (fun o S1 ho => ?_))))
  obtain ⟨k, rfl, hM⟩ := ho
  refine And.intro h1 (And.intro h2 (Exists.intro (LQm k c) (And.intro hM (fun o S2 ho => ?_))))
  obtain ⟨v, rfl, hq⟩ := ho
  exact zlwt_ok (x6 := x6) (LQm_i.mpr hq) hJ
set_option maxRecDepth 20000 in
theorem zlc_1792 {xs : Nat → Int32} {Len : Nat} {J : ZP} {K : ZK} {S : ZS} {i : Int32} {x5 x6 : Option ZV} {c : Nat} (hc : c < 512) (hI : Inv c S) (h1 : vp_in (i + 1) Len) (h2 : vp_in (i + 2) Len) (h3 : vp_in (i + 3) Len) (h4 : vp_in (i + 4) Len) (hJ : ∀ (y5 y6 : Option ZV) (S' : ZS), Inv (c + 1) S' → J [some (zr 26 0), some (zr 7 0), some (zr 8 0), some (zr 24 0), some (zi (i + 5)), y5, y6] [] S' K) : zb_L_law_1792 xs Len J [some (zr 26 0), some (zr 7 0), some (zr 8 0), some (zr 24 0), some (zi i), x5, x6] [] S K := by
  have hl := lc_lacks hc hI (xs (i + 1).toNatClampNeg) (xs (i + 2).toNatClampNeg) (xs (i + 3).toNatClampNeg) (xs (i + 4).toNatClampNeg)
  refine And.intro h1 (And.intro h2 (And.intro h3 (And.intro h4 (Exists.intro (LPm sp_X8_lacks [zr 8 0, zi (xs (i + 1).toNatClampNeg), zi (xs (i + 2).toNatClampNeg), zi (xs (i + 3).toNatClampNeg), zi (xs (i + 4).toNatClampNeg)] c) (And.intro hl (fun o S1 ho => ?_))))))
  obtain ⟨k, rfl, hM⟩ := ho
  refine And.intro h1 (And.intro h2 (And.intro h3 (And.intro h4 (Exists.intro (LQm k c) (And.intro hM (fun o S2 ho => ?_))))))
  obtain ⟨v, rfl, hq⟩ := ho
  exact zlwt_ok (x6 := x6) (LQm_i.mpr hq) hJ
set_option maxRecDepth 20000 in
theorem zlc_1884 {xs : Nat → Int32} {Len : Nat} {J : ZP} {K : ZK} {S : ZS} {i : Int32} {x5 x6 : Option ZV} {c : Nat} (hc : c < 512) (hI : Inv c S) (h1 : vp_in (i + 1) Len) (h2 : vp_in (i + 2) Len) (h3 : vp_in (i + 3) Len) (h4 : vp_in (i + 4) Len) (hJ : ∀ (y5 y6 : Option ZV) (S' : ZS), Inv (c + 1) S' → J [some (zr 26 0), some (zr 7 0), some (zr 8 0), some (zr 24 0), some (zi (i + 5)), y5, y6] [] S' K) : zb_L_law_1884 xs Len J [some (zr 26 0), some (zr 7 0), some (zr 8 0), some (zr 24 0), some (zi i), x5, x6] [] S K := by
  have hl := lc_shopIs hc hI (xs (i + 1).toNatClampNeg) (xs (i + 2).toNatClampNeg) (xs (i + 3).toNatClampNeg)
  refine And.intro h1 (And.intro h2 (And.intro h3 (Exists.intro (LPm sp_X8_shopIs [zr 8 0, zi (xs (i + 1).toNatClampNeg), zi (xs (i + 2).toNatClampNeg), zi (xs (i + 3).toNatClampNeg)] c) (And.intro hl (fun o S1 ho => ?_)))))
  obtain ⟨k, rfl, hM⟩ := ho
  refine And.intro h1 (And.intro h2 (And.intro h3 (Exists.intro (LQm k c) (And.intro hM (fun o S2 ho => ?_)))))
  obtain ⟨v, rfl, hq⟩ := ho
  exact zlwt_ok (x6 := x6) (LQm_i.mpr hq) hJ
set_option maxRecDepth 20000 in
theorem zlc_1964 {xs : Nat → Int32} {Len : Nat} {J : ZP} {K : ZK} {S : ZS} {i : Int32} {x5 x6 : Option ZV} {c : Nat} (hc : c < 512) (hI : Inv c S) (h1 : vp_in (i + 1) Len) (h2 : vp_in (i + 2) Len) (h3 : vp_in (i + 3) Len) (h4 : vp_in (i + 4) Len) (hJ : ∀ (y5 y6 : Option ZV) (S' : ZS), Inv (c + 1) S' → J [some (zr 26 0), some (zr 7 0), some (zr 8 0), some (zr 24 0), some (zi (i + 5)), y5, y6] [] S' K) : zb_L_law_1964 xs Len J [some (zr 26 0), some (zr 7 0), some (zr 8 0), some (zr 24 0), some (zi i), x5, x6] [] S K := by
  have hl := lc_forge hc hI (xs (i + 1).toNatClampNeg) (xs (i + 2).toNatClampNeg) (xs (i + 3).toNatClampNeg)
  refine And.intro h1 (And.intro h2 (And.intro h3 (Exists.intro (LPm sp_X8_forge [zr 8 0, zi (xs (i + 1).toNatClampNeg), zi (xs (i + 2).toNatClampNeg), zi (xs (i + 3).toNatClampNeg)] c) (And.intro hl (fun o S1 ho => ?_)))))
  obtain ⟨k, rfl, hM⟩ := ho
  refine And.intro h1 (And.intro h2 (And.intro h3 (Exists.intro (LQm k c) (And.intro hM (fun o S2 ho => ?_)))))
  obtain ⟨v, rfl, hq⟩ := ho
  exact zlwt_ok (x6 := x6) (LQm_i.mpr hq) hJ
set_option maxRecDepth 20000 in
theorem zlc_2044 {xs : Nat → Int32} {Len : Nat} {J : ZP} {K : ZK} {S : ZS} {i : Int32} {x5 x6 : Option ZV} {c : Nat} (hc : c < 512) (hI : Inv c S) (h1 : vp_in (i + 1) Len) (h2 : vp_in (i + 2) Len) (h3 : vp_in (i + 3) Len) (h4 : vp_in (i + 4) Len) (hJ : ∀ (y5 y6 : Option ZV) (S' : ZS), Inv (c + 1) S' → J [some (zr 26 0), some (zr 7 0), some (zr 8 0), some (zr 24 0), some (zi (i + 5)), y5, y6] [] S' K) : zb_L_law_2044 xs Len J [some (zr 26 0), some (zr 7 0), some (zr 8 0), some (zr 24 0), some (zi i), x5, x6] [] S K := by
  have hl := lc_steal hc hI (xs (i + 1).toNatClampNeg) (xs (i + 2).toNatClampNeg) (xs (i + 3).toNatClampNeg)
  refine And.intro h1 (And.intro h2 (And.intro h3 (Exists.intro (LPm sp_X8_steal [zr 8 0, zi (xs (i + 1).toNatClampNeg), zi (xs (i + 2).toNatClampNeg), zi (xs (i + 3).toNatClampNeg)] c) (And.intro hl (fun o S1 ho => ?_)))))
  obtain ⟨k, rfl, hM⟩ := ho
  refine And.intro h1 (And.intro h2 (And.intro h3 (Exists.intro (LQm k c) (And.intro hM (fun o S2 ho => ?_)))))
  obtain ⟨v, rfl, hq⟩ := ho
  exact zlwt_ok (x6 := x6) (LQm_i.mpr hq) hJ
set_option maxRecDepth 20000 in
theorem zlc_2124 {xs : Nat → Int32} {Len : Nat} {J : ZP} {K : ZK} {S : ZS} {i : Int32} {x5 x6 : Option ZV} {c : Nat} (hc : c < 512) (hI : Inv c S) (h1 : vp_in (i + 1) Len) (h2 : vp_in (i + 2) Len) (h3 : vp_in (i + 3) Len) (h4 : vp_in (i + 4) Len) (hJ : ∀ (y5 y6 : Option ZV) (S' : ZS), Inv (c + 1) S' → J [some (zr 26 0), some (zr 7 0), some (zr 8 0), some (zr 24 0), some (zi (i + 5)), y5, y6] [] S' K) : zb_L_law_2124 xs Len J [some (zr 26 0), some (zr 7 0), some (zr 8 0), some (zr 24 0), some (zi i), x5, x6] [] S K := by
  have hl := lc_inspect hc hI (xs (i + 1).toNatClampNeg)
  refine And.intro h1 (Exists.intro (LPm sp_X8_inspect [zr 8 0, zi (xs (i + 1).toNatClampNeg)] c) (And.intro hl (fun o S1 ho => ?_)))
  obtain ⟨k, rfl, hM⟩ := ho
  refine And.intro h1 (Exists.intro (LQm k c) (And.intro hM (fun o S2 ho => ?_)))
  obtain ⟨v, rfl, hq⟩ := ho
  exact zlwt_ok (x6 := x6) (LQm_i.mpr hq) hJ
set_option maxRecDepth 20000 in
theorem zlc_2180 {xs : Nat → Int32} {Len : Nat} {J : ZP} {K : ZK} {S : ZS} {i : Int32} {x5 x6 : Option ZV} {c : Nat} (hc : c < 512) (hI : Inv c S) (h1 : vp_in (i + 1) Len) (h2 : vp_in (i + 2) Len) (h3 : vp_in (i + 3) Len) (h4 : vp_in (i + 4) Len) (hJ : ∀ (y5 y6 : Option ZV) (S' : ZS), Inv (c + 1) S' → J [some (zr 26 0), some (zr 7 0), some (zr 8 0), some (zr 24 0), some (zi (i + 5)), y5, y6] [] S' K) : zb_L_law_2180 xs Len J [some (zr 26 0), some (zr 7 0), some (zr 8 0), some (zr 24 0), some (zi i), x5, x6] [] S K := by
  have hl := lc_black hc hI (xs (i + 1).toNatClampNeg) (xs (i + 2).toNatClampNeg) (xs (i + 3).toNatClampNeg)
  refine And.intro h1 (And.intro h2 (And.intro h3 (Exists.intro (LPm sp_X8_black [zr 8 0, zi (xs (i + 1).toNatClampNeg), zi (xs (i + 2).toNatClampNeg), zi (xs (i + 3).toNatClampNeg)] c) (And.intro hl (fun o S1 ho => ?_)))))
  obtain ⟨k, rfl, hM⟩ := ho
  refine And.intro h1 (And.intro h2 (And.intro h3 (Exists.intro (LQm k c) (And.intro hM (fun o S2 ho => ?_)))))
  obtain ⟨v, rfl, hq⟩ := ho
  exact zlwt_ok (x6 := x6) (LQm_i.mpr hq) hJ
set_option maxRecDepth 20000 in
theorem zlc_2260 {xs : Nat → Int32} {Len : Nat} {J : ZP} {K : ZK} {S : ZS} {i : Int32} {x5 x6 : Option ZV} {c : Nat} (hc : c < 512) (hI : Inv c S) (h1 : vp_in (i + 1) Len) (h2 : vp_in (i + 2) Len) (h3 : vp_in (i + 3) Len) (h4 : vp_in (i + 4) Len) (hJ : ∀ (y5 y6 : Option ZV) (S' : ZS), Inv (c + 1) S' → J [some (zr 26 0), some (zr 7 0), some (zr 8 0), some (zr 24 0), some (zi (i + 5)), y5, y6] [] S' K) : zb_L_law_2260 xs Len J [some (zr 26 0), some (zr 7 0), some (zr 8 0), some (zr 24 0), some (zi i), x5, x6] [] S K := by
  have hl := lc_farm hc hI (xs (i + 1).toNatClampNeg) (xs (i + 2).toNatClampNeg) (xs (i + 3).toNatClampNeg)
  refine And.intro h1 (And.intro h2 (And.intro h3 (Exists.intro (LPm sp_X8_farm [zr 8 0, zi (xs (i + 1).toNatClampNeg), zi (xs (i + 2).toNatClampNeg), zi (xs (i + 3).toNatClampNeg)] c) (And.intro hl (fun o S1 ho => ?_)))))
  obtain ⟨k, rfl, hM⟩ := ho
  refine And.intro h1 (And.intro h2 (And.intro h3 (Exists.intro (LQm k c) (And.intro hM (fun o S2 ho => ?_)))))
  obtain ⟨v, rfl, hq⟩ := ho
  exact zlwt_ok (x6 := x6) (LQm_i.mpr hq) hJ
set_option maxRecDepth 20000 in
theorem zlc_2340 {xs : Nat → Int32} {Len : Nat} {J : ZP} {K : ZK} {S : ZS} {i : Int32} {x5 x6 : Option ZV} {c : Nat} (hc : c < 512) (hI : Inv c S) (h1 : vp_in (i + 1) Len) (h2 : vp_in (i + 2) Len) (h3 : vp_in (i + 3) Len) (h4 : vp_in (i + 4) Len) (hJ : ∀ (y5 y6 : Option ZV) (S' : ZS), Inv (c + 1) S' → J [some (zr 26 0), some (zr 7 0), some (zr 8 0), some (zr 24 0), some (zi (i + 5)), y5, y6] [] S' K) : zb_L_law_2340 xs Len J [some (zr 26 0), some (zr 7 0), some (zr 8 0), some (zr 24 0), some (zi i), x5, x6] [] S K := by
  have hl := lc_deliver hc hI (xs (i + 1).toNatClampNeg) (xs (i + 2).toNatClampNeg)
  refine And.intro h1 (And.intro h2 (Exists.intro (LPm sp_X8_deliver [zr 8 0, zi (xs (i + 1).toNatClampNeg), zi (xs (i + 2).toNatClampNeg)] c) (And.intro hl (fun o S1 ho => ?_))))
  obtain ⟨k, rfl, hM⟩ := ho
  refine And.intro h1 (And.intro h2 (Exists.intro (LQm k c) (And.intro hM (fun o S2 ho => ?_))))
  obtain ⟨v, rfl, hq⟩ := ho
  exact zlwt_ok (x6 := x6) (LQm_i.mpr hq) hJ
set_option maxRecDepth 20000 in
theorem zlc_2408 {xs : Nat → Int32} {Len : Nat} {J : ZP} {K : ZK} {S : ZS} {i : Int32} {x5 x6 : Option ZV} {c : Nat} (hc : c < 512) (hI : Inv c S) (h1 : vp_in (i + 1) Len) (h2 : vp_in (i + 2) Len) (h3 : vp_in (i + 3) Len) (h4 : vp_in (i + 4) Len) (hJ : ∀ (y5 y6 : Option ZV) (S' : ZS), Inv (c + 1) S' → J [some (zr 26 0), some (zr 7 0), some (zr 8 0), some (zr 24 0), some (zi (i + 5)), y5, y6] [] S' K) : zb_L_law_2408 xs Len J [some (zr 26 0), some (zr 7 0), some (zr 8 0), some (zr 24 0), some (zi i), x5, x6] [] S K := by
  have hl := lc_failed hc hI (xs (i + 1).toNatClampNeg)
  refine And.intro h1 (Exists.intro (LPm sp_X8_failed [zr 8 0, zi (xs (i + 1).toNatClampNeg)] c) (And.intro hl (fun o S1 ho => ?_)))
  obtain ⟨k, rfl, hM⟩ := ho
  refine And.intro h1 (Exists.intro (LQm k c) (And.intro hM (fun o S2 ho => ?_)))
  obtain ⟨v, rfl, hq⟩ := ho
  exact zlwt_ok (x6 := x6) (LQm_i.mpr hq) hJ
set_option maxRecDepth 20000 in
theorem zlc_2464 {xs : Nat → Int32} {Len : Nat} {J : ZP} {K : ZK} {S : ZS} {i : Int32} {x5 x6 : Option ZV} {c : Nat} (hc : c < 512) (hI : Inv c S) (h1 : vp_in (i + 1) Len) (h2 : vp_in (i + 2) Len) (h3 : vp_in (i + 3) Len) (h4 : vp_in (i + 4) Len) (hJ : ∀ (y5 y6 : Option ZV) (S' : ZS), Inv (c + 1) S' → J [some (zr 26 0), some (zr 7 0), some (zr 8 0), some (zr 24 0), some (zi (i + 5)), y5, y6] [] S' K) : zb_L_law_2464 xs Len J [some (zr 26 0), some (zr 7 0), some (zr 8 0), some (zr 24 0), some (zi i), x5, x6] [] S K := by
  have hl := lc_month hc hI 
  refine Exists.intro (LPm sp_X8_month [zr 8 0] c) (And.intro hl (fun o S1 ho => ?_))
  obtain ⟨k, rfl, hM⟩ := ho
  refine Exists.intro (LQm k c) (And.intro hM (fun o S2 ho => ?_))
  obtain ⟨v, rfl, hq⟩ := ho
  exact zlwt_ok (x6 := x6) (LQm_i.mpr hq) hJ
set_option maxRecDepth 20000 in
theorem zlc_2508 {xs : Nat → Int32} {Len : Nat} {J : ZP} {K : ZK} {S : ZS} {i : Int32} {x5 x6 : Option ZV} {c : Nat} (hc : c < 512) (hI : Inv c S) (h1 : vp_in (i + 1) Len) (h2 : vp_in (i + 2) Len) (h3 : vp_in (i + 3) Len) (h4 : vp_in (i + 4) Len) (hJ : ∀ (y5 y6 : Option ZV) (S' : ZS), Inv (c + 1) S' → J [some (zr 26 0), some (zr 7 0), some (zr 8 0), some (zr 24 0), some (zi (i + 5)), y5, y6] [] S' K) : zb_L_law_2508 xs Len J [some (zr 26 0), some (zr 7 0), some (zr 8 0), some (zr 24 0), some (zi i), x5, x6] [] S K := by
  have hl := lc_diet hc hI (xs (i + 1).toNatClampNeg)
  refine And.intro h1 (Exists.intro (LPm sp_X8_diet [zr 8 0, zi (xs (i + 1).toNatClampNeg)] c) (And.intro hl (fun o S1 ho => ?_)))
  obtain ⟨k, rfl, hM⟩ := ho
  refine And.intro h1 (Exists.intro (LQm k c) (And.intro hM (fun o S2 ho => ?_)))
  obtain ⟨v, rfl, hq⟩ := ho
  exact zlwt_ok (x6 := x6) (LQm_i.mpr hq) hJ
set_option maxRecDepth 20000 in
theorem zlc_2564 {xs : Nat → Int32} {Len : Nat} {J : ZP} {K : ZK} {S : ZS} {i : Int32} {x5 x6 : Option ZV} {c : Nat} (hc : c < 512) (hI : Inv c S) (h1 : vp_in (i + 1) Len) (h2 : vp_in (i + 2) Len) (h3 : vp_in (i + 3) Len) (h4 : vp_in (i + 4) Len) (hJ : ∀ (y5 y6 : Option ZV) (S' : ZS), Inv (c + 1) S' → J [some (zr 26 0), some (zr 7 0), some (zr 8 0), some (zr 24 0), some (zi (i + 5)), y5, y6] [] S' K) : zb_L_law_2564 xs Len J [some (zr 26 0), some (zr 7 0), some (zr 8 0), some (zr 24 0), some (zi i), x5, x6] [] S K := by
  have hl := lc_sum hc hI (xs (i + 1).toNatClampNeg)
  refine And.intro h1 (Exists.intro (LPm sp_X8_sum [zr 8 0, zi (xs (i + 1).toNatClampNeg)] c) (And.intro hl (fun o S1 ho => ?_)))
  obtain ⟨k, rfl, hM⟩ := ho
  refine And.intro h1 (Exists.intro (LQm k c) (And.intro hM (fun o S2 ho => ?_)))
  obtain ⟨v, rfl, hq⟩ := ho
  exact zlwt_ok (x6 := x6) (LQm_i.mpr hq) hJ
theorem z_sw_of {L : List (Option ZV)} {st : List ZV} {S : ZS} {K : ZK} {d : ZP} {x : Int32} : ∀ {cs : List (Int32 × ZP)}, (∀ q ∈ cs, q.2 L st S K) → d L st S K → z_sw cs d L (.inl x :: st) S K
  | [], _, hd => hd
  | q :: cs, h, hd => ⟨fun _ => h q List.mem_cons_self, fun _ => z_sw_of (cs := cs) (fun q hq => h q (List.mem_cons_of_mem _ hq)) hd⟩
theorem zlaw_ge {Len n : Nat} (hL : Len ≤ 2560) (hn : n ≤ 2560) : (nI Len - 5 < nI n) ↔ Len < n + 5 := by
  by_cases h5 : 5 ≤ Len
  · have e : nI Len - 5 = nI (Len - 5) := by
      have e1 : nI Len = nI (Len - 5) + 5 := by
        show _ = nI (Len - 5) + nI 5
        rw [nI_add]
        congr 1
        omega
      rw [e1]
      exact Int32.add_sub_cancel _ _
    rw [e, zlt_iff, zti_nI (by omega), zti_nI (by omega)]
    omega
  · have e : (nI Len - 5).toInt = (Len : Int) - 5 := by
      rcases (show Len = 0 ∨ Len = 1 ∨ Len = 2 ∨ Len = 3 ∨ Len = 4 by omega) with rfl | rfl | rfl | rfl | rfl <;> decide
    rw [zlt_iff, e, zti_nI (by omega)]
    omega
set_option maxRecDepth 20000 in
theorem zlaw_sw {xs : Nat → Int32} {Len : Nat} {J : ZP} {K : ZK} {S : ZS} {i x : Int32} {x5 x6 : Option ZV} {c : Nat} (hc : c < 512) (hI : Inv c S) (h1 : vp_in (i + 1) Len) (h2 : vp_in (i + 2) Len) (h3 : vp_in (i + 3) Len) (h4 : vp_in (i + 4) Len) (hJ : ∀ (y5 y6 : Option ZV) (S' : ZS), Inv (c + 1) S' → J [some (zr 26 0), some (zr 7 0), some (zr 8 0), some (zr 24 0), some (zi (i + 5)), y5, y6] [] S' K) : z_sw [(0, zb_L_law_192 xs Len J), (1, zb_L_law_260 xs Len J), (2, zb_L_law_328 xs Len J), (3, zb_L_law_384 xs Len J), (4, zb_L_law_452 xs Len J), (5, zb_L_law_520 xs Len J), (6, zb_L_law_588 xs Len J), (7, zb_L_law_656 xs Len J), (8, zb_L_law_724 xs Len J), (9, zb_L_law_792 xs Len J), (10, zb_L_law_872 xs Len J), (11, zb_L_law_928 xs Len J), (12, zb_L_law_996 xs Len J), (13, zb_L_law_1064 xs Len J), (14, zb_L_law_1132 xs Len J), (15, zb_L_law_1188 xs Len J), (16, zb_L_law_1244 xs Len J), (17, zb_L_law_1324 xs Len J), (18, zb_L_law_1404 xs Len J), (19, zb_L_law_1472 xs Len J), (20, zb_L_law_1564 xs Len J), (21, zb_L_law_1644 xs Len J), (22, zb_L_law_1724 xs Len J), (23, zb_L_law_1792 xs Len J), (24, zb_L_law_1884 xs Len J), (25, zb_L_law_1964 xs Len J), (26, zb_L_law_2044 xs Len J), (27, zb_L_law_2124 xs Len J), (28, zb_L_law_2180 xs Len J), (29, zb_L_law_2260 xs Len J), (30, zb_L_law_2340 xs Len J), (31, zb_L_law_2408 xs Len J), (32, zb_L_law_2464 xs Len J), (33, zb_L_law_2508 xs Len J), (34, zb_L_law_2564 xs Len J)] (zb_L_law_2620 J) [some (zr 26 0), some (zr 7 0), some (zr 8 0), some (zr 24 0), some (zi i), x5, x6] [.inl x] S K := by
  refine z_sw_of ?_ (hJ x5 x6 S hI.up)
  exact List.forall_mem_cons.mpr ⟨zlc_192 (xs := xs) hc hI h1 h2 h3 h4 hJ, List.forall_mem_cons.mpr ⟨zlc_260 (xs := xs) hc hI h1 h2 h3 h4 hJ, List.forall_mem_cons.mpr ⟨zlc_328 (xs := xs) hc hI h1 h2 h3 h4 hJ, List.forall_mem_cons.mpr ⟨zlc_384 (xs := xs) hc hI h1 h2 h3 h4 hJ, List.forall_mem_cons.mpr ⟨zlc_452 (xs := xs) hc hI h1 h2 h3 h4 hJ, List.forall_mem_cons.mpr ⟨zlc_520 (xs := xs) hc hI h1 h2 h3 h4 hJ, List.forall_mem_cons.mpr ⟨zlc_588 (xs := xs) hc hI h1 h2 h3 h4 hJ, List.forall_mem_cons.mpr ⟨zlc_656 (xs := xs) hc hI h1 h2 h3 h4 hJ, List.forall_mem_cons.mpr ⟨zlc_724 (xs := xs) hc hI h1 h2 h3 h4 hJ, List.forall_mem_cons.mpr ⟨zlc_792 (xs := xs) hc hI h1 h2 h3 h4 hJ, List.forall_mem_cons.mpr ⟨zlc_872 (xs := xs) hc hI h1 h2 h3 h4 hJ, List.forall_mem_cons.mpr ⟨zlc_928 (xs := xs) hc hI h1 h2 h3 h4 hJ, List.forall_mem_cons.mpr ⟨zlc_996 (xs := xs) hc hI h1 h2 h3 h4 hJ, List.forall_mem_cons.mpr ⟨zlc_1064 (xs := xs) hc hI h1 h2 h3 h4 hJ, List.forall_mem_cons.mpr ⟨zlc_1132 (xs := xs) hc hI h1 h2 h3 h4 hJ, List.forall_mem_cons.mpr ⟨zlc_1188 (xs := xs) hc hI h1 h2 h3 h4 hJ, List.forall_mem_cons.mpr ⟨zlc_1244 (xs := xs) hc hI h1 h2 h3 h4 hJ, List.forall_mem_cons.mpr ⟨zlc_1324 (xs := xs) hc hI h1 h2 h3 h4 hJ, List.forall_mem_cons.mpr ⟨zlc_1404 (xs := xs) hc hI h1 h2 h3 h4 hJ, List.forall_mem_cons.mpr ⟨zlc_1472 (xs := xs) hc hI h1 h2 h3 h4 hJ, List.forall_mem_cons.mpr ⟨zlc_1564 (xs := xs) hc hI h1 h2 h3 h4 hJ, List.forall_mem_cons.mpr ⟨zlc_1644 (xs := xs) hc hI h1 h2 h3 h4 hJ, List.forall_mem_cons.mpr ⟨zlc_1724 (xs := xs) hc hI h1 h2 h3 h4 hJ, List.forall_mem_cons.mpr ⟨zlc_1792 (xs := xs) hc hI h1 h2 h3 h4 hJ, List.forall_mem_cons.mpr ⟨zlc_1884 (xs := xs) hc hI h1 h2 h3 h4 hJ, List.forall_mem_cons.mpr ⟨zlc_1964 (xs := xs) hc hI h1 h2 h3 h4 hJ, List.forall_mem_cons.mpr ⟨zlc_2044 (xs := xs) hc hI h1 h2 h3 h4 hJ, List.forall_mem_cons.mpr ⟨zlc_2124 (xs := xs) hc hI h1 h2 h3 h4 hJ, List.forall_mem_cons.mpr ⟨zlc_2180 (xs := xs) hc hI h1 h2 h3 h4 hJ, List.forall_mem_cons.mpr ⟨zlc_2260 (xs := xs) hc hI h1 h2 h3 h4 hJ, List.forall_mem_cons.mpr ⟨zlc_2340 (xs := xs) hc hI h1 h2 h3 h4 hJ, List.forall_mem_cons.mpr ⟨zlc_2408 (xs := xs) hc hI h1 h2 h3 h4 hJ, List.forall_mem_cons.mpr ⟨zlc_2464 (xs := xs) hc hI h1 h2 h3 h4 hJ, List.forall_mem_cons.mpr ⟨zlc_2508 (xs := xs) hc hI h1 h2 h3 h4 hJ, List.forall_mem_cons.mpr ⟨zlc_2564 (xs := xs) hc hI h1 h2 h3 h4 hJ, fun _ h => (nomatch h)⟩⟩⟩⟩⟩⟩⟩⟩⟩⟩⟩⟩⟩⟩⟩⟩⟩⟩⟩⟩⟩⟩⟩⟩⟩⟩⟩⟩⟩⟩⟩⟩⟩⟩⟩
set_option maxRecDepth 20000 in
theorem zlaw_it {xs : Nat → Int32} {Len : Nat} {K : ZK} (hL : Len ≤ 2560) : ∀ (d c : Nat) (S : ZS) (x5 x6 : Option ZV), c + d = Len / 5 → Inv c S → z_iter (zb_L_law_23 xs Len) (d + 1) [some (zr 26 0), some (zr 7 0), some (zr 8 0), some (zr 24 0), some (zi (nI (5 * c))), x5, x6] [] S K := by
  intro d
  induction d with
  | zero =>
    intro c S x5 x6 h hI
    have hlt : nI Len - 5 < nI (5 * c) := (zlaw_ge hL (by omega)).mpr (by omega)
    show zb_L_law_23 xs Len (z_iter (zb_L_law_23 xs Len) 0) _ [] S K
    exact And.intro (fun _ => rfl) (fun hh => absurd hlt hh)
  | succ d ih =>
    intro c S x5 x6 h hI
    have hge : ¬ nI Len - 5 < nI (5 * c) := fun hh => by
      have := (zlaw_ge hL (by omega)).mp hh
      omega
    have hv : ∀ j, j < 5 → vp_in (nI (5 * c) + nI j) Len := fun j hj => by
      rw [nI_add]
      exact vp_in_nI (by omega) (by omega)
    have h0 : vp_in (nI (5 * c)) Len := vp_in_nI (by omega) (by omega)
    show zb_L_law_23 xs Len (z_iter (zb_L_law_23 xs Len) (d + 1)) _ [] S K
    refine And.intro (fun hh => absurd hh hge) (fun _ => And.intro h0 ?_)
    refine zlaw_sw (by omega) hI (hv 1 (by decide)) (hv 2 (by decide)) (hv 3 (by decide)) (hv 4 (by decide)) (fun y5 y6 S' hI' => ?_)
    have e : nI (5 * c) + 5 = nI (5 * (c + 1)) := by
      show nI (5 * c) + nI 5 = _
      rw [nI_add]
      exact congrArg nI (by omega)
    rw [e]
    exact ih (c + 1) S' y5 y6 (by omega) hI'
