/-! THE LAW'S LOOP OF ACTS -/
theorem zaff (a b i : Nat) : nI a + nI b * nI i = nI (a + b * i) := by rw [pk_mul, nI_add]
set_option maxRecDepth 20000 in
set_option maxHeartbeats 4000000 in
theorem act_pts {J273 : ZP} {K : ZK} {n i c : Nat} {x4 : Int32} {S : ZS} (hi : i < 34) (hJ : ∀ L S, LJ n (i + 1) L S → J273 L [] S K) (hc : c ≤ 34 + 2 * i) (h : LW n x4 c S) {p a b k : Nat} (hp : p < n) (ha : a < 2) (hb : b < 6) (hk1 : 1 ≤ k) (hk2 : k ≤ 2000) (sort : S 2 b 0 = 1) {x6 x7 x11 x12 : Int32} {u14 u15 u16 u17 u18 u19 u20 u21 : Option ZV} : zb_L_law_407 J273 [some (zr 23 0), some (zr 7 0), some (zi (nI n)), some (zi 2), some (zi x4), some (zi (nI i)), some (zi x6), some (zi x7), some (zi (nI p)), some (zi (nI a)), some (zi (nI b)), some (zi x11), some (zi x12), some (zi 1), u14, u15, u16, u17, u18, u19, u20, u21] [zi (nI k)] S K := by
  have hd : zbt (nI k) 1 9999 := zbt_1 (n := 9999) hk1 (by omega) (by decide)
  have er : nI k - nI k / 100 * 100 = nI (k % 100) := pk_rem (d := 100) (by omega) (by decide) (by decide)
  by_cases hm : k % 100 = 0
  · have hh : nI k - nI k / 100 * 100 = 0 := by rw [er, hm]; rfl
    exact act_buyP hi hJ hc h hp ha hb hd sort hh
  · have hh : ¬ nI k - nI k / 100 * 100 ≤ 0 := by
      rw [er, zle_iff, zti_nI (by omega), zti0]
      omega
    exact act_buy0 hi hJ hc h hp ha hb hd sort hh
set_option maxRecDepth 20000 in
set_option maxHeartbeats 4000000 in
theorem law_358 {J273 : ZP} {K : ZK} {n i c : Nat} {x4 : Int32} {S : ZS} (hi : i < 34) (hJ : ∀ L S, LJ n (i + 1) L S → J273 L [] S K) (hn : n ≤ 20) (hc : c ≤ 34 + 2 * i) (h : LW n x4 c S) {p a b q w : Nat} (hp : p < n) (ha : a < 2) (hb : b < 6) (hq : q < 1500) (hw : w < 12) {x6 x7 : Int32} {u12 u13 u14 u15 u16 u17 u18 u19 u20 u21 : Option ZV} : zb_L_law_358 J273 [some (zr 23 0), some (zr 7 0), some (zi (nI n)), some (zi 2), some (zi x4), some (zi (nI i)), some (zi x6), some (zi x7), some (zi (nI p)), some (zi (nI a)), some (zi (nI b)), some (zi (nI (q + 1))), u12, u13, u14, u15, u16, u17, u18, u19, u20, u21] [zi (nI w)] S K := by
  have hj := h.1
  have hd : zbt (nI (q + 1)) 1 9999 := zbt_1 (n := 9999) (by omega) (by omega) (by decide)
  have buys : ∀ (x12 : Int32), z_invVq 7 2 sp_X7_goodIs (zb_L_law_373 J273) [some (zr 23 0), some (zr 7 0), some (zi (nI n)), some (zi 2), some (zi x4), some (zi (nI i)), some (zi x6), some (zi x7), some (zi (nI p)), some (zi (nI a)), some (zi (nI b)), some (zi (nI (q + 1))), some (zi x12), u13, u14, u15, u16, u17, u18, u19, u20, u21] [zi 0, zi (nI b), zr 7 0] S K := fun x12 => by
    refine zQ2 rfl (q_go0 hb) ?_
    rcases (hj.2.1 b hb).1 with s | ⟨s, -⟩ | s
    · rw [s, ze_L_law_373]
      refine ⟨fun e => absurd e (by decide), fun _ => ?_⟩
      rw [ze_L_law_405]
      exact act_buyR hi hJ hc h hp ha hb hd s
    · rw [s, ze_L_law_373]
      refine ⟨fun _ => ?_, fun hne => absurd rfl hne⟩
      refine zP2 rfl rfl (q_low x6 (n := 7) (by decide) (by decide)) ?_
      rw [ze_L_law_388]
      refine ⟨fun _ => ?_, fun _ => ⟨by decide, ?_⟩⟩
      · rw [ze_L_law_405]
        exact act_pts hi hJ hc h hp ha hb (by omega) (by omega) s
      · rw [show nI (q + 1) / 100 * 100 + 100 = nI ((q + 1) / 100 * 100 + 100) by
          rw [show nI (q + 1) / 100 = nI ((q + 1) / 100) from pk_div (d := 100) (by omega) (by decide) (by decide), show nI ((q + 1) / 100) * 100 = nI ((q + 1) / 100 * 100) from pk_mul _ 100]
          exact nI_add _ 100]
        exact act_pts hi hJ hc h hp ha hb (by omega) (by omega) s
    · rw [s, ze_L_law_373]
      refine ⟨fun e => absurd e (by decide), fun _ => ?_⟩
      rw [ze_L_law_405]
      exact act_buyF hi hJ hc h hp ha hb hd s
  rw [ze_L_law_358]
  rcases (show w = 0 ∨ w = 1 ∨ w = 2 ∨ w = 3 ∨ w = 4 ∨ w = 5 ∨ w = 6 ∨ w = 7 ∨ w = 8 ∨ w = 9 ∨ w = 10 ∨ w = 11 by omega) with rfl | rfl | rfl | rfl | rfl | rfl | rfl | rfl | rfl | rfl | rfl | rfl
  · exact ⟨fun e => absurd e (by decide), fun _ => buys _⟩
  · exact ⟨fun e => absurd e (by decide), fun _ => buys _⟩
  · exact ⟨fun e => absurd e (by decide), fun _ => buys _⟩
  · refine ⟨fun _ => ⟨fun e => absurd e (by decide), fun _ => ?_⟩, fun hne => absurd (by decide) hne⟩
    rw [show nI 3 - 3 = (0 : Int32) by decide]
    exact act_claim hi hJ hc h hp ha hb hd
  · refine ⟨fun _ => ⟨fun e => absurd e (by decide), fun _ => ?_⟩, fun hne => absurd (by decide) hne⟩
    rw [show nI 4 - 3 = (1 : Int32) by decide]
    exact act_advance hi hJ hc h hp ha hb hd
  · refine ⟨fun _ => ⟨fun e => absurd e (by decide), fun _ => ?_⟩, fun hne => absurd (by decide) hne⟩
    rw [show nI 5 - 3 = (2 : Int32) by decide]
    exact act_steal hi hJ hc h hp ha hb hd
  · refine ⟨fun _ => ⟨fun _ => ⟨fun _ => ?_, fun hne => absurd rfl hne⟩, fun hne => absurd (by decide) hne⟩, fun hne => absurd (by decide) hne⟩
    refine zP2 rfl rfl (q_low x6 (n := n) (by omega) (by omega)) ?_
    exact act_give hi hJ hc h hp (zlw_lt x6 (by omega)) hn
  · refine ⟨fun _ => ⟨fun _ => ⟨fun e => absurd e (by decide), fun _ => ⟨fun _ => ?_, fun hne => absurd rfl hne⟩⟩, fun hne => absurd (by decide) hne⟩, fun hne => absurd (by decide) hne⟩
    refine zQ2 rfl (q_pe4 hj (by rw [h.2.1]; exact hp)) ?_
    exact act_book hi hJ hc h hp ha hb hd
  · refine ⟨fun _ => ⟨fun _ => ⟨fun e => absurd e (by decide), fun _ => ⟨fun e => absurd e (by decide), fun _ => ⟨fun _ => ?_, fun hne => absurd rfl hne⟩⟩⟩, fun hne => absurd (by decide) hne⟩, fun hne => absurd (by decide) hne⟩
    refine zQ2 rfl (q_go5 hb) ?_
    exact act_black hi hJ hc h hp ha hb hd
  · refine ⟨fun _ => ⟨fun _ => ⟨fun e => absurd e (by decide), fun _ => ⟨fun e => absurd e (by decide), fun _ => ⟨fun e => absurd e (by decide), fun _ => ⟨fun _ => ?_, fun hne => absurd rfl hne⟩⟩⟩⟩, fun hne => absurd (by decide) hne⟩, fun hne => absurd (by decide) hne⟩
    exact act_forge hi hJ hc h hp ha hb hd
  · refine ⟨fun _ => ⟨fun _ => ⟨fun e => absurd e (by decide), fun _ => ⟨fun e => absurd e (by decide), fun _ => ⟨fun e => absurd e (by decide), fun _ => ⟨fun e => absurd e (by decide), fun _ => ⟨fun _ => ?_, fun hne => absurd rfl hne⟩⟩⟩⟩⟩, fun hne => absurd (by decide) hne⟩, fun hne => absurd (by decide) hne⟩
    exact act_month hi hJ hc h hp ha hb hd
  · refine ⟨fun _ => ⟨fun _ => ⟨fun e => absurd e (by decide), fun _ => ⟨fun e => absurd e (by decide), fun _ => ⟨fun e => absurd e (by decide), fun _ => ⟨fun e => absurd e (by decide), fun _ => ⟨fun e => absurd e (by decide), fun _ => ?_⟩⟩⟩⟩⟩, fun hne => absurd (by decide) hne⟩, fun hne => absurd (by decide) hne⟩
    exact act_diet hi hJ hc h hp ha hb hd
set_option maxRecDepth 20000 in
set_option maxHeartbeats 4000000 in
theorem law_step {J273 : ZP} {K : ZK} {n i : Nat} (hn1 : 1 ≤ n) (hn : n ≤ 20) (hi : i < 34) (hJ : ∀ L S, LJ n (i + 1) L S → J273 L [] S K) : ∀ L S, LJ n i L S → zb_L_law_273 J273 L [] S K := by
  rintro L S ⟨c, x4, u6, u7, u8, u9, u10, u11, u12, u13, u14, u15, u16, u17, u18, u19, u20, u21, rfl, h, hc⟩
  rw [ze_L_law_273]
  refine ⟨fun hle => ?_, fun _ => ?_⟩
  · have hle : nI 34 ≤ nI i := hle
    rw [nI_leI (by omega) (by omega)] at hle
    omega
  rw [show (15 : Int32) + 2 * nI i = nI (15 + 2 * i) from zaff 15 2 i]
  refine zC2 rfl rfl (q_cell (by omega)) (fun x6 => ?_)
  rw [ze_L_law_291, show (16 : Int32) + 2 * nI i = nI (16 + 2 * i) from zaff 16 2 i]
  refine zC2 rfl rfl (q_cell (by omega)) (fun x7 => ?_)
  rw [ze_L_law_304]
  refine zP2 rfl rfl (q_low x7 (n := n) (by omega) (by omega)) ?_
  rw [ze_L_law_312]
  refine zP2 rfl rfl (q_low _ (n := 2) (by decide) (by decide)) ?_
  rw [ze_L_law_322]
  refine zP2 rfl rfl (q_low _ (n := 6) (by decide) (by decide)) ?_
  rw [ze_L_law_334]
  refine zP2 rfl rfl (q_low x6 (n := 1500) (by decide) (by decide)) ?_
  rw [ze_L_law_345, show (1 : Int32) + nI (zlw x6 1500) = nI (zlw x6 1500 + 1) from (nI_add 1 _).trans (by rw [Nat.add_comm])]
  refine zP2 rfl rfl (q_low _ (n := 12) (by decide) (by decide)) ?_
  exact law_358 hi hJ hn hc h (zlw_lt _ (by omega)) (zlw_lt _ (by decide)) (zlw_lt _ (by decide)) (zlw_lt _ (by decide)) (zlw_lt _ (by decide))
theorem law_end {J273 : ZP} {K : ZK} {n : Nat} : ∀ L S, LJ n 34 L S → zb_L_law_273 J273 L [] S K := by
  rintro L S ⟨c, x4, u6, u7, u8, u9, u10, u11, u12, u13, u14, u15, u16, u17, u18, u19, u20, u21, rfl, h, hc⟩
  rw [ze_L_law_273]
  refine ⟨fun _ => ?_, fun hne => absurd (by decide) hne⟩
  refine zQ1 rfl (q_su8 h.1) ?_
  rw [ze_L_law_1594]
  refine ⟨fun _ => ?_, fun hne => absurd h.2.2.2.2.2 hne⟩
  refine zJ3 rfl (q_agrees h.1 (by omega) h.2.2.2.1 h.2.1) ?_
  rw [ze_L_law_1605]
  refine ⟨fun e => absurd e (by decide), fun _ => ?_⟩
  rw [ze_L_law_1613]
  rfl
theorem law_acts {K : ZK} {n : Nat} (hn1 : 1 ≤ n) (hn : n ≤ 20) : ∀ (k i : Nat), i + k = 34 → ∀ L S, LJ n i L S → z_iter (fun J273 => zb_L_law_273 J273) (k + 1) L [] S K := by
  intro k
  induction k with
  | zero =>
    intro i hi L S h
    cases (show i = 34 by omega)
    exact law_end L S h
  | succ k ih =>
    intro i hi L S h
    exact law_step hn1 hn (by omega) (ih (i + 1) (by omega)) L S h
