/-! THE LAW'S ACTS -/
/-- the land that the law has made -/
def LW (n : Nat) (x4 : Int32) (c : Nat) (S : ZS) : Prop := J c S ∧ nP S = n ∧ nD S = 2 ∧ nS S = 2 ∧ nF S = 1 ∧ S 7 0 18 = x4
theorem LW.eq {n c d : Nat} {x4 : Int32} {S S' : ZS} (h : LW n x4 c S) (hJ : J d S') (he : zEq S S') : LW n x4 d S' := by
  obtain ⟨e1, e2, e3, e4⟩ := he.n
  exact ⟨hJ, e1.trans h.2.1, e2.trans h.2.2.1, e3.trans h.2.2.2.1, e4.trans h.2.2.2.2.1, he.2.trans h.2.2.2.2.2⟩
theorem LW.mono {n c d : Nat} {x4 : Int32} {S : ZS} (h : LW n x4 c S) (hd : c ≤ d) : LW n x4 d S := ⟨h.1.mono hd, h.2⟩
/-- at the head of the law's loop -/
def LJ (n i : Nat) (L : List (Option ZV)) (S : ZS) : Prop := ∃ (c : Nat) (x4 : Int32) (u6 u7 u8 u9 u10 u11 u12 u13 u14 u15 u16 u17 u18 u19 u20 u21 : Option ZV), L = [some (zr 23 0), some (zr 7 0), some (zi (nI n)), some (zi 2), some (zi x4), some (zi (nI i)), u6, u7, u8, u9, u10, u11, u12, u13, u14, u15, u16, u17, u18, u19, u20, u21] ∧ LW n x4 c S ∧ c ≤ 34 + 2 * i
theorem nI_rem6 (i : Nat) (hi : i < 1000) : nI i - nI i / 6 * 6 = nI (i % 6) := pk_rem (d := 6) (by omega) (by decide) (by decide)
set_option maxRecDepth 20000 in
set_option maxHeartbeats 4000000 in
theorem law_tail {J273 : ZP} {K : ZK} {n i c : Nat} {x4 : Int32} {S : ZS} (hi : i < 34) (hJ : ∀ L S, LJ n (i + 1) L S → J273 L [] S K) (hc : c ≤ 36 + 2 * i) (h : LW n x4 c S) {x6 x7 x8 x9 x10 x11 x12 x13 x14 : Int32} {u15 u16 u17 u18 u19 u20 u21 : Option ZV} : zb_L_law_1562 J273 [some (zr 23 0), some (zr 7 0), some (zi (nI n)), some (zi 2), some (zi x4), some (zi (nI i)), some (zi x6), some (zi x7), some (zi x8), some (zi x9), some (zi x10), some (zi x11), some (zi x12), some (zi x13), some (zi x14), u15, u16, u17, u18, u19, u20, u21] [] S K := by
  have fin : zb_L_law_1582 J273 [some (zr 23 0), some (zr 7 0), some (zi (nI n)), some (zi 2), some (zi x4), some (zi (nI i)), some (zi x6), some (zi x7), some (zi x8), some (zi x9), some (zi x10), some (zi x11), some (zi x12), some (zi x13), some (zi x14), u15, u16, u17, u18, u19, u20, u21] [] S K := by
    rw [ze_L_law_1582, nIs]
    exact hJ _ _ ⟨c, x4, _, _, _, _, _, _, _, _, _, _, _, _, _, _, _, _, rfl, h, by omega⟩
  rw [ze_L_law_1562]
  refine ⟨by decide, fun _ => ?_, fun _ => fin⟩
  refine zJ3 rfl (q_agrees h.1 (by omega) h.2.2.2.1 h.2.1) ?_
  rw [ze_L_law_1577]
  exact ⟨fun e => absurd e (by decide), fun _ => fin⟩
set_option maxRecDepth 20000 in
set_option maxHeartbeats 4000000 in
theorem act_black {J273 : ZP} {K : ZK} {n i c : Nat} {x4 : Int32} {S : ZS} (hi : i < 34) (hJ : ∀ L S, LJ n (i + 1) L S → J273 L [] S K) (hc : c ≤ 34 + 2 * i) (h : LW n x4 c S) {p a b : Nat} {d : Int32} (hp : p < n) (ha : a < 2) (hb : b < 6) (hd : zbt d 1 9999) {x6 x7 x12 : Int32} {u13 u14 u15 u16 u17 u18 u19 u20 u21 : Option ZV} : zb_L_law_1158 J273 [some (zr 23 0), some (zr 7 0), some (zi (nI n)), some (zi 2), some (zi x4), some (zi (nI i)), some (zi x6), some (zi x7), some (zi (nI p)), some (zi (nI a)), some (zi (nI b)), some (zi d), some (zi x12), u13, u14, u15, u16, u17, u18, u19, u20, u21] [zi (S 2 b 4)] S K := by
  obtain ⟨hj, h1, h2, h3, h4, h5⟩ := id h
  have hp' : p < nP S := by omega
  have ha' : a < nS S := by omega
  rw [ze_L_law_1158]
  refine zI5 rfl (t_black hj (by omega) hp' hb hd) ?_
  rintro v T (⟨rfl, rfl⟩ | ⟨q1, q2, q3, q4, q5⟩)
  · rw [ze_L_law_1171]
    refine ⟨fun _ => ⟨fun _ => ?_, fun hne => absurd rfl hne⟩, fun hne => absurd (by decide) hne⟩
    rw [ze_L_law_1215]
    refine ⟨fun _ => ?_, fun hne => absurd (by decide) hne⟩
    rw [ze_L_law_1228, Int32.add_zero]
    exact law_tail hi hJ (by omega) h
  · rw [ze_L_law_1171]
    refine ⟨fun hlt => absurd q3 (Int32.not_le.mpr hlt), fun _ => ⟨by decide, fun hlt => absurd q4 (Int32.not_le.mpr hlt), fun _ => ?_⟩⟩
    refine zQ2 rfl (q_go5 hb) ?_
    rw [ze_L_law_1194]
    refine ⟨fun _ => ?_, fun hne => absurd q5 hne⟩
    have hw : LW n (x4 + v) (c + 1) T := by
      have e : nP T = nP S ∧ nD T = nD S ∧ nS T = nS S ∧ nF T = nF S := by
        unfold nP nD nS nF
        rw [q2.1.1, q2.1.2.1, q2.1.2.2.1, q2.1.2.2.2]
        exact ⟨rfl, rfl, rfl, rfl⟩
      exact ⟨q1, e.1.trans h1, e.2.1.trans h2, e.2.2.1.trans h3, e.2.2.2.trans h4, by rw [q2.2, h5]⟩
    rw [ze_L_law_1215]
    refine ⟨fun hle => ?_, fun _ => ?_⟩
    · have e0 : v = 0 := Int32.le_antisymm hle q3
      rw [ze_L_law_1228]
      rw [e0] at hw
      exact law_tail hi hJ (by omega) hw
    · rw [ze_L_law_1228]
      exact law_tail hi hJ (by omega) hw
set_option maxRecDepth 20000 in
set_option maxHeartbeats 4000000 in
theorem act_book {J273 : ZP} {K : ZK} {n i c : Nat} {x4 : Int32} {S : ZS} (hi : i < 34) (hJ : ∀ L S, LJ n (i + 1) L S → J273 L [] S K) (hc : c ≤ 34 + 2 * i) (h : LW n x4 c S) {p a b : Nat} {d : Int32} (hp : p < n) (ha : a < 2) (hb : b < 6) (hd : zbt d 1 9999) {g : Int32} {x7 x12 : Int32} {u13 u14 u15 u16 u17 u18 u19 u20 u21 : Option ZV} : zb_L_law_1081 J273 [some (zr 23 0), some (zr 7 0), some (zi (nI n)), some (zi 2), some (zi x4), some (zi (nI i)), some (zi g), some (zi x7), some (zi (nI p)), some (zi (nI a)), some (zi (nI b)), some (zi d), some (zi x12), u13, u14, u15, u16, u17, u18, u19, u20, u21] [zi (zpt S p)] S K := by
  obtain ⟨hj, h1, h2, h3, h4, h5⟩ := id h
  have hp' : p < nP S := by omega
  have ha' : a < nS S := by omega
  have e1141 : ∀ (c' : Nat) (T' : ZS) (x13 x14 : Int32) (u15 u16 u17 u18 u19 u20 u21 : Option ZV), LW n x4 c' T' → c' ≤ 36 + 2 * i → zb_L_law_1141 J273 [some (zr 23 0), some (zr 7 0), some (zi (nI n)), some (zi 2), some (zi x4), some (zi (nI i)), some (zi g), some (zi x7), some (zi (nI p)), some (zi (nI a)), some (zi (nI b)), some (zi d), some (zi x12), some (zi x13), some (zi x14), u15, u16, u17, u18, u19, u20, u21] [] T' K := fun c' T' x13 x14 u15 u16 u17 u18 u19 u20 u21 hw hc' => by
    rw [ze_L_law_1141]
    exact law_tail hi hJ hc' hw
  rw [ze_L_law_1081]
  refine zP2 rfl rfl (q_low g (n := 4) (by decide) (by decide)) ?_
  rw [ze_L_law_1090]
  refine ⟨fun hk => ?_, fun hk => ?_⟩
  · rw [ze_L_law_1098]
    refine zI5 rfl (t_book (x := nI a) hj (by omega) hp') ?_
    rintro v T (⟨rfl, rfl⟩ | ⟨q1, q2, q3, q4⟩)
    · rw [ze_L_law_1106]
      refine zP2 rfl rfl (q_low g (n := 4) (by decide) (by decide)) ?_
      rw [ze_L_law_1114]
      exact ⟨fun _ => ⟨fun _ => e1141 _ _ _ _ _ _ _ _ _ _ _ h (by omega), fun hne => absurd (by decide) hne⟩, fun _ => e1141 _ _ _ _ _ _ _ _ _ _ _ h (by omega)⟩
    · have hw := h.eq q1 q2
      rw [ze_L_law_1106]
      refine zP2 rfl rfl (q_low g (n := 4) (by decide) (by decide)) ?_
      rw [ze_L_law_1114]
      refine ⟨fun _ => ⟨fun hlt => absurd hlt (by rw [q3]; exact zpl_ge _ _ _), fun _ => ⟨fun _ => ?_, fun hne => absurd q3 hne⟩⟩, fun _ => e1141 _ _ _ _ _ _ _ _ _ _ _ hw (by omega)⟩
      refine zQ2 rfl (q_pe4 hw.1 (by rw [hw.2.1]; exact hp)) ?_
      rw [ze_L_law_1136]
      exact ⟨fun _ => e1141 _ _ _ _ _ _ _ _ _ _ _ hw (by omega), fun hne => absurd q4 hne⟩
  · rw [ze_L_law_1098]
    refine zI5 rfl (t_moves hj (by omega) hp' ha') ?_
    intro v T hT
    have hw : LW n x4 (c + 1) T := by
      rcases hT with ⟨-, hT⟩ | ⟨q1, q2⟩
      · rw [hT]
        exact h.mono (by omega)
      · exact h.eq q1 q2
    rw [ze_L_law_1106]
    refine zP2 rfl rfl (q_low g (n := 4) (by decide) (by decide)) ?_
    rw [ze_L_law_1114]
    exact ⟨fun e => absurd e hk, fun _ => e1141 _ _ _ _ _ _ _ _ _ _ _ hw (by omega)⟩
set_option maxRecDepth 20000 in
set_option maxHeartbeats 4000000 in
theorem act_give {J273 : ZP} {K : ZK} {n i c : Nat} {x4 : Int32} {S : ZS} (hi : i < 34) (hJ : ∀ L S, LJ n (i + 1) L S → J273 L [] S K) (hc : c ≤ 34 + 2 * i) (h : LW n x4 c S) {p o : Nat} {g : Int32} (hp : p < n) (ho : o < n) (hn : n ≤ 20) {x7 x9 x10 x11 x12 : Int32} {u13 u14 u15 u16 u17 u18 u19 u20 u21 : Option ZV} : zb_L_law_952 J273 [some (zr 23 0), some (zr 7 0), some (zi (nI n)), some (zi 2), some (zi x4), some (zi (nI i)), some (zi g), some (zi x7), some (zi (nI p)), some (zi x9), some (zi x10), some (zi x11), some (zi x12), u13, u14, u15, u16, u17, u18, u19, u20, u21] [zi (nI o)] S K := by
  obtain ⟨hj, h1, h2, h3, h4, h5⟩ := id h
  have hp' : p < nP S := by omega
  have ho' : o < nP S := by omega
  have e1064 : ∀ (c' : Nat) (T' : ZS) (x14 x15 x16 x17 : Int32) (u18 u19 u20 u21 : Option ZV), LW n x4 c' T' → c' ≤ 36 + 2 * i → zb_L_law_1064 J273 [some (zr 23 0), some (zr 7 0), some (zi (nI n)), some (zi 2), some (zi x4), some (zi (nI i)), some (zi g), some (zi x7), some (zi (nI p)), some (zi x9), some (zi x10), some (zi x11), some (zi x12), some (zi (nI o)), some (zi x14), some (zi x15), some (zi x16), some (zi x17), u18, u19, u20, u21] [] T' K := fun c' T' x14 x15 x16 x17 u18 u19 u20 u21 hw hc' => by
    rw [ze_L_law_1064]
    exact law_tail hi hJ hc' hw
  rw [ze_L_law_952]
  refine zP2 rfl rfl (q_low _ (n := 30) (by decide) (by decide)) ?_
  have hk := zlw_lt (g >>> (4 &&& 31)) (n := 30) (by decide)
  generalize zlw (g >>> (4 &&& 31)) 30 = k at *
  rw [ze_L_law_964, show (1 : Int32) + nI k = nI (1 + k) from nI_add 1 k]
  have hm : zbt (nI (1 + k)) 1 99 := zbt_1 (n := 99) (by omega) (by omega) (by decide)
  refine zQ2 rfl (q_pe4 hj hp') ?_
  rw [ze_L_law_974]
  refine zQ2 rfl (q_pe4 hj ho') ?_
  rw [ze_L_law_983]
  by_cases e : o = p
  · subst e
    refine zI5 rfl (t_give0 hj (by omega) hp') ?_
    rintro v T ⟨q1, q2⟩
    rw [ze_L_law_996, q2]
    exact ⟨fun _ => ⟨fun _ => e1064 _ _ _ _ _ _ _ _ _ _ h (by omega), fun hne => absurd q1 hne⟩, fun hne => absurd rfl hne⟩
  · have hne : ¬ nI o = nI p := fun q => e (by rw [← (znn ho' (by omega)).2, q, (znn hp' (by omega)).2])
    refine zI5 rfl (t_give hj (by omega) hp' ho' (fun q => e q.symm) hm) ?_
    rintro v T (⟨q1, q2⟩ | ⟨q1, q2, q3, q4, q5, q6⟩)
    · rw [ze_L_law_996, q2]
      exact ⟨fun q => absurd q hne, fun _ => ⟨fun _ => e1064 _ _ _ _ _ _ _ _ _ _ h (by omega), fun hne => absurd q1 hne⟩⟩
    · have hw := h.eq q1 q2
      rw [ze_L_law_996]
      refine ⟨fun q => absurd q hne, fun _ => ⟨fun _ => e1064 _ _ _ _ _ _ _ _ _ _ hw (by omega), fun _ => ⟨fun hlt => absurd q5 (Int32.not_le.mpr hlt), fun _ => ⟨fun hlt => absurd q6 (Int32.not_le.mpr hlt), fun _ => ⟨fun hlt => absurd q3 (Int32.not_le.mpr hlt), fun _ => ?_⟩⟩⟩⟩⟩
      refine zQ2 rfl (q_pe4 hw.1 (by rw [hw.2.1]; exact hp)) ?_
      rw [ze_L_law_1054]
      exact ⟨fun _ => e1064 _ _ _ _ _ _ _ _ _ _ hw (by omega), fun hne => absurd q4 hne⟩
set_option maxRecDepth 20000 in
set_option maxHeartbeats 4000000 in
theorem act_forge {J273 : ZP} {K : ZK} {n i c : Nat} {x4 : Int32} {S : ZS} (hi : i < 34) (hJ : ∀ L S, LJ n (i + 1) L S → J273 L [] S K) (hc : c ≤ 34 + 2 * i) (h : LW n x4 c S) {p a b : Nat} {d : Int32} (hp : p < n) (ha : a < 2) (hb : b < 6) (hd : zbt d 1 9999) {g : Int32} {x7 x12 : Int32} {u13 u14 u15 u16 u17 u18 u19 u20 u21 : Option ZV} : z_invVq 7 3 sp_X7_forge (zb_L_law_1251 J273) [some (zr 23 0), some (zr 7 0), some (zi (nI n)), some (zi 2), some (zi x4), some (zi (nI i)), some (zi g), some (zi x7), some (zi (nI p)), some (zi (nI a)), some (zi (nI b)), some (zi d), some (zi x12), u13, u14, u15, u16, u17, u18, u19, u20, u21] [zi d, zi (nI b), zi (nI a), zr 7 0] S K := by
  obtain ⟨hj, h1, h2, h3, h4, h5⟩ := id h
  have hp' : p < nP S := by omega
  have ha' : a < nS S := by omega
  refine zV3 rfl (m_forge hj (by omega) ha' hb hd) ?_
  rintro v T ⟨q1, q2, q3, q4⟩
  have hw := h.eq q1 q2
  have hT := hw.1.2.2.2.2.1.2 (6 * a + b) (by rw [hw.2.2.2.1]; omega)
  have haT : a < nS T := by rw [hw.2.2.2.1]; exact ha
  rw [ze_L_law_1251, q3]
  refine zQ3 rfl (q_sh4 q1 haT hb) ?_
  rw [ze_L_law_1262]
  refine zP2 rfl rfl (q_low _ (n := 2) (by decide) (by decide)) ?_
  have e1336 : ∀ (c' : Nat) (T' : ZS) (x13 x15 : Int32) (u16 u17 u18 u19 u20 u21 : Option ZV), LW n x4 c' T' → c' ≤ 36 + 2 * i → zb_L_law_1336 J273 [some (zr 23 0), some (zr 7 0), some (zi (nI n)), some (zi 2), some (zi x4), some (zi (nI i)), some (zi g), some (zi x7), some (zi (nI p)), some (zi (nI a)), some (zi (nI b)), some (zi d), some (zi x12), some (zi x13), some (zi (T 5 (6 * a + b) 5)), some (zi x15), u16, u17, u18, u19, u20, u21] [] T' K := fun c' T' x13 x15 u16 u17 u18 u19 u20 u21 hw hc' => by
    rw [ze_L_law_1336]
    exact ⟨fun _ => law_tail hi hJ hc' hw, fun hne => absurd q4 hne⟩
  rw [ze_L_law_1273]
  refine ⟨fun _ => ?_, fun _ => ?_⟩
  · refine zV1 rfl (m_inspect q1 (by omega) haT) ?_
    rintro w U ⟨r1, r2, r3⟩
    obtain ⟨r3, r4⟩ := r3 b hb
    have hu := hw.eq r1 r2
    have haU : a < nS U := by rw [hu.2.2.2.1]; exact ha
    have hm := zmn_rg hT.2.2.2.2 hT.2.1
    rw [ze_L_law_1282, ze_L_law_1286]
    refine zQ3 rfl (q_sh1 r1 haU hb) ?_
    rw [ze_L_law_1297]
    refine ⟨fun hlt => ?_, fun _ => ⟨fun _ => e1336 _ _ _ _ _ _ _ _ _ _ hu (by omega), fun _ => ?_⟩⟩
    · rw [r3, zlt_iff, zsub_i (by omega) (by have := Int32.toInt_lt (T 5 (6 * a + b) 1); omega)] at hlt
      omega
    · refine zQ3 rfl (q_sh4 r1 haU hb) ?_
      rw [ze_L_law_1316]
      refine ⟨fun hle => ?_, fun hle => ?_⟩
      · rw [ze_L_law_1332]
        refine ⟨fun hlt => ?_, fun _ => e1336 _ _ _ _ _ _ _ _ _ _ hu (by omega)⟩
        rw [r4, show zmn (T 5 (6 * a + b) 5) (T 5 (6 * a + b) 1) = T 5 (6 * a + b) 5 from if_neg (Int32.not_lt.mpr hle)] at hlt
        exact absurd hlt (Int32.lt_irrefl)
      · rw [ze_L_law_1332]
        refine ⟨fun hlt => ?_, fun _ => e1336 _ _ _ _ _ _ _ _ _ _ hu (by omega)⟩
        rw [r4, show zmn (T 5 (6 * a + b) 5) (T 5 (6 * a + b) 1) = T 5 (6 * a + b) 1 from if_pos (Int32.not_le.mp hle)] at hlt
        exact absurd hlt (Int32.lt_irrefl)
  · rw [ze_L_law_1286]
    refine zQ3 rfl (q_sh1 q1 haT hb) ?_
    rw [ze_L_law_1297]
    exact ⟨fun hlt => absurd hlt (Int32.lt_irrefl), fun _ => ⟨fun _ => e1336 _ _ _ _ _ _ _ _ _ _ hw (by omega), fun hne => absurd (by decide) hne⟩⟩
set_option maxRecDepth 20000 in
set_option maxHeartbeats 4000000 in
theorem act_month {J273 : ZP} {K : ZK} {n i c : Nat} {x4 : Int32} {S : ZS} (hi : i < 34) (hJ : ∀ L S, LJ n (i + 1) L S → J273 L [] S K) (hc : c ≤ 34 + 2 * i) (h : LW n x4 c S) {p a b : Nat} {d : Int32} (hp : p < n) (ha : a < 2) (hb : b < 6) (hd : zbt d 1 9999) {x6 x7 x12 : Int32} {u13 u14 u15 u16 u17 u18 u19 u20 u21 : Option ZV} : z_invVq 7 2 sp_X7_goodIs (zb_L_law_1361 J273) [some (zr 23 0), some (zr 7 0), some (zi (nI n)), some (zi 2), some (zi x4), some (zi (nI i)), some (zi x6), some (zi x7), some (zi (nI p)), some (zi (nI a)), some (zi (nI b)), some (zi d), some (zi x12), u13, u14, u15, u16, u17, u18, u19, u20, u21] [zi 1, zi 2, zr 7 0] S K := by
  obtain ⟨hj, h1, h2, h3, h4, h5⟩ := id h
  have hp' : p < nP S := by omega
  have ha' : a < nS S := by omega
  refine zQ2 rfl (q_go1 (b := 2) (by decide)) ?_
  rw [ze_L_law_1361]
  refine zQ2 rfl (q_go0 (b := 2) (by decide)) ?_
  rw [ze_L_law_1369]
  refine zQ1 rfl (q_su0 hj) ?_
  rw [ze_L_law_1376]
  refine zV2 rfl (m_deliver hj (by omega) (f := 0) (by omega) (zbt_99 hd)) ?_
  rintro v T ⟨q1, q2, q3, q4⟩
  have hw := h.eq q1 q2
  rw [ze_L_law_1387]
  refine zV0 rfl (m_month q1 (by omega)) ?_
  rintro v U ⟨r1, r2, r3, r4, r5, r6⟩
  have hu := hw.eq r1 r2
  have e1429 : ∀ (x13 x14 x15 : Int32) (u16 u17 u18 u19 u20 u21 : Option ZV), zb_L_law_1429 J273 [some (zr 23 0), some (zr 7 0), some (zi (nI n)), some (zi 2), some (zi x4), some (zi (nI i)), some (zi x6), some (zi x7), some (zi (nI p)), some (zi (nI a)), some (zi (nI b)), some (zi d), some (zi x12), some (zi x13), some (zi x14), some (zi x15), u16, u17, u18, u19, u20, u21] [] U K := fun x13 x14 x15 u16 u17 u18 u19 u20 u21 => by
    rw [ze_L_law_1429]
    refine zQ2 rfl (q_go3 hb) ?_
    rw [ze_L_law_1436]
    refine ⟨fun _ => ?_, fun hne => absurd (r4 b hb) hne⟩
    refine zQ2 rfl (q_pe5 r1 (by rw [hu.2.1]; exact hp)) ?_
    rw [ze_L_law_1446]
    exact ⟨fun _ => law_tail hi hJ (by omega) hu, fun hne => absurd (r5 p (by rw [hw.2.1]; exact hp)) hne⟩
  rw [ze_L_law_1392]
  refine ⟨fun _ => ⟨fun hs => ?_, fun _ => e1429 _ _ _ _ _ _ _ _ _⟩, fun hne => absurd (by rw [r3, q3]) hne⟩
  rw [q4] at r6
  obtain ⟨r7, r8⟩ := r6 hs
  refine zQ2 rfl (q_go1 (b := 2) (by decide)) ?_
  rw [ze_L_law_1409]
  refine ⟨fun hlt => absurd r7 (Int32.not_le.mpr hlt), fun _ => ?_⟩
  refine zQ2 rfl (q_go1 (b := 2) (by decide)) ?_
  rw [ze_L_law_1422]
  exact ⟨fun hlt => absurd r8 (Int32.not_le.mpr hlt), fun _ => e1429 _ _ _ _ _ _ _ _ _⟩
theorem zct_S {S S' : ZS} (h : S' 2 = S 2) (L0 : Nat → Int32) : ∀ n, zct S' L0 n = zct S L0 n
  | 0 => rfl
  | n + 1 => by
    rw [zct, zct, zct_S h L0 n, zlf_S h]
theorem zdt_S {S S' : ZS} (h : S' 2 = S 2) (n : Nat) : zdt S' n = zdt S n := by
  unfold zdt
  rw [zct_S h]
set_option maxRecDepth 20000 in
set_option maxHeartbeats 4000000 in
theorem act_diet {J273 : ZP} {K : ZK} {n i c : Nat} {x4 : Int32} {S : ZS} (hi : i < 34) (hJ : ∀ L S, LJ n (i + 1) L S → J273 L [] S K) (hc : c ≤ 34 + 2 * i) (h : LW n x4 c S) {p a b : Nat} {d : Int32} (hp : p < n) (ha : a < 2) (hb : b < 6) (hd : zbt d 1 9999) {g k7 : Int32} {x12 : Int32} {u13 u14 u15 u16 u17 u18 u19 u20 u21 : Option ZV} : z_invSq 2 sp_L_low (zb_L_law_1463 J273) [some (zr 23 0), some (zr 7 0), some (zi (nI n)), some (zi 2), some (zi x4), some (zi (nI i)), some (zi g), some (zi k7), some (zi (nI p)), some (zi (nI a)), some (zi (nI b)), some (zi d), some (zi x12), u13, u14, u15, u16, u17, u18, u19, u20, u21] [zi 2999, zi g, zi 1] S K := by
  obtain ⟨hj, h1, h2, h3, h4, h5⟩ := id h
  have hp' : p < nP S := by omega
  have ha' : a < nS S := by omega
  refine zP2 rfl rfl (q_low g (n := 2999) (by decide) (by decide)) ?_
  have hk := zlw_lt g (n := 2999) (by decide)
  generalize zlw g 2999 = k at *
  have hz := zdt_law hj.en (n := k) (by omega)
  rw [ze_L_law_1463, show (1 : Int32) + nI k = nI (k + 1) from (nI_add 1 k).trans (by rw [Nat.add_comm])]
  refine zV1 rfl (m_diet hj (n := k + 1) (by omega) (by omega)) ?_
  rintro v T ⟨q1, q2, q3, q4⟩
  have hw := h.eq q1 q2
  rw [ze_L_law_1472, nIs]
  refine zV1 rfl (m_diet q1 (n := k + 2) (by omega) (by omega)) ?_
  rintro w U ⟨r1, r2, r3, r4⟩
  have hu := hw.eq r1 r2
  rw [zdt_S q3] at r4
  have e1536 : ∀ (V : ZS), LW n x4 c V → zb_L_law_1536 J273 [some (zr 23 0), some (zr 7 0), some (zi (nI n)), some (zi 2), some (zi x4), some (zi (nI i)), some (zi g), some (zi k7), some (zi (nI p)), some (zi (nI a)), some (zi (nI b)), some (zi d), some (zi x12), some (zi (nI (k + 1))), some (zi v), some (zi w), u16, u17, u18, u19, u20, u21] [] V K := fun V hv => by
    have haV : a < nS V := by rw [hv.2.2.2.1]; exact ha
    rw [ze_L_law_1536]
    refine zV2 rfl (m_settle hv.1 haV hb) ?_
    rintro y X ⟨s1, s2⟩
    have hx := hv.eq s1 s2
    rw [ze_L_law_1544]
    refine zP2 rfl rfl (q_low _ (n := 2) (by decide) (by decide)) ?_
    have hl := zlw_lt (k7 >>> (5 &&& 31)) (n := 2) (by decide)
    rw [ze_L_law_1554]
    refine zV3 rfl (m_ship s1 (by omega) (by rw [hx.2.2.1]; exact hl) hb (zbt_99 hd)) ?_
    rintro y Y ⟨t1, t2⟩
    rw [ze_L_law_1561]
    exact law_tail hi hJ (by omega) (hx.eq t1 t2)
  have e1504 : ∀ z : Int32, zb_L_law_1504 J273 [some (zr 23 0), some (zr 7 0), some (zi (nI n)), some (zi 2), some (zi x4), some (zi (nI i)), some (zi g), some (zi k7), some (zi (nI p)), some (zi (nI a)), some (zi (nI b)), some (zi d), some (zi x12), some (zi (nI (k + 1))), some (zi v), some (zi w), u16, u17, u18, u19, u20, u21] [zi z, zi z] U K := fun z => by
    rw [ze_L_law_1504]
    refine ⟨fun _ => ⟨fun hlt => absurd hz.2.1 (by rw [← q4, ← r4]; exact Int32.not_le.mpr hlt), fun _ => ⟨fun e0 => absurd e0 (by rw [q4]; exact hz.2.2.1), fun _ => ?_⟩⟩, fun hne => absurd rfl hne⟩
    refine zV1 rfl (m_diet r1 (n := 1) (by omega) (by omega)) ?_
    rintro y V ⟨s1, s2, s3, s4⟩
    have hv := hu.eq s1 s2
    rw [zdt_S r3, zdt_S q3] at s4
    rw [ze_L_law_1524]
    refine ⟨fun _ => e1536 V hv, fun hle => ⟨fun _ => e1536 V hv, fun hlt => ?_⟩⟩
    rw [s4, q4] at hle
    rw [q4] at hlt
    exact hle (hz.2.2.2 hlt)
  have hiff : (0 ≤ v ↔ 0 ≤ w) := by
    rw [q4, r4, ← Int32.not_lt, ← Int32.not_lt]
    exact not_congr hz.1
  rw [ze_L_law_1482]
  refine ⟨fun h0 => ?_, fun h0 => ?_⟩
  · rw [ze_L_law_1494]
    exact ⟨fun _ => e1504 0, fun hne => absurd (hiff.mp h0) hne⟩
  · rw [ze_L_law_1494]
    exact ⟨fun h2 => absurd (hiff.mpr h2) h0, fun _ => e1504 1⟩
