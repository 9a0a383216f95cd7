/-! THE LAW'S ACTS: buying -/
theorem zdue_ge {c : Nat} {S : ZS} (h : J c S) {p a b : Nat} {d : Int32} (hb : b < 6) (hd : zbt d 1 9999) (hh : S 2 b 0 = 1 → d - d / 100 * 100 = 0) (hm : zmay S p a b d) : ¬ zdue S p b d ≤ -100 := by
  have e100 : (-100 : Int32).toInt = -100 := by decide
  obtain ⟨m1, m2, m3, m4⟩ := hm
  have hg := zgr9 hd
  unfold zdue
  by_cases s0 : S 2 b 0 = 0
  · rw [if_pos s0]
    have := zle_iff.mp (m3 s0).2
    rw [zle_iff, zsub_i (by omega) (by have := Int32.toInt_lt (zlt1 S p b); omega), e100]
    omega
  · rw [if_neg s0]
    by_cases s1 : S 2 b 0 = 1
    · rw [if_pos s1]
      have := zle_iff.mp (m4 s1)
      have hc := zcost_rg ((h.en b hb).2 s1) hd (hh s1)
      rw [zle_iff, zsub_i (by omega) (by have := Int32.toInt_lt (zpt S p); omega), e100]
      omega
    · rw [if_neg s1]
      decide
set_option maxRecDepth 20000 in
set_option maxHeartbeats 4000000 in
theorem law_574n {J273 : ZP} {K : ZK} {n i c : Nat} {x4 : Int32} {S : ZS} (hi : i < 34) (hJ : ∀ L S, LJ n (i + 1) L S → J273 L [] S K) (hc : c ≤ 34 + 2 * i) (h : LW n x4 c S) {p a b : Nat} {d : Int32} (hp : p < n) (ha : a < 2) (hb : b < 6) (hd : zbt d 1 9999) (due : Int32) (h100 : due ≤ -100) (hT : sp_L_tryBuy [zr 7 0, zi (nI p), zi (nI a), zi (nI b), zi d] S (zR (fun v S' => v = due ∧ S' = S))) {x6 x7 x12 x13 x15 x16 x17 : Int32} {u18 u19 u20 u21 : Option ZV} : zb_L_law_574 J273 [some (zr 23 0), some (zr 7 0), some (zi (nI n)), some (zi 2), some (zi x4), some (zi (nI i)), some (zi x6), some (zi x7), some (zi (nI p)), some (zi (nI a)), some (zi (nI b)), some (zi d), some (zi x12), some (zi x13), some (zi (S 5 (6 * a + b) 0)), some (zi x15), some (zi x16), some (zi x17), u18, u19, u20, u21] [zi due] S K := by
  obtain ⟨hj, h1, h2, h3, h4, h5⟩ := id h
  have hp' : p < nP S := by omega
  have ha' : a < nS S := by omega
  rw [ze_L_law_574]
  refine zQ3 rfl (q_sh1 hj ha' hb) ?_
  rw [ze_L_law_585]
  refine zI5 rfl hT ?_
  rintro v T ⟨q1, q2⟩
  rw [q2]
  rw [ze_L_law_599]
  refine ⟨fun _ => ?_, fun hne => absurd q1 hne⟩
  refine zQ3 rfl (q_sh0 hj ha' hb) ?_
  rw [ze_L_law_613]
  refine ⟨fun _ => ?_, fun hne => absurd h100 hne⟩
  rw [ze_L_law_628]
  refine ⟨fun _ => ?_, fun hne => absurd (Int32.sub_zero _).symm hne⟩
  refine zQ3 rfl (q_sh1 hj ha' hb) ?_
  rw [ze_L_law_641]
  refine ⟨fun _ => ?_, fun hne => absurd h100 hne⟩
  rw [ze_L_law_661, ze_L_law_662]
  exact ⟨fun _ => law_tail hi hJ (by omega) h, fun hne => absurd (Int32.add_zero _).symm hne⟩
set_option maxRecDepth 20000 in
set_option maxHeartbeats 4000000 in
theorem law_574y0 {J273 : ZP} {K : ZK} {n i c : Nat} {x4 : Int32} {S : ZS} (hi : i < 34) (hJ : ∀ L S, LJ n (i + 1) L S → J273 L [] S K) (hc : c ≤ 34 + 2 * i) (h : LW n x4 c S) {p a b : Nat} {d : Int32} (hp : p < n) (ha : a < 2) (hb : b < 6) (hd : zbt d 1 9999) (sort : S 2 b 0 = 0) (due : Int32) (hdue : due = zdue S p b d) (h100 : ¬ due ≤ -100) (hT : sp_L_tryBuy [zr 7 0, zi (nI p), zi (nI a), zi (nI b), zi d] S (zR (fun v S' => zbuy c S S' p a b d v))) {x6 x7 x12 x15 x16 x17 : Int32} {u18 u19 u20 u21 : Option ZV} : zb_L_law_574 J273 [some (zr 23 0), some (zr 7 0), some (zi (nI n)), some (zi 2), some (zi x4), some (zi (nI i)), some (zi x6), some (zi x7), some (zi (nI p)), some (zi (nI a)), some (zi (nI b)), some (zi d), some (zi x12), some (zi 0), some (zi (S 5 (6 * a + b) 0)), some (zi x15), some (zi x16), some (zi x17), u18, u19, u20, u21] [zi due] S K := by
  obtain ⟨hj, h1, h2, h3, h4, h5⟩ := id h
  have hp' : p < nP S := by omega
  have ha' : a < nS S := by omega
  rw [ze_L_law_574]
  refine zQ3 rfl (q_sh1 hj ha' hb) ?_
  rw [ze_L_law_585]
  refine zI5 rfl hT ?_
  rintro v T ⟨q1, q2, q3, q4, q5⟩
  have hw := h.eq q1 q2
  have haT : a < nS T := by rw [hw.2.2.2.1]; exact ha
  rw [ze_L_law_599]
  refine ⟨fun _ => ?_, fun hne => absurd (q3.trans hdue.symm) hne⟩
  refine zQ3 rfl (q_sh0 q1 haT hb) ?_
  rw [ze_L_law_613]
  refine ⟨fun hle => absurd hle h100, fun _ => ?_⟩
  rw [ze_L_law_628]
  refine ⟨fun _ => ?_, fun hne => absurd q4 hne⟩
  refine zQ3 rfl (q_sh1 q1 haT hb) ?_
  rw [ze_L_law_641]
  refine ⟨fun hle => absurd hle h100, fun _ => ?_⟩
  refine ⟨fun hle => absurd hle (by decide), fun _ => ?_⟩
  rw [if_neg (by rw [sort]; decide)] at q5
  rw [ze_L_law_662]
  exact ⟨fun _ => law_tail hi hJ (by omega) hw, fun hne => absurd q5 hne⟩
set_option maxRecDepth 20000 in
set_option maxHeartbeats 4000000 in
theorem law_574y1 {J273 : ZP} {K : ZK} {n i c : Nat} {x4 : Int32} {S : ZS} (hi : i < 34) (hJ : ∀ L S, LJ n (i + 1) L S → J273 L [] S K) (hc : c ≤ 34 + 2 * i) (h : LW n x4 c S) {p a b : Nat} {d : Int32} (hp : p < n) (ha : a < 2) (hb : b < 6) (hd : zbt d 1 9999) (sort : S 2 b 0 = 1) (due : Int32) (hdue : due = zdue S p b d) (h100 : ¬ due ≤ -100) (hT : sp_L_tryBuy [zr 7 0, zi (nI p), zi (nI a), zi (nI b), zi d] S (zR (fun v S' => zbuy c S S' p a b d v))) {x6 x7 x12 x15 x16 x17 : Int32} {u18 u19 u20 u21 : Option ZV} : zb_L_law_574 J273 [some (zr 23 0), some (zr 7 0), some (zi (nI n)), some (zi 2), some (zi x4), some (zi (nI i)), some (zi x6), some (zi x7), some (zi (nI p)), some (zi (nI a)), some (zi (nI b)), some (zi d), some (zi x12), some (zi 1), some (zi (S 5 (6 * a + b) 0)), some (zi x15), some (zi x16), some (zi x17), u18, u19, u20, u21] [zi due] S K := by
  obtain ⟨hj, h1, h2, h3, h4, h5⟩ := id h
  have hp' : p < nP S := by omega
  have ha' : a < nS S := by omega
  rw [ze_L_law_574]
  refine zQ3 rfl (q_sh1 hj ha' hb) ?_
  rw [ze_L_law_585]
  refine zI5 rfl hT ?_
  rintro v T ⟨q1, q2, q3, q4, q5⟩
  have hw := h.eq q1 q2
  have haT : a < nS T := by rw [hw.2.2.2.1]; exact ha
  rw [ze_L_law_599]
  refine ⟨fun _ => ?_, fun hne => absurd (q3.trans hdue.symm) hne⟩
  refine zQ3 rfl (q_sh0 q1 haT hb) ?_
  rw [ze_L_law_613]
  refine ⟨fun hle => absurd hle h100, fun _ => ?_⟩
  rw [ze_L_law_628]
  refine ⟨fun _ => ?_, fun hne => absurd q4 hne⟩
  refine zQ3 rfl (q_sh1 q1 haT hb) ?_
  rw [ze_L_law_641]
  refine ⟨fun hle => absurd hle h100, fun _ => ?_⟩
  refine ⟨fun hle => absurd hle (by decide), fun _ => ?_⟩
  rw [if_neg (by rw [sort]; decide)] at q5
  rw [ze_L_law_662]
  exact ⟨fun _ => law_tail hi hJ (by omega) hw, fun hne => absurd q5 hne⟩
set_option maxRecDepth 20000 in
set_option maxHeartbeats 4000000 in
theorem law_574y2 {J273 : ZP} {K : ZK} {n i c : Nat} {x4 : Int32} {S : ZS} (hi : i < 34) (hJ : ∀ L S, LJ n (i + 1) L S → J273 L [] S K) (hc : c ≤ 34 + 2 * i) (h : LW n x4 c S) {p a b : Nat} {d : Int32} (hp : p < n) (ha : a < 2) (hb : b < 6) (hd : zbt d 1 9999) (sort : S 2 b 0 = 2) (due : Int32) (hdue : due = zdue S p b d) (h100 : ¬ due ≤ -100) (hT : sp_L_tryBuy [zr 7 0, zi (nI p), zi (nI a), zi (nI b), zi d] S (zR (fun v S' => zbuy c S S' p a b d v))) {x6 x7 x12 x15 x16 x17 : Int32} {u18 u19 u20 u21 : Option ZV} : zb_L_law_574 J273 [some (zr 23 0), some (zr 7 0), some (zi (nI n)), some (zi 2), some (zi x4), some (zi (nI i)), some (zi x6), some (zi x7), some (zi (nI p)), some (zi (nI a)), some (zi (nI b)), some (zi d), some (zi x12), some (zi 2), some (zi (S 5 (6 * a + b) 0)), some (zi x15), some (zi x16), some (zi x17), u18, u19, u20, u21] [zi due] S K := by
  obtain ⟨hj, h1, h2, h3, h4, h5⟩ := id h
  have hp' : p < nP S := by omega
  have ha' : a < nS S := by omega
  rw [ze_L_law_574]
  refine zQ3 rfl (q_sh1 hj ha' hb) ?_
  rw [ze_L_law_585]
  refine zI5 rfl hT ?_
  rintro v T ⟨q1, q2, q3, q4, q5⟩
  have hw := h.eq q1 q2
  have haT : a < nS T := by rw [hw.2.2.2.1]; exact ha
  rw [ze_L_law_599]
  refine ⟨fun _ => ?_, fun hne => absurd (q3.trans hdue.symm) hne⟩
  refine zQ3 rfl (q_sh0 q1 haT hb) ?_
  rw [ze_L_law_613]
  refine ⟨fun hle => absurd hle h100, fun _ => ?_⟩
  rw [ze_L_law_628]
  refine ⟨fun _ => ?_, fun hne => absurd q4 hne⟩
  refine zQ3 rfl (q_sh1 q1 haT hb) ?_
  rw [ze_L_law_641]
  refine ⟨fun hle => absurd hle h100, fun _ => ?_⟩
  refine ⟨fun _ => ?_, fun hne => absurd (by decide) hne⟩
  rw [if_pos sort] at q5
  rw [ze_L_law_661, ze_L_law_662]
  exact ⟨fun _ => law_tail hi hJ (by omega) hw, fun hne => absurd (q5.trans (Int32.add_zero _).symm) hne⟩
set_option maxRecDepth 20000 in
set_option maxHeartbeats 4000000 in
theorem act_buyR {J273 : ZP} {K : ZK} {n i c : Nat} {x4 : Int32} {S : ZS} (hi : i < 34) (hJ : ∀ L S, LJ n (i + 1) L S → J273 L [] S K) (hc : c ≤ 34 + 2 * i) (h : LW n x4 c S) {p a b : Nat} {d : Int32} (hp : p < n) (ha : a < 2) (hb : b < 6) (hd : zbt d 1 9999) (sort : S 2 b 0 = 0) {x6 x7 x11 x12 : Int32} {u14 u15 u16 u17 u18 u19 u20 u21 : Option ZV} : zb_L_law_407 J273 [some (zr 23 0), some (zr 7 0), some (zi (nI n)), some (zi 2), some (zi x4), some (zi (nI i)), some (zi x6), some (zi x7), some (zi (nI p)), some (zi (nI a)), some (zi (nI b)), some (zi x11), some (zi x12), some (zi 0), u14, u15, u16, u17, u18, u19, u20, u21] [zi d] S K := by
  obtain ⟨hj, h1, h2, h3, h4, h5⟩ := id h
  have hp' : p < nP S := by omega
  have ha' : a < nS S := by omega
  have e548 : ∀ f : Int32, (f = 0 → ¬ zmay S p a b d) → (¬ f = 0 → zmay S p a b d) → zb_L_law_548 J273 [some (zr 23 0), some (zr 7 0), some (zi (nI n)), some (zi 2), some (zi x4), some (zi (nI i)), some (zi x6), some (zi x7), some (zi (nI p)), some (zi (nI a)), some (zi (nI b)), some (zi d), some (zi x12), some (zi 0), some (zi (S 5 (6 * a + b) 0)), some (zi (zlt1 S p b)), some (zi d), some (zi f), u18, u19, u20, u21] [] S K := fun f hf0 hf1 => by
    rw [ze_L_law_548]
    refine ⟨fun e => ?_, fun e => ?_⟩
    · exact law_574n hi hJ hc h hp ha hb hd (-200) (by decide) (t_buy2R hj (by omega) hp' ha' hb hd sort (hf0 e))
    · have hm := hf1 e
      have hge := zdue_ge hj hb hd (fun q => absurd (q.symm.trans sort) (by decide)) hm
      have hT := t_buy1R hj (by omega) hp' ha' hb hd sort hm
      have e : zdue S p b d = zlt1 S p b - d := by
        unfold zdue
        rw [if_pos sort]
      rw [e] at hge
      exact ⟨fun e => absurd e (by decide), fun _ => law_574y0 hi hJ hc h hp ha hb hd sort _ e.symm hge hT⟩
  have e527 : ∀ f : Int32, (f = 0 → ¬ zmay S p a b d) → (¬ f = 0 → zmay S p a b d) → zb_L_law_527 J273 [some (zr 23 0), some (zr 7 0), some (zi (nI n)), some (zi 2), some (zi x4), some (zi (nI i)), some (zi x6), some (zi x7), some (zi (nI p)), some (zi (nI a)), some (zi (nI b)), some (zi d), some (zi x12), some (zi 0), some (zi (S 5 (6 * a + b) 0)), some (zi (zlt1 S p b)), some (zi d), u17, u18, u19, u20, u21] [zi f] S K := fun f hf0 hf1 => by
    rw [ze_L_law_527]
    exact ⟨fun e => absurd e (by decide), fun _ => e548 f hf0 hf1⟩
  have e526 : ¬ zmay S p a b d → zb_L_law_526 J273 [some (zr 23 0), some (zr 7 0), some (zi (nI n)), some (zi 2), some (zi x4), some (zi (nI i)), some (zi x6), some (zi x7), some (zi (nI p)), some (zi (nI a)), some (zi (nI b)), some (zi d), some (zi x12), some (zi 0), some (zi (S 5 (6 * a + b) 0)), some (zi (zlt1 S p b)), some (zi d), u17, u18, u19, u20, u21] [] S K := fun hm => by
    rw [ze_L_law_526]
    exact e527 0 (fun _ => hm) (fun hne => absurd rfl hne)
  have e522 : zmay S p a b d → zb_L_law_522 J273 [some (zr 23 0), some (zr 7 0), some (zi (nI n)), some (zi 2), some (zi x4), some (zi (nI i)), some (zi x6), some (zi x7), some (zi (nI p)), some (zi (nI a)), some (zi (nI b)), some (zi d), some (zi x12), some (zi 0), some (zi (S 5 (6 * a + b) 0)), some (zi (zlt1 S p b)), some (zi d), u17, u18, u19, u20, u21] [] S K := fun hm => by
    rw [ze_L_law_522]
    exact e527 1 (fun e => absurd e (by decide)) (fun _ => hm)
  have e478 : zb_L_law_478 J273 [some (zr 23 0), some (zr 7 0), some (zi (nI n)), some (zi 2), some (zi x4), some (zi (nI i)), some (zi x6), some (zi x7), some (zi (nI p)), some (zi (nI a)), some (zi (nI b)), some (zi d), some (zi x12), some (zi 0), some (zi (S 5 (6 * a + b) 0)), some (zi (zlt1 S p b)), u16, u17, u18, u19, u20, u21] [zi d] S K := by
    rw [ze_L_law_478]
    refine zQ2 rfl (q_pe6 hj hp') ?_
    rw [ze_L_law_488]
    by_cases hl : 0 < S 3 p 4
    · rw [if_pos hl]
      refine ⟨fun _ => ⟨fun hlt => e526 (fun q => absurd q.2.1 (Int32.not_le.mpr hlt)), fun hlt => ⟨fun hlt2 => e526 (fun q => absurd (q.2.2.1 sort).2 (Int32.not_le.mpr hlt2)), fun hlt2 => ⟨fun e => absurd e (by decide), fun _ => ?_⟩⟩⟩, fun hne => absurd rfl hne⟩
      refine zQ2 rfl (q_pe1 hj hp') ?_
      rw [ze_L_law_517]
      exact ⟨fun e => e522 ⟨hl, Int32.not_lt.mp hlt, fun _ => ⟨e.symm, Int32.not_lt.mp hlt2⟩, fun q => absurd (q.symm.trans sort) (by decide)⟩, fun e => e526 (fun q => e (q.2.2.1 sort).1.symm)⟩
    · rw [if_neg hl]
      exact ⟨fun e => absurd e (by decide), fun _ => e526 (fun q => hl q.1)⟩
  rw [ze_L_law_407]
  refine zQ3 rfl (q_sh0 hj ha' hb) ?_
  rw [ze_L_law_418]
  refine ⟨fun _ => ?_, fun hne => absurd rfl hne⟩
  refine zQ2 rfl (q_left hj hp' hb) ?_
  rw [ze_L_law_433, ze_L_law_443]
  exact ⟨fun _ => e478, fun hne => absurd rfl hne⟩
set_option maxRecDepth 20000 in
set_option maxHeartbeats 4000000 in
theorem act_buyP {J273 : ZP} {K : ZK} {n i c : Nat} {x4 : Int32} {S : ZS} (hi : i < 34) (hJ : ∀ L S, LJ n (i + 1) L S → J273 L [] S K) (hc : c ≤ 34 + 2 * i) (h : LW n x4 c S) {p a b : Nat} {d : Int32} (hp : p < n) (ha : a < 2) (hb : b < 6) (hd : zbt d 1 9999) (sort : S 2 b 0 = 1) (hh : d - d / 100 * 100 = 0) {x6 x7 x11 x12 : Int32} {u14 u15 u16 u17 u18 u19 u20 u21 : Option ZV} : zb_L_law_407 J273 [some (zr 23 0), some (zr 7 0), some (zi (nI n)), some (zi 2), some (zi x4), some (zi (nI i)), some (zi x6), some (zi x7), some (zi (nI p)), some (zi (nI a)), some (zi (nI b)), some (zi x11), some (zi x12), some (zi 1), u14, u15, u16, u17, u18, u19, u20, u21] [zi d] S K := by
  obtain ⟨hj, h1, h2, h3, h4, h5⟩ := id h
  have hp' : p < nP S := by omega
  have ha' : a < nS S := by omega
  have e548 : ∀ f : Int32, (f = 0 → ¬ zmay S p a b d) → (¬ f = 0 → zmay S p a b d) → zb_L_law_548 J273 [some (zr 23 0), some (zr 7 0), some (zi (nI n)), some (zi 2), some (zi x4), some (zi (nI i)), some (zi x6), some (zi x7), some (zi (nI p)), some (zi (nI a)), some (zi (nI b)), some (zi d), some (zi x12), some (zi 1), some (zi (S 5 (6 * a + b) 0)), some (zi (zpt S p)), some (zi (S 2 b 1 * (d / 100))), some (zi f), u18, u19, u20, u21] [] S K := fun f hf0 hf1 => by
    rw [ze_L_law_548]
    refine ⟨fun e => ?_, fun e => ?_⟩
    · exact law_574n hi hJ hc h hp ha hb hd (-200) (by decide) (t_buy2P hj (by omega) hp' ha' hb hd sort hh (hf0 e))
    · have hm := hf1 e
      have hge := zdue_ge hj hb hd (fun q => hh) hm
      have hT := t_buy1P hj (by omega) hp' ha' hb hd sort hh hm
      have e : zdue S p b d = zpt S p - S 2 b 1 * (d / 100) := by
        unfold zdue
        rw [if_neg (by rw [sort]; decide), if_pos sort]
      rw [e] at hge
      exact ⟨fun e => absurd e (by decide), fun _ => law_574y1 hi hJ hc h hp ha hb hd sort _ e.symm hge hT⟩
  have e527 : ∀ f : Int32, (f = 0 → ¬ zmay S p a b d) → (¬ f = 0 → zmay S p a b d) → zb_L_law_527 J273 [some (zr 23 0), some (zr 7 0), some (zi (nI n)), some (zi 2), some (zi x4), some (zi (nI i)), some (zi x6), some (zi x7), some (zi (nI p)), some (zi (nI a)), some (zi (nI b)), some (zi d), some (zi x12), some (zi 1), some (zi (S 5 (6 * a + b) 0)), some (zi (zpt S p)), some (zi (S 2 b 1 * (d / 100))), u17, u18, u19, u20, u21] [zi f] S K := fun f hf0 hf1 => by
    rw [ze_L_law_527]
    exact ⟨fun _ => ⟨by decide, fun _ => e548 f hf0 hf1, fun hne => absurd (by rw [hh]; decide) hne⟩, fun hne => absurd rfl hne⟩
  have e526 : ¬ zmay S p a b d → zb_L_law_526 J273 [some (zr 23 0), some (zr 7 0), some (zi (nI n)), some (zi 2), some (zi x4), some (zi (nI i)), some (zi x6), some (zi x7), some (zi (nI p)), some (zi (nI a)), some (zi (nI b)), some (zi d), some (zi x12), some (zi 1), some (zi (S 5 (6 * a + b) 0)), some (zi (zpt S p)), some (zi (S 2 b 1 * (d / 100))), u17, u18, u19, u20, u21] [] S K := fun hm => by
    rw [ze_L_law_526]
    exact e527 0 (fun _ => hm) (fun hne => absurd rfl hne)
  have e522 : zmay S p a b d → zb_L_law_522 J273 [some (zr 23 0), some (zr 7 0), some (zi (nI n)), some (zi 2), some (zi x4), some (zi (nI i)), some (zi x6), some (zi x7), some (zi (nI p)), some (zi (nI a)), some (zi (nI b)), some (zi d), some (zi x12), some (zi 1), some (zi (S 5 (6 * a + b) 0)), some (zi (zpt S p)), some (zi (S 2 b 1 * (d / 100))), u17, u18, u19, u20, u21] [] S K := fun hm => by
    rw [ze_L_law_522]
    exact e527 1 (fun e => absurd e (by decide)) (fun _ => hm)
  have e478 : zb_L_law_478 J273 [some (zr 23 0), some (zr 7 0), some (zi (nI n)), some (zi 2), some (zi x4), some (zi (nI i)), some (zi x6), some (zi x7), some (zi (nI p)), some (zi (nI a)), some (zi (nI b)), some (zi d), some (zi x12), some (zi 1), some (zi (S 5 (6 * a + b) 0)), some (zi (zpt S p)), u16, u17, u18, u19, u20, u21] [zi (S 2 b 1 * (d / 100))] S K := by
    rw [ze_L_law_478]
    refine zQ2 rfl (q_pe6 hj hp') ?_
    rw [ze_L_law_488]
    by_cases hl : 0 < S 3 p 4
    · rw [if_pos hl]
      refine ⟨fun _ => ⟨fun hlt => e526 (fun q => absurd q.2.1 (Int32.not_le.mpr hlt)), fun hlt => ⟨fun hlt2 => e526 (fun q => absurd (q.2.2.2 sort) (Int32.not_le.mpr hlt2)), fun hlt2 => ⟨fun _ => e522 ⟨hl, Int32.not_lt.mp hlt, fun q => absurd (q.symm.trans sort) (by decide), fun _ => Int32.not_lt.mp hlt2⟩, fun hne => absurd (by decide) hne⟩⟩⟩, fun hne => absurd rfl hne⟩
    · rw [if_neg hl]
      exact ⟨fun e => absurd e (by decide), fun _ => e526 (fun q => hl q.1)⟩
  rw [ze_L_law_407]
  refine zQ3 rfl (q_sh0 hj ha' hb) ?_
  rw [ze_L_law_418]
  refine ⟨fun e => absurd e (by decide), fun _ => ?_⟩
  refine zQ2 rfl (q_pe4 hj hp') ?_
  rw [ze_L_law_443]
  refine ⟨fun e => absurd e (by decide), fun _ => ⟨fun _ => ?_, fun hne => absurd rfl hne⟩⟩
  refine zQ2 rfl (q_go1 hb) ?_
  rw [ze_L_law_468, zcost ((hj.en b hb).2 sort) hd hh]
  exact ⟨by decide, e478⟩
set_option maxRecDepth 20000 in
set_option maxHeartbeats 4000000 in
theorem act_buyF {J273 : ZP} {K : ZK} {n i c : Nat} {x4 : Int32} {S : ZS} (hi : i < 34) (hJ : ∀ L S, LJ n (i + 1) L S → J273 L [] S K) (hc : c ≤ 34 + 2 * i) (h : LW n x4 c S) {p a b : Nat} {d : Int32} (hp : p < n) (ha : a < 2) (hb : b < 6) (hd : zbt d 1 9999) (sort : S 2 b 0 = 2) {x6 x7 x11 x12 : Int32} {u14 u15 u16 u17 u18 u19 u20 u21 : Option ZV} : zb_L_law_407 J273 [some (zr 23 0), some (zr 7 0), some (zi (nI n)), some (zi 2), some (zi x4), some (zi (nI i)), some (zi x6), some (zi x7), some (zi (nI p)), some (zi (nI a)), some (zi (nI b)), some (zi x11), some (zi x12), some (zi 2), u14, u15, u16, u17, u18, u19, u20, u21] [zi d] S K := by
  obtain ⟨hj, h1, h2, h3, h4, h5⟩ := id h
  have hp' : p < nP S := by omega
  have ha' : a < nS S := by omega
  have e548 : ∀ f : Int32, (f = 0 → ¬ zmay S p a b d) → (¬ f = 0 → zmay S p a b d) → zb_L_law_548 J273 [some (zr 23 0), some (zr 7 0), some (zi (nI n)), some (zi 2), some (zi x4), some (zi (nI i)), some (zi x6), some (zi x7), some (zi (nI p)), some (zi (nI a)), some (zi (nI b)), some (zi d), some (zi x12), some (zi 2), some (zi (S 5 (6 * a + b) 0)), some (zi (zpt S p)), some (zi 0), some (zi f), u18, u19, u20, u21] [] S K := fun f hf0 hf1 => by
    rw [ze_L_law_548]
    refine ⟨fun e => ?_, fun e => ?_⟩
    · exact law_574n hi hJ hc h hp ha hb hd (-200) (by decide) (t_buy2F hj (by omega) hp' ha' hb hd sort (hf0 e))
    · have hm := hf1 e
      have hge := zdue_ge hj hb hd (fun q => absurd (q.symm.trans sort) (by decide)) hm
      have hT := t_buy1F hj (by omega) hp' ha' hb hd sort hm
      have e : zdue S p b d = -1 := by
        unfold zdue
        rw [if_neg (by rw [sort]; decide), if_neg (by rw [sort]; decide)]
      rw [e] at hge
      exact ⟨fun _ => law_574y2 hi hJ hc h hp ha hb hd sort (-1) e.symm hge hT, fun hne => absurd rfl hne⟩
  have e527 : ∀ f : Int32, (f = 0 → ¬ zmay S p a b d) → (¬ f = 0 → zmay S p a b d) → zb_L_law_527 J273 [some (zr 23 0), some (zr 7 0), some (zi (nI n)), some (zi 2), some (zi x4), some (zi (nI i)), some (zi x6), some (zi x7), some (zi (nI p)), some (zi (nI a)), some (zi (nI b)), some (zi d), some (zi x12), some (zi 2), some (zi (S 5 (6 * a + b) 0)), some (zi (zpt S p)), some (zi 0), u17, u18, u19, u20, u21] [zi f] S K := fun f hf0 hf1 => by
    rw [ze_L_law_527]
    exact ⟨fun e => absurd e (by decide), fun _ => e548 f hf0 hf1⟩
  have e526 : ¬ zmay S p a b d → zb_L_law_526 J273 [some (zr 23 0), some (zr 7 0), some (zi (nI n)), some (zi 2), some (zi x4), some (zi (nI i)), some (zi x6), some (zi x7), some (zi (nI p)), some (zi (nI a)), some (zi (nI b)), some (zi d), some (zi x12), some (zi 2), some (zi (S 5 (6 * a + b) 0)), some (zi (zpt S p)), some (zi 0), u17, u18, u19, u20, u21] [] S K := fun hm => by
    rw [ze_L_law_526]
    exact e527 0 (fun _ => hm) (fun hne => absurd rfl hne)
  have e522 : zmay S p a b d → zb_L_law_522 J273 [some (zr 23 0), some (zr 7 0), some (zi (nI n)), some (zi 2), some (zi x4), some (zi (nI i)), some (zi x6), some (zi x7), some (zi (nI p)), some (zi (nI a)), some (zi (nI b)), some (zi d), some (zi x12), some (zi 2), some (zi (S 5 (6 * a + b) 0)), some (zi (zpt S p)), some (zi 0), u17, u18, u19, u20, u21] [] S K := fun hm => by
    rw [ze_L_law_522]
    exact e527 1 (fun e => absurd e (by decide)) (fun _ => hm)
  have e478 : zb_L_law_478 J273 [some (zr 23 0), some (zr 7 0), some (zi (nI n)), some (zi 2), some (zi x4), some (zi (nI i)), some (zi x6), some (zi x7), some (zi (nI p)), some (zi (nI a)), some (zi (nI b)), some (zi d), some (zi x12), some (zi 2), some (zi (S 5 (6 * a + b) 0)), some (zi (zpt S p)), u16, u17, u18, u19, u20, u21] [zi 0] S K := by
    rw [ze_L_law_478]
    refine zQ2 rfl (q_pe6 hj hp') ?_
    rw [ze_L_law_488]
    by_cases hl : 0 < S 3 p 4
    · rw [if_pos hl]
      refine ⟨fun _ => ⟨fun hlt => e526 (fun q => absurd q.2.1 (Int32.not_le.mpr hlt)), fun hlt => ⟨fun hlt2 => absurd hlt2 (zpl_ge _ _ _), fun hlt2 => ⟨fun _ => e522 ⟨hl, Int32.not_lt.mp hlt, fun q => absurd (q.symm.trans sort) (by decide), fun q => absurd (q.symm.trans sort) (by decide)⟩, fun hne => absurd (by decide) hne⟩⟩⟩, fun hne => absurd rfl hne⟩
    · rw [if_neg hl]
      exact ⟨fun e => absurd e (by decide), fun _ => e526 (fun q => hl q.1)⟩
  rw [ze_L_law_407]
  refine zQ3 rfl (q_sh0 hj ha' hb) ?_
  rw [ze_L_law_418]
  refine ⟨fun e => absurd e (by decide), fun _ => ?_⟩
  refine zQ2 rfl (q_pe4 hj hp') ?_
  rw [ze_L_law_443]
  exact ⟨fun e => absurd e (by decide), fun _ => ⟨fun e => absurd e (by decide), fun _ => e478⟩⟩
set_option maxRecDepth 20000 in
set_option maxHeartbeats 4000000 in
theorem act_buy0 {J273 : ZP} {K : ZK} {n i c : Nat} {x4 : Int32} {S : ZS} (hi : i < 34) (hJ : ∀ L S, LJ n (i + 1) L S → J273 L [] S K) (hc : c ≤ 34 + 2 * i) (h : LW n x4 c S) {p a b : Nat} {d : Int32} (hp : p < n) (ha : a < 2) (hb : b < 6) (hd : zbt d 1 9999) (sort : S 2 b 0 = 1) (hh : ¬ d - d / 100 * 100 ≤ 0) {x6 x7 x11 x12 : Int32} {u14 u15 u16 u17 u18 u19 u20 u21 : Option ZV} : zb_L_law_407 J273 [some (zr 23 0), some (zr 7 0), some (zi (nI n)), some (zi 2), some (zi x4), some (zi (nI i)), some (zi x6), some (zi x7), some (zi (nI p)), some (zi (nI a)), some (zi (nI b)), some (zi x11), some (zi x12), some (zi 1), u14, u15, u16, u17, u18, u19, u20, u21] [zi d] S K := by
  obtain ⟨hj, h1, h2, h3, h4, h5⟩ := id h
  have hp' : p < nP S := by omega
  have ha' : a < nS S := by omega
  have hh' : ¬ d - d / 100 * 100 = 0 := fun e => hh (by rw [e]; decide)
  have e527 : ∀ f : Int32, zb_L_law_527 J273 [some (zr 23 0), some (zr 7 0), some (zi (nI n)), some (zi 2), some (zi x4), some (zi (nI i)), some (zi x6), some (zi x7), some (zi (nI p)), some (zi (nI a)), some (zi (nI b)), some (zi d), some (zi x12), some (zi 1), some (zi (S 5 (6 * a + b) 0)), some (zi (zpt S p)), some (zi (S 2 b 1 * d / 100)), u17, u18, u19, u20, u21] [zi f] S K := fun f => by
    rw [ze_L_law_527]
    exact ⟨fun _ => ⟨by decide, fun hle => absurd hle hh, fun _ => law_574n hi hJ hc h hp ha hb hd (-100) (by decide) (t_buy0 hj (by omega) hp' ha' hb hd sort hh')⟩, fun hne => absurd rfl hne⟩
  have e526 : zb_L_law_526 J273 [some (zr 23 0), some (zr 7 0), some (zi (nI n)), some (zi 2), some (zi x4), some (zi (nI i)), some (zi x6), some (zi x7), some (zi (nI p)), some (zi (nI a)), some (zi (nI b)), some (zi d), some (zi x12), some (zi 1), some (zi (S 5 (6 * a + b) 0)), some (zi (zpt S p)), some (zi (S 2 b 1 * d / 100)), u17, u18, u19, u20, u21] [] S K := by
    rw [ze_L_law_526]
    exact e527 0
  have e522 : zb_L_law_522 J273 [some (zr 23 0), some (zr 7 0), some (zi (nI n)), some (zi 2), some (zi x4), some (zi (nI i)), some (zi x6), some (zi x7), some (zi (nI p)), some (zi (nI a)), some (zi (nI b)), some (zi d), some (zi x12), some (zi 1), some (zi (S 5 (6 * a + b) 0)), some (zi (zpt S p)), some (zi (S 2 b 1 * d / 100)), u17, u18, u19, u20, u21] [] S K := by
    rw [ze_L_law_522]
    exact e527 1
  rw [ze_L_law_407]
  refine zQ3 rfl (q_sh0 hj ha' hb) ?_
  rw [ze_L_law_418]
  refine ⟨fun e => absurd e (by decide), fun _ => ?_⟩
  refine zQ2 rfl (q_pe4 hj hp') ?_
  rw [ze_L_law_443]
  refine ⟨fun e => absurd e (by decide), fun _ => ⟨fun _ => ?_, fun hne => absurd rfl hne⟩⟩
  refine zQ2 rfl (q_go1 hb) ?_
  rw [ze_L_law_468]
  refine ⟨by decide, ?_⟩
  rw [ze_L_law_478]
  refine zQ2 rfl (q_pe6 hj hp') ?_
  rw [ze_L_law_488]
  exact ⟨fun _ => ⟨fun _ => e526, fun _ => ⟨fun _ => e526, fun _ => ⟨fun _ => e522, fun hne => absurd (by decide) hne⟩⟩⟩, fun _ => e526⟩
