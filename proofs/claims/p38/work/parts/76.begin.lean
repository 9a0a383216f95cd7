/-! THE LAW'S BEGINNING: what it makes and tells -/
theorem zN.rf {S : ZS} : zN S S 0 0 0 0 := ⟨rfl, rfl, rfl, rfl, rfl⟩
/-- at the head of the loop of goods -/
def LG (n g : Nat) (L : List (Option ZV)) (S : ZS) : Prop := ∃ (u6 u7 u8 u9 u10 u11 u12 u13 u14 u15 u16 u17 u18 u19 u20 u21 : Option ZV), L = [some (zr 23 0), some (zr 7 0), some (zi (nI n)), some (zi 2), some (zi 0), some (zi (nI g)), u6, u7, u8, u9, u10, u11, u12, u13, u14, u15, u16, u17, u18, u19, u20, u21] ∧ J (4 + n + 4 * g) S ∧ nP S = n ∧ nD S = 2 ∧ nS S = 2 ∧ nF S = 0 ∧ S 7 0 18 = 0
/-- at the head of the loop of people -/
def LQp (n i : Nat) (L : List (Option ZV)) (S : ZS) : Prop := ∃ (u6 u7 u8 u9 u10 u11 u12 u13 u14 u15 u16 u17 u18 u19 u20 u21 : Option ZV), L = [some (zr 23 0), some (zr 7 0), some (zi (nI n)), some (zi 2), some (zi 0), some (zi (nI i)), u6, u7, u8, u9, u10, u11, u12, u13, u14, u15, u16, u17, u18, u19, u20, u21] ∧ J (4 + i) S ∧ nP S = i ∧ nD S = 2 ∧ nS S = 2 ∧ nF S = 0 ∧ S 7 0 18 = 0
set_option maxRecDepth 20000 in
set_option maxHeartbeats 4000000 in
theorem law_good {J106 : ZP} {K : ZK} {n g : Nat} (hn1 : 1 ≤ n) (hn : n ≤ 5) (hg : g < 6) (hJ : ∀ L S, LG n (g + 1) L S → J106 L [] S K) : ∀ L S, LG n g L S → zb_L_law_106 J106 L [] S K := by
  rintro L S ⟨u6, u7, u8, u9, u10, u11, u12, u13, u14, u15, u16, u17, u18, u19, u20, u21, rfl, h, h1, h2, h3, h4, h5⟩
  have e201 : ∀ (T : ZS) (x6 : Int32), J (4 + n + 4 * g + 2) T → zEq S T → zb_L_law_201 J106 [some (zr 23 0), some (zr 7 0), some (zi (nI n)), some (zi 2), some (zi 0), some (zi (nI g)), some (zi x6), u7, u8, u9, u10, u11, u12, u13, u14, u15, u16, u17, u18, u19, u20, u21] [] T K := fun T x6 q1 q2 => by
    obtain ⟨k1, k2, k3, k4⟩ := q2.n
    rw [ze_L_law_201]
    refine zP2 rfl rfl (q_low _ (n := 9000) (by decide) (by decide)) ?_
    have w1 := zlw_lt (x6 >>> (11 &&& 31)) (n := 9000) (by decide)
    generalize zlw (x6 >>> (11 &&& 31)) 9000 = a1 at *
    rw [ze_L_law_217, show (1 : Int32) + nI a1 = nI (1 + a1) from nI_add 1 a1]
    refine zV3 rfl (m_ship q1 (by omega) (a := 0) (b := g) (by omega) hg (zbt_1 (n := 99999) (by omega) (by omega) (by decide))) ?_
    rintro v U ⟨r1, r2⟩
    obtain ⟨l1, l2, l3, l4⟩ := r2.n
    rw [ze_L_law_221]
    refine zP2 rfl rfl (q_low _ (n := 4000) (by decide) (by decide)) ?_
    have w2 := zlw_lt (x6 >>> (14 &&& 31)) (n := 4000) (by decide)
    generalize zlw (x6 >>> (14 &&& 31)) 4000 = a2 at *
    rw [ze_L_law_238, show (1 : Int32) + nI a2 = nI (1 + a2) from nI_add 1 a2]
    refine zV3 rfl (m_ship r1 (by omega) (a := 1) (b := g) (by omega) hg (zbt_1 (n := 99999) (by omega) (by omega) (by decide))) ?_
    rintro v V ⟨s1, s2⟩
    obtain ⟨m1, m2, m3, m4⟩ := s2.n
    rw [ze_L_law_242, nIs]
    exact hJ _ _ ⟨_, _, _, _, _, _, _, _, _, _, _, _, _, _, _, _, rfl, s1, by omega, by omega, by omega, by omega, by rw [s2.2, r2.2, q2.2, h5]⟩
  rw [ze_L_law_106]
  refine ⟨fun hle => ?_, fun _ => ?_⟩
  · have hle : nI 6 ≤ nI g := hle
    rw [nI_leI (by omega) (by omega)] at hle
    omega
  rw [show (8 : Int32) + nI g = nI (8 + g) from nI_add 8 g]
  refine zC2 rfl rfl (q_cell (by omega)) (fun x6 => ?_)
  rw [ze_L_law_122]
  refine zP2 rfl rfl (q_low _ (n := 901) (by decide) (by decide)) ?_
  have w1 := zlw_lt x6 (n := 901) (by decide)
  generalize zlw x6 901 = a1 at *
  rw [ze_L_law_135]
  refine zV2 rfl (m_energy h (b := g) hg (zbt_0 (n := 900) (by omega) (by decide))) ?_
  rintro v T ⟨q1, q2⟩
  obtain ⟨k1, k2, k3, k4⟩ := q2.n
  rw [ze_L_law_138]
  refine ⟨fun _ => ⟨fun _ => ?_, fun _ => ?_⟩, fun _ => ?_⟩
  · refine zV1 rfl (m_free q1 (b := g) hg) ?_
    rintro v U ⟨r1, r2⟩
    rw [ze_L_law_200]
    exact e201 U x6 r1 (q2.tr r2)
  · refine zP2 rfl rfl (q_low _ (n := 24) (by decide) (by decide)) ?_
    have w2 := zlw_lt (x6 >>> (7 &&& 31)) (n := 24) (by decide)
    generalize zlw (x6 >>> (7 &&& 31)) 24 = a2 at *
    rw [ze_L_law_186, show (1 : Int32) + nI a2 = nI (1 + a2) from nI_add 1 a2]
    refine zV2 rfl (m_onPoints q1 (b := g) hg (zbt_1 (n := 24) (by omega) (by omega) (by decide))) ?_
    rintro v U ⟨r1, r2⟩
    rw [ze_L_law_190]
    exact e201 U x6 r1 (q2.tr r2)
  · refine zP2 rfl rfl (q_low _ (n := 3000) (by decide) (by decide)) ?_
    have w2 := zlw_lt (x6 >>> (7 &&& 31)) (n := 3000) (by decide)
    generalize zlw (x6 >>> (7 &&& 31)) 3000 = a2 at *
    rw [ze_L_law_159]
    refine zV2 rfl (m_ration q1 (b := g) hg (zbt_0 (n := 9999) (by omega) (by decide))) ?_
    rintro v U ⟨r1, r2⟩
    rw [ze_L_law_162]
    exact e201 U x6 r1 (q2.tr r2)
theorem law_goodE {J106 : ZP} {K : ZK} {n : Nat} (hn1 : 1 ≤ n) (hn : n ≤ 5) : ∀ L S, LG n 6 L S → zb_L_law_106 J106 L [] S K := by
  rintro L S ⟨u6, u7, u8, u9, u10, u11, u12, u13, u14, u15, u16, u17, u18, u19, u20, u21, rfl, h, h1, h2, h3, h4, h5⟩
  rw [ze_L_law_106]
  refine ⟨fun _ => ?_, fun hne => absurd (by decide) hne⟩
  refine zC2 rfl rfl (q_cell (k := 14) (by decide)) (fun y => ?_)
  rw [ze_L_law_259]
  refine zP2 rfl rfl (q_low _ (n := 900) (by decide) (by decide)) ?_
  have w1 := zlw_lt y (n := 900) (by decide)
  generalize zlw y 900 = a1 at *
  rw [ze_L_law_265, show (1 : Int32) + nI a1 = nI (1 + a1) from nI_add 1 a1]
  refine zV3 rfl (m_farm h (a := 1) (b := 0) (by omega) (by decide) (zbt_1 (n := 99999) (by omega) (by omega) (by decide)) (by omega)) ?_
  rintro v T ⟨q1, k1, k2, k3, k4, k5⟩
  rw [ze_L_law_269]
  exact ⟨35, Nat.le_refl _, law_acts hn1 (by omega) 34 0 rfl _ _ ⟨_, 0, _, _, _, _, _, _, _, _, _, _, _, _, _, _, _, _, rfl, ⟨q1, by omega, by omega, by omega, by omega, by rw [k5, h5]⟩, by omega⟩⟩
theorem law_goods {K : ZK} {n : Nat} (hn1 : 1 ≤ n) (hn : n ≤ 5) : ∀ (k g : Nat), g + k = 6 → ∀ L S, LG n g L S → z_iter (fun J106 => zb_L_law_106 J106) (k + 1) L [] S K := by
  intro k
  induction k with
  | zero =>
    intro g hg L S h
    cases (show g = 6 by omega)
    exact law_goodE hn1 hn L S h
  | succ k ih =>
    intro g hg L S h
    exact law_good hn1 hn (by omega) (ih (g + 1) (by omega)) L S h
set_option maxRecDepth 20000 in
set_option maxHeartbeats 4000000 in
theorem law_person {J60 : ZP} {K : ZK} {n i : Nat} (hn : n ≤ 5) (hi : i < n) (hJ : ∀ L S, LQp n (i + 1) L S → J60 L [] S K) : ∀ L S, LQp n i L S → zb_L_law_60 J60 L [] S K := by
  rintro L S ⟨u6, u7, u8, u9, u10, u11, u12, u13, u14, u15, u16, u17, u18, u19, u20, u21, rfl, h, h1, h2, h3, h4, h5⟩
  rw [ze_L_law_60]
  refine ⟨fun hle => ?_, fun _ => ?_⟩
  · rw [nI_leI (by omega) (by omega)] at hle
    omega
  rw [show (2 : Int32) + nI i = nI (2 + i) from nI_add 2 i]
  refine zC2 rfl rfl (q_cell (by omega)) (fun y => ?_)
  rw [ze_L_law_75]
  refine zP2 rfl rfl (q_low _ (n := 4) (by decide) (by decide)) ?_
  rw [ze_L_law_79, show (2 : Int32) + nI i = nI (2 + i) from nI_add 2 i]
  refine zC2 rfl rfl (q_cell (by omega)) (fun y2 => ?_)
  rw [ze_L_law_87]
  refine zP2 rfl rfl (q_low _ (n := 2) (by decide) (by decide)) ?_
  rw [ze_L_law_93]
  refine zV2 rfl (m_person h (zlw_lt _ (by decide)) (by rw [h3]; exact zlw_lt _ (by decide)) (by omega)) ?_
  rintro v T ⟨q1, k1, k2, k3, k4, k5⟩
  rw [ze_L_law_96, nIs]
  exact hJ _ _ ⟨_, _, _, _, _, _, _, _, _, _, _, _, _, _, _, _, rfl, q1, by omega, by omega, by omega, by omega, by rw [k5, h5]⟩
theorem law_personE {J60 : ZP} {K : ZK} {n : Nat} (hn1 : 1 ≤ n) (hn : n ≤ 5) : ∀ L S, LQp n n L S → zb_L_law_60 J60 L [] S K := by
  rintro L S ⟨u6, u7, u8, u9, u10, u11, u12, u13, u14, u15, u16, u17, u18, u19, u20, u21, rfl, h, h1, h2, h3, h4, h5⟩
  rw [ze_L_law_60]
  refine ⟨fun _ => ?_, fun hne => absurd (Int32.le_refl _) hne⟩
  exact ⟨7, Nat.le_refl _, law_goods hn1 hn 6 0 rfl _ _ ⟨_, _, _, _, _, _, _, _, _, _, _, _, _, _, _, _, rfl, h, h1, h2, h3, h4, h5⟩⟩
theorem law_people {K : ZK} {n : Nat} (hn1 : 1 ≤ n) (hn : n ≤ 5) : ∀ (k i : Nat), i + k = n → ∀ L S, LQp n i L S → z_iter (fun J60 => zb_L_law_60 J60) (k + 1) L [] S K := by
  intro k
  induction k with
  | zero =>
    intro i hi L S h
    cases (show i = n by omega)
    exact law_personE hn1 hn L S h
  | succ k ih =>
    intro i hi L S h
    exact law_person hn (by omega) (ih (i + 1) (by omega)) L S h
set_option maxRecDepth 20000 in
set_option maxHeartbeats 4000000 in
theorem law_8 {K : ZK} {S : ZS} (h : J 0 S) (h1 : nP S = 0) (h2 : nD S = 0) (h3 : nS S = 0) (h4 : nF S = 0) (h5 : S 7 0 18 = 0) (u2 u3 u4 u5 u6 u7 u8 u9 u10 u11 u12 u13 u14 u15 u16 u17 u18 u19 u20 u21 : Option ZV) : zb_L_law_8 [some (zr 23 0), some (zr 7 0), u2, u3, u4, u5, u6, u7, u8, u9, u10, u11, u12, u13, u14, u15, u16, u17, u18, u19, u20, u21] [] S K := by
  rw [ze_L_law_8]
  refine zC2 rfl rfl (q_cell (k := 0) (by decide)) (fun y => ?_)
  rw [ze_L_law_14]
  refine zP2 rfl rfl (q_low _ (n := 4) (by decide) (by decide)) ?_
  have w1 := zlw_lt y (n := 4) (by decide)
  generalize zlw y 4 = a1 at *
  rw [ze_L_law_18, show (2 : Int32) + nI a1 = nI (2 + a1) from nI_add 2 a1]
  refine zV1 rfl (m_depot0 h h2) ?_
  rintro v T ⟨q1, k1, k2, k3, k4, k5⟩
  rw [ze_L_law_30]
  refine zV1 rfl (m_depot q1 (a := 0) (by omega) (by omega)) ?_
  rintro v U ⟨r1, l1, l2, l3, l4, l5⟩
  rw [ze_L_law_36]
  refine zV1 rfl (m_shop r1 (a := 1) (by omega) (by omega)) ?_
  rintro v V ⟨s1, m1, m2, m3, m4, m5⟩
  rw [ze_L_law_42]
  refine zC2 rfl rfl (q_cell (k := 1) (by decide)) (fun y2 => ?_)
  rw [ze_L_law_49]
  refine zP2 rfl rfl (q_low _ (n := 2) (by decide) (by decide)) ?_
  have w2 := zlw_lt y2 (n := 2) (by decide)
  generalize zlw y2 2 = a2 at *
  rw [ze_L_law_53]
  refine zV1 rfl (m_shop s1 (a := a2) (by omega) (by omega)) ?_
  rintro v X ⟨t1, n1, n2, n3, n4, n5⟩
  rw [ze_L_law_56]
  exact ⟨2 + a1 + 1, by omega, law_people (by omega) (by omega) (2 + a1) 0 (Nat.zero_add _) _ _ ⟨_, _, _, _, _, _, _, _, _, _, _, _, _, _, _, _, rfl, t1, by omega, by omega, by omega, by omega, by rw [n5, m5, l5, k5, h5]⟩⟩
