/-! THE LAW'S ACTS: a shop claims, gets an advance, or is robbed -/
set_option maxRecDepth 20000 in
set_option maxHeartbeats 4000000 in
theorem act_claim {J273 : ZP} {K : ZK} {n i c : Nat} {x4 : Int32} {S : ZS} (hi : i < 34) (hJ : ∀ L S, LJ n (i + 1) L S → J273 L [] S K) (hc : c ≤ 34 + 2 * i) (h : LW n x4 c S) {p a b : Nat} {d : Int32} (hp : p < n) (ha : a < 2) (hb : b < 6) (hd : zbt d 1 9999) {x6 x7 x12 : Int32} {u14 u15 u16 u17 u18 u19 u20 u21 : Option ZV} : z_invVq 7 4 sp_X7_lacks (zb_L_law_695 J273) [some (zr 23 0), some (zr 7 0), some (zi (nI n)), some (zi 2), some (zi x4), some (zi (nI i)), some (zi x6), some (zi x7), some (zi (nI p)), some (zi (nI a)), some (zi (nI b)), some (zi d), some (zi x12), some (zi 0), u14, u15, u16, u17, u18, u19, u20, u21] [zi 1, zi d, zi (nI b), zi (nI a), zr 7 0] S K := by
  obtain ⟨hj, h1, h2, h3, h4, h5⟩ := id h
  have hp' : p < nP S := by omega
  have ha' : a < nS S := by omega
  have e936 : ∀ (c' : Nat) (T' : ZS) (x20 x21 : Int32), LW n x4 c' T' → c' ≤ 36 + 2 * i → zb_L_law_936 J273 [some (zr 23 0), some (zr 7 0), some (zi (nI n)), some (zi 2), some (zi x4), some (zi (nI i)), some (zi x6), some (zi x7), some (zi (nI p)), some (zi (nI a)), some (zi (nI b)), some (zi d), some (zi x12), some (zi 0), some (zi (zlkk S b ((S 6 a 1).toNatClampNeg + 1) (S 6 a 1).toNatClampNeg d 0 0 (-1)).2.2.1), some (zi (zlkk S b ((S 6 a 1).toNatClampNeg + 1) (S 6 a 1).toNatClampNeg d 0 0 (-1)).2.2.2), some (zi (S 5 (6 * a + b) 0)), some (zi (S 5 (6 * a + b) 1)), some (zi (S 5 (6 * a + b) 2)), some (zi (S 5 (6 * a + b) 3 - S 5 (6 * a + b) 4 - S 5 (6 * a + b) 0)), some (zi x20), some (zi x21)] [] T' K := fun c' T' x20 x21 hw hc' => by
    rw [ze_L_law_936]
    exact law_tail hi hJ hc' hw
  have eN : ¬ (d ≤ S 5 (6 * a + b) 1 ∧ zcan S a b d) → zb_L_law_803 J273 [some (zr 23 0), some (zr 7 0), some (zi (nI n)), some (zi 2), some (zi x4), some (zi (nI i)), some (zi x6), some (zi x7), some (zi (nI p)), some (zi (nI a)), some (zi (nI b)), some (zi d), some (zi x12), some (zi 0), some (zi (zlkk S b ((S 6 a 1).toNatClampNeg + 1) (S 6 a 1).toNatClampNeg d 0 0 (-1)).2.2.1), some (zi (zlkk S b ((S 6 a 1).toNatClampNeg + 1) (S 6 a 1).toNatClampNeg d 0 0 (-1)).2.2.2), some (zi (S 5 (6 * a + b) 0)), some (zi (S 5 (6 * a + b) 1)), some (zi (S 5 (6 * a + b) 2)), some (zi (S 5 (6 * a + b) 3 - S 5 (6 * a + b) 4 - S 5 (6 * a + b) 0)), u20, u21] [zi 0] S K := fun hm => by
    rw [ze_L_law_803]
    refine zI5 rfl (t_claim2 hj (by omega) ha' hb hd hm) ?_
    rintro v T ⟨q1, q2⟩
    rw [ze_L_law_817]
    refine ⟨fun _ => ?_, fun hne => absurd rfl hne⟩
    rw [ze_L_law_866]
    refine ⟨fun _ => ⟨fun _ => ?_, fun hne => absurd rfl hne⟩, fun hne => absurd q1 hne⟩
    exact e936 c T _ _ (by rw [q2]; exact h) (by omega)
  have eY : (d ≤ S 5 (6 * a + b) 1 ∧ zcan S a b d) → zb_L_law_803 J273 [some (zr 23 0), some (zr 7 0), some (zi (nI n)), some (zi 2), some (zi x4), some (zi (nI i)), some (zi x6), some (zi x7), some (zi (nI p)), some (zi (nI a)), some (zi (nI b)), some (zi d), some (zi x12), some (zi 0), some (zi (zlkk S b ((S 6 a 1).toNatClampNeg + 1) (S 6 a 1).toNatClampNeg d 0 0 (-1)).2.2.1), some (zi (zlkk S b ((S 6 a 1).toNatClampNeg + 1) (S 6 a 1).toNatClampNeg d 0 0 (-1)).2.2.2), some (zi (S 5 (6 * a + b) 0)), some (zi (S 5 (6 * a + b) 1)), some (zi (S 5 (6 * a + b) 2)), some (zi (S 5 (6 * a + b) 3 - S 5 (6 * a + b) 4 - S 5 (6 * a + b) 0)), u20, u21] [zi 1] S K := fun hm => by
    rw [ze_L_law_803]
    refine zI5 rfl (t_claim1 hj (by omega) ha' hb hd hm) ?_
    rintro v T ⟨q1, q2, q3, q4, q5⟩
    have hw := h.eq q1 q2
    have haT : a < nS T := by rw [hw.2.2.2.1]; exact ha
    have e866 : ∀ y : Int32, v = y → zb_L_law_866 J273 [some (zr 23 0), some (zr 7 0), some (zi (nI n)), some (zi 2), some (zi x4), some (zi (nI i)), some (zi x6), some (zi x7), some (zi (nI p)), some (zi (nI a)), some (zi (nI b)), some (zi d), some (zi x12), some (zi 0), some (zi (zlkk S b ((S 6 a 1).toNatClampNeg + 1) (S 6 a 1).toNatClampNeg d 0 0 (-1)).2.2.1), some (zi (zlkk S b ((S 6 a 1).toNatClampNeg + 1) (S 6 a 1).toNatClampNeg d 0 0 (-1)).2.2.2), some (zi (S 5 (6 * a + b) 0)), some (zi (S 5 (6 * a + b) 1)), some (zi (S 5 (6 * a + b) 2)), some (zi (S 5 (6 * a + b) 3 - S 5 (6 * a + b) 4 - S 5 (6 * a + b) 0)), some (zi 1), some (zi v)] [zi y, zi v] T K := fun y hy => by
      rw [ze_L_law_866]
      refine ⟨fun _ => ⟨fun e => absurd e (by decide), fun _ => ?_⟩, fun hne => absurd hy hne⟩
      refine zQ3 rfl (q_sh0 q1 haT hb) ?_
      rw [ze_L_law_885]
      refine ⟨fun e => absurd e (by decide), fun _ => ?_⟩
      rw [ze_L_law_904]
      refine ⟨fun _ => ?_, fun hne => absurd q4 hne⟩
      refine zQ3 rfl (q_sh3 q1 haT hb) ?_
      rw [ze_L_law_916]
      refine ⟨fun e => absurd e (by decide), fun _ => ?_⟩
      rw [ze_L_law_930]
      exact ⟨fun _ => e936 (c + 1) T _ _ hw (by omega), fun hne => absurd (q5.trans (Int32.add_zero _).symm) hne⟩
    rw [ze_L_law_817]
    refine ⟨fun e => absurd e (by decide), fun _ => ?_⟩
    exact ⟨fun _ => e866 _ q3, fun hne => absurd rfl hne⟩
  refine zQ4 rfl (q_la1 hj ha' hb (zbt_99 hd)) ?_
  rw [ze_L_law_695]
  refine zQ4 rfl (q_la2 hj ha' hb (zbt_99 hd)) ?_
  rw [ze_L_law_708]
  refine zQ3 rfl (q_sh0 hj ha' hb) ?_
  rw [ze_L_law_719]
  refine zQ3 rfl (q_sh1 hj ha' hb) ?_
  rw [ze_L_law_730]
  refine zQ3 rfl (q_sh2 hj ha' hb) ?_
  rw [ze_L_law_741]
  refine zQ3 rfl (q_sh3 hj ha' hb) ?_
  rw [ze_L_law_752]
  have hcan := hj.can ha' hb d
  have e785 : zcan S a b d → zb_L_law_785 J273 [some (zr 23 0), some (zr 7 0), some (zi (nI n)), some (zi 2), some (zi x4), some (zi (nI i)), some (zi x6), some (zi x7), some (zi (nI p)), some (zi (nI a)), some (zi (nI b)), some (zi d), some (zi x12), some (zi 0), some (zi (zlkk S b ((S 6 a 1).toNatClampNeg + 1) (S 6 a 1).toNatClampNeg d 0 0 (-1)).2.2.1), some (zi (zlkk S b ((S 6 a 1).toNatClampNeg + 1) (S 6 a 1).toNatClampNeg d 0 0 (-1)).2.2.2), some (zi (S 5 (6 * a + b) 0)), some (zi (S 5 (6 * a + b) 1)), some (zi (S 5 (6 * a + b) 2)), some (zi (S 5 (6 * a + b) 3 - S 5 (6 * a + b) 4 - S 5 (6 * a + b) 0)), u20, u21] [] S K := fun hs => by
    rw [ze_L_law_785]
    refine ⟨fun e => absurd e (by decide), fun _ => ⟨fun hlt => ?_, fun hlt => ?_⟩⟩
    · rw [ze_L_law_802]
      exact eN (fun q => absurd q.1 (Int32.not_le.mpr hlt))
    · rw [ze_L_law_798]
      exact eY ⟨Int32.not_lt.mp hlt, hs⟩
  refine ⟨fun e => absurd e (by decide), fun _ => ⟨fun e1 => ⟨fun e2 => e785 (hcan.mpr (Or.inr e2)), fun e2 => ?_⟩, fun e1 => e785 (hcan.mpr (Or.inl e1))⟩⟩
  rw [ze_L_law_802]
  exact eN (fun q => (hcan.mp q.2).elim (fun k => k e1) e2)
set_option maxRecDepth 20000 in
set_option maxHeartbeats 4000000 in
theorem act_advance {J273 : ZP} {K : ZK} {n i c : Nat} {x4 : Int32} {S : ZS} (hi : i < 34) (hJ : ∀ L S, LJ n (i + 1) L S → J273 L [] S K) (hc : c ≤ 34 + 2 * i) (h : LW n x4 c S) {p a b : Nat} {d : Int32} (hp : p < n) (ha : a < 2) (hb : b < 6) (hd : zbt d 1 9999) {x6 x7 x12 : Int32} {u14 u15 u16 u17 u18 u19 u20 u21 : Option ZV} : z_invVq 7 4 sp_X7_lacks (zb_L_law_695 J273) [some (zr 23 0), some (zr 7 0), some (zi (nI n)), some (zi 2), some (zi x4), some (zi (nI i)), some (zi x6), some (zi x7), some (zi (nI p)), some (zi (nI a)), some (zi (nI b)), some (zi d), some (zi x12), some (zi 1), u14, u15, u16, u17, u18, u19, u20, u21] [zi 1, zi d, zi (nI b), zi (nI a), zr 7 0] S K := by
  obtain ⟨hj, h1, h2, h3, h4, h5⟩ := id h
  have hp' : p < nP S := by omega
  have ha' : a < nS S := by omega
  have e936 : ∀ (c' : Nat) (T' : ZS) (x20 x21 : Int32), LW n x4 c' T' → c' ≤ 36 + 2 * i → zb_L_law_936 J273 [some (zr 23 0), some (zr 7 0), some (zi (nI n)), some (zi 2), some (zi x4), some (zi (nI i)), some (zi x6), some (zi x7), some (zi (nI p)), some (zi (nI a)), some (zi (nI b)), some (zi d), some (zi x12), some (zi 1), some (zi (zlkk S b ((S 6 a 1).toNatClampNeg + 1) (S 6 a 1).toNatClampNeg d 0 0 (-1)).2.2.1), some (zi (zlkk S b ((S 6 a 1).toNatClampNeg + 1) (S 6 a 1).toNatClampNeg d 0 0 (-1)).2.2.2), some (zi (S 5 (6 * a + b) 0)), some (zi (S 5 (6 * a + b) 1)), some (zi (S 5 (6 * a + b) 2)), some (zi (S 5 (6 * a + b) 3 - S 5 (6 * a + b) 4 - S 5 (6 * a + b) 0)), some (zi x20), some (zi x21)] [] T' K := fun c' T' x20 x21 hw hc' => by
    rw [ze_L_law_936]
    exact law_tail hi hJ hc' hw
  have eN : ¬ zcan S a b d → zb_L_law_803 J273 [some (zr 23 0), some (zr 7 0), some (zi (nI n)), some (zi 2), some (zi x4), some (zi (nI i)), some (zi x6), some (zi x7), some (zi (nI p)), some (zi (nI a)), some (zi (nI b)), some (zi d), some (zi x12), some (zi 1), some (zi (zlkk S b ((S 6 a 1).toNatClampNeg + 1) (S 6 a 1).toNatClampNeg d 0 0 (-1)).2.2.1), some (zi (zlkk S b ((S 6 a 1).toNatClampNeg + 1) (S 6 a 1).toNatClampNeg d 0 0 (-1)).2.2.2), some (zi (S 5 (6 * a + b) 0)), some (zi (S 5 (6 * a + b) 1)), some (zi (S 5 (6 * a + b) 2)), some (zi (S 5 (6 * a + b) 3 - S 5 (6 * a + b) 4 - S 5 (6 * a + b) 0)), u20, u21] [zi 0] S K := fun hm => by
    rw [ze_L_law_803]
    refine zI5 rfl (t_advance2 hj (by omega) ha' hb hd hm) ?_
    rintro v T ⟨q1, q2⟩
    rw [ze_L_law_817]
    refine ⟨fun _ => ?_, fun hne => absurd rfl hne⟩
    rw [ze_L_law_866]
    refine ⟨fun _ => ⟨fun _ => ?_, fun hne => absurd rfl hne⟩, fun hne => absurd q1 hne⟩
    exact e936 c T _ _ (by rw [q2]; exact h) (by omega)
  have eY : zcan S a b d → zb_L_law_803 J273 [some (zr 23 0), some (zr 7 0), some (zi (nI n)), some (zi 2), some (zi x4), some (zi (nI i)), some (zi x6), some (zi x7), some (zi (nI p)), some (zi (nI a)), some (zi (nI b)), some (zi d), some (zi x12), some (zi 1), some (zi (zlkk S b ((S 6 a 1).toNatClampNeg + 1) (S 6 a 1).toNatClampNeg d 0 0 (-1)).2.2.1), some (zi (zlkk S b ((S 6 a 1).toNatClampNeg + 1) (S 6 a 1).toNatClampNeg d 0 0 (-1)).2.2.2), some (zi (S 5 (6 * a + b) 0)), some (zi (S 5 (6 * a + b) 1)), some (zi (S 5 (6 * a + b) 2)), some (zi (S 5 (6 * a + b) 3 - S 5 (6 * a + b) 4 - S 5 (6 * a + b) 0)), u20, u21] [zi 1] S K := fun hm => by
    rw [ze_L_law_803]
    refine zI5 rfl (t_advance1 hj (by omega) ha' hb hd hm) ?_
    rintro v T ⟨q1, q2, q3, q4, q5⟩
    have hw := h.eq q1 q2
    have haT : a < nS T := by rw [hw.2.2.2.1]; exact ha
    have e866 : ∀ y : Int32, v = y → zb_L_law_866 J273 [some (zr 23 0), some (zr 7 0), some (zi (nI n)), some (zi 2), some (zi x4), some (zi (nI i)), some (zi x6), some (zi x7), some (zi (nI p)), some (zi (nI a)), some (zi (nI b)), some (zi d), some (zi x12), some (zi 1), some (zi (zlkk S b ((S 6 a 1).toNatClampNeg + 1) (S 6 a 1).toNatClampNeg d 0 0 (-1)).2.2.1), some (zi (zlkk S b ((S 6 a 1).toNatClampNeg + 1) (S 6 a 1).toNatClampNeg d 0 0 (-1)).2.2.2), some (zi (S 5 (6 * a + b) 0)), some (zi (S 5 (6 * a + b) 1)), some (zi (S 5 (6 * a + b) 2)), some (zi (S 5 (6 * a + b) 3 - S 5 (6 * a + b) 4 - S 5 (6 * a + b) 0)), some (zi 1), some (zi v)] [zi y, zi v] T K := fun y hy => by
      rw [ze_L_law_866]
      refine ⟨fun _ => ⟨fun e => absurd e (by decide), fun _ => ?_⟩, fun hne => absurd hy hne⟩
      refine zQ3 rfl (q_sh0 q1 haT hb) ?_
      rw [ze_L_law_885]
      refine ⟨fun e => absurd e (by decide), fun _ => ?_⟩
      rw [ze_L_law_904]
      refine ⟨fun _ => ?_, fun hne => absurd q4 hne⟩
      refine zQ3 rfl (q_sh3 q1 haT hb) ?_
      rw [ze_L_law_916]
      refine ⟨fun e => absurd e (by decide), fun _ => ?_⟩
      rw [ze_L_law_930]
      exact ⟨fun _ => e936 (c + 1) T _ _ hw (by omega), fun hne => absurd (q5.trans (Int32.add_zero _).symm) hne⟩
    rw [ze_L_law_817]
    refine ⟨fun e => absurd e (by decide), fun _ => ?_⟩
    exact ⟨fun e => absurd e (by decide), fun _ => ⟨fun _ => e866 _ q3, fun hne => absurd rfl hne⟩⟩
  refine zQ4 rfl (q_la1 hj ha' hb (zbt_99 hd)) ?_
  rw [ze_L_law_695]
  refine zQ4 rfl (q_la2 hj ha' hb (zbt_99 hd)) ?_
  rw [ze_L_law_708]
  refine zQ3 rfl (q_sh0 hj ha' hb) ?_
  rw [ze_L_law_719]
  refine zQ3 rfl (q_sh1 hj ha' hb) ?_
  rw [ze_L_law_730]
  refine zQ3 rfl (q_sh2 hj ha' hb) ?_
  rw [ze_L_law_741]
  refine zQ3 rfl (q_sh3 hj ha' hb) ?_
  rw [ze_L_law_752]
  have hcan := hj.can ha' hb d
  have e785 : zcan S a b d → zb_L_law_785 J273 [some (zr 23 0), some (zr 7 0), some (zi (nI n)), some (zi 2), some (zi x4), some (zi (nI i)), some (zi x6), some (zi x7), some (zi (nI p)), some (zi (nI a)), some (zi (nI b)), some (zi d), some (zi x12), some (zi 1), some (zi (zlkk S b ((S 6 a 1).toNatClampNeg + 1) (S 6 a 1).toNatClampNeg d 0 0 (-1)).2.2.1), some (zi (zlkk S b ((S 6 a 1).toNatClampNeg + 1) (S 6 a 1).toNatClampNeg d 0 0 (-1)).2.2.2), some (zi (S 5 (6 * a + b) 0)), some (zi (S 5 (6 * a + b) 1)), some (zi (S 5 (6 * a + b) 2)), some (zi (S 5 (6 * a + b) 3 - S 5 (6 * a + b) 4 - S 5 (6 * a + b) 0)), u20, u21] [] S K := fun hs => by
    rw [ze_L_law_785]
    refine ⟨fun _ => ?_, fun hne => absurd rfl hne⟩
    rw [ze_L_law_798]
    exact eY hs
  refine ⟨fun e => absurd e (by decide), fun _ => ⟨fun e1 => ⟨fun e2 => e785 (hcan.mpr (Or.inr e2)), fun e2 => ?_⟩, fun e1 => e785 (hcan.mpr (Or.inl e1))⟩⟩
  rw [ze_L_law_802]
  exact eN (fun q => (hcan.mp q).elim (fun k => k e1) e2)
set_option maxRecDepth 20000 in
set_option maxHeartbeats 4000000 in
theorem act_steal {J273 : ZP} {K : ZK} {n i c : Nat} {x4 : Int32} {S : ZS} (hi : i < 34) (hJ : ∀ L S, LJ n (i + 1) L S → J273 L [] S K) (hc : c ≤ 34 + 2 * i) (h : LW n x4 c S) {p a b : Nat} {d : Int32} (hp : p < n) (ha : a < 2) (hb : b < 6) (hd : zbt d 1 9999) {x6 x7 x12 : Int32} {u14 u15 u16 u17 u18 u19 u20 u21 : Option ZV} : z_invVq 7 4 sp_X7_lacks (zb_L_law_695 J273) [some (zr 23 0), some (zr 7 0), some (zi (nI n)), some (zi 2), some (zi x4), some (zi (nI i)), some (zi x6), some (zi x7), some (zi (nI p)), some (zi (nI a)), some (zi (nI b)), some (zi d), some (zi x12), some (zi 2), u14, u15, u16, u17, u18, u19, u20, u21] [zi 1, zi d, zi (nI b), zi (nI a), zr 7 0] S K := by
  obtain ⟨hj, h1, h2, h3, h4, h5⟩ := id h
  have hp' : p < nP S := by omega
  have ha' : a < nS S := by omega
  have e936 : ∀ (c' : Nat) (T' : ZS) (x20 x21 : Int32), LW n x4 c' T' → c' ≤ 36 + 2 * i → zb_L_law_936 J273 [some (zr 23 0), some (zr 7 0), some (zi (nI n)), some (zi 2), some (zi x4), some (zi (nI i)), some (zi x6), some (zi x7), some (zi (nI p)), some (zi (nI a)), some (zi (nI b)), some (zi d), some (zi x12), some (zi 2), some (zi (zlkk S b ((S 6 a 1).toNatClampNeg + 1) (S 6 a 1).toNatClampNeg d 0 0 (-1)).2.2.1), some (zi (zlkk S b ((S 6 a 1).toNatClampNeg + 1) (S 6 a 1).toNatClampNeg d 0 0 (-1)).2.2.2), some (zi (S 5 (6 * a + b) 0)), some (zi (S 5 (6 * a + b) 1)), some (zi (S 5 (6 * a + b) 2)), some (zi (S 5 (6 * a + b) 3 - S 5 (6 * a + b) 4 - S 5 (6 * a + b) 0)), some (zi x20), some (zi x21)] [] T' K := fun c' T' x20 x21 hw hc' => by
    rw [ze_L_law_936]
    exact law_tail hi hJ hc' hw
  have eN : ¬ d ≤ S 5 (6 * a + b) 0 → zb_L_law_803 J273 [some (zr 23 0), some (zr 7 0), some (zi (nI n)), some (zi 2), some (zi x4), some (zi (nI i)), some (zi x6), some (zi x7), some (zi (nI p)), some (zi (nI a)), some (zi (nI b)), some (zi d), some (zi x12), some (zi 2), some (zi (zlkk S b ((S 6 a 1).toNatClampNeg + 1) (S 6 a 1).toNatClampNeg d 0 0 (-1)).2.2.1), some (zi (zlkk S b ((S 6 a 1).toNatClampNeg + 1) (S 6 a 1).toNatClampNeg d 0 0 (-1)).2.2.2), some (zi (S 5 (6 * a + b) 0)), some (zi (S 5 (6 * a + b) 1)), some (zi (S 5 (6 * a + b) 2)), some (zi (S 5 (6 * a + b) 3 - S 5 (6 * a + b) 4 - S 5 (6 * a + b) 0)), u20, u21] [zi 0] S K := fun hm => by
    rw [ze_L_law_803]
    refine zI5 rfl (t_steal2 hj (by omega) ha' hb hd hm) ?_
    rintro v T ⟨q1, q2⟩
    rw [ze_L_law_817]
    refine ⟨fun _ => ?_, fun hne => absurd rfl hne⟩
    rw [ze_L_law_866]
    refine ⟨fun _ => ⟨fun _ => ?_, fun hne => absurd rfl hne⟩, fun hne => absurd q1 hne⟩
    exact e936 c T _ _ (by rw [q2]; exact h) (by omega)
  have eY : d ≤ S 5 (6 * a + b) 0 → zb_L_law_803 J273 [some (zr 23 0), some (zr 7 0), some (zi (nI n)), some (zi 2), some (zi x4), some (zi (nI i)), some (zi x6), some (zi x7), some (zi (nI p)), some (zi (nI a)), some (zi (nI b)), some (zi d), some (zi x12), some (zi 2), some (zi (zlkk S b ((S 6 a 1).toNatClampNeg + 1) (S 6 a 1).toNatClampNeg d 0 0 (-1)).2.2.1), some (zi (zlkk S b ((S 6 a 1).toNatClampNeg + 1) (S 6 a 1).toNatClampNeg d 0 0 (-1)).2.2.2), some (zi (S 5 (6 * a + b) 0)), some (zi (S 5 (6 * a + b) 1)), some (zi (S 5 (6 * a + b) 2)), some (zi (S 5 (6 * a + b) 3 - S 5 (6 * a + b) 4 - S 5 (6 * a + b) 0)), u20, u21] [zi 1] S K := fun hm => by
    rw [ze_L_law_803]
    refine zI5 rfl (t_steal1 hj (by omega) ha' hb hd hm) ?_
    rintro v T ⟨q1, q2, q3, q4, q5⟩
    have hw := h.eq q1 q2
    have haT : a < nS T := by rw [hw.2.2.2.1]; exact ha
    have e866 : ∀ y : Int32, v = y → zb_L_law_866 J273 [some (zr 23 0), some (zr 7 0), some (zi (nI n)), some (zi 2), some (zi x4), some (zi (nI i)), some (zi x6), some (zi x7), some (zi (nI p)), some (zi (nI a)), some (zi (nI b)), some (zi d), some (zi x12), some (zi 2), some (zi (zlkk S b ((S 6 a 1).toNatClampNeg + 1) (S 6 a 1).toNatClampNeg d 0 0 (-1)).2.2.1), some (zi (zlkk S b ((S 6 a 1).toNatClampNeg + 1) (S 6 a 1).toNatClampNeg d 0 0 (-1)).2.2.2), some (zi (S 5 (6 * a + b) 0)), some (zi (S 5 (6 * a + b) 1)), some (zi (S 5 (6 * a + b) 2)), some (zi (S 5 (6 * a + b) 3 - S 5 (6 * a + b) 4 - S 5 (6 * a + b) 0)), some (zi 1), some (zi v)] [zi y, zi v] T K := fun y hy => by
      rw [ze_L_law_866]
      refine ⟨fun _ => ⟨fun e => absurd e (by decide), fun _ => ?_⟩, fun hne => absurd hy hne⟩
      refine zQ3 rfl (q_sh0 q1 haT hb) ?_
      rw [ze_L_law_885]
      refine ⟨fun _ => ?_, fun hne => absurd rfl hne⟩
      rw [ze_L_law_904]
      refine ⟨fun _ => ?_, fun hne => absurd q4 hne⟩
      refine zQ3 rfl (q_sh3 q1 haT hb) ?_
      rw [ze_L_law_916]
      refine ⟨fun _ => ?_, fun hne => absurd rfl hne⟩
      rw [ze_L_law_930]
      exact ⟨fun _ => e936 (c + 1) T _ _ hw (by omega), fun hne => absurd q5 hne⟩
    rw [ze_L_law_817]
    refine ⟨fun e => absurd e (by decide), fun _ => ?_⟩
    refine ⟨fun e => absurd e (by decide), fun _ => ⟨fun e => absurd e (by decide), fun _ => ?_⟩⟩
    refine zQ2 rfl (q_go5 hb) ?_
    exact e866 _ q3
  refine zQ4 rfl (q_la1 hj ha' hb (zbt_99 hd)) ?_
  rw [ze_L_law_695]
  refine zQ4 rfl (q_la2 hj ha' hb (zbt_99 hd)) ?_
  rw [ze_L_law_708]
  refine zQ3 rfl (q_sh0 hj ha' hb) ?_
  rw [ze_L_law_719]
  refine zQ3 rfl (q_sh1 hj ha' hb) ?_
  rw [ze_L_law_730]
  refine zQ3 rfl (q_sh2 hj ha' hb) ?_
  rw [ze_L_law_741]
  refine zQ3 rfl (q_sh3 hj ha' hb) ?_
  rw [ze_L_law_752]
  exact ⟨fun _ => ⟨fun hlt => eN (Int32.not_le.mpr hlt), fun hlt => eY (Int32.not_lt.mp hlt)⟩, fun hne => absurd rfl hne⟩
