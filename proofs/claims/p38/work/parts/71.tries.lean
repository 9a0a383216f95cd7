/-! THE TRIES: an answer, or a number for what was thrown -/
theorem zcHr {Q : Int32 → ZS → Prop} {hs : Nat → Option Int32} {L : List (Option ZV)} {v : Int32} {S : ZS} (h : Q v S) : zcontH (z_ret 1) L [] (zR Q) hs (.inl (some (.inl v))) S := ⟨v, rfl, h⟩
theorem zcHx {Q : Int32 → ZS → Prop} {hs : Nat → Option Int32} {L : List (Option ZV)} {m : Nat} {v : Int32} {S : ZS} (e : hs m = some v) (h : Q v S) : zcontH (z_ret 1) L [] (zR Q) hs (.inr m) S := by
  show (match hs m with
    | some v => zR Q (.inl (some (.inl v))) S
    | none => False)
  rw [e]
  exact ⟨v, rfl, h⟩
set_option maxRecDepth 20000 in
set_option maxHeartbeats 4000000 in
theorem t_buy0 {c : Nat} {S : ZS} (h : J c S) (hc : c ≤ 500) {p a b : Nat} {d : Int32} (hp : p < nP S) (ha : a < nS S) (hb : b < 6) (hd : zbt d 1 9999) (sort : S 2 b 0 = 1) (hh : ¬ d - d / 100 * 100 = 0) : sp_L_tryBuy [zr 7 0, zi (nI p), zi (nI a), zi (nI b), zi d] S (zR (fun v S' => v = -100 ∧ S' = S)) := by
  refine ⟨Nat.le_of_ble_eq_true rfl, ?_⟩
  show sp_X7_buy [zr 7 0, zi (nI p), zi (nI a), zi (nI b), zi d] S (zcontH (z_ret 1) [some (zr 7 0), some (zi (nI p)), some (zi (nI a)), some (zi (nI b)), some (zi d), none] [] (zR _) _)
  exact m_buy0 h hp ha hb hd sort hh (zcHx rfl ⟨rfl, rfl⟩)
set_option maxRecDepth 20000 in
set_option maxHeartbeats 4000000 in
theorem t_buy1R {c : Nat} {S : ZS} (h : J c S) (hc : c ≤ 500) {p a b : Nat} {d : Int32} (hp : p < nP S) (ha : a < nS S) (hb : b < 6) (hd : zbt d 1 9999) (sort : S 2 b 0 = 0) (hm : zmay S p a b d) : sp_L_tryBuy [zr 7 0, zi (nI p), zi (nI a), zi (nI b), zi d] S (zR (fun v S' => zbuy c S S' p a b d v)) := by
  refine ⟨Nat.le_of_ble_eq_true rfl, ?_⟩
  show sp_X7_buy [zr 7 0, zi (nI p), zi (nI a), zi (nI b), zi d] S (zcontH (z_ret 1) [some (zr 7 0), some (zi (nI p)), some (zi (nI a)), some (zi (nI b)), some (zi d), none] [] (zR _) _)
  exact m_buyR h hc hp ha hb hd sort (fun _ v S' hz => zcHr hz) (fun hn => absurd hm hn)
set_option maxRecDepth 20000 in
set_option maxHeartbeats 4000000 in
theorem t_buy2R {c : Nat} {S : ZS} (h : J c S) (hc : c ≤ 500) {p a b : Nat} {d : Int32} (hp : p < nP S) (ha : a < nS S) (hb : b < 6) (hd : zbt d 1 9999) (sort : S 2 b 0 = 0) (hm : ¬ zmay S p a b d) : sp_L_tryBuy [zr 7 0, zi (nI p), zi (nI a), zi (nI b), zi d] S (zR (fun v S' => v = -200 ∧ S' = S)) := by
  refine ⟨Nat.le_of_ble_eq_true rfl, ?_⟩
  show sp_X7_buy [zr 7 0, zi (nI p), zi (nI a), zi (nI b), zi d] S (zcontH (z_ret 1) [some (zr 7 0), some (zi (nI p)), some (zi (nI a)), some (zi (nI b)), some (zi d), none] [] (zR _) _)
  exact m_buyR h hc hp ha hb hd sort (fun hn => absurd hn hm) (fun _ => zcHx rfl ⟨rfl, rfl⟩)
set_option maxRecDepth 20000 in
set_option maxHeartbeats 4000000 in
theorem t_buy1P {c : Nat} {S : ZS} (h : J c S) (hc : c ≤ 500) {p a b : Nat} {d : Int32} (hp : p < nP S) (ha : a < nS S) (hb : b < 6) (hd : zbt d 1 9999) (sort : S 2 b 0 = 1) (hh : d - d / 100 * 100 = 0) (hm : zmay S p a b d) : sp_L_tryBuy [zr 7 0, zi (nI p), zi (nI a), zi (nI b), zi d] S (zR (fun v S' => zbuy c S S' p a b d v)) := by
  refine ⟨Nat.le_of_ble_eq_true rfl, ?_⟩
  show sp_X7_buy [zr 7 0, zi (nI p), zi (nI a), zi (nI b), zi d] S (zcontH (z_ret 1) [some (zr 7 0), some (zi (nI p)), some (zi (nI a)), some (zi (nI b)), some (zi d), none] [] (zR _) _)
  exact m_buyP h hc hp ha hb hd sort hh (fun _ v S' hz => zcHr hz) (fun hn => absurd hm hn)
set_option maxRecDepth 20000 in
set_option maxHeartbeats 4000000 in
theorem t_buy2P {c : Nat} {S : ZS} (h : J c S) (hc : c ≤ 500) {p a b : Nat} {d : Int32} (hp : p < nP S) (ha : a < nS S) (hb : b < 6) (hd : zbt d 1 9999) (sort : S 2 b 0 = 1) (hh : d - d / 100 * 100 = 0) (hm : ¬ zmay S p a b d) : sp_L_tryBuy [zr 7 0, zi (nI p), zi (nI a), zi (nI b), zi d] S (zR (fun v S' => v = -200 ∧ S' = S)) := by
  refine ⟨Nat.le_of_ble_eq_true rfl, ?_⟩
  show sp_X7_buy [zr 7 0, zi (nI p), zi (nI a), zi (nI b), zi d] S (zcontH (z_ret 1) [some (zr 7 0), some (zi (nI p)), some (zi (nI a)), some (zi (nI b)), some (zi d), none] [] (zR _) _)
  exact m_buyP h hc hp ha hb hd sort hh (fun hn => absurd hn hm) (fun _ => zcHx rfl ⟨rfl, rfl⟩)
set_option maxRecDepth 20000 in
set_option maxHeartbeats 4000000 in
theorem t_buy1F {c : Nat} {S : ZS} (h : J c S) (hc : c ≤ 500) {p a b : Nat} {d : Int32} (hp : p < nP S) (ha : a < nS S) (hb : b < 6) (hd : zbt d 1 9999) (sort : S 2 b 0 = 2) (hm : zmay S p a b d) : sp_L_tryBuy [zr 7 0, zi (nI p), zi (nI a), zi (nI b), zi d] S (zR (fun v S' => zbuy c S S' p a b d v)) := by
  refine ⟨Nat.le_of_ble_eq_true rfl, ?_⟩
  show sp_X7_buy [zr 7 0, zi (nI p), zi (nI a), zi (nI b), zi d] S (zcontH (z_ret 1) [some (zr 7 0), some (zi (nI p)), some (zi (nI a)), some (zi (nI b)), some (zi d), none] [] (zR _) _)
  exact m_buyF h hc hp ha hb hd sort (fun _ v S' hz => zcHr hz) (fun hn => absurd hm hn)
set_option maxRecDepth 20000 in
set_option maxHeartbeats 4000000 in
theorem t_buy2F {c : Nat} {S : ZS} (h : J c S) (hc : c ≤ 500) {p a b : Nat} {d : Int32} (hp : p < nP S) (ha : a < nS S) (hb : b < 6) (hd : zbt d 1 9999) (sort : S 2 b 0 = 2) (hm : ¬ zmay S p a b d) : sp_L_tryBuy [zr 7 0, zi (nI p), zi (nI a), zi (nI b), zi d] S (zR (fun v S' => v = -200 ∧ S' = S)) := by
  refine ⟨Nat.le_of_ble_eq_true rfl, ?_⟩
  show sp_X7_buy [zr 7 0, zi (nI p), zi (nI a), zi (nI b), zi d] S (zcontH (z_ret 1) [some (zr 7 0), some (zi (nI p)), some (zi (nI a)), some (zi (nI b)), some (zi d), none] [] (zR _) _)
  exact m_buyF h hc hp ha hb hd sort (fun hn => absurd hn hm) (fun _ => zcHx rfl ⟨rfl, rfl⟩)
theorem zbt_99 {d : Int32} (h : zbt d 1 9999) : zbt d 1 99999 := ⟨h.1, Int32.le_trans h.2 (by decide)⟩
set_option maxRecDepth 20000 in
set_option maxHeartbeats 4000000 in
theorem t_claim1 {c : Nat} {S : ZS} (h : J c S) (hc : c ≤ 500) {a b : Nat} {d : Int32} (ha : a < nS S) (hb : b < 6) (hd : zbt d 1 9999) (hm : d ≤ S 5 (6 * a + b) 1 ∧ zcan S a b d) : sp_L_tryShop [zr 7 0, zi 0, zi (nI a), zi (nI b), zi d] S (zR (fun v S' => J (c + 1) S' ∧ zEq S S' ∧ v = S 5 (6 * a + b) 0 + d ∧ S' 5 (6 * a + b) 0 = S 5 (6 * a + b) 0 + d ∧ zmi S' (6 * a + b) = zmi S (6 * a + b))) := by
  refine ⟨Nat.le_of_ble_eq_true rfl, ?_⟩
  refine ⟨fun _ => ?_, fun hne => absurd rfl hne⟩
  show sp_X7_claim [zr 7 0, zi (nI a), zi (nI b), zi d] S (zcontH (z_ret 1) [some (zr 7 0), some (zi 0), some (zi (nI a)), some (zi (nI b)), some (zi d), none] [] (zR _) _)
  exact m_claim h hc ha hb (zbt_99 hd) (fun _ _ v S' hz => zcHr hz) (fun hn => absurd hm hn)
set_option maxRecDepth 20000 in
set_option maxHeartbeats 4000000 in
theorem t_claim2 {c : Nat} {S : ZS} (h : J c S) (hc : c ≤ 500) {a b : Nat} {d : Int32} (ha : a < nS S) (hb : b < 6) (hd : zbt d 1 9999) (hm : ¬ (d ≤ S 5 (6 * a + b) 1 ∧ zcan S a b d)) : sp_L_tryShop [zr 7 0, zi 0, zi (nI a), zi (nI b), zi d] S (zR (fun v S' => v = -200 ∧ S' = S)) := by
  refine ⟨Nat.le_of_ble_eq_true rfl, ?_⟩
  refine ⟨fun _ => ?_, fun hne => absurd rfl hne⟩
  show sp_X7_claim [zr 7 0, zi (nI a), zi (nI b), zi d] S (zcontH (z_ret 1) [some (zr 7 0), some (zi 0), some (zi (nI a)), some (zi (nI b)), some (zi d), none] [] (zR _) _)
  exact m_claim h hc ha hb (zbt_99 hd) (fun h1 h2 => absurd ⟨h1, h2⟩ hm) (fun _ => zcHx rfl ⟨rfl, rfl⟩)
set_option maxRecDepth 20000 in
set_option maxHeartbeats 4000000 in
theorem t_advance1 {c : Nat} {S : ZS} (h : J c S) (hc : c ≤ 500) {a b : Nat} {d : Int32} (ha : a < nS S) (hb : b < 6) (hd : zbt d 1 9999) (hm : zcan S a b d) : sp_L_tryShop [zr 7 0, zi 1, zi (nI a), zi (nI b), zi d] S (zR (fun v S' => J (c + 1) S' ∧ zEq S S' ∧ v = S 5 (6 * a + b) 2 + d ∧ S' 5 (6 * a + b) 0 = S 5 (6 * a + b) 0 + d ∧ zmi S' (6 * a + b) = zmi S (6 * a + b))) := by
  refine ⟨Nat.le_of_ble_eq_true rfl, ?_⟩
  refine ⟨fun e => absurd e (by decide), fun _ => ⟨fun _ => ?_, fun hne => absurd rfl hne⟩⟩
  show sp_X7_advance [zr 7 0, zi (nI a), zi (nI b), zi d] S (zcontH (z_ret 1) [some (zr 7 0), some (zi 1), some (zi (nI a)), some (zi (nI b)), some (zi d), none] [] (zR _) _)
  exact m_advance h hc ha hb (zbt_99 hd) (fun _ v S' hz => zcHr hz) (fun hn => absurd hm hn)
set_option maxRecDepth 20000 in
set_option maxHeartbeats 4000000 in
theorem t_advance2 {c : Nat} {S : ZS} (h : J c S) (hc : c ≤ 500) {a b : Nat} {d : Int32} (ha : a < nS S) (hb : b < 6) (hd : zbt d 1 9999) (hm : ¬ (zcan S a b d)) : sp_L_tryShop [zr 7 0, zi 1, zi (nI a), zi (nI b), zi d] S (zR (fun v S' => v = -200 ∧ S' = S)) := by
  refine ⟨Nat.le_of_ble_eq_true rfl, ?_⟩
  refine ⟨fun e => absurd e (by decide), fun _ => ⟨fun _ => ?_, fun hne => absurd rfl hne⟩⟩
  show sp_X7_advance [zr 7 0, zi (nI a), zi (nI b), zi d] S (zcontH (z_ret 1) [some (zr 7 0), some (zi 1), some (zi (nI a)), some (zi (nI b)), some (zi d), none] [] (zR _) _)
  exact m_advance h hc ha hb (zbt_99 hd) (fun hn => absurd hn hm) (fun _ => zcHx rfl ⟨rfl, rfl⟩)
set_option maxRecDepth 20000 in
set_option maxHeartbeats 4000000 in
theorem t_steal1 {c : Nat} {S : ZS} (h : J c S) (hc : c ≤ 500) {a b : Nat} {d : Int32} (ha : a < nS S) (hb : b < 6) (hd : zbt d 1 9999) (hm : d ≤ S 5 (6 * a + b) 0) : sp_L_tryShop [zr 7 0, zi 2, zi (nI a), zi (nI b), zi d] S (zR (fun v S' => J (c + 1) S' ∧ zEq S S' ∧ v = S' 2 b 4 ∧ S' 5 (6 * a + b) 0 = S 5 (6 * a + b) 0 - d ∧ zmi S' (6 * a + b) = zmi S (6 * a + b) + d)) := by
  refine ⟨Nat.le_of_ble_eq_true rfl, ?_⟩
  refine ⟨fun e => absurd e (by decide), fun _ => ⟨fun e => absurd e (by decide), fun _ => ?_⟩⟩
  show sp_X7_steal [zr 7 0, zi (nI a), zi (nI b), zi d] S (zcontH (z_ret 1) [some (zr 7 0), some (zi 2), some (zi (nI a)), some (zi (nI b)), some (zi d), none] [] (zR _) _)
  exact m_steal h hc ha hb hd (fun _ v S' hz => zcHr hz) (fun hn => absurd hm hn)
set_option maxRecDepth 20000 in
set_option maxHeartbeats 4000000 in
theorem t_steal2 {c : Nat} {S : ZS} (h : J c S) (hc : c ≤ 500) {a b : Nat} {d : Int32} (ha : a < nS S) (hb : b < 6) (hd : zbt d 1 9999) (hm : ¬ (d ≤ S 5 (6 * a + b) 0)) : sp_L_tryShop [zr 7 0, zi 2, zi (nI a), zi (nI b), zi d] S (zR (fun v S' => v = -200 ∧ S' = S)) := by
  refine ⟨Nat.le_of_ble_eq_true rfl, ?_⟩
  refine ⟨fun e => absurd e (by decide), fun _ => ⟨fun e => absurd e (by decide), fun _ => ?_⟩⟩
  show sp_X7_steal [zr 7 0, zi (nI a), zi (nI b), zi d] S (zcontH (z_ret 1) [some (zr 7 0), some (zi 2), some (zi (nI a)), some (zi (nI b)), some (zi d), none] [] (zR _) _)
  exact m_steal h hc ha hb hd (fun hn => absurd hn hm) (fun _ => zcHx rfl ⟨rfl, rfl⟩)
set_option maxRecDepth 20000 in
set_option maxHeartbeats 4000000 in
theorem t_give0 {c : Nat} {S : ZS} (h : J c S) (hc : c ≤ 500) {p : Nat} {m : Int32} (hp : p < nP S) : sp_L_tryOne [zr 7 0, zi 0, zi (nI p), zi (nI p), zi m] S (zR (fun v S' => v = -100 ∧ S' = S)) := by
  refine ⟨Nat.le_of_ble_eq_true rfl, ?_⟩
  refine ⟨fun _ => ?_, fun hne => absurd rfl hne⟩
  show sp_X7_give [zr 7 0, zi (nI p), zi (nI p), zi m] S (zcontH (z_ret 1) [some (zr 7 0), some (zi 0), some (zi (nI p)), some (zi (nI p)), some (zi m), none] [] (zR _) _)
  exact m_give0 h hp (zcHx rfl ⟨rfl, rfl⟩)
set_option maxRecDepth 20000 in
set_option maxHeartbeats 4000000 in
theorem t_give {c : Nat} {S : ZS} (h : J c S) (hc : c ≤ 500) {p o : Nat} {m : Int32} (hp : p < nP S) (ho : o < nP S) (hne : ¬ p = o) (hm : zbt m 1 99) : sp_L_tryOne [zr 7 0, zi 0, zi (nI p), zi (nI o), zi m] S (zR (fun v S' => (v = -200 ∧ S' = S) ∨ (J (c + 1) S' ∧ zEq S S' ∧ m ≤ zpt S p ∧ zpt S' p = zpt S p - m ∧ zpt S o ≤ v ∧ v ≤ zpt S o + m))) := by
  refine ⟨Nat.le_of_ble_eq_true rfl, ?_⟩
  refine ⟨fun _ => ?_, fun hne => absurd rfl hne⟩
  show sp_X7_give [zr 7 0, zi (nI p), zi (nI o), zi m] S (zcontH (z_ret 1) [some (zr 7 0), some (zi 0), some (zi (nI p)), some (zi (nI o)), some (zi m), none] [] (zR _) _)
  exact m_give h hc hp ho hne hm (fun g v S' q => zcHr (Or.inr ⟨q.1, q.2.1, g, q.2.2⟩)) (zcHx rfl (Or.inl ⟨rfl, rfl⟩))
set_option maxRecDepth 20000 in
set_option maxHeartbeats 4000000 in
theorem t_book {c : Nat} {S : ZS} (h : J c S) (hc : c ≤ 500) {p : Nat} {x : Int32} (hp : p < nP S) : sp_L_tryOne [zr 7 0, zi 1, zi (nI p), zi x, zi 0] S (zR (fun v S' => (v = -200 ∧ S' = S) ∨ (J (c + 1) S' ∧ zEq S S' ∧ v = zpt S p ∧ zpt S' p = 0))) := by
  refine ⟨Nat.le_of_ble_eq_true rfl, ?_⟩
  refine ⟨fun e => absurd e (by decide), fun _ => ⟨fun _ => ?_, fun hne => absurd rfl hne⟩⟩
  show sp_X7_stealBook [zr 7 0, zi (nI p)] S (zcontH (z_ret 1) [some (zr 7 0), some (zi 1), some (zi (nI p)), some (zi x), some (zi 0), none] [] (zR _) _)
  exact m_stealBook h hp (fun v S' q => zcHr (Or.inr q)) (zcHx rfl (Or.inl ⟨rfl, rfl⟩))
set_option maxRecDepth 20000 in
set_option maxHeartbeats 4000000 in
theorem t_black {c : Nat} {S : ZS} (h : J c S) (hc : c ≤ 500) {p b : Nat} {d : Int32} (hp : p < nP S) (hb : b < 6) (hd : zbt d 1 9999) : sp_L_tryOne [zr 7 0, zi 2, zi (nI p), zi (nI b), zi d] S (zR (fun v S' => (v = -200 ∧ S' = S) ∨ (J (c + 1) S' ∧ zEk S S' v ∧ 0 ≤ v ∧ d / 2 ≤ v ∧ S' 2 b 4 = S 2 b 4 - d))) := by
  refine ⟨Nat.le_of_ble_eq_true rfl, ?_⟩
  refine ⟨fun e => absurd e (by decide), fun _ => ⟨fun e => absurd e (by decide), fun _ => ⟨fun _ => ?_, fun hne => absurd rfl hne⟩⟩⟩
  show sp_X7_black [zr 7 0, zi (nI p), zi (nI b), zi d] S (zcontH (z_ret 1) [some (zr 7 0), some (zi 2), some (zi (nI p)), some (zi (nI b)), some (zi d), none] [] (zR _) _)
  exact m_black h hc hp hb hd (fun v S' q => zcHr (Or.inr q)) (zcHx rfl (Or.inl ⟨rfl, rfl⟩))
set_option maxRecDepth 20000 in
set_option maxHeartbeats 4000000 in
theorem t_moves {c : Nat} {S : ZS} (h : J c S) (hc : c ≤ 500) {p a : Nat} (hp : p < nP S) (ha : a < nS S) : sp_L_tryOne [zr 7 0, zi 3, zi (nI p), zi (nI a), zi 0] S (zR (fun v S' => (v = -200 ∧ S' = S) ∨ (J (c + 1) S' ∧ zEq S S'))) := by
  refine ⟨Nat.le_of_ble_eq_true rfl, ?_⟩
  refine ⟨fun e => absurd e (by decide), fun _ => ⟨fun e => absurd e (by decide), fun _ => ⟨fun e => absurd e (by decide), fun _ => ?_⟩⟩⟩
  show sp_X7_moves [zr 7 0, zi (nI p), zi (nI a)] S (zcontH (z_ret 1) [some (zr 7 0), some (zi 3), some (zi (nI p)), some (zi (nI a)), some (zi 0), none] [] (zR _) _)
  exact m_moves h hp ha (fun v S' q => zcHr (Or.inr q)) (zcHx rfl (Or.inl ⟨rfl, rfl⟩))
