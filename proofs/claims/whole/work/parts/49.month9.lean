theorem zmo_8 (S : ZS) (f : Nat) : zmo S 8 0 f = S 8 0 f := rfl
def zT0 (S : ZS) : ZS := zup (zup (zmo S) 24 0 0 (S 7 0 13 + 1)) 8 0 46 0
def zT1 (S : ZS) : ZS := zmq (zT0 S) (nF S) (zffm (zT0 S))
def zS1 (S : ZS) : ZS := zmp S 1 (nF S) (zff S)
def zS2 (S : ZS) : ZS := zmp (zS1 S) 3 (nP S) (zpp (zS1 S))
def zT2 (S : ZS) : ZS := zmq (zT1 S) (nP S) (zpm (zS1 S) (zT1 S))
def zT3 (S : ZS) : ZS := zup (zup (zup (zmq (zT2 S) 6 (zgm (zS2 S) (zT2 S))) 8 0 0 (S 8 0 0 + 1)) 8 0 3 0) 8 0 21 0
def zT4 (S : ZS) : ZS := zrowk (zmq (zT3 S) (nP S) (zrm (zT3 S))) 22 20 (fun j => if j < 120 then 0 else zmq (zT3 S) (nP S) (zrm (zT3 S)) 22 20 j)
theorem zT1_r (S : ZS) (r j : Nat) (h1 : ¬ r = 39) (h2 : ¬ r = 40) : zT1 S 22 r j = S 22 r j := by
  show zmq (zT0 S) (nF S) (zffm (zT0 S)) 22 r j = S 22 r j
  unfold zmq zffm
  by_cases h : (22 = 22 ∨ 22 = 23) ∧ j < nF S
  · rw [if_pos h, if_neg (fun h' => h1 h'.2), if_neg (fun h' => h2 h'.2)]
    rfl
  · rw [if_neg h]
    rfl
theorem zT1_23 (S : ZS) (r j : Nat) : zT1 S 23 r j = S 23 r j := by
  show zmq (zT0 S) (nF S) (zffm (zT0 S)) 23 r j = S 23 r j
  unfold zmq zffm
  by_cases h : (23 = 22 ∨ 23 = 23) ∧ j < nF S
  · rw [if_pos h, if_neg (fun h' => absurd h'.1 (by decide)), if_neg (fun h' => absurd h'.1 (by decide))]
    rfl
  · rw [if_neg h]
    rfl
theorem zT2_r (S : ZS) (r j : Nat) (h1 : ¬ r = 39) (h2 : ¬ r = 40) (h3 : ¬ r = 14) (h4 : ¬ r = 15) : zT2 S 22 r j = S 22 r j := (zpm_r _ _ _ _ _ h3 h4).trans (zT1_r S r j h1 h2)
set_option maxRecDepth 20000 in
set_option maxHeartbeats 4000000 in
theorem p_X8_month {c : Nat} {S : ZS} {K : ZK} (hc : c < 512) (h : Inv c S) (hK : K (.inl (some (.inl (S 8 0 0 + 1)))) (zT4 S)) : z_loop (fun J27 => zb_X8_month_27 J27) [some (zr 8 0), some (zi 0)] [] (zT0 S) K := by
  obtain ⟨q1, q2, q3, q4, q5⟩ := h.1.P
  obtain ⟨r1, r2, r3, r4, r5⟩ := h.1.H
  obtain ⟨f1, f2, f3, f4, f5⟩ := h.1.F
  have hsold : ∀ g, g < 6 → zrg (S 2 g 3) (9999 * c) := fun g hg => (h.2.1 g hg).2.2.1.2
  have hlies : ∀ g, g < 6 → zrg (zll S g) (99999 * c * 6) := fun g hg => by
    refine (zsu_rg (b := 99999 * c) r2 (by omega) (fun i hi => ?_)).mono (Nat.mul_le_mul_left _ r2)
    exact ((h.2.2.2.2.1.2 (6 * i + g) (by omega)).1 (by omega)).1.2
  refine p_X8_farms (n := nF S) ?_ f2 ?_
  · exact f3.trans f1
  refine p_X8_people (S := zS1 S) (T := zT1 S) (c := c) (by omega) q2 r2 ?_ (fun p hp => ?_) (fun p hp => ?_) ?_
  · exact q3.trans q1
  · have hp' : p < nP S := hp
    obtain ⟨a1, a2, a3, a4, a5, a6, a7, a8, a9, a10, a11⟩ := (h.2.2.1 p (by omega)).1 hp'
    refine ⟨?_, ?_, ?_, ?_, ?_, fun g hg => ?_, fun g hg => ⟨?_, fun e => ?_⟩, fun j hj => ?_⟩
    · rw [zT1_r _ _ _ (by decide) (by decide)]
      exact a1.1
    · rw [zT1_r _ _ _ (by decide) (by decide)]
      exact a2.1
    · rw [zT1_r _ _ _ (by decide) (by decide)]
      exact a4.1
    · rw [zT1_23]
      exact a6.1
    · rw [zT1_r _ _ _ (by decide) (by decide)]
      exact a9.1
    · rw [zT1_r _ _ _ (by decide) (by decide)]
      exact a11 g hg
    · rw [zT1_r _ _ _ (by decide) (by decide)]
      exact (h.2.1 g hg).1.1
    · rw [zT1_r _ _ _ (by decide) (by decide)]
      have e' : S 2 g 0 = 0 := e
      rcases (h.2.1 g hg).1.2 with k | k | k
      · exact k.2
      · rw [e'] at k
        exact absurd k.1 (by decide)
      · rw [e'] at k
        exact absurd k.1 (by decide)
    · rw [zT1_r _ _ _ (by decide) (by decide)]
      have hj' : j < 6 * nS S := hj
      exact ((h.2.2.2.2.1.2 j (by omega)).1 hj').1.1
  · have hp' : p < nP S := hp
    obtain ⟨a1, a2, a3, a4, a5, a6, a7, a8, a9, a10, a11⟩ := (h.2.2.1 p (by omega)).1 hp'
    exact ⟨a2.2, a9.2, a4.2, a6.2⟩
  refine p_X8_goods (S := zS2 S) (T := zT2 S) (n := 9999 * c) (m := 99999 * c * 6) r2 ?_ ?_ ?_ (fun g hg => ?_) hsold hlies (by omega) (by omega) (fun g hg e => ?_) ?_
  · exact r3.trans r1
  · exact h.1.2.2.2.2.2.1
  · exact h.1.2.2.2.2.2.2.1
  · refine ⟨?_, fun e => ?_, ?_, fun s hs => ?_⟩
    · rw [zT2_r _ _ _ (by decide) (by decide) (by decide) (by decide)]
      exact (h.2.1 g hg).1.1
    · rw [zT2_r _ _ _ (by decide) (by decide) (by decide) (by decide)]
      have e' : S 2 g 0 = 1 := e
      rcases (h.2.1 g hg).1.2 with k | k | k
      · rw [e'] at k
        exact absurd k.1 (by decide)
      · exact k.2.1
      · rw [e'] at k
        exact absurd k.1 (by decide)
    · rw [zT2_r _ _ _ (by decide) (by decide) (by decide) (by decide)]
      exact (h.2.1 g hg).2.2.1.1
    · rw [zT2_r _ _ _ (by decide) (by decide) (by decide) (by decide)]
      have hs' : s < nS S := hs
      exact ((h.2.2.2.2.1.2 (6 * s + g) (by omega)).1 (by omega)).1.1
  · have e' : S 2 g 0 = 1 := e
    rcases (h.2.1 g hg).1.2 with k | k | k
    · rw [e'] at k
      exact absurd k.1 (by decide)
    · exact k.2.2
    · rw [e'] at k
      exact absurd k.1 (by decide)
  refine p_X8_reset (T := zT3 S) (n := nP S) ?_ q2 ?_
  · exact q3.trans q1
  · exact hK
