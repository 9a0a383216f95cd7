/-- what the rows are behind the month -/
theorem zT3_r (S : ZS) (r j : Nat) (h1 : ¬ r = 39) (h2 : ¬ r = 40) (h3 : ¬ r = 14) (h4 : ¬ r = 15) (h5 : ¬ r = 6) (h6 : ¬ r = 8) : zT3 S 22 r j = S 22 r j := by
  have e : zT3 S 22 r j = zmq (zT2 S) 6 (zgm (zS2 S) (zT2 S)) 22 r j := rfl
  have e2 : zmq (zT2 S) 6 (zgm (zS2 S) (zT2 S)) 22 r j = zT2 S 22 r j := by
    generalize zT2 S = T
    generalize zS2 S = S2
    unfold zmq
    split
    · unfold zgm
      rw [if_neg (fun h' => h6 h'.2), if_neg (fun h' => h5 h'.2.1)]
    · rfl
  exact e.trans (e2.trans (zT2_r S r j h1 h2 h3 h4))
theorem zrm_r (T : ZS) (n r j : Nat) (h7 : ¬ r = 12) (h8 : ¬ r = 16) (h9 : ¬ r = 17) (h10 : ¬ r = 18) : zmq T n (zrm T) 22 r j = T 22 r j := by
  unfold zmq
  split
  · unfold zrm
    rw [if_neg (fun h' => h7 h'.2), if_neg (fun h' => h'.2.elim h8 (fun h' => h'.elim h9 h10)), if_neg (fun h' => absurd h'.1 (by decide))]
  · rfl
theorem zT4_r (S : ZS) (r j : Nat) (h1 : ¬ r = 39) (h2 : ¬ r = 40) (h3 : ¬ r = 14) (h4 : ¬ r = 15) (h5 : ¬ r = 6) (h6 : ¬ r = 8) (h7 : ¬ r = 12) (h8 : ¬ r = 16) (h9 : ¬ r = 17) (h10 : ¬ r = 18) (h11 : ¬ r = 20) : zT4 S 22 r j = S 22 r j :=
  ((if_neg (fun h => h11 h.2)).trans (zrm_r (zT3 S) (nP S) r j h7 h8 h9 h10)).trans (zT3_r S r j h1 h2 h3 h4 h5 h6)
theorem zT4_26 (S : ZS) (j : Nat) : zT4 S 22 26 j = S 22 26 j := zT4_r S 26 j (by decide) (by decide) (by decide) (by decide) (by decide) (by decide) (by decide) (by decide) (by decide) (by decide) (by decide)
theorem zT4_27 (S : ZS) (j : Nat) : zT4 S 22 27 j = S 22 27 j := zT4_r S 27 j (by decide) (by decide) (by decide) (by decide) (by decide) (by decide) (by decide) (by decide) (by decide) (by decide) (by decide)
theorem inv_D {c : Nat} {S : ZS} (h : IDp c S) : IDp c (zT4 S) :=
  h.fr rfl (by funext i f; rfl) (by funext i f; rfl) (funext (zT4_26 S)) (funext (zT4_27 S))
theorem zT4_29 (S : ZS) (j : Nat) : zT4 S 22 29 j = S 22 29 j := zT4_r S 29 j (by decide) (by decide) (by decide) (by decide) (by decide) (by decide) (by decide) (by decide) (by decide) (by decide) (by decide)
theorem zT4_30 (S : ZS) (j : Nat) : zT4 S 22 30 j = S 22 30 j := zT4_r S 30 j (by decide) (by decide) (by decide) (by decide) (by decide) (by decide) (by decide) (by decide) (by decide) (by decide) (by decide)
theorem zT4_31 (S : ZS) (j : Nat) : zT4 S 22 31 j = S 22 31 j := zT4_r S 31 j (by decide) (by decide) (by decide) (by decide) (by decide) (by decide) (by decide) (by decide) (by decide) (by decide) (by decide)
theorem zT4_32 (S : ZS) (j : Nat) : zT4 S 22 32 j = S 22 32 j := zT4_r S 32 j (by decide) (by decide) (by decide) (by decide) (by decide) (by decide) (by decide) (by decide) (by decide) (by decide) (by decide)
theorem zT4_33 (S : ZS) (j : Nat) : zT4 S 22 33 j = S 22 33 j := zT4_r S 33 j (by decide) (by decide) (by decide) (by decide) (by decide) (by decide) (by decide) (by decide) (by decide) (by decide) (by decide)
theorem zT4_34 (S : ZS) (j : Nat) : zT4 S 22 34 j = S 22 34 j := zT4_r S 34 j (by decide) (by decide) (by decide) (by decide) (by decide) (by decide) (by decide) (by decide) (by decide) (by decide) (by decide)
theorem zT4_36 (S : ZS) (j : Nat) : zT4 S 22 36 j = S 22 36 j := zT4_r S 36 j (by decide) (by decide) (by decide) (by decide) (by decide) (by decide) (by decide) (by decide) (by decide) (by decide) (by decide)
theorem zT4_37 (S : ZS) (j : Nat) : zT4 S 22 37 j = S 22 37 j := zT4_r S 37 j (by decide) (by decide) (by decide) (by decide) (by decide) (by decide) (by decide) (by decide) (by decide) (by decide) (by decide)
theorem zT4_38 (S : ZS) (j : Nat) : zT4 S 22 38 j = S 22 38 j := zT4_r S 38 j (by decide) (by decide) (by decide) (by decide) (by decide) (by decide) (by decide) (by decide) (by decide) (by decide) (by decide)
theorem zT4_4 (S : ZS) (j : Nat) : zT4 S 22 4 j = S 22 4 j := zT4_r S 4 j (by decide) (by decide) (by decide) (by decide) (by decide) (by decide) (by decide) (by decide) (by decide) (by decide) (by decide)
theorem zT4_5 (S : ZS) (j : Nat) : zT4 S 22 5 j = S 22 5 j := zT4_r S 5 j (by decide) (by decide) (by decide) (by decide) (by decide) (by decide) (by decide) (by decide) (by decide) (by decide) (by decide)
theorem zT4_7 (S : ZS) (j : Nat) : zT4 S 22 7 j = S 22 7 j := zT4_r S 7 j (by decide) (by decide) (by decide) (by decide) (by decide) (by decide) (by decide) (by decide) (by decide) (by decide) (by decide)
theorem zT4_9 (S : ZS) (j : Nat) : zT4 S 22 9 j = S 22 9 j := zT4_r S 9 j (by decide) (by decide) (by decide) (by decide) (by decide) (by decide) (by decide) (by decide) (by decide) (by decide) (by decide)
theorem zT4_11 (S : ZS) (j : Nat) : zT4 S 22 11 j = S 22 11 j := zT4_r S 11 j (by decide) (by decide) (by decide) (by decide) (by decide) (by decide) (by decide) (by decide) (by decide) (by decide) (by decide)
theorem zT4_13 (S : ZS) (j : Nat) : zT4 S 22 13 j = S 22 13 j := zT4_r S 13 j (by decide) (by decide) (by decide) (by decide) (by decide) (by decide) (by decide) (by decide) (by decide) (by decide) (by decide)
theorem zT4_22 (S : ZS) (j : Nat) : zT4 S 22 22 j = S 22 22 j := zT4_r S 22 j (by decide) (by decide) (by decide) (by decide) (by decide) (by decide) (by decide) (by decide) (by decide) (by decide) (by decide)
theorem zT4_23 (S : ZS) (j : Nat) : zT4 S 22 23 j = S 22 23 j := zT4_r S 23 j (by decide) (by decide) (by decide) (by decide) (by decide) (by decide) (by decide) (by decide) (by decide) (by decide) (by decide)
theorem zT4_24 (S : ZS) (j : Nat) : zT4 S 22 24 j = S 22 24 j := zT4_r S 24 j (by decide) (by decide) (by decide) (by decide) (by decide) (by decide) (by decide) (by decide) (by decide) (by decide) (by decide)
theorem zT4_45 (S : ZS) (j : Nat) : zT4 S 22 45 j = S 22 45 j := zT4_r S 45 j (by decide) (by decide) (by decide) (by decide) (by decide) (by decide) (by decide) (by decide) (by decide) (by decide) (by decide)
theorem inv_H {c : Nat} {S : ZS} (h : IHp c S) : IHp c (zT4 S) :=
  h.fr rfl rfl (by funext i f; rfl) (by funext i f; rfl) (funext (zT4_29 S)) (funext (zT4_30 S)) (funext (zT4_31 S)) (funext (zT4_32 S)) (funext (zT4_33 S)) (funext (zT4_34 S))
theorem zrowk_8 (T : ZS) (G : Nat → Int32) (i f : Nat) : zrowk T 22 20 G 8 i f = T 8 i f := by simp [zrowk]
theorem zmq_8 (T : ZS) (n : Nat) (G : Nat → Nat → Nat → Int32) (i f : Nat) : zmq T n G 8 i f = T 8 i f := by simp [zmq]
theorem zT4_80 (S : ZS) (f : Nat) : zT4 S 8 0 f = zT3 S 8 0 f := by rw [zT4, zrowk_8, zmq_8]
theorem zT3_80 (S : ZS) (f : Nat) (h0 : ¬ f = 0) (h3 : ¬ f = 3) (h21 : ¬ f = 21) (h46 : ¬ f = 46) : zT3 S 8 0 f = S 8 0 f := by
  rw [zT3]
  simp [zup_r, h0, h3, h21]
  rw [zmq_8, zT2, zmq_8, zT1, zmq_8, zT0]
  simp [zup_r, h46]
  exact zmo_8 S f
theorem inv_S {S : ZS} (h : ISc S) (hl : S 7 0 13 < 240) : ISc (zT4 S) := by
  obtain ⟨⟨p1, p2, p3⟩, ⟨d1, d2, d3⟩, ⟨r1, r2, r3⟩, ⟨f1, f2, f3⟩, b1, b2, b3, b4, b5, b6, b7, b8, b9, b10⟩ := h
  have e0 : zT4 S 8 0 0 = S 8 0 0 + 1 := by
    rw [zT4_80, zT3]
    simp [zup_r]
  have e3 : zT4 S 8 0 3 = 0 := by
    rw [zT4_80, zT3]
    simp [zup_r]
  have e240 : (240 : Int32).toInt = 240 := by decide
  rw [zlt_iff, e240] at hl
  have hm : zrg (S 7 0 13 + 1) 240 := by
    have e1 : (1 : Int32).toInt = 1 := by decide
    obtain ⟨m1, m2⟩ := b5
    have := zadd_i (a := S 7 0 13) (b := 1) (by omega) (by omega)
    exact ⟨by omega, by omega⟩
  exact ⟨⟨p1, p2, ((zT4_80 S 10).trans (zT3_80 S 10 (by decide) (by decide) (by decide) (by decide))).trans p3⟩, ⟨d1, d2, ((zT4_80 S 25).trans (zT3_80 S 25 (by decide) (by decide) (by decide) (by decide))).trans d3⟩, ⟨r1, r2, ((zT4_80 S 28).trans (zT3_80 S 28 (by decide) (by decide) (by decide) (by decide))).trans r3⟩, ⟨f1, f2, ((zT4_80 S 35).trans (zT3_80 S 35 (by decide) (by decide) (by decide) (by decide))).trans f3⟩, ((zT4_80 S 1).trans (zT3_80 S 1 (by decide) (by decide) (by decide) (by decide))).trans b1, ((zT4_80 S 2).trans (zT3_80 S 2 (by decide) (by decide) (by decide) (by decide))).trans b2, b3, e0.trans (congrArg (· + 1) b4), hm, e3, ((zT4_80 S 41).trans (zT3_80 S 41 (by decide) (by decide) (by decide) (by decide))).trans b7, ((zT4_80 S 42).trans (zT3_80 S 42 (by decide) (by decide) (by decide) (by decide))).trans b8, ((zT4_80 S 43).trans (zT3_80 S 43 (by decide) (by decide) (by decide) (by decide))).trans b9, ((zT4_80 S 44).trans (zT3_80 S 44 (by decide) (by decide) (by decide) (by decide))).trans b10⟩
theorem zss_none {S : ZS} {m p g : Int32} : ∀ {n : Nat}, (∀ i, i < n → ¬ S 11 0 i = m) → zss S m p g n = 0
  | 0, _ => rfl
  | n + 1, h => by
    rw [zss, zss_none (fun i hi => h i (by omega)), if_neg (fun h' => h n (by omega) h'.1)]
    rfl
theorem inv_L {c : Nat} {S : ZS} (h : ILp c S) (hr : zrg (S 7 0 13) 240) (hl : S 7 0 13 < 240) : ILp c (zT4 S) := by
  obtain ⟨n, m, l1, l2, l3, l4, l5, l6, l7⟩ := h
  have e21 : zT4 S 8 0 21 = nI 0 := by
    rw [zT4_80, zT3]
    simp [zup_r]
    rfl
  have e1 : (1 : Int32).toInt = 1 := by decide
  obtain ⟨m1, m2⟩ := hr
  have ha := zadd_i (a := S 7 0 13) (b := 1) (by omega) (by omega)
  have e13 : zT4 S 7 0 13 = S 7 0 13 + 1 := rfl
  have e11 : ∀ i, zT4 S 11 0 i = S 11 0 i := fun i => rfl
  refine ⟨n, 0, l1, Nat.zero_le _, l3, e21, fun i hi => ?_, fun p g => ?_, fun i hi => absurd hi (Nat.not_lt_zero i)⟩
  · rw [e11, e13, zle_iff]
    have := zle_iff.mp (l5 i hi)
    omega
  · refine zss_none (fun i hi e => ?_)
    rw [e11, e13, zeq_iff] at e
    have := zle_iff.mp (l5 i hi)
    omega
theorem zgm_r (S2 T : ZS) (r j : Nat) (h5 : ¬ r = 6) (h6 : ¬ r = 8) : zmq T 6 (zgm S2 T) 22 r j = T 22 r j := by
  unfold zmq
  split
  · unfold zgm
    rw [if_neg (fun h' => h6 h'.2), if_neg (fun h' => h5 h'.2.1)]
  · rfl
theorem zT4_1 (S : ZS) (r j : Nat) (h3 : ¬ r = 14) (h4 : ¬ r = 15) (h5 : ¬ r = 6) (h6 : ¬ r = 8) (h7 : ¬ r = 12) (h8 : ¬ r = 16) (h9 : ¬ r = 17) (h10 : ¬ r = 18) (h11 : ¬ r = 20) : zT4 S 22 r j = zT1 S 22 r j := by
  have e3 : zT3 S 22 r j = zmq (zT2 S) 6 (zgm (zS2 S) (zT2 S)) 22 r j := rfl
  exact ((if_neg (fun h => h11 h.2)).trans (zrm_r (zT3 S) (nP S) r j h7 h8 h9 h10)).trans (e3.trans ((zgm_r (zS2 S) (zT2 S) r j h5 h6).trans (zpm_r _ _ _ _ _ h3 h4)))
theorem inv_F {S : ZS} (h : IFp S) (hn : nF S ≤ 6) : IFp (zT4 S) := by
  intro f hf
  have e39 : zT4 S 22 39 f = if f < nF S then 0 else S 22 39 f := by
    rw [zT4_1 S 39 f (by decide) (by decide) (by decide) (by decide) (by decide) (by decide) (by decide) (by decide) (by decide), zT1]
    by_cases hh : f < nF S
    · simp [zmq, hh, zffm]
    · rw [if_neg hh]
      exact if_neg (fun h' => hh h'.2)
  have e40 : zT4 S 22 40 f = if f < nF S then (if S 22 39 f < S 22 38 f then S 22 40 f + 1 else S 22 40 f) else S 22 40 f := by
    rw [zT4_1 S 40 f (by decide) (by decide) (by decide) (by decide) (by decide) (by decide) (by decide) (by decide) (by decide), zT1]
    by_cases hh : f < nF S
    · simp [zmq, hh, zffm]
      rfl
    · rw [if_neg hh]
      exact if_neg (fun h' => hh h'.2)
  refine ⟨fun hh => ?_, fun hh => ?_⟩
  · have hh' : f < nF S := hh
    obtain ⟨k1, k2, k3, k4, k5⟩ := (h f hf).1 hh'
    have e1 : ∀ x, zT4 S 1 f x = zff S f x := fun x => if_pos ⟨rfl, hh'⟩
    rw [e39, e40, if_pos hh', if_pos hh', zT4_36, zT4_37, zT4_38, e1, e1, e1, e1, e1]
    simp only [zff]
    refine ⟨k1, k2, k3, rfl, ?_⟩
    rw [k3, k4, k5]
    rfl
  · have hh' : nF S ≤ f := hh
    rw [e39, e40, if_neg (by omega), if_neg (by omega)]
    exact (h f hf).2 hh'
theorem zT4_3 (S : ZS) (r j : Nat) (h7 : ¬ r = 12) (h8 : ¬ r = 16) (h9 : ¬ r = 17) (h10 : ¬ r = 18) (h11 : ¬ r = 20) : zT4 S 22 r j = zmq (zT2 S) 6 (zgm (zS2 S) (zT2 S)) 22 r j := by
  have e3 : zT3 S 22 r j = zmq (zT2 S) 6 (zgm (zS2 S) (zT2 S)) 22 r j := rfl
  exact ((if_neg (fun h => h11 h.2)).trans (zrm_r (zT3 S) (nP S) r j h7 h8 h9 h10)).trans e3
theorem zamt_bt {c : Nat} {S : ZS} (hc : c < 512) (h : Inv c S) {g : Nat} (hg : g < 6) (h1 : S 2 g 0 = 1) : zbt (zamt S (zll S g) g) 1 24 := by
  have hb : zbt (S 2 g 1) 1 24 := by
    rcases (h.2.1 g hg).1.2 with k | k | k
    · rw [h1] at k
      exact absurd k.1 (by decide)
    · exact k.2.2
    · rw [h1] at k
      exact absurd k.1 (by decide)
  have hn := h.1.H.2.1
  have hl : zrg (zll S g) (99999 * c * 6) := by
    refine (zsu_rg (b := 99999 * c) hn (by omega) (fun i hi => ?_)).mono (Nat.mul_le_mul_left _ hn)
    exact ((h.2.2.2.2.1.2 (6 * i + g) (by omega)).1 (by omega)).1.2
  have hs := (h.2.1 g hg).2.2.1.2
  by_cases h0 : 0 < S 2 g 3 + zll S g
  · rw [zamt, if_pos h0]
    obtain ⟨t, ht⟩ := zten_rg hs hl (by omega) (by omega) h0
    obtain ⟨j, hj⟩ := zfin (by decide) h.1.2.2.2.2.2.2.1
    obtain ⟨w1, w2⟩ := zbt_i (lo := 1) (hi := 24) (by decide) (by decide) hb
    obtain ⟨a, ha⟩ := zfin (n := 24) (x := S 2 g 1) (by decide) ⟨by omega, w2⟩
    rw [ht, hj, ha]
    exact zprc_bt t j a
  · rw [zamt, if_neg h0]
    exact hb
theorem inv_G {c : Nat} {S : ZS} (hc : c < 512) (h : Inv c S) : IGd c (zT4 S) := by
  intro g hg
  obtain ⟨⟨k1, k2⟩, ⟨k3, k4⟩, ⟨k5, k6⟩, k7⟩ := h.2.1 g hg
  have eX : ∀ f, zmp (zS2 S) 2 6 (zgp (zS2 S)) 2 g f = if f = 1 ∧ S 2 g 0 = 1 then zamt S (zll S g) g else S 2 g f := fun f => if_pos ⟨rfl, hg⟩
  have e2 : ∀ f, zT4 S 2 g f = if f = 3 then 0 else if f = 1 ∧ S 2 g 0 = 1 then zamt S (zll S g) g else S 2 g f := fun f => by
    rw [← eX f]
    exact if_pos ⟨rfl, hg⟩
  have e6 : zT4 S 22 6 g = if S 2 g 0 = 1 then zamt S (zll S g) g else S 22 6 g := by
    rw [zT4_3 S 6 g (by decide) (by decide) (by decide) (by decide) (by decide), ← zT2_r S 6 g (by decide) (by decide) (by decide) (by decide)]
    by_cases h1 : S 2 g 0 = 1
    · rw [if_pos h1]
      have h1' : zS2 S 2 g 0 = 1 := h1
      simp [zmq, zgm, hg, h1']
      rfl
    · rw [if_neg h1]
      have h1' : ¬ zS2 S 2 g 0 = 1 := h1
      simp [zmq, zgm, hg, h1']
  have e8 : zT4 S 22 8 g = 0 := by
    rw [zT4_3 S 8 g (by decide) (by decide) (by decide) (by decide) (by decide)]
    simp [zmq, zgm, hg]
  rw [zT4_4, zT4_5, e6, zT4_7, e8, zT4_9, e2, e2, e2, e2, e2]
  simp only [show ¬ (0 = 3) by decide, show ¬ (1 = 3) by decide, show ¬ (2 = 3) by decide, show ¬ (4 = 3) by decide, show ¬ (0 = 1) by decide, show ¬ (2 = 1) by decide, show ¬ (4 = 1) by decide, if_true, if_false, true_and, false_and]
  refine ⟨⟨k1, ?_⟩, ⟨k3, k4⟩, ⟨by decide, by rw [zti0]; omega⟩, k7⟩
  rcases k2 with k | k | k
  · have h1 : ¬ S 2 g 0 = 1 := fun e => by
      rw [e] at k
      exact absurd k.1 (by decide)
    rw [if_neg h1]
    exact Or.inl k
  · rw [if_pos k.1, if_pos k.1]
    exact Or.inr (Or.inl ⟨k.1, rfl, zamt_bt hc h hg k.1⟩)
  · have h1 : ¬ S 2 g 0 = 1 := fun e => by
      rw [e] at k
      exact absurd k.1 (by decide)
    rw [if_neg h1]
    exact Or.inr (Or.inr k)
theorem zhe_rg {S : ZS} {p : Nat} (hh : zrg (S 3 p 4) 100) (h0 : 0 < S 3 p 4) : zrg (zhe S p) 100 := by
  obtain ⟨h1, h2⟩ := hh
  rw [zlt_iff, zti0] at h0
  have e3 : (3 : Int32).toInt = 3 := by decide
  have e100 : (100 : Int32).toInt = 100 := by decide
  unfold zhe
  split
  · have := zadd_i (a := S 3 p 4) (b := 3) (by omega) (by omega)
    split
    · rename_i x
      rw [zlt_iff] at x
      exact ⟨by omega, by omega⟩
    · exact ⟨by rw [e100]; omega, by rw [e100]; omega⟩
  · have h4 : (if 2 * S 3 p 9 < 400 * zq (S 3 p 1) then (20 : Int32) else 5).toInt = 20 ∨ (if 2 * S 3 p 9 < 400 * zq (S 3 p 1) then (20 : Int32) else 5).toInt = 5 := by
      split
      · exact Or.inl (by decide)
      · exact Or.inr (by decide)
    generalize (if 2 * S 3 p 9 < 400 * zq (S 3 p 1) then (20 : Int32) else 5) = v at h4
    have := zsub_i (a := S 3 p 4) (b := v) (by omega) (by omega)
    unfold zm0
    split
    · exact ⟨by decide, by decide⟩
    · rename_i x
      rw [zlt_iff, zti0] at x
      exact ⟨by omega, by omega⟩
theorem inv_P {c : Nat} {S : ZS} (h : IPp c S) (hn : nP S ≤ 20) (hnS : nS S ≤ 6) : IPp c (zT4 S) := by
  intro p hp
  have r20 : ∀ g, g < 6 → zT4 S 22 20 (6 * p + g) = 0 := fun g hg => by
    have : zT4 S 22 20 (6 * p + g) = if 6 * p + g < 120 then 0 else zmq (zT3 S) (nP S) (zrm (zT3 S)) 22 20 (6 * p + g) := by
      rw [zT4]
      exact if_pos ⟨rfl, rfl⟩
    rw [this, if_pos (by omega)]
  have rr : ∀ r, ¬ r = 20 → zT4 S 22 r p = zmq (zT3 S) (nP S) (zrm (zT3 S)) 22 r p := fun r hr => by
    rw [zT4]
    exact if_neg (fun h => hr h.2)
  have r23 : zT4 S 23 19 p = zmq (zT3 S) (nP S) (zrm (zT3 S)) 23 19 p := by
    rw [zT4]
    exact if_neg (fun h => absurd h.1 (by decide))
  refine ⟨fun hh => ?_, fun hh => ?_⟩
  · have hh' : p < nP S := hh
    obtain ⟨k1, k2, k3, k4, k5, k6, k7, k8, k9, k10, k11⟩ := (h p hp).1 hh'
    have eX : ∀ f, zS2 S 3 p f = zpp (zS1 S) p f := fun f => if_pos ⟨rfl, hh'⟩
    have e3 : ∀ f, zT4 S 3 p f = if f = 2 then nI (zS2 S 3 p 3).toNatClampNeg else if f = 6 ∨ f = 7 ∨ f = 8 ∨ f = 9 then 0 else zS2 S 3 p f := fun f => if_pos ⟨rfl, hh'⟩
    have e10 : ∀ g, g < 6 → zT4 S 10 p g = 0 := fun g hg => by
      have : zT4 S 10 p g = zmo S 10 p g := rfl
      rw [this, zmo]
      simp [zbk, hh', hg]
    have e33 : zS2 S 3 p 3 = S 3 p 3 := by
      rw [eX]
      unfold zpp
      split
      · rw [if_neg (by decide), if_neg (by decide)]
        rfl
      · rfl
    have d : ∀ r, zmq (zT3 S) (nP S) (zrm (zT3 S)) 22 r p = zrm (zT3 S) 22 r p := fun r => if_pos ⟨Or.inl rfl, hh'⟩
    have d23 : zmq (zT3 S) (nP S) (zrm (zT3 S)) 23 19 p = 0 := by
      simp [zmq, hh', zrm]
    have r12 : zT4 S 22 12 p = S 22 13 p := by
      rw [rr 12 (by decide), d]
      have : zrm (zT3 S) 22 12 p = zT3 S 22 13 p := by simp [zrm]
      rw [this]
      exact zT3_r S 13 p (by decide) (by decide) (by decide) (by decide) (by decide) (by decide)
    have rz : ∀ r, r = 16 ∨ r = 17 ∨ r = 18 → zT4 S 22 r p = 0 := fun r hr => by
      rw [rr r (by omega), d]
      rcases hr with rfl | rfl | rfl <;> simp [zrm]
    have r14 : zT4 S 22 14 p = zS2 S 3 p 4 := by
      rw [zT4_3 S 14 p (by decide) (by decide) (by decide) (by decide) (by decide), zgm_r _ _ _ _ (by decide) (by decide), eX, zT2]
      by_cases h0 : 0 < S 3 p 4
      · have h0' : 0 < zS1 S 3 p 4 := h0
        simp [zmq, hh', zpm, zpp, h0']
      · have h0' : ¬ 0 < zS1 S 3 p 4 := h0
        simp [zmq, hh', zpm, zpp, h0']
        rw [zT1_r S 14 p (by decide) (by decide)]
        exact k4.1
    have r15 : zT4 S 22 15 p = zS2 S 3 p 5 := by
      rw [zT4_3 S 15 p (by decide) (by decide) (by decide) (by decide) (by decide), zgm_r _ _ _ _ (by decide) (by decide), eX, zT2]
      by_cases h0 : 0 < S 3 p 4
      · have h0' : 0 < zS1 S 3 p 4 := h0
        simp [zmq, hh', zpm, zpp, h0']
      · have h0' : ¬ 0 < zS1 S 3 p 4 := h0
        simp [zmq, hh', zpm, zpp, h0']
        rw [zT1_r S 15 p (by decide) (by decide)]
        exact k5
    have e31 : ∀ f, ¬ f = 4 → ¬ f = 5 → zS2 S 3 p f = S 3 p f := fun f h4 h5 => by
      rw [eX]
      unfold zpp
      by_cases h0 : 0 < zS1 S 3 p 4
      · rw [if_pos h0, if_neg h4, if_neg h5]
        rfl
      · rw [if_neg h0]
        rfl
    have rg4 : zrg (zS2 S 3 p 4) 100 := by
      rw [eX]
      unfold zpp
      split
      · rename_i h0
        rw [if_pos rfl]
        exact zhe_rg k4.2 h0
      · exact k4.2
    have u := vp_clamp (by omega) k3.2
    have hz : zrg (0 : Int32) (90000 * c) := ⟨by decide, by rw [zti0]; omega⟩
    unfold IPd
    rw [zT4_11, r12, zT4_13, r14, r15, r23, d23, rz 16 (by decide), rz 17 (by decide), rz 18 (by decide)]
    simp only [e3]
    simp [e31, ← u.2.1, rg4, hz]
    refine ⟨k1, k3, k10, fun g hg => ?_⟩
    rw [r20 g hg, e10 g hg]
  · have hh' : nP S ≤ p := hh
    obtain ⟨k1, k2, k3, k4, k5⟩ := (h p hp).2 hh'
    have d : ∀ k r, zmq (zT3 S) (nP S) (zrm (zT3 S)) k r p = zT3 S k r p := fun k r => if_neg (fun h => absurd h.2 (by omega))
    refine ⟨?_, ?_, ?_, ?_, r20⟩
    · rw [rr 16 (by decide), d, zT3_r S 16 p (by decide) (by decide) (by decide) (by decide) (by decide) (by decide)]
      exact k1
    · rw [rr 17 (by decide), d, zT3_r S 17 p (by decide) (by decide) (by decide) (by decide) (by decide) (by decide)]
      exact k2
    · rw [rr 18 (by decide), d, zT3_r S 18 p (by decide) (by decide) (by decide) (by decide) (by decide) (by decide)]
      exact k3
    · rw [r23, d]
      have a1 : zT3 S 23 19 p = zmq (zT2 S) 6 (zgm (zS2 S) (zT2 S)) 23 19 p := rfl
      have a2 : zmq (zT2 S) 6 (zgm (zS2 S) (zT2 S)) 23 19 p = zT2 S 23 19 p := by
        unfold zmq
        split
        · simp [zgm]
        · rfl
      have a3 : zT2 S 23 19 p = zT1 S 23 19 p := if_neg (fun h => absurd h.2 (by omega))
      rw [a1, a2, a3, zT1_23]
      exact k4
theorem inv_month {c : Nat} {S : ZS} (hc : c < 512) (h : Inv c S) (hl : S 7 0 13 < 240) : Inv (c + 1) (zT4 S) := by
  have : Inv c (zT4 S) := ⟨inv_S h.1 hl, inv_G hc h, inv_P h.2.2.1 h.1.P.2.1 h.1.H.2.1, inv_D h.2.2.2.1, inv_H h.2.2.2.2.1, inv_F h.2.2.2.2.2.1 h.1.F.2.1, inv_L h.2.2.2.2.2.2.1 h.1.2.2.2.2.2.2.2.2.1 hl, (zT4_45 S 0).trans h.2.2.2.2.2.2.2⟩
  exact this.up
set_option maxRecDepth 20000 in
set_option maxHeartbeats 4000000 in
theorem lc_month {c : Nat} {S : ZS} (hc : c < 512) (h : Inv c S) : sp_L_month [zr 7 0, zr 24 0] S (LPm sp_X8_month [zr 8 0] c) := by
  have e0 : S 8 0 0 = S 7 0 13 := h.1.2.2.2.2.2.2.2.1
  by_cases hl : S 7 0 13 < 240
  · simp [zb_L_month_0, sp_L_month, zsp, zin, znth, ztake, zset, zcont, zcontH, zf_0_0, zf_0_2, zf_1_0, zf_1_1, zf_1_2, zf_1_3, zf_1_4, zf_2_0, zf_2_1, zf_2_2, zf_2_3, zf_2_4, zf_3_0, zf_3_1, zf_3_2, zf_3_3, zf_3_4, zf_3_5, zf_3_6, zf_3_7, zf_3_8, zf_3_9, zf_3_10, zf_4_0, zf_4_1, zf_4_2, zf_4_3, zf_4_4, zf_5_0, zf_5_1, zf_5_2, zf_5_3, zf_5_4, zf_5_5, zf_6_0, zf_6_1, zf_6_2, zf_7_0, zf_7_1, zf_7_2, zf_7_3, zf_7_4, zf_7_5, zf_7_6, zf_7_7, zf_7_8, zf_7_9, zf_7_10, zf_7_11, zf_7_12, zf_7_13, zf_7_14, zf_7_15, zf_7_16, zf_7_17, zf_7_18, zf_8_0, zf_8_1, zf_8_2, zf_8_3, zf_8_4, zf_8_5, zf_8_6, zf_8_7, zf_8_8, zf_8_9, zf_8_10, zf_8_11, zf_8_12, zf_8_13, zf_8_14, zf_8_15, zf_8_16, zf_8_17, zf_8_18, zf_8_19, zf_8_20, zf_8_21, zf_8_22, zf_8_23, zf_8_24, zf_8_25, zf_8_26, zf_8_27, zf_8_28, zf_8_29, zf_8_30, zf_8_31, zf_8_32, zf_8_33, zf_8_34, zf_8_35, zf_8_36, zf_8_37, zf_8_38, zf_8_39, zf_8_40, zf_8_41, zf_8_42, zf_8_43, zf_8_44, zf_8_45, zf_8_46, zln_9, zln_10, zln_15, zln_16, zln_17, zln_18, zln_19, zln_20, zln_21, zln_23, zln_24, zln_11, zln_12, zln_13, zln_14, zln_22_4, zln_22_5, zln_22_6, zln_22_7, zln_22_8, zln_22_9, zln_22_11, zln_22_12, zln_22_13, zln_22_14, zln_22_15, zln_22_16, zln_22_17, zln_22_18, zln_22_20, zln_22_22, zln_22_23, zln_22_24, zln_22_26, zln_22_27, zln_22_29, zln_22_30, zln_22_31, zln_22_32, zln_22_33, zln_22_34, zln_22_36, zln_22_37, zln_22_38, zln_22_39, zln_22_40, zln_22_45, zchild, zcnt, zc1b, zble, zbeq, z_push, z_ild, z_ald, z_ist, z_ast, z_inc, z_bin, z_dvn, z_un, z_dup, z_dup2, z_pop, z_if, z_cmp, z_ifnull, z_pnull, z_acn, z_gf, z_gfn, z_pf, z_pfz, z_pfr, z_iald, z_iast, z_bald, z_bast, z_aald, z_alen, z_ret, z_invV, z_invS, z_invH, z_lastI, z_throw, z_sw, zup_r]
    refine p_X7_month hc h hl ?_
    simp [zsp, zin, znth, ztake, zset, zcont, zcontH, zf_0_0, zf_0_2, zf_1_0, zf_1_1, zf_1_2, zf_1_3, zf_1_4, zf_2_0, zf_2_1, zf_2_2, zf_2_3, zf_2_4, zf_3_0, zf_3_1, zf_3_2, zf_3_3, zf_3_4, zf_3_5, zf_3_6, zf_3_7, zf_3_8, zf_3_9, zf_3_10, zf_4_0, zf_4_1, zf_4_2, zf_4_3, zf_4_4, zf_5_0, zf_5_1, zf_5_2, zf_5_3, zf_5_4, zf_5_5, zf_6_0, zf_6_1, zf_6_2, zf_7_0, zf_7_1, zf_7_2, zf_7_3, zf_7_4, zf_7_5, zf_7_6, zf_7_7, zf_7_8, zf_7_9, zf_7_10, zf_7_11, zf_7_12, zf_7_13, zf_7_14, zf_7_15, zf_7_16, zf_7_17, zf_7_18, zf_8_0, zf_8_1, zf_8_2, zf_8_3, zf_8_4, zf_8_5, zf_8_6, zf_8_7, zf_8_8, zf_8_9, zf_8_10, zf_8_11, zf_8_12, zf_8_13, zf_8_14, zf_8_15, zf_8_16, zf_8_17, zf_8_18, zf_8_19, zf_8_20, zf_8_21, zf_8_22, zf_8_23, zf_8_24, zf_8_25, zf_8_26, zf_8_27, zf_8_28, zf_8_29, zf_8_30, zf_8_31, zf_8_32, zf_8_33, zf_8_34, zf_8_35, zf_8_36, zf_8_37, zf_8_38, zf_8_39, zf_8_40, zf_8_41, zf_8_42, zf_8_43, zf_8_44, zf_8_45, zf_8_46, zln_9, zln_10, zln_15, zln_16, zln_17, zln_18, zln_19, zln_20, zln_21, zln_23, zln_24, zln_11, zln_12, zln_13, zln_14, zln_22_4, zln_22_5, zln_22_6, zln_22_7, zln_22_8, zln_22_9, zln_22_11, zln_22_12, zln_22_13, zln_22_14, zln_22_15, zln_22_16, zln_22_17, zln_22_18, zln_22_20, zln_22_22, zln_22_23, zln_22_24, zln_22_26, zln_22_27, zln_22_29, zln_22_30, zln_22_31, zln_22_32, zln_22_33, zln_22_34, zln_22_36, zln_22_37, zln_22_38, zln_22_39, zln_22_40, zln_22_45, zchild, zcnt, zc1b, zble, zbeq, z_push, z_ild, z_ald, z_ist, z_ast, z_inc, z_bin, z_dvn, z_un, z_dup, z_dup2, z_pop, z_if, z_cmp, z_ifnull, z_pnull, z_acn, z_gf, z_gfn, z_pf, z_pfz, z_pfr, z_iald, z_iast, z_bald, z_bast, z_aald, z_alen, z_ret, z_invV, z_invS, z_invH, z_lastI, z_throw, z_sw, zup_r, LPm_i, sp_X8_month, zb_X8_month_0, zb_X8_month_16, p_X7_knownGood, p_X7_requireRange, p_X7_requireRoom, p_X7_requireEnough, p_X7_requireAlive, p_X7_requireBook, p_X3_isDead, p_X3_isWithoutBook, p_X7_pointsLeft, p_X7_changeGood, p_X8_isGood, p_X8_isOne, p_X8_isShop, p_X8_isDepot, p_X8_in, p_X8_fails, p_X8_lesser, LPm_i, vp01, zup2, zmo_8, e0, hl, Int32.not_le.mpr hl]
    refine p_X8_month hc h ?_
    exact LQm_i.mpr ⟨rfl, fun _ => by
      rw [e0]
      rfl, inv_month hc h hl⟩
  · simp [zb_L_month_0, sp_L_month, sp_X7_month, zb_X7_month_0, sp_X8_month, zb_X8_month_0, zb_X8_month_16, zsp, zin, znth, ztake, zset, zcont, zcontH, zf_0_0, zf_0_2, zf_1_0, zf_1_1, zf_1_2, zf_1_3, zf_1_4, zf_2_0, zf_2_1, zf_2_2, zf_2_3, zf_2_4, zf_3_0, zf_3_1, zf_3_2, zf_3_3, zf_3_4, zf_3_5, zf_3_6, zf_3_7, zf_3_8, zf_3_9, zf_3_10, zf_4_0, zf_4_1, zf_4_2, zf_4_3, zf_4_4, zf_5_0, zf_5_1, zf_5_2, zf_5_3, zf_5_4, zf_5_5, zf_6_0, zf_6_1, zf_6_2, zf_7_0, zf_7_1, zf_7_2, zf_7_3, zf_7_4, zf_7_5, zf_7_6, zf_7_7, zf_7_8, zf_7_9, zf_7_10, zf_7_11, zf_7_12, zf_7_13, zf_7_14, zf_7_15, zf_7_16, zf_7_17, zf_7_18, zf_8_0, zf_8_1, zf_8_2, zf_8_3, zf_8_4, zf_8_5, zf_8_6, zf_8_7, zf_8_8, zf_8_9, zf_8_10, zf_8_11, zf_8_12, zf_8_13, zf_8_14, zf_8_15, zf_8_16, zf_8_17, zf_8_18, zf_8_19, zf_8_20, zf_8_21, zf_8_22, zf_8_23, zf_8_24, zf_8_25, zf_8_26, zf_8_27, zf_8_28, zf_8_29, zf_8_30, zf_8_31, zf_8_32, zf_8_33, zf_8_34, zf_8_35, zf_8_36, zf_8_37, zf_8_38, zf_8_39, zf_8_40, zf_8_41, zf_8_42, zf_8_43, zf_8_44, zf_8_45, zf_8_46, zln_9, zln_10, zln_15, zln_16, zln_17, zln_18, zln_19, zln_20, zln_21, zln_23, zln_24, zln_11, zln_12, zln_13, zln_14, zln_22_4, zln_22_5, zln_22_6, zln_22_7, zln_22_8, zln_22_9, zln_22_11, zln_22_12, zln_22_13, zln_22_14, zln_22_15, zln_22_16, zln_22_17, zln_22_18, zln_22_20, zln_22_22, zln_22_23, zln_22_24, zln_22_26, zln_22_27, zln_22_29, zln_22_30, zln_22_31, zln_22_32, zln_22_33, zln_22_34, zln_22_36, zln_22_37, zln_22_38, zln_22_39, zln_22_40, zln_22_45, zchild, zcnt, zc1b, zble, zbeq, z_push, z_ild, z_ald, z_ist, z_ast, z_inc, z_bin, z_dvn, z_un, z_dup, z_dup2, z_pop, z_if, z_cmp, z_ifnull, z_pnull, z_acn, z_gf, z_gfn, z_pf, z_pfz, z_pfr, z_iald, z_iast, z_bald, z_bast, z_aald, z_alen, z_ret, z_invV, z_invS, z_invH, z_lastI, z_throw, z_sw, zup_r, p_X7_knownGood, p_X7_requireRange, p_X7_requireRoom, p_X7_requireEnough, p_X7_requireAlive, p_X7_requireBook, p_X3_isDead, p_X3_isWithoutBook, p_X7_pointsLeft, p_X7_changeGood, p_X8_isGood, p_X8_isOne, p_X8_isShop, p_X8_isDepot, p_X8_in, p_X8_fails, p_X8_lesser, LPm_i, vp01, zup2, LPm_i, e0, hl, Int32.not_lt.mp hl, LQm_ref h]
