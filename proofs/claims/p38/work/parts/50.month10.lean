theorem zrm_r (T : ZS) (n r j : Nat) (h7 : ¬ r = 12) (h8 : ¬ r = 16) (h9 : ¬ r = 17) (h10 : ¬ r = 18) : zmq T n (zrm T) 22 r j = T 22 r j := by
  unfold zmq
  split
  · unfold zrm
    rw [if_neg (fun h' => h7 h'.2), if_neg (fun h' => h'.2.elim h8 (fun h' => h'.elim h9 h10)), if_neg (fun h' => absurd h'.1 (by decide))]
  · rfl
theorem zrowk_8 (T : ZS) (G : Nat → Int32) (i f : Nat) : zrowk T 22 20 G 8 i f = T 8 i f := by simp [zrowk]
theorem zmq_8 (T : ZS) (n : Nat) (G : Nat → Nat → Nat → Int32) (i f : Nat) : zmq T n G 8 i f = T 8 i f := by simp [zmq]
theorem zss_none {S : ZS} {m p g : Int32} : ∀ {n : Nat}, (∀ i, i < n → ¬ S 11 0 i = m) → zss S m p g n = 0
  | 0, _ => rfl
  | n + 1, h => by
    rw [zss, zss_none (fun i hi => h i (by omega)), if_neg (fun h' => h n (by omega) h'.1)]
    rfl
theorem zgm_r (S2 T : ZS) (r j : Nat) (h5 : ¬ r = 6) (h6 : ¬ r = 8) : zmq T 6 (zgm S2 T) 22 r j = T 22 r j := by
  unfold zmq
  split
  · unfold zgm
    rw [if_neg (fun h' => h6 h'.2), if_neg (fun h' => h5 h'.2.1)]
  · rfl
theorem zhe_rg {S : ZS} {p : Nat} (hh : zrg (S 3 p 4) 100) (h0 : 0 < S 3 p 4) : zrg (zhe S p) 100 := by
  obtain ⟨h1, h2⟩ := hh
  rw [zlt_iff, zti0] at h0
  have e3 : (3 : Int32).toInt = 3 := by decide
  have e100 : (100 : Int32).toInt = 100 := by decide
  unfold zhe
  split
  · have := zadd_i (a := S 3 p 4) (b := 3) (by omega) (by omega)
    split
    · rename_i x
      rw [zlt_iff] at x
      exact ⟨by omega, by omega⟩
    · exact ⟨by rw [e100]; omega, by rw [e100]; omega⟩
  · have h4 : (if 2 * S 3 p 9 < 400 * zq (S 3 p 1) then (20 : Int32) else 5).toInt = 20 ∨ (if 2 * S 3 p 9 < 400 * zq (S 3 p 1) then (20 : Int32) else 5).toInt = 5 := by
      split
      · exact Or.inl (by decide)
      · exact Or.inr (by decide)
    generalize (if 2 * S 3 p 9 < 400 * zq (S 3 p 1) then (20 : Int32) else 5) = v at h4
    have := zsub_i (a := S 3 p 4) (b := v) (by omega) (by omega)
    unfold zm0
    split
    · exact ⟨by decide, by decide⟩
    · rename_i x
      rw [zlt_iff, zti0] at x
      exact ⟨by omega, by omega⟩
