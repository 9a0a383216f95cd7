def zrow9 (S : ZS) (g : Nat) (G : Nat → Int32) : ZS := fun k i f => if k = 9 ∧ f = g then G i else S k i f
def zrow27 (S : ZS) (g : Nat) (G : Nat → Int32) : ZS := fun k r j => if k = 22 ∧ r = 27 ∧ j % 6 = g ∧ j < 36 then G (j / 6) else S k r j
def zg1 (G : Nat → Int32) (d : Nat) (v : Int32) : Nat → Int32 := fun i => if i = d then v else G i
/-- do they supply so many -/
def zspl (A G : Nat → Int32) : Nat → Nat → Int32 → Bool
  | 0, _, _ => false
  | k + 1, d, w => if G d < w then (if A d < 0 then false else zspl A G k (A d).toNatClampNeg (w - G d)) else true
/-- what the model says that they lack -/
def zlg (A G : Nat → Int32) : Nat → Nat → Int32 → Int32
  | 0, _, w => w
  | k + 1, d, w => if w ≤ 0 then w else if A d < 0 then w - zmn w (G d) else zlg A G k (A d).toNatClampNeg (w - zmn w (G d))
/-- the rows behind a supply -/
def zgv (A : Nat → Int32) : Nat → Nat → Int32 → (Nat → Int32) → Nat → Int32
  | 0, _, _, G => G
  | k + 1, d, w, G => if w ≤ 0 then G else if A d < 0 then zg1 G d (G d - zmn w (G d)) else zgv A k (A d).toNatClampNeg (w - zmn w (G d)) (zg1 G d (G d - zmn w (G d)))
def zgvm (A : Nat → Int32) : Nat → Nat → Int32 → (Nat → Int32) → Nat → Int32
  | 0, _, _, G => G
  | k + 1, d, w, G => if A d < 0 then zg1 G d (G d - zmn w (G d)) else zgvm A k (A d).toNatClampNeg (w - zmn w (G d)) (zg1 G d (G d - zmn w (G d)))
theorem zlg_spl {A G : Nat → Int32} {N : Nat} (hA : ∀ d, d < N → A d < 0 ∨ (A d).toNatClampNeg < N) (hG : ∀ i, i < N → 0 ≤ (G i).toInt) : ∀ (m d : Nat) (w : Int32), d < N → 0 < w.toInt → (zlg A G (m + 1) d w = 0 ↔ zspl A G (m + 1) d w = true) := by
  intro m
  induction m with
  | zero =>
    intro d w hd hw
    have h0 : ¬ w ≤ 0 := by
      rw [zle_iff, zti0]
      omega
    have hw2 : w.toInt < 2147483648 := Int32.toInt_lt w
    rw [zlg, zspl, if_neg h0]
    by_cases h1 : G d < w
    · have e1 : zmn w (G d) = G d := if_pos h1
      rw [e1, if_pos h1]
      rw [zlt_iff] at h1
      have h2 := hG d hd
      have e2 := zsub_i (a := w) (b := G d) (by omega) (by omega)
      have h3 : ¬ w - G d = 0 := fun e => by
        rw [e, zti0] at e2
        omega
      by_cases h4 : A d < 0
      · rw [if_pos h4, if_pos h4]
        simp [h3]
      · rw [if_neg h4, if_neg h4]
        simp [zlg, zspl, h3]
    · have e1 : zmn w (G d) = w := if_neg h1
      rw [e1, if_neg h1, Int32.sub_self]
      by_cases h4 : A d < 0
      · simp [h4]
      · simp [h4, zlg]
  | succ m ih =>
    intro d w hd hw
    have h0 : ¬ w ≤ 0 := by
      rw [zle_iff, zti0]
      omega
    have hw2 : w.toInt < 2147483648 := Int32.toInt_lt w
    rw [zlg, zspl, if_neg h0]
    by_cases h1 : G d < w
    · have e1 : zmn w (G d) = G d := if_pos h1
      rw [e1, if_pos h1]
      rw [zlt_iff] at h1
      have h2 := hG d hd
      have e2 := zsub_i (a := w) (b := G d) (by omega) (by omega)
      have h3 : ¬ w - G d = 0 := fun e => by
        rw [e, zti0] at e2
        omega
      by_cases h4 : A d < 0
      · rw [if_pos h4, if_pos h4]
        simp [h3]
      · rw [if_neg h4, if_neg h4]
        exact ih _ _ ((hA d hd).resolve_left h4) (by omega)
    · have e1 : zmn w (G d) = w := if_neg h1
      rw [e1, if_neg h1, Int32.sub_self]
      by_cases h4 : A d < 0
      · simp [h4]
      · simp [h4, zlg]
theorem zgv_eq {A : Nat → Int32} {N : Nat} (hA : ∀ d, d < N → A d < 0 ∨ (A d).toNatClampNeg < N) : ∀ (m d : Nat) (w : Int32) (G G' : Nat → Int32), d < N → 0 ≤ w.toInt → (∀ i, i < N → G i = G' i ∧ 0 ≤ (G i).toInt) → ∀ i, (i < N → zgvm A m d w G' i = zgv A m d w G i ∧ 0 ≤ (zgv A m d w G i).toInt ∧ (zgv A m d w G i).toInt ≤ (G i).toInt) ∧ (N ≤ i → zgvm A m d w G' i = G' i) := by
  intro m
  induction m with
  | zero =>
    intro d w G G' hd hw hG i
    exact ⟨fun hi => ⟨(hG i hi).1.symm, (hG i hi).2, Int.le_refl _⟩, fun _ => rfl⟩
  | succ m ih =>
    intro d w G G' hd hw hG i
    obtain ⟨g1, g2⟩ := hG d hd
    have hv : zmn w (G d) = zmn w (G' d) := by rw [g1]
    have hw2 : w.toInt < 2147483648 := Int32.toInt_lt w
    have hg2 : (G d).toInt < 2147483648 := Int32.toInt_lt _
    have hv1 : 0 ≤ (zmn w (G d)).toInt ∧ (zmn w (G d)).toInt ≤ w.toInt ∧ (zmn w (G d)).toInt ≤ (G d).toInt := by
      unfold zmn
      by_cases h1 : G d < w
      · rw [if_pos h1]
        rw [zlt_iff] at h1
        omega
      · rw [if_neg h1]
        rw [zlt_iff] at h1
        omega
    have e1 := zsub_i (a := w) (b := zmn w (G d)) (by omega) (by omega)
    have e2 := zsub_i (a := G d) (b := zmn w (G d)) (by omega) (by omega)
    have hz : ∀ i, i < N → zg1 G d (G d - zmn w (G d)) i = zg1 G' d (G' d - zmn w (G' d)) i ∧ 0 ≤ (zg1 G d (G d - zmn w (G d)) i).toInt ∧ (zg1 G d (G d - zmn w (G d)) i).toInt ≤ (G i).toInt := by
      intro i hi
      unfold zg1
      by_cases h : i = d
      · subst h
        simp only [if_true]
        exact ⟨by rw [g1], by omega, by omega⟩
      · rw [if_neg h, if_neg h]
        exact ⟨(hG i hi).1, (hG i hi).2, Int.le_refl _⟩
    have hz2 : ∀ i, N ≤ i → zg1 G' d (G' d - zmn w (G' d)) i = G' i := fun i hi => if_neg (by omega)
    by_cases hw0 : w ≤ 0
    · have hw00 : w = 0 := by
        rw [zle_iff, zti0] at hw0
        rw [zeq_iff, zti0]
        omega
      have hv0 : zmn w (G' d) = 0 := by
        rw [zeq_iff, zti0, ← hv]
        have hw1 : w.toInt = 0 := by
          rw [hw00]
          rfl
        omega
      have hs : zg1 G' d (G' d - zmn w (G' d)) = G' := by
        funext i
        unfold zg1
        rw [hv0, Int32.sub_zero]
        by_cases h : i = d
        · rw [if_pos h, h]
        · rw [if_neg h]
      have key : zgvm A (m + 1) d w G' = zgvm A (m + 1) d w G' := rfl
      have e3 : zgv A (m + 1) d w G = G := by
        rw [zgv, if_pos hw0]
      rw [e3, zgvm, hs, hv0, hw00, Int32.sub_zero]
      rcases hA d hd with h1 | h1
      · rw [if_pos h1]
        exact ⟨fun hi => ⟨(hG i hi).1.symm, (hG i hi).2, Int.le_refl _⟩, fun _ => rfl⟩
      · by_cases h2 : A d < 0
        · rw [if_pos h2]
          exact ⟨fun hi => ⟨(hG i hi).1.symm, (hG i hi).2, Int.le_refl _⟩, fun _ => rfl⟩
        · rw [if_neg h2]
          have := ih (A d).toNatClampNeg 0 G G' h1 (by decide) hG i
          have e4 : zgv A m (A d).toNatClampNeg 0 G = G := by
            rcases m with _ | m
            · rfl
            · rw [zgv, if_pos (by decide)]
          rw [e4] at this
          exact this
    · rw [zgv, zgvm, if_neg hw0]
      by_cases h2 : A d < 0
      · rw [if_pos h2, if_pos h2]
        exact ⟨fun hi => ⟨(hz i hi).1.symm, (hz i hi).2⟩, hz2 i⟩
      · rw [if_neg h2, if_neg h2, ← hv]
        have hx := (hA d hd).resolve_left h2
        have := ih (A d).toNatClampNeg (w - zmn w (G d)) (zg1 G d (G d - zmn w (G d))) (zg1 G' d (G' d - zmn w (G' d))) hx (by omega) (fun i hi => ⟨(hz i hi).1, (hz i hi).2.1⟩) i
        rw [← hv] at this
        refine ⟨fun hi => ?_, fun hi => ?_⟩
        · obtain ⟨t1, t2, t3⟩ := this.1 hi
          exact ⟨t1, t2, Int.le_trans t3 (hz i hi).2.2⟩
        · rw [this.2 hi, hv]
          exact hz2 i hi
