def zS0 (L : Nat) (xs : Nat → Int32) : ZS := fun k _ f => match k with
  | 7 => (match f with
    | 11 => 20
    | 12 => 2
    | _ => 0)
  | 23 => if f = 1000 then nI L else xs f
  | _ => 0
def zad0 (b q0 : Nat) (u0 : List Nat) : ZA := fun k i => match k with
  | 2 => u0.getD (11 + i) 0
  | 4 => u0.getD 5 0
  | 7 => q0
  | 11 => u0.getD 6 0
  | 12 => u0.getD 7 0
  | 13 => u0.getD 8 0
  | 14 => u0.getD 9 0
  | 15 => u0.getD 10 0
  | 16 => u0.getD 0 0
  | 17 => u0.getD 1 0
  | 18 => u0.getD 2 0
  | 19 => u0.getD 3 0
  | 20 => u0.getD 4 0
  | 23 => b
  | _ => 0
def zws (g : ZG) (q0 : Nat) (u0 : List Nat) : va_W := [(q0, .inr (7, [.ref (u0.getD 0 0), .ref (u0.getD 1 0), .ref (u0.getD 2 0), .ref (u0.getD 3 0), .ref (u0.getD 4 0), .ref (u0.getD 5 0), .ref (u0.getD 10 0), .int 0, .int 0, .int 0, .int 0, .int 20, .int 2, .int 0, .int 0, .int 0, .int 0, .int 0, .int 0])), ((u0.getD 0 0), .inl (g.2.1 4, (6, .inr (.inr (.inr (.inr (va_up (va_up (va_up (va_up (va_up (va_up (fun _ => none) 0 (some (u0.getD 11 0))) 1 (some (u0.getD 12 0))) 2 (some (u0.getD 13 0))) 3 (some (u0.getD 14 0))) 4 (some (u0.getD 15 0))) 5 (some (u0.getD 16 0))))))))), ((u0.getD 1 0), .inl (g.2.1 5, (20, .inr (.inr (.inr (.inr (fun _ => none))))))), ((u0.getD 2 0), .inl (g.2.1 2, (6, .inr (.inr (.inr (.inr (fun _ => none))))))), ((u0.getD 3 0), .inl (g.2.1 7, (6, .inr (.inr (.inr (.inr (fun _ => none))))))), ((u0.getD 4 0), .inl (g.2.1 3, (6, .inr (.inr (.inr (.inr (fun _ => none))))))), ((u0.getD 5 0), .inr (4, [.ref (u0.getD 6 0), .ref (u0.getD 7 0), .ref (u0.getD 8 0), .ref (u0.getD 9 0), .int 0])), ((u0.getD 6 0), .inl (g.2.1 0, (512, .inl (fun _ => 0)))), ((u0.getD 7 0), .inl (g.2.1 0, (512, .inl (fun _ => 0)))), ((u0.getD 8 0), .inl (g.2.1 0, (512, .inl (fun _ => 0)))), ((u0.getD 9 0), .inl (g.2.1 0, (512, .inl (fun _ => 0)))), ((u0.getD 10 0), .inl (g.2.1 0, (3001, .inl (fun _ => 0)))), ((u0.getD 11 0), .inr (2, [.int 0, .int 0, .int 0, .int 0, .int 0])), ((u0.getD 12 0), .inr (2, [.int 0, .int 0, .int 0, .int 0, .int 0])), ((u0.getD 13 0), .inr (2, [.int 0, .int 0, .int 0, .int 0, .int 0])), ((u0.getD 14 0), .inr (2, [.int 0, .int 0, .int 0, .int 0, .int 0])), ((u0.getD 15 0), .inr (2, [.int 0, .int 0, .int 0, .int 0, .int 0])), ((u0.getD 16 0), .inr (2, [.int 0, .int 0, .int 0, .int 0, .int 0]))]
def zids : List (Nat × Nat) := [(7, 0), (16, 0), (17, 0), (18, 0), (19, 0), (20, 0), (4, 0), (11, 0), (12, 0), (13, 0), (14, 0), (15, 0), (2, 0), (2, 1), (2, 2), (2, 3), (2, 4), (2, 5)]
theorem zJ0 (L : Nat) (xs : Nat → Int32) : J 0 (zS0 L xs) := by
  refine ⟨⟨⟨rfl, Nat.zero_le _⟩, ⟨rfl, Nat.zero_le _⟩, ⟨rfl, Nat.zero_le _⟩, ⟨rfl, Nat.zero_le _⟩, rfl, rfl, zrg0 _, zrg0 _⟩, fun g hg => ⟨Or.inl rfl, zrg0 _, zrg0 _⟩, fun p hp => absurd hp (Nat.not_lt_zero _), fun d hd => absurd hd (Nat.not_lt_zero _), ⟨fun s hs => absurd hs (Nat.not_lt_zero _), fun j hj => absurd hj (Nat.not_lt_zero _)⟩, fun f hf => absurd hf (Nat.not_lt_zero _), ⟨0, Nat.le_refl _, rfl, fun i hi => absurd hi (Nat.not_lt_zero _), fun p hp g hg => ?_⟩, rfl⟩
  rw [if_neg (show ¬ p < nP (zS0 L xs) from Nat.not_lt_zero _)]
  rfl
theorem zlv0 {L : Nat} {xs : Nat → Int32} {k i : Nat} (hk : k < 25) (h23 : k ≠ 23) (hl : zlv (zS0 L xs) k i) : ∃ p : Nat, zids[p]? = some (k, i) := by
  rcases (show k = 0 ∨ k = 1 ∨ k = 2 ∨ k = 3 ∨ k = 4 ∨ k = 5 ∨ k = 6 ∨ k = 7 ∨ k = 8 ∨ k = 9 ∨ k = 10 ∨ k = 11 ∨ k = 12 ∨ k = 13 ∨ k = 14 ∨ k = 15 ∨ k = 16 ∨ k = 17 ∨ k = 18 ∨ k = 19 ∨ k = 20 ∨ k = 21 ∨ k = 22 ∨ k = 23 ∨ k = 24 by omega) with rfl | rfl | rfl | rfl | rfl | rfl | rfl | rfl | rfl | rfl | rfl | rfl | rfl | rfl | rfl | rfl | rfl | rfl | rfl | rfl | rfl | rfl | rfl | rfl | rfl
  · exact absurd hl (Nat.not_lt_zero _)
  · exact absurd hl (Nat.not_lt_zero _)
  · have hi : i < 6 := hl
    rcases (show i = 0 ∨ i = 1 ∨ i = 2 ∨ i = 3 ∨ i = 4 ∨ i = 5 by omega) with rfl | rfl | rfl | rfl | rfl | rfl
    · exact ⟨12, rfl⟩
    · exact ⟨13, rfl⟩
    · exact ⟨14, rfl⟩
    · exact ⟨15, rfl⟩
    · exact ⟨16, rfl⟩
    · exact ⟨17, rfl⟩
  · exact absurd hl (Nat.not_lt_zero _)
  · cases (show i = 0 from hl.2)
    exact ⟨6, rfl⟩
  · exact absurd hl (Nat.not_lt_zero _)
  · exact absurd hl (Nat.not_lt_zero _)
  · cases (show i = 0 from hl.2)
    exact ⟨0, rfl⟩
  · exact False.elim hl
  · exact absurd hl (Nat.not_lt_zero _)
  · exact absurd hl (Nat.not_lt_zero _)
  · cases (show i = 0 from hl.2)
    exact ⟨7, rfl⟩
  · cases (show i = 0 from hl.2)
    exact ⟨8, rfl⟩
  · cases (show i = 0 from hl.2)
    exact ⟨9, rfl⟩
  · cases (show i = 0 from hl.2)
    exact ⟨10, rfl⟩
  · cases (show i = 0 from hl.2)
    exact ⟨11, rfl⟩
  · cases (show i = 0 from hl.2)
    exact ⟨1, rfl⟩
  · cases (show i = 0 from hl.2)
    exact ⟨2, rfl⟩
  · cases (show i = 0 from hl.2)
    exact ⟨3, rfl⟩
  · cases (show i = 0 from hl.2)
    exact ⟨4, rfl⟩
  · cases (show i = 0 from hl.2)
    exact ⟨5, rfl⟩
  · exact absurd hl (Nat.not_lt_zero _)
  · exact False.elim hl
  · exact absurd rfl h23
  · exact False.elim hl
set_option maxRecDepth 100000 in
set_option maxHeartbeats 4000000 in
theorem zat0 {g : ZG} {b q0 L : Nat} {u0 : List Nat} {xs : Nat → Int32} {H : Heap} (hP : va_P g.1 vwCl (zws g q0 u0) H) : ∀ (p : Nat) (q : Nat × Nat), zids[p]? = some q → va_at g.1 vwCl (zad0 b q0 u0 q.1 q.2, zcon g.2.1 (zad0 b q0 u0) (zS0 L xs) q.1 q.2) H := by
  intro p q hq
  match p, hq with
  | 0, hq => cases hq; rw [zcon_ob (by decide)]; exact hP 0 _ rfl
  | 1, hq => cases hq; exact va_at_q (hP 1 _ rfl) (fun j hj => by rcases (show j = 0 ∨ j = 1 ∨ j = 2 ∨ j = 3 ∨ j = 4 ∨ j = 5 by omega) with rfl | rfl | rfl | rfl | rfl | rfl <;> rfl)
  | 2, hq => cases hq; exact va_at_q (hP 2 _ rfl) (fun j hj => if_neg (Nat.not_lt_zero _))
  | 3, hq => cases hq; exact va_at_q (hP 3 _ rfl) (fun j hj => if_neg (Nat.not_lt_zero _))
  | 4, hq => cases hq; exact va_at_q (hP 4 _ rfl) (fun j hj => if_neg (Nat.not_lt_zero _))
  | 5, hq => cases hq; exact va_at_q (hP 5 _ rfl) (fun j hj => if_neg (Nat.not_lt_zero _))
  | 6, hq => cases hq; rw [zcon_ob (by decide)]; exact hP 6 _ rfl
  | 7, hq => cases hq; exact hP 7 _ rfl
  | 8, hq => cases hq; exact hP 8 _ rfl
  | 9, hq => cases hq; exact hP 9 _ rfl
  | 10, hq => cases hq; exact hP 10 _ rfl
  | 11, hq => cases hq; exact hP 11 _ rfl
  | 12, hq => cases hq; rw [zcon_ob (by decide)]; exact hP 12 _ rfl
  | 13, hq => cases hq; rw [zcon_ob (by decide)]; exact hP 13 _ rfl
  | 14, hq => cases hq; rw [zcon_ob (by decide)]; exact hP 14 _ rfl
  | 15, hq => cases hq; rw [zcon_ob (by decide)]; exact hP 15 _ rfl
  | 16, hq => cases hq; rw [zcon_ob (by decide)]; exact hP 16 _ rfl
  | 17, hq => cases hq; rw [zcon_ob (by decide)]; exact hP 17 _ rfl
  | p + 18, hq => simp [zids] at hq
set_option maxRecDepth 100000 in
theorem zpos0 {g : ZG} {b q0 : Nat} {u0 : List Nat} : ∀ (p : Nat) (q : Nat × Nat), zids[p]? = some q → ∃ c9 : va_E, (zws g q0 u0)[p]? = some (zad0 b q0 u0 q.1 q.2, c9) := by
  intro p q hq
  match p, hq with
  | 0, hq => cases hq; exact ⟨_, rfl⟩
  | 1, hq => cases hq; exact ⟨_, rfl⟩
  | 2, hq => cases hq; exact ⟨_, rfl⟩
  | 3, hq => cases hq; exact ⟨_, rfl⟩
  | 4, hq => cases hq; exact ⟨_, rfl⟩
  | 5, hq => cases hq; exact ⟨_, rfl⟩
  | 6, hq => cases hq; exact ⟨_, rfl⟩
  | 7, hq => cases hq; exact ⟨_, rfl⟩
  | 8, hq => cases hq; exact ⟨_, rfl⟩
  | 9, hq => cases hq; exact ⟨_, rfl⟩
  | 10, hq => cases hq; exact ⟨_, rfl⟩
  | 11, hq => cases hq; exact ⟨_, rfl⟩
  | 12, hq => cases hq; exact ⟨_, rfl⟩
  | 13, hq => cases hq; exact ⟨_, rfl⟩
  | 14, hq => cases hq; exact ⟨_, rfl⟩
  | 15, hq => cases hq; exact ⟨_, rfl⟩
  | 16, hq => cases hq; exact ⟨_, rfl⟩
  | 17, hq => cases hq; exact ⟨_, rfl⟩
  | p + 18, hq => simp [zids] at hq
theorem zW0 {g : ZG} {b q0 L : Nat} {u0 : List Nat} {xs : Nat → Int32} {H : Heap} (hbb : b < g.2.2) (hsc : zscr g b (zS0 L xs 23 0) H) (hP : va_P g.1 vwCl (zws g q0 u0) H) (hD : va_D (zAA g) (zws g q0 u0)) : zW g (zad0 b q0 u0) (zS0 L xs) H := by
  have hA : ∀ {k i : Nat}, (∃ p : Nat, zids[p]? = some (k, i)) → g.2.2 ≤ zad0 b q0 u0 k i := fun h => by
    obtain ⟨p, hp⟩ := h
    obtain ⟨c9, h1⟩ := zpos0 (g := g) (b := b) (q0 := q0) (u0 := u0) p _ hp
    exact hD.2 p _ h1
  refine ⟨fun k i hk hl => ⟨fun h23 => ?_, fun h23 => ?_⟩, fun k i k' i' hk hk' hl hl' e => ?_, fun k i hk hl => ?_, ⟨fun i h => absurd h (Nat.not_lt_zero _), fun i h => absurd h (Nat.not_lt_zero _), fun i h => absurd h (Nat.not_lt_zero _), fun i h => absurd h (Nat.not_lt_zero _)⟩⟩
  · obtain ⟨p, hp⟩ := zlv0 hk h23 hl
    exact zat0 hP p (k, i) hp
  · subst h23
    exact hsc
  · by_cases h23 : k = 23
    · by_cases h23' : k' = 23
      · subst h23
        subst h23'
        exact ⟨rfl, (show i = 0 from hl).trans (show i' = 0 from hl').symm⟩
      · subst h23
        have h1 := hA (zlv0 hk' h23' hl')
        rw [← e] at h1
        exact absurd h1 (Nat.not_le.mpr hbb)
    · by_cases h23' : k' = 23
      · subst h23'
        have h1 := hA (zlv0 hk h23 hl)
        rw [e] at h1
        exact absurd h1 (Nat.not_le.mpr hbb)
      · obtain ⟨p, hp⟩ := zlv0 hk h23 hl
        obtain ⟨p', hp'⟩ := zlv0 hk' h23' hl'
        obtain ⟨c9, h1⟩ := zpos0 (g := g) (b := b) (q0 := q0) (u0 := u0) p _ hp
        obtain ⟨c9', h1'⟩ := zpos0 (g := g) (b := b) (q0 := q0) (u0 := u0) p' _ hp'
        have hpp := hD.1 p p' _ _ h1 h1' e
        subst hpp
        have h2 := hp.symm.trans hp'
        simp only [Option.some.injEq, Prod.mk.injEq] at h2
        exact h2
  · exact hA (zlv0 (Nat.lt_trans hk (by decide)) (Nat.ne_of_lt hk) hl)
