def zS0 : ZS := fun k _ f => match k with
  | 7 => (match f with
    | 11 => 20
    | 12 => 2
    | _ => 0)
  | 8 => (match f with
    | 1 => 20
    | 2 => 2
    | _ => 0)
  | _ => 0
def zpmf (f : Nat) : Nat := match f with
  | 4 => 0
  | 5 => 1
  | 6 => 2
  | 7 => 3
  | 8 => 4
  | 9 => 5
  | 11 => 6
  | 12 => 7
  | 13 => 8
  | 14 => 9
  | 15 => 10
  | 16 => 11
  | 17 => 12
  | 18 => 13
  | 19 => 14
  | 20 => 15
  | 22 => 16
  | 23 => 17
  | 24 => 18
  | 26 => 19
  | 27 => 20
  | 29 => 21
  | 30 => 22
  | 31 => 23
  | 32 => 24
  | 33 => 25
  | 34 => 26
  | 36 => 27
  | 37 => 28
  | 38 => 29
  | 39 => 30
  | 40 => 31
  | 45 => 32
  | _ => 0
def zad0 (b q0 : Nat) (u0 : List Nat) (q1 : Nat) (u1 : List Nat) (q2 : Nat) : ZA := fun k i => match k with
  | 2 => u0.getD (11 + i) 0
  | 4 => u0.getD 5 0
  | 7 => q0
  | 8 => q1
  | 11 => u0.getD 6 0
  | 12 => u0.getD 7 0
  | 13 => u0.getD 8 0
  | 14 => u0.getD 9 0
  | 15 => u0.getD 10 0
  | 16 => u0.getD 0 0
  | 17 => u0.getD 1 0
  | 18 => u0.getD 2 0
  | 19 => u0.getD 3 0
  | 20 => u0.getD 4 0
  | 22 => u1.getD (zpmf i) 0
  | 23 => u1.getD (zpmf 19) 0
  | 24 => q2
  | 26 => b
  | _ => 0
def zws (g : ZG) (q0 : Nat) (u0 : List Nat) (q1 : Nat) (u1 : List Nat) (q2 : Nat) : va_W := [(q0, .inr (7, [.ref (u0.getD 0 0), .ref (u0.getD 1 0), .ref (u0.getD 2 0), .ref (u0.getD 3 0), .ref (u0.getD 4 0), .ref (u0.getD 5 0), .ref (u0.getD 10 0), .int 0, .int 0, .int 0, .int 0, .int 20, .int 2, .int 0, .int 0, .int 0, .int 0, .int 0, .int 0])), ((u0.getD 0 0), .inl (g.2.1 4, (6, .inr (.inr (.inr (.inr (va_up (va_up (va_up (va_up (va_up (va_up (fun _ => none) 0 (some (u0.getD 11 0))) 1 (some (u0.getD 12 0))) 2 (some (u0.getD 13 0))) 3 (some (u0.getD 14 0))) 4 (some (u0.getD 15 0))) 5 (some (u0.getD 16 0))))))))), ((u0.getD 1 0), .inl (g.2.1 5, (20, .inr (.inr (.inr (.inr (fun _ => none))))))), ((u0.getD 2 0), .inl (g.2.1 2, (6, .inr (.inr (.inr (.inr (fun _ => none))))))), ((u0.getD 3 0), .inl (g.2.1 7, (6, .inr (.inr (.inr (.inr (fun _ => none))))))), ((u0.getD 4 0), .inl (g.2.1 3, (6, .inr (.inr (.inr (.inr (fun _ => none))))))), ((u0.getD 5 0), .inr (4, [.ref (u0.getD 6 0), .ref (u0.getD 7 0), .ref (u0.getD 8 0), .ref (u0.getD 9 0), .int 0])), ((u0.getD 6 0), .inl (g.2.1 0, (512, .inl (fun _ => 0)))), ((u0.getD 7 0), .inl (g.2.1 0, (512, .inl (fun _ => 0)))), ((u0.getD 8 0), .inl (g.2.1 0, (512, .inl (fun _ => 0)))), ((u0.getD 9 0), .inl (g.2.1 0, (512, .inl (fun _ => 0)))), ((u0.getD 10 0), .inl (g.2.1 0, (3001, .inl (fun _ => 0)))), ((u0.getD 11 0), .inr (2, [.int 0, .int 0, .int 0, .int 0, .int 0])), ((u0.getD 12 0), .inr (2, [.int 0, .int 0, .int 0, .int 0, .int 0])), ((u0.getD 13 0), .inr (2, [.int 0, .int 0, .int 0, .int 0, .int 0])), ((u0.getD 14 0), .inr (2, [.int 0, .int 0, .int 0, .int 0, .int 0])), ((u0.getD 15 0), .inr (2, [.int 0, .int 0, .int 0, .int 0, .int 0])), ((u0.getD 16 0), .inr (2, [.int 0, .int 0, .int 0, .int 0, .int 0])), (q1, .inr (8, [.int 0, .int 20, .int 2, .int 0, .ref (u1.getD 0 0), .ref (u1.getD 1 0), .ref (u1.getD 2 0), .ref (u1.getD 3 0), .ref (u1.getD 4 0), .ref (u1.getD 5 0), .int 0, .ref (u1.getD 6 0), .ref (u1.getD 7 0), .ref (u1.getD 8 0), .ref (u1.getD 9 0), .ref (u1.getD 10 0), .ref (u1.getD 11 0), .ref (u1.getD 12 0), .ref (u1.getD 13 0), .ref (u1.getD 14 0), .ref (u1.getD 15 0), .int 0, .ref (u1.getD 16 0), .ref (u1.getD 17 0), .ref (u1.getD 18 0), .int 0, .ref (u1.getD 19 0), .ref (u1.getD 20 0), .int 0, .ref (u1.getD 21 0), .ref (u1.getD 22 0), .ref (u1.getD 23 0), .ref (u1.getD 24 0), .ref (u1.getD 25 0), .ref (u1.getD 26 0), .int 0, .ref (u1.getD 27 0), .ref (u1.getD 28 0), .ref (u1.getD 29 0), .ref (u1.getD 30 0), .ref (u1.getD 31 0), .int 0, .int 0, .int 0, .int 0, .ref (u1.getD 32 0), .int 0])), ((u1.getD 0 0), .inl (g.2.1 0, (6, .inl (fun _ => 0)))), ((u1.getD 1 0), .inl (g.2.1 0, (6, .inl (fun _ => 0)))), ((u1.getD 2 0), .inl (g.2.1 0, (6, .inl (fun _ => 0)))), ((u1.getD 3 0), .inl (g.2.1 0, (6, .inl (fun _ => 0)))), ((u1.getD 4 0), .inl (g.2.1 0, (6, .inl (fun _ => 0)))), ((u1.getD 5 0), .inl (g.2.1 0, (6, .inl (fun _ => 0)))), ((u1.getD 6 0), .inl (g.2.1 0, (20, .inl (fun _ => 0)))), ((u1.getD 7 0), .inl (g.2.1 0, (20, .inl (fun _ => 0)))), ((u1.getD 8 0), .inl (g.2.1 0, (20, .inl (fun _ => 0)))), ((u1.getD 9 0), .inl (g.2.1 0, (20, .inl (fun _ => 0)))), ((u1.getD 10 0), .inl (g.2.1 0, (20, .inl (fun _ => 0)))), ((u1.getD 11 0), .inl (g.2.1 0, (20, .inl (fun _ => 0)))), ((u1.getD 12 0), .inl (g.2.1 0, (20, .inl (fun _ => 0)))), ((u1.getD 13 0), .inl (g.2.1 0, (20, .inl (fun _ => 0)))), ((u1.getD 14 0), .inl (g.2.1 1, (20, .inl (fun _ => 0)))), ((u1.getD 15 0), .inl (g.2.1 0, (120, .inl (fun _ => 0)))), ((u1.getD 16 0), .inl (g.2.1 0, (5000, .inl (fun _ => 0)))), ((u1.getD 17 0), .inl (g.2.1 0, (5000, .inl (fun _ => 0)))), ((u1.getD 18 0), .inl (g.2.1 0, (5000, .inl (fun _ => 0)))), ((u1.getD 19 0), .inl (g.2.1 0, (6, .inl (fun _ => 0)))), ((u1.getD 20 0), .inl (g.2.1 0, (36, .inl (fun _ => 0)))), ((u1.getD 21 0), .inl (g.2.1 0, (6, .inl (fun _ => 0)))), ((u1.getD 22 0), .inl (g.2.1 0, (36, .inl (fun _ => 0)))), ((u1.getD 23 0), .inl (g.2.1 0, (36, .inl (fun _ => 0)))), ((u1.getD 24 0), .inl (g.2.1 0, (36, .inl (fun _ => 0)))), ((u1.getD 25 0), .inl (g.2.1 0, (36, .inl (fun _ => 0)))), ((u1.getD 26 0), .inl (g.2.1 0, (36, .inl (fun _ => 0)))), ((u1.getD 27 0), .inl (g.2.1 0, (6, .inl (fun _ => 0)))), ((u1.getD 28 0), .inl (g.2.1 0, (6, .inl (fun _ => 0)))), ((u1.getD 29 0), .inl (g.2.1 0, (6, .inl (fun _ => 0)))), ((u1.getD 30 0), .inl (g.2.1 0, (6, .inl (fun _ => 0)))), ((u1.getD 31 0), .inl (g.2.1 0, (6, .inl (fun _ => 0)))), ((u1.getD 32 0), .inl (g.2.1 0, (3001, .inl (fun _ => 0)))), (q2, .inl (g.2.1 8, (1, .inr (.inl (fun _ => 0)))))]
def zids : List (Nat × Nat) := [(7, 0), (16, 0), (17, 0), (18, 0), (19, 0), (20, 0), (4, 0), (11, 0), (12, 0), (13, 0), (14, 0), (15, 0), (2, 0), (2, 1), (2, 2), (2, 3), (2, 4), (2, 5), (8, 0), (22, 4), (22, 5), (22, 6), (22, 7), (22, 8), (22, 9), (22, 11), (22, 12), (22, 13), (22, 14), (22, 15), (22, 16), (22, 17), (22, 18), (23, 19), (22, 20), (22, 22), (22, 23), (22, 24), (22, 26), (22, 27), (22, 29), (22, 30), (22, 31), (22, 32), (22, 33), (22, 34), (22, 36), (22, 37), (22, 38), (22, 39), (22, 40), (22, 45), (24, 0)]
theorem zInv0 : Inv 0 zS0 := by
  refine ⟨⟨⟨rfl, Nat.zero_le _, rfl⟩, ⟨rfl, Nat.zero_le _, rfl⟩, ⟨rfl, Nat.zero_le _, rfl⟩, ⟨rfl, Nat.zero_le _, rfl⟩, rfl, rfl, ⟨by decide, by decide⟩, rfl, ⟨by decide, by decide⟩, rfl, rfl, rfl, rfl, rfl⟩, fun g hg => ⟨⟨rfl, Or.inl ⟨rfl, rfl⟩⟩, ⟨rfl, zrg0 _⟩, ⟨rfl, zrg0 _⟩, rfl⟩, fun p hp => ⟨fun h => absurd h (Nat.not_lt_zero _), fun _ => ⟨rfl, rfl, rfl, rfl, fun _ _ => rfl⟩⟩, fun d hd => ⟨fun h => absurd h (Nat.not_lt_zero _), fun _ _ _ => rfl⟩, ⟨fun s hs => absurd hs (Nat.not_lt_zero _), fun j hj => ⟨fun h => absurd h (Nat.not_lt_zero _), fun _ => ⟨rfl, rfl, rfl, rfl, rfl⟩⟩⟩, fun f hf => ⟨fun h => absurd h (Nat.not_lt_zero _), fun _ => ⟨rfl, rfl⟩⟩, ⟨0, 0, Nat.le_refl _, Nat.le_refl _, rfl, rfl, fun i hi => absurd hi (Nat.not_lt_zero _), fun _ _ => rfl, fun i hi => absurd hi (Nat.not_lt_zero _)⟩, rfl⟩
theorem zlv0 {k i : Nat} (hk : k < 25) (hl : zlv zS0 k i) : ∃ p : Nat, zids[p]? = some (k, i) := by
  rcases (show k = 0 ∨ k = 1 ∨ k = 2 ∨ k = 3 ∨ k = 4 ∨ k = 5 ∨ k = 6 ∨ k = 7 ∨ k = 8 ∨ k = 9 ∨ k = 10 ∨ k = 11 ∨ k = 12 ∨ k = 13 ∨ k = 14 ∨ k = 15 ∨ k = 16 ∨ k = 17 ∨ k = 18 ∨ k = 19 ∨ k = 20 ∨ k = 21 ∨ k = 22 ∨ k = 23 ∨ k = 24 by omega) with rfl | rfl | rfl | rfl | rfl | rfl | rfl | rfl | rfl | rfl | rfl | rfl | rfl | rfl | rfl | rfl | rfl | rfl | rfl | rfl | rfl | rfl | rfl | rfl | rfl
  · exact absurd hl (Nat.not_lt_zero _)
  · exact absurd hl (Nat.not_lt_zero _)
  · have hi : i < 6 := hl
    rcases (show i = 0 ∨ i = 1 ∨ i = 2 ∨ i = 3 ∨ i = 4 ∨ i = 5 by omega) with rfl | rfl | rfl | rfl | rfl | rfl
    · exact ⟨12, rfl⟩
    · exact ⟨13, rfl⟩
    · exact ⟨14, rfl⟩
    · exact ⟨15, rfl⟩
    · exact ⟨16, rfl⟩
    · exact ⟨17, rfl⟩
  · exact absurd hl (Nat.not_lt_zero _)
  · cases (show i = 0 from hl.2)
    exact ⟨6, rfl⟩
  · exact absurd hl (Nat.not_lt_zero _)
  · exact absurd hl (Nat.not_lt_zero _)
  · cases (show i = 0 from hl.2)
    exact ⟨0, rfl⟩
  · cases (show i = 0 from hl.2)
    exact ⟨18, rfl⟩
  · exact absurd hl (Nat.not_lt_zero _)
  · exact absurd hl (Nat.not_lt_zero _)
  · cases (show i = 0 from hl.2)
    exact ⟨7, rfl⟩
  · cases (show i = 0 from hl.2)
    exact ⟨8, rfl⟩
  · cases (show i = 0 from hl.2)
    exact ⟨9, rfl⟩
  · cases (show i = 0 from hl.2)
    exact ⟨10, rfl⟩
  · cases (show i = 0 from hl.2)
    exact ⟨11, rfl⟩
  · cases (show i = 0 from hl.2)
    exact ⟨1, rfl⟩
  · cases (show i = 0 from hl.2)
    exact ⟨2, rfl⟩
  · cases (show i = 0 from hl.2)
    exact ⟨3, rfl⟩
  · cases (show i = 0 from hl.2)
    exact ⟨4, rfl⟩
  · cases (show i = 0 from hl.2)
    exact ⟨5, rfl⟩
  · exact absurd hl (Nat.not_lt_zero _)
  · have hm : zma i = true := hl
    have hi : i = 4 ∨ i = 5 ∨ i = 6 ∨ i = 7 ∨ i = 8 ∨ i = 9 ∨ i = 11 ∨ i = 12 ∨ i = 13 ∨ i = 14 ∨ i = 15 ∨ i = 16 ∨ i = 17 ∨ i = 18 ∨ i = 20 ∨ i = 22 ∨ i = 23 ∨ i = 24 ∨ i = 26 ∨ i = 27 ∨ i = 29 ∨ i = 30 ∨ i = 31 ∨ i = 32 ∨ i = 33 ∨ i = 34 ∨ i = 36 ∨ i = 37 ∨ i = 38 ∨ i = 39 ∨ i = 40 ∨ i = 45 := by
      simp only [zma, Bool.or_eq_true, Bool.and_eq_true, Nat.ble_eq, Nat.beq_eq] at hm
      omega
    rcases hi with rfl | rfl | rfl | rfl | rfl | rfl | rfl | rfl | rfl | rfl | rfl | rfl | rfl | rfl | rfl | rfl | rfl | rfl | rfl | rfl | rfl | rfl | rfl | rfl | rfl | rfl | rfl | rfl | rfl | rfl | rfl | rfl
    · exact ⟨19, rfl⟩
    · exact ⟨20, rfl⟩
    · exact ⟨21, rfl⟩
    · exact ⟨22, rfl⟩
    · exact ⟨23, rfl⟩
    · exact ⟨24, rfl⟩
    · exact ⟨25, rfl⟩
    · exact ⟨26, rfl⟩
    · exact ⟨27, rfl⟩
    · exact ⟨28, rfl⟩
    · exact ⟨29, rfl⟩
    · exact ⟨30, rfl⟩
    · exact ⟨31, rfl⟩
    · exact ⟨32, rfl⟩
    · exact ⟨34, rfl⟩
    · exact ⟨35, rfl⟩
    · exact ⟨36, rfl⟩
    · exact ⟨37, rfl⟩
    · exact ⟨38, rfl⟩
    · exact ⟨39, rfl⟩
    · exact ⟨40, rfl⟩
    · exact ⟨41, rfl⟩
    · exact ⟨42, rfl⟩
    · exact ⟨43, rfl⟩
    · exact ⟨44, rfl⟩
    · exact ⟨45, rfl⟩
    · exact ⟨46, rfl⟩
    · exact ⟨47, rfl⟩
    · exact ⟨48, rfl⟩
    · exact ⟨49, rfl⟩
    · exact ⟨50, rfl⟩
    · exact ⟨51, rfl⟩
  · cases (show i = 19 from hl)
    exact ⟨33, rfl⟩
  · cases (show i = 0 from hl)
    exact ⟨52, rfl⟩
set_option maxRecDepth 100000 in
set_option maxHeartbeats 4000000 in
theorem zat0 {g : ZG} {b q0 q1 q2 : Nat} {u0 u1 : List Nat} {H : Heap} (hP : va_P g.1 vwCl (zws g q0 u0 q1 u1 q2) H) : ∀ (p : Nat) (q : Nat × Nat), zids[p]? = some q → va_at g.1 vwCl (zad0 b q0 u0 q1 u1 q2 q.1 q.2, zcon g.2.1 (zad0 b q0 u0 q1 u1 q2) zS0 q.1 q.2) H := by
  intro p q hq
  match p, hq with
  | 0, hq => cases hq; rw [zcon_ob (by decide)]; exact hP 0 _ rfl
  | 1, hq => cases hq; exact va_at_q (hP 1 _ rfl) (fun j hj => by rcases (show j = 0 ∨ j = 1 ∨ j = 2 ∨ j = 3 ∨ j = 4 ∨ j = 5 by omega) with rfl | rfl | rfl | rfl | rfl | rfl <;> rfl)
  | 2, hq => cases hq; exact va_at_q (hP 2 _ rfl) (fun j hj => if_neg (Nat.not_lt_zero _))
  | 3, hq => cases hq; exact va_at_q (hP 3 _ rfl) (fun j hj => if_neg (Nat.not_lt_zero _))
  | 4, hq => cases hq; exact va_at_q (hP 4 _ rfl) (fun j hj => if_neg (Nat.not_lt_zero _))
  | 5, hq => cases hq; exact va_at_q (hP 5 _ rfl) (fun j hj => if_neg (Nat.not_lt_zero _))
  | 6, hq => cases hq; rw [zcon_ob (by decide)]; exact hP 6 _ rfl
  | 7, hq => cases hq; exact hP 7 _ rfl
  | 8, hq => cases hq; exact hP 8 _ rfl
  | 9, hq => cases hq; exact hP 9 _ rfl
  | 10, hq => cases hq; exact hP 10 _ rfl
  | 11, hq => cases hq; exact hP 11 _ rfl
  | 12, hq => cases hq; rw [zcon_ob (by decide)]; exact hP 12 _ rfl
  | 13, hq => cases hq; rw [zcon_ob (by decide)]; exact hP 13 _ rfl
  | 14, hq => cases hq; rw [zcon_ob (by decide)]; exact hP 14 _ rfl
  | 15, hq => cases hq; rw [zcon_ob (by decide)]; exact hP 15 _ rfl
  | 16, hq => cases hq; rw [zcon_ob (by decide)]; exact hP 16 _ rfl
  | 17, hq => cases hq; rw [zcon_ob (by decide)]; exact hP 17 _ rfl
  | 18, hq => cases hq; rw [zcon_ob (by decide)]; exact hP 18 _ rfl
  | 19, hq => cases hq; exact hP 19 _ rfl
  | 20, hq => cases hq; exact hP 20 _ rfl
  | 21, hq => cases hq; exact hP 21 _ rfl
  | 22, hq => cases hq; exact hP 22 _ rfl
  | 23, hq => cases hq; exact hP 23 _ rfl
  | 24, hq => cases hq; exact hP 24 _ rfl
  | 25, hq => cases hq; exact hP 25 _ rfl
  | 26, hq => cases hq; exact hP 26 _ rfl
  | 27, hq => cases hq; exact hP 27 _ rfl
  | 28, hq => cases hq; exact hP 28 _ rfl
  | 29, hq => cases hq; exact hP 29 _ rfl
  | 30, hq => cases hq; exact hP 30 _ rfl
  | 31, hq => cases hq; exact hP 31 _ rfl
  | 32, hq => cases hq; exact hP 32 _ rfl
  | 33, hq => cases hq; exact hP 33 _ rfl
  | 34, hq => cases hq; exact hP 34 _ rfl
  | 35, hq => cases hq; exact hP 35 _ rfl
  | 36, hq => cases hq; exact hP 36 _ rfl
  | 37, hq => cases hq; exact hP 37 _ rfl
  | 38, hq => cases hq; exact hP 38 _ rfl
  | 39, hq => cases hq; exact hP 39 _ rfl
  | 40, hq => cases hq; exact hP 40 _ rfl
  | 41, hq => cases hq; exact hP 41 _ rfl
  | 42, hq => cases hq; exact hP 42 _ rfl
  | 43, hq => cases hq; exact hP 43 _ rfl
  | 44, hq => cases hq; exact hP 44 _ rfl
  | 45, hq => cases hq; exact hP 45 _ rfl
  | 46, hq => cases hq; exact hP 46 _ rfl
  | 47, hq => cases hq; exact hP 47 _ rfl
  | 48, hq => cases hq; exact hP 48 _ rfl
  | 49, hq => cases hq; exact hP 49 _ rfl
  | 50, hq => cases hq; exact hP 50 _ rfl
  | 51, hq => cases hq; exact hP 51 _ rfl
  | 52, hq => cases hq; exact hP 52 _ rfl
  | p + 53, hq => simp [zids] at hq
set_option maxRecDepth 100000 in
theorem zpos0 {g : ZG} {b q0 q1 q2 : Nat} {u0 u1 : List Nat} : ∀ (p : Nat) (q : Nat × Nat), zids[p]? = some q → ∃ c9 : va_E, (zws g q0 u0 q1 u1 q2)[p]? = some (zad0 b q0 u0 q1 u1 q2 q.1 q.2, c9) := by
  intro p q hq
  match p, hq with
  | 0, hq => cases hq; exact ⟨_, rfl⟩
  | 1, hq => cases hq; exact ⟨_, rfl⟩
  | 2, hq => cases hq; exact ⟨_, rfl⟩
  | 3, hq => cases hq; exact ⟨_, rfl⟩
  | 4, hq => cases hq; exact ⟨_, rfl⟩
  | 5, hq => cases hq; exact ⟨_, rfl⟩
  | 6, hq => cases hq; exact ⟨_, rfl⟩
  | 7, hq => cases hq; exact ⟨_, rfl⟩
  | 8, hq => cases hq; exact ⟨_, rfl⟩
  | 9, hq => cases hq; exact ⟨_, rfl⟩
  | 10, hq => cases hq; exact ⟨_, rfl⟩
  | 11, hq => cases hq; exact ⟨_, rfl⟩
  | 12, hq => cases hq; exact ⟨_, rfl⟩
  | 13, hq => cases hq; exact ⟨_, rfl⟩
  | 14, hq => cases hq; exact ⟨_, rfl⟩
  | 15, hq => cases hq; exact ⟨_, rfl⟩
  | 16, hq => cases hq; exact ⟨_, rfl⟩
  | 17, hq => cases hq; exact ⟨_, rfl⟩
  | 18, hq => cases hq; exact ⟨_, rfl⟩
  | 19, hq => cases hq; exact ⟨_, rfl⟩
  | 20, hq => cases hq; exact ⟨_, rfl⟩
  | 21, hq => cases hq; exact ⟨_, rfl⟩
  | 22, hq => cases hq; exact ⟨_, rfl⟩
  | 23, hq => cases hq; exact ⟨_, rfl⟩
  | 24, hq => cases hq; exact ⟨_, rfl⟩
  | 25, hq => cases hq; exact ⟨_, rfl⟩
  | 26, hq => cases hq; exact ⟨_, rfl⟩
  | 27, hq => cases hq; exact ⟨_, rfl⟩
  | 28, hq => cases hq; exact ⟨_, rfl⟩
  | 29, hq => cases hq; exact ⟨_, rfl⟩
  | 30, hq => cases hq; exact ⟨_, rfl⟩
  | 31, hq => cases hq; exact ⟨_, rfl⟩
  | 32, hq => cases hq; exact ⟨_, rfl⟩
  | 33, hq => cases hq; exact ⟨_, rfl⟩
  | 34, hq => cases hq; exact ⟨_, rfl⟩
  | 35, hq => cases hq; exact ⟨_, rfl⟩
  | 36, hq => cases hq; exact ⟨_, rfl⟩
  | 37, hq => cases hq; exact ⟨_, rfl⟩
  | 38, hq => cases hq; exact ⟨_, rfl⟩
  | 39, hq => cases hq; exact ⟨_, rfl⟩
  | 40, hq => cases hq; exact ⟨_, rfl⟩
  | 41, hq => cases hq; exact ⟨_, rfl⟩
  | 42, hq => cases hq; exact ⟨_, rfl⟩
  | 43, hq => cases hq; exact ⟨_, rfl⟩
  | 44, hq => cases hq; exact ⟨_, rfl⟩
  | 45, hq => cases hq; exact ⟨_, rfl⟩
  | 46, hq => cases hq; exact ⟨_, rfl⟩
  | 47, hq => cases hq; exact ⟨_, rfl⟩
  | 48, hq => cases hq; exact ⟨_, rfl⟩
  | 49, hq => cases hq; exact ⟨_, rfl⟩
  | 50, hq => cases hq; exact ⟨_, rfl⟩
  | 51, hq => cases hq; exact ⟨_, rfl⟩
  | 52, hq => cases hq; exact ⟨_, rfl⟩
  | p + 53, hq => simp [zids] at hq
theorem zW0 {g : ZG} {b q0 q1 q2 : Nat} {u0 u1 : List Nat} {H : Heap} (hP : va_P g.1 vwCl (zws g q0 u0 q1 u1 q2) H) (hD : va_D (zAA g) (zws g q0 u0 q1 u1 q2)) : zW g (zad0 b q0 u0 q1 u1 q2) zS0 H := by
  refine ⟨fun k i hk hl => ?_, fun k i k' i' hk hk' hl hl' e => ?_, fun k i hk hl => ?_, ⟨fun i h => absurd h (Nat.not_lt_zero _), fun i h => absurd h (Nat.not_lt_zero _), fun i h => absurd h (Nat.not_lt_zero _), fun i h => absurd h (Nat.not_lt_zero _)⟩⟩
  · obtain ⟨p, hp⟩ := zlv0 hk hl
    exact zat0 hP p (k, i) hp
  · obtain ⟨p, hp⟩ := zlv0 hk hl
    obtain ⟨p', hp'⟩ := zlv0 hk' hl'
    obtain ⟨c9, h1⟩ := zpos0 (g := g) (b := b) (q0 := q0) (q1 := q1) (q2 := q2) (u0 := u0) (u1 := u1) p _ hp
    obtain ⟨c9', h1'⟩ := zpos0 (g := g) (b := b) (q0 := q0) (q1 := q1) (q2 := q2) (u0 := u0) (u1 := u1) p' _ hp'
    have hpp := hD.1 p p' _ _ h1 h1' e
    subst hpp
    have h2 := hp.symm.trans hp'
    simp only [Option.some.injEq, Prod.mk.injEq] at h2
    exact h2
  · obtain ⟨p, hp⟩ := zlv0 hk hl
    obtain ⟨c9, h1⟩ := zpos0 (g := g) (b := b) (q0 := q0) (q1 := q1) (q2 := q2) (u0 := u0) (u1 := u1) p _ hp
    exact hD.2 p _ h1
