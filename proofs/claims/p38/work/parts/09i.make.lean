theorem zand3 {a b c : Bool} (h : (a && (b && c)) = true) : a = true ∧ b = true ∧ c = true := by
  obtain ⟨h1, h2⟩ := (Bool.and_eq_true _ _).mp h
  obtain ⟨h3, h4⟩ := (Bool.and_eq_true _ _).mp h2
  exact ⟨h1, h3, h4⟩
theorem z_newP_ok {X : ZX} {pc : Nat} {kk : ZP} (C : zCx X cX7_person RX7 (some .int) 7 112 3 23) (hn : X.nL = 4) (hpc : pc = 21) (hk : ZOK (zXc X (X.ce + 2) (X.sl + 17)) 53 kk) : ZOK X pc (z_newP kk) := by
  subst hpc
  intro L st S ad H locs ls hP hW hM hE hS hL hl
  obtain ⟨a, kd, q, h0, h1, h3, hst, hP2⟩ : ∃ (a : Nat × Nat) (kd : Int32) (q : Nat × Nat), znth L 0 = some (.inr (.inr (some a))) ∧ znth L 1 = some (.inl kd) ∧ znth L 3 = some (.inr (.inr (some q))) ∧ st = [] ∧ (bif Nat.beq a.1 7 && (Nat.beq a.2 0 && Nat.beq q.1 6) then vp_in (S 7 0 7) 20 ∧ kk L [] (zgrP S kd q.2) X.K else False) := by
    unfold z_newP at hP
    split at hP
    · exact ⟨_, _, _, by assumption, by assumption, by assumption, by first | rfl | assumption, hP⟩
    · exact hP.elim
  subst hst
  cases hq : Nat.beq a.1 7 && (Nat.beq a.2 0 && Nat.beq q.1 6) with
  | false => rw [hq] at hP2; exact hP2.elim
  | true =>
    rw [hq, cond_true] at hP2
    obtain ⟨b1, b2, b3⟩ := zand3 hq
    obtain ⟨a1, a2⟩ := a
    obtain ⟨q1, q2⟩ := q
    cases (Nat.eq_of_beq_eq_true b1 : a1 = 7)
    cases (Nat.eq_of_beq_eq_true b2 : a2 = 0)
    cases (Nat.eq_of_beq_eq_true b3 : q1 = 6)
    exact zgo_P C hk hP2.2 hP2.1 (hL.2.2.2 0 _ h0).1 (hL.2.2.2 1 _ h1).1 (hL.2.2.2 3 _ h3).1 (hL.2.2.2 3 _ h3).2.1 hW hM hE hS hL
theorem z_newF_ok {X : ZX} {pc : Nat} {kk : ZP} (C : zCx X cX7_farm RX7 (some .int) 7 112 2 11) (hn : X.nL = 5) (hpc : pc = 29) (hk : ZOK (zXc X (X.ce + 1) (X.sl + 5)) 59 kk) : ZOK X pc (z_newF kk) := by
  subst hpc
  intro L st S ad H locs ls hP hW hM hE hS hL hl
  obtain ⟨a, gd, qt, q, h0, h2, h3, h4, hst, hP2⟩ : ∃ (a : Nat × Nat) (gd qt : Int32) (q : Nat × Nat), znth L 0 = some (.inr (.inr (some a))) ∧ znth L 2 = some (.inl gd) ∧ znth L 3 = some (.inl qt) ∧ znth L 4 = some (.inr (.inr (some q))) ∧ st = [] ∧ (bif Nat.beq a.1 7 && (Nat.beq a.2 0 && Nat.beq q.1 0) then vp_in (S 7 0 10) 6 ∧ kk L [] (zgrF S q.2 gd qt) X.K else False) := by
    unfold z_newF at hP
    split at hP
    · exact ⟨_, _, _, _, by assumption, by assumption, by assumption, by assumption, by first | rfl | assumption, hP⟩
    · exact hP.elim
  subst hst
  cases hq : Nat.beq a.1 7 && (Nat.beq a.2 0 && Nat.beq q.1 0) with
  | false => rw [hq] at hP2; exact hP2.elim
  | true =>
    rw [hq, cond_true] at hP2
    obtain ⟨b1, b2, b3⟩ := zand3 hq
    obtain ⟨a1, a2⟩ := a
    obtain ⟨q1, q2⟩ := q
    cases (Nat.eq_of_beq_eq_true b1 : a1 = 7)
    cases (Nat.eq_of_beq_eq_true b2 : a2 = 0)
    cases (Nat.eq_of_beq_eq_true b3 : q1 = 0)
    exact zgo_F C hk hP2.2 hP2.1 (hL.2.2.2 0 _ h0).1 (hL.2.2.2 4 _ h4).1 (hL.2.2.2 2 _ h2).1 (hL.2.2.2 3 _ h3).1 (hL.2.2.2 4 _ h4).2.1 hW hM hE hS hL
theorem z_newS_ok {X : ZX} {pc : Nat} {kk : ZP} (C : zCx X cX7_shop RX7 (some .int) 7 111 9 51) (hn : X.nL = 3) (hpc : pc = 15) (hk : ZOK (zXc X (X.ce + 8) (X.sl + 45)) 46 kk) : ZOK X pc (z_newS kk) := by
  subst hpc
  intro L st S ad H locs ls hP hW hM hE hS hL hl
  obtain ⟨a, q, h0, h2, hst, hP2⟩ : ∃ (a q : Nat × Nat), znth L 0 = some (.inr (.inr (some a))) ∧ znth L 2 = some (.inr (.inr (some q))) ∧ st = [] ∧ (bif Nat.beq a.1 7 && (Nat.beq a.2 0 && Nat.beq q.1 0) then vp_in (S 7 0 9) 6 ∧ kk L [] (zgrS S q.2) X.K else False) := by
    unfold z_newS at hP
    split at hP
    · exact ⟨_, _, by assumption, by assumption, by first | rfl | assumption, hP⟩
    · exact hP.elim
  subst hst
  cases hq : Nat.beq a.1 7 && (Nat.beq a.2 0 && Nat.beq q.1 0) with
  | false => rw [hq] at hP2; exact hP2.elim
  | true =>
    rw [hq, cond_true] at hP2
    obtain ⟨b1, b2, b3⟩ := zand3 hq
    obtain ⟨a1, a2⟩ := a
    obtain ⟨q1, q2⟩ := q
    cases (Nat.eq_of_beq_eq_true b1 : a1 = 7)
    cases (Nat.eq_of_beq_eq_true b2 : a2 = 0)
    cases (Nat.eq_of_beq_eq_true b3 : q1 = 0)
    exact zgo_S C hk hP2.2 hP2.1 (hL.2.2.2 0 _ h0).1 (hL.2.2.2 2 _ h2).1 (hL.2.2.2 2 _ h2).2.1 hW hM hE hS hL
theorem z_newD_ok {X : ZX} {pc : Nat} {kk : ZP} (C : zCx X cX7_depot RX7 (some .int) 7 111 3 15) (hn : X.nL = 3) (hpc : pc = 29) (hk : ZOK (zXc X (X.ce + 2) (X.sl + 9)) 60 kk) : ZOK X pc (z_newD kk) := by
  subst hpc
  intro L st S ad H locs ls hP hW hM hE hS hL hl
  have hPP : (∃ (a : Nat × Nat), znth L 0 = some (.inr (.inr (some a))) ∧ znth L 2 = some (.inr (.inr none)) ∧ st = [] ∧ (bif Nat.beq a.1 7 && Nat.beq a.2 0 then vp_in (S 7 0 8) 6 ∧ kk L [] (zgrD S (-1)) X.K else False)) ∨ ∃ (a q : Nat × Nat), znth L 0 = some (.inr (.inr (some a))) ∧ znth L 2 = some (.inr (.inr (some q))) ∧ st = [] ∧ (bif Nat.beq a.1 7 && (Nat.beq a.2 0 && Nat.beq q.1 0) then vp_in (S 7 0 8) 6 ∧ kk L [] (zgrD S (nI q.2)) X.K else False) := by
    unfold z_newD at hP
    split at hP
    · exact Or.inl ⟨_, by assumption, by assumption, by first | rfl | assumption, hP⟩
    · exact Or.inr ⟨_, _, by assumption, by assumption, by first | rfl | assumption, hP⟩
    · exact hP.elim
  rcases hPP with ⟨a, h0, h2, hst, hP2⟩ | ⟨a, q, h0, h2, hst, hP2⟩
  · subst hst
    cases hq : Nat.beq a.1 7 && Nat.beq a.2 0 with
    | false => rw [hq] at hP2; exact hP2.elim
    | true =>
      rw [hq, cond_true] at hP2
      obtain ⟨b1, b2⟩ := (Bool.and_eq_true _ _).mp hq
      obtain ⟨a1, a2⟩ := a
      cases (Nat.eq_of_beq_eq_true b1 : a1 = 7)
      cases (Nat.eq_of_beq_eq_true b2 : a2 = 0)
      exact zgo_D (x := none) C hk hP2.2 hP2.1 (hL.2.2.2 0 _ h0).1 (hL.2.2.2 2 _ h2).1 (fun j h => (nomatch h)) (fun _ => rfl) hW hM hE hS hL
  · subst hst
    cases hq : Nat.beq a.1 7 && (Nat.beq a.2 0 && Nat.beq q.1 0) with
    | false => rw [hq] at hP2; exact hP2.elim
    | true =>
      rw [hq, cond_true] at hP2
      obtain ⟨b1, b2, b3⟩ := zand3 hq
      obtain ⟨a1, a2⟩ := a
      obtain ⟨q1, q2⟩ := q
      cases (Nat.eq_of_beq_eq_true b1 : a1 = 7)
      cases (Nat.eq_of_beq_eq_true b2 : a2 = 0)
      cases (Nat.eq_of_beq_eq_true b3 : q1 = 0)
      exact zgo_D (x := some q2) C hk hP2.2 hP2.1 (hL.2.2.2 0 _ h0).1 (hL.2.2.2 2 _ h2).1 (fun j h => by cases h; exact ⟨(hL.2.2.2 2 _ h2).2.1, rfl⟩) (fun h => (nomatch h)) hW hM hE hS hL
