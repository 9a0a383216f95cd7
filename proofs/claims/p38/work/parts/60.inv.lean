/-! WHAT HOLDS OF THE LAND between two calls; the groups carry over -/
def zsd (S : ZS) : Int32 := zsu (fun d => zsu (fun g => S 9 d g) 6) (nD S)
def zsh (S : ZS) : Int32 := zsu (fun g => zsu (fun s => S 5 (6 * s + g) 0) (nS S)) 6
def zsb (S : ZS) : Int32 := zsu (fun g => S 2 g 4) 6
def JC (c : Nat) (S : ZS) : Prop :=
  (S 7 0 7 = nI (nP S) ∧ nP S ≤ 20) ∧ (S 7 0 8 = nI (nD S) ∧ nD S ≤ 6) ∧ (S 7 0 9 = nI (nS S) ∧ nS S ≤ 6) ∧ (S 7 0 10 = nI (nF S) ∧ nF S ≤ 6) ∧ S 7 0 11 = 20 ∧ S 7 0 12 = 2 ∧ zrg (S 7 0 13) c ∧ zrg (S 7 0 14) c
def JGd (c : Nat) (S : ZS) (g : Nat) : Prop := (S 2 g 0 = 0 ∨ (S 2 g 0 = 1 ∧ zbt (S 2 g 1) 1 24) ∨ S 2 g 0 = 2) ∧ zrg (S 2 g 2) 900 ∧ zrg (S 2 g 3) (9999 * c)
def JG (c : Nat) (S : ZS) : Prop := ∀ g, g < 6 → JGd c S g
def JPd (c : Nat) (S : ZS) (p : Nat) : Prop := zbt (S 3 p 1) 0 3 ∧ vp_in (S 3 p 2) (nS S) ∧ vp_in (S 3 p 3) (nS S) ∧ zrg (S 3 p 4) 100 ∧ (S 3 p 6 = 0 ∨ S 3 p 6 = 1) ∧ zrg (S 3 p 7) (99 * c) ∧ zrg (S 3 p 8) (2500 * c) ∧ zrg (S 3 p 9) (90000 * c) ∧ S 3 p 0 = nI p
def JP (c : Nat) (S : ZS) : Prop := ∀ p, p < nP S → JPd c S p
def JDd (c : Nat) (S : ZS) (d : Nat) : Prop := ((d = 0 ∧ S 0 d 1 = -1) ∨ (0 < d ∧ vp_in (S 0 d 1) d)) ∧ S 0 d 0 = nI d ∧ ∀ g, g < 6 → zrg (S 9 d g) (99999 * c)
def JD (c : Nat) (S : ZS) : Prop := ∀ d, d < nD S → JDd c S d
def JHs (c : Nat) (S : ZS) (j : Nat) : Prop := zrg (S 5 j 0) (99999 * c) ∧ zrg (S 5 j 1) (99999 * c) ∧ zrg (S 5 j 2) (99999 * c) ∧ zrg (S 5 j 3 - S 5 j 4 - S 5 j 0) (99999 * c) ∧ zrg (S 5 j 5) (99999 * c)
def JH (c : Nat) (S : ZS) : Prop := (∀ s, s < nS S → S 6 s 0 = nI s ∧ vp_in (S 6 s 1) (nD S)) ∧ (∀ j, j < 6 * nS S → JHs c S j)
def JF (S : ZS) : Prop := ∀ f, f < nF S → vp_in (S 1 f 0) (nD S) ∧ vp_in (S 1 f 1) 6
def JL (c : Nat) (S : ZS) : Prop := ∃ n, n ≤ c ∧ S 4 0 4 = nI n ∧ (∀ i, i < n → S 11 0 i ≤ S 7 0 13) ∧ (∀ p, p < 20 → ∀ g, g < 6 → zss S (S 7 0 13) (nI p) (nI g) n = if p < nP S then S 10 p g else 0)
def JM (S : ZS) : Prop := S 7 0 15 = zsd S + zsh S + S 7 0 16 + S 7 0 17 + zsb S
def J (c : Nat) (S : ZS) : Prop := JC c S ∧ JG c S ∧ JP c S ∧ JD c S ∧ JH c S ∧ JF S ∧ JL c S ∧ JM S
/-- what no call but the makers and the black market changes -/
def zEk (S S' : ZS) (x : Int32) : Prop := (S' 7 0 7 = S 7 0 7 ∧ S' 7 0 8 = S 7 0 8 ∧ S' 7 0 9 = S 7 0 9 ∧ S' 7 0 10 = S 7 0 10) ∧ S' 7 0 18 = S 7 0 18 + x
def zEq (S S' : ZS) : Prop := (S' 7 0 7 = S 7 0 7 ∧ S' 7 0 8 = S 7 0 8 ∧ S' 7 0 9 = S 7 0 9 ∧ S' 7 0 10 = S 7 0 10) ∧ S' 7 0 18 = S 7 0 18
theorem zEq.rf {S : ZS} : zEq S S := ⟨⟨rfl, rfl, rfl, rfl⟩, rfl⟩
theorem zEq.tr {S S' S'' : ZS} (h : zEq S S') (h' : zEq S' S'') : zEq S S'' := ⟨⟨h'.1.1.trans h.1.1, h'.1.2.1.trans h.1.2.1, h'.1.2.2.1.trans h.1.2.2.1, h'.1.2.2.2.trans h.1.2.2.2⟩, h'.2.trans h.2⟩
theorem zEq.n {S S' : ZS} (h : zEq S S') : nP S' = nP S ∧ nD S' = nD S ∧ nS S' = nS S ∧ nF S' = nF S := by
  unfold nP nD nS nF
  rw [h.1.1, h.1.2.1, h.1.2.2.1, h.1.2.2.2]
  exact ⟨rfl, rfl, rfl, rfl⟩
-- one more call
theorem JC.up {c : Nat} {S : ZS} (h : JC c S) : JC (c + 1) S := ⟨h.1, h.2.1, h.2.2.1, h.2.2.2.1, h.2.2.2.2.1, h.2.2.2.2.2.1, h.2.2.2.2.2.2.1.mono (by omega), h.2.2.2.2.2.2.2.mono (by omega)⟩
theorem JG.up {c : Nat} {S : ZS} (h : JG c S) : JG (c + 1) S := fun g hg => ⟨(h g hg).1, (h g hg).2.1, (h g hg).2.2.mono (by omega)⟩
theorem JP.up {c : Nat} {S : ZS} (h : JP c S) : JP (c + 1) S := fun p hp => by
  obtain ⟨a1, a2, a3, a4, a5, a6, a7, a8, a9⟩ := h p hp
  exact ⟨a1, a2, a3, a4, a5, a6.mono (by omega), a7.mono (by omega), a8.mono (by omega), a9⟩
theorem JD.up {c : Nat} {S : ZS} (h : JD c S) : JD (c + 1) S := fun d hd => ⟨(h d hd).1, (h d hd).2.1, fun g hg => ((h d hd).2.2 g hg).mono (by omega)⟩
theorem JH.up {c : Nat} {S : ZS} (h : JH c S) : JH (c + 1) S := ⟨h.1, fun j hj => by
  obtain ⟨a1, a2, a3, a4, a5⟩ := h.2 j hj
  exact ⟨a1.mono (by omega), a2.mono (by omega), a3.mono (by omega), a4.mono (by omega), a5.mono (by omega)⟩⟩
theorem JL.up {c : Nat} {S : ZS} (h : JL c S) : JL (c + 1) S := by
  obtain ⟨n, h1, h2⟩ := h
  exact ⟨n, by omega, h2⟩
theorem J.up {c : Nat} {S : ZS} (h : J c S) : J (c + 1) S := ⟨h.1.up, h.2.1.up, h.2.2.1.up, h.2.2.2.1.up, h.2.2.2.2.1.up, h.2.2.2.2.2.1, h.2.2.2.2.2.2.1.up, h.2.2.2.2.2.2.2⟩
theorem J.mono {c d : Nat} {S : ZS} (h : J c S) (hd : c ≤ d) : J d S := by
  obtain ⟨k, rfl⟩ := Nat.exists_eq_add_of_le hd
  clear hd
  induction k with
  | zero => exact h
  | succ k ih => exact ih.up
-- nothing of the group is changed
theorem JC.fr {c : Nat} {S S' : ZS} (h : JC c S) (e : ∀ f, f < 15 → S' 7 0 f = S 7 0 f) : JC c S' := by
  unfold JC nP nD nS nF at h ⊢
  rw [e 7 (by decide), e 8 (by decide), e 9 (by decide), e 10 (by decide), e 11 (by decide), e 12 (by decide), e 13 (by decide), e 14 (by decide)]
  exact h
theorem JG.fr {c : Nat} {S S' : ZS} (h : JG c S) (e : S' 2 = S 2) : JG c S' := by
  unfold JG JGd at h ⊢
  rw [e]
  exact h
theorem JG.put {c : Nat} {S S' : ZS} (h : JG c S) (g : Nat) (e : ∀ i f, ¬ i = g → S' 2 i f = S 2 i f) (hg : JGd c S' g) : JG c S' := by
  intro i hi
  by_cases hq : i = g
  · rw [hq]; exact hg
  · have := h i hi
    unfold JGd at this ⊢
    rw [e i 0 hq, e i 1 hq, e i 2 hq, e i 3 hq]
    exact this
theorem JP.fr {c : Nat} {S S' : ZS} (h : JP c S) (e0 : S' 7 0 7 = S 7 0 7) (e1 : S' 7 0 9 = S 7 0 9) (e : S' 3 = S 3) : JP c S' := by
  unfold JP JPd nP nS at h ⊢
  rw [e0, e1, e]
  exact h
theorem JP.put {c : Nat} {S S' : ZS} (h : JP c S) (p : Nat) (e0 : S' 7 0 7 = S 7 0 7) (e1 : S' 7 0 9 = S 7 0 9) (e : ∀ i f, ¬ i = p → S' 3 i f = S 3 i f) (hp : JPd c S' p) : JP c S' := by
  intro i hi
  by_cases hq : i = p
  · rw [hq]; exact hp
  · have hi' : i < nP S := by unfold nP at hi ⊢; rw [← e0]; exact hi
    have := h i hi'
    unfold JPd nS at this ⊢
    rw [e1, e i 0 hq, e i 1 hq, e i 2 hq, e i 3 hq, e i 4 hq, e i 6 hq, e i 7 hq, e i 8 hq, e i 9 hq]
    exact this
theorem JD.fr {c : Nat} {S S' : ZS} (h : JD c S) (e0 : S' 7 0 8 = S 7 0 8) (e : S' 0 = S 0) (e9 : S' 9 = S 9) : JD c S' := by
  unfold JD JDd nD at h ⊢
  rw [e0, e, e9]
  exact h
theorem JD.put {c : Nat} {S S' : ZS} (h : JD c S) (e0 : S' 7 0 8 = S 7 0 8) (e : S' 0 = S 0) (e9 : ∀ i g, i < nD S → g < 6 → zrg (S' 9 i g) (99999 * c)) : JD c S' := by
  intro d hd
  have hd' : d < nD S := by unfold nD at hd ⊢; rw [← e0]; exact hd
  have := h d hd'
  unfold JDd at this ⊢
  rw [e]
  exact ⟨this.1, this.2.1, fun g hg => e9 d g hd' hg⟩
theorem JH.fr {c : Nat} {S S' : ZS} (h : JH c S) (e0 : S' 7 0 8 = S 7 0 8) (e1 : S' 7 0 9 = S 7 0 9) (e5 : S' 5 = S 5) (e6 : S' 6 = S 6) : JH c S' := by
  unfold JH JHs nD nS at h ⊢
  rw [e0, e1, e5, e6]
  exact h
theorem JH.put {c : Nat} {S S' : ZS} (h : JH c S) (e0 : S' 7 0 8 = S 7 0 8) (e1 : S' 7 0 9 = S 7 0 9) (e6 : S' 6 = S 6) (j : Nat) (e : ∀ i f, ¬ i = j → S' 5 i f = S 5 i f) (hj : JHs c S' j) : JH c S' := by
  refine ⟨?_, fun i hi => ?_⟩
  · have := h.1
    unfold nS nD at this ⊢
    rw [e0, e1, e6]
    exact this
  · by_cases hq : i = j
    · rw [hq]; exact hj
    · have hi' : i < 6 * nS S := by unfold nS at hi ⊢; rw [← e1]; exact hi
      have := h.2 i hi'
      unfold JHs at this ⊢
      rw [e i 0 hq, e i 1 hq, e i 2 hq, e i 3 hq, e i 4 hq, e i 5 hq]
      exact this
theorem JF.fr {S S' : ZS} (h : JF S) (e0 : S' 7 0 8 = S 7 0 8) (e1 : S' 7 0 10 = S 7 0 10) (e : ∀ f, S' 1 f 0 = S 1 f 0 ∧ S' 1 f 1 = S 1 f 1) : JF S' := by
  intro f hf
  have hf' : f < nF S := by unfold nF at hf ⊢; rw [← e1]; exact hf
  have := h f hf'
  unfold nD at this ⊢
  rw [e0, (e f).1, (e f).2]
  exact this
theorem JL.fr {c : Nat} {S S' : ZS} (h : JL c S) (e : S' 4 0 4 = S 4 0 4) (em : S' 7 0 13 = S 7 0 13) (e7 : S' 7 0 7 = S 7 0 7) (e1 : S' 11 = S 11) (e2 : S' 12 = S 12) (e3 : S' 13 = S 13) (e4 : S' 14 = S 14) (e10 : S' 10 = S 10) : JL c S' := by
  obtain ⟨n, h1, h3, h5, h6⟩ := h
  refine ⟨n, h1, e.trans h3, ?_, ?_⟩
  · rw [e1, em]
    exact h5
  · intro p hp g hg
    rw [zss_fr e1 e2 e3 e4, em, e10, h6 p hp g hg]
    unfold nP
    rw [e7]
-- sums
theorem zsu_put {f f' : Nat → Int32} {i : Nat} : ∀ {n : Nat}, i < n → (∀ j, j < n → ¬ j = i → f' j = f j) → zsu f' n = zsu f n + (f' i - f i)
  | 0, hi, _ => absurd hi (Nat.not_lt_zero _)
  | n + 1, hi, h => by
    rw [zsu, zsu]
    by_cases hq : i = n
    · subst hq
      rw [zsu_congr (fun j hj => h j (by omega) (by omega))]
      grind
    · rw [zsu_put (show i < n by omega) (fun j hj hn => h j (by omega) hn), h n (by omega) (fun e => hq e.symm)]
      grind
theorem zsd_fr {S S' : ZS} (e0 : S' 7 0 8 = S 7 0 8) (e : S' 9 = S 9) : zsd S' = zsd S := by
  unfold zsd nD
  rw [e0, e]
theorem zsh_fr {S S' : ZS} (e0 : S' 7 0 9 = S 7 0 9) (e : ∀ j, S' 5 j 0 = S 5 j 0) : zsh S' = zsh S := by
  unfold zsh nS
  rw [e0]
  simp only [e]
theorem zsb_fr {S S' : ZS} (e : ∀ g, S' 2 g 4 = S 2 g 4) : zsb S' = zsb S := by
  unfold zsb
  simp only [e]
theorem zsd_put {S S' : ZS} {d g : Nat} (hd : d < nD S) (hg : g < 6) (e0 : S' 7 0 8 = S 7 0 8) (e : ∀ i f, ¬ (i = d ∧ f = g) → S' 9 i f = S 9 i f) : zsd S' = zsd S + (S' 9 d g - S 9 d g) := by
  have hn : nD S' = nD S := by unfold nD; rw [e0]
  unfold zsd
  rw [hn, zsu_put (f := fun d => zsu (fun g => S 9 d g) 6) (i := d) hd (fun j hj hn => zsu_congr (fun i hi => e j i (fun h => hn h.1)))]
  congr 1
  rw [zsu_put (f := fun g => S 9 d g) (i := g) hg (fun j hj hn => e d j (fun h => hn h.2))]
  grind
theorem zsh_put {S S' : ZS} {s g : Nat} (hs : s < nS S) (hg : g < 6) (e0 : S' 7 0 9 = S 7 0 9) (e : ∀ i, ¬ i = 6 * s + g → S' 5 i 0 = S 5 i 0) : zsh S' = zsh S + (S' 5 (6 * s + g) 0 - S 5 (6 * s + g) 0) := by
  have hn : nS S' = nS S := by unfold nS; rw [e0]
  unfold zsh
  rw [hn, zsu_put (f := fun g => zsu (fun s => S 5 (6 * s + g) 0) (nS S)) (i := g) hg (fun j hj hn => zsu_congr (fun i hi => e (6 * i + j) (by omega)))]
  congr 1
  rw [zsu_put (f := fun s => S 5 (6 * s + g) 0) (i := s) hs (fun j hj hn => e (6 * j + g) (by omega))]
  grind
theorem zsb_put {S S' : ZS} {g : Nat} (hg : g < 6) (e : ∀ i, ¬ i = g → S' 2 i 4 = S 2 i 4) : zsb S' = zsb S + (S' 2 g 4 - S 2 g 4) := by
  unfold zsb
  exact zsu_put (f := fun g => S 2 g 4) hg (fun j hj hn => e j hn)
theorem zsd_pu {S S' : ZS} {d g : Nat} {x : Int32} (hd : d < nD S) (hg : g < 6) (e0 : S' 7 0 8 = S 7 0 8) (e : ∀ i f, ¬ (i = d ∧ f = g) → S' 9 i f = S 9 i f) (hx : S' 9 d g = S 9 d g + x) : zsd S' = zsd S + x := by
  rw [zsd_put hd hg e0 e, hx]
  grind
theorem zsh_pu {S S' : ZS} {s g : Nat} {x : Int32} (hs : s < nS S) (hg : g < 6) (e0 : S' 7 0 9 = S 7 0 9) (e : ∀ i, ¬ i = 6 * s + g → S' 5 i 0 = S 5 i 0) (hx : S' 5 (6 * s + g) 0 = S 5 (6 * s + g) 0 + x) : zsh S' = zsh S + x := by
  rw [zsh_put hs hg e0 e, hx]
  grind
theorem zsb_pu {S S' : ZS} {g : Nat} {x : Int32} (hg : g < 6) (e : ∀ i, ¬ i = g → S' 2 i 4 = S 2 i 4) (hx : S' 2 g 4 = S 2 g 4 + x) : zsb S' = zsb S + x := by
  rw [zsb_put hg e, hx]
  grind
theorem JM.fr {S S' : ZS} (h : JM S) (x8 : S' 7 0 8 = S 7 0 8) (x9 : S' 7 0 9 = S 7 0 9) (e : ∀ f, 15 ≤ f → f < 18 → S' 7 0 f = S 7 0 f) (e9 : S' 9 = S 9) (e5 : ∀ j, S' 5 j 0 = S 5 j 0) (e2 : ∀ g, S' 2 g 4 = S 2 g 4) : JM S' := by
  unfold JM
  rw [zsd_fr x8 e9, zsh_fr x9 e5, zsb_fr e2, e 15 (by decide) (by decide), e 16 (by decide) (by decide), e 17 (by decide) (by decide)]
  exact h
/-- a call's answer and what is so behind it -/
def zR (Q : Int32 → ZS → Prop) : ZK := fun o S' => ∃ v, o = .inl (some (.inl v)) ∧ Q v S'
theorem zR_i {Q : Int32 → ZS → Prop} {v : Int32} {S : ZS} : zR Q (.inl (some (.inl v))) S ↔ Q v S := ⟨fun ⟨w, h1, h2⟩ => by cases h1; exact h2, fun h => ⟨v, rfl, h⟩⟩
/-- a thing of the law's: an answer below a hundred is told when it throws -/
theorem zV0 {sp : ZSp} {kk : ZP} {L : List (Option ZV)} {st : List ZV} {S : ZS} {K : ZK} {Q : Int32 → ZS → Prop} (hst : Nat.ble st.length 4 = true) (h : sp [zr 7 0] S (zR Q)) (hk : ∀ v S', Q v S' → kk L (zi v :: st) S' K) : z_invVq 7 0 sp kk L (zr 7 0 :: st) S K := by
  show (bif Nat.beq 7 7 && (Nat.ble st.length 4 && true) then ∃ K' : ZK, sp [zr 7 0] S K' ∧ ∀ o S', K' o S' → zcontQ kk L st K o S' else False)
  rw [hst]
  exact ⟨_, h, fun o S' ⟨v, e, hq⟩ => by subst e; exact hk v S' hq⟩
theorem zV1 {sp : ZSp} {kk : ZP} {L : List (Option ZV)} {st : List ZV} {S : ZS} {K : ZK} {Q : Int32 → ZS → Prop} {a : Int32} (hst : Nat.ble st.length 4 = true) (h : sp [zr 7 0, zi a] S (zR Q)) (hk : ∀ v S', Q v S' → kk L (zi v :: st) S' K) : z_invVq 7 1 sp kk L (zi a :: zr 7 0 :: st) S K := by
  show (bif Nat.beq 7 7 && (Nat.ble st.length 4 && true) then ∃ K' : ZK, sp [zr 7 0, zi a] S K' ∧ ∀ o S', K' o S' → zcontQ kk L st K o S' else False)
  rw [hst]
  exact ⟨_, h, fun o S' ⟨v, e, hq⟩ => by subst e; exact hk v S' hq⟩
theorem zV2 {sp : ZSp} {kk : ZP} {L : List (Option ZV)} {st : List ZV} {S : ZS} {K : ZK} {Q : Int32 → ZS → Prop} {a b : Int32} (hst : Nat.ble st.length 4 = true) (h : sp [zr 7 0, zi a, zi b] S (zR Q)) (hk : ∀ v S', Q v S' → kk L (zi v :: st) S' K) : z_invVq 7 2 sp kk L (zi b :: zi a :: zr 7 0 :: st) S K := by
  show (bif Nat.beq 7 7 && (Nat.ble st.length 4 && true) then ∃ K' : ZK, sp [zr 7 0, zi a, zi b] S K' ∧ ∀ o S', K' o S' → zcontQ kk L st K o S' else False)
  rw [hst]
  exact ⟨_, h, fun o S' ⟨v, e, hq⟩ => by subst e; exact hk v S' hq⟩
theorem zV3 {sp : ZSp} {kk : ZP} {L : List (Option ZV)} {st : List ZV} {S : ZS} {K : ZK} {Q : Int32 → ZS → Prop} {a b d : Int32} (hst : Nat.ble st.length 4 = true) (h : sp [zr 7 0, zi a, zi b, zi d] S (zR Q)) (hk : ∀ v S', Q v S' → kk L (zi v :: st) S' K) : z_invVq 7 3 sp kk L (zi d :: zi b :: zi a :: zr 7 0 :: st) S K := by
  show (bif Nat.beq 7 7 && (Nat.ble st.length 4 && true) then ∃ K' : ZK, sp [zr 7 0, zi a, zi b, zi d] S K' ∧ ∀ o S', K' o S' → zcontQ kk L st K o S' else False)
  rw [hst]
  exact ⟨_, h, fun o S' ⟨v, e, hq⟩ => by subst e; exact hk v S' hq⟩
theorem zV4 {sp : ZSp} {kk : ZP} {L : List (Option ZV)} {st : List ZV} {S : ZS} {K : ZK} {Q : Int32 → ZS → Prop} {a b d e : Int32} (hst : Nat.ble st.length 4 = true) (h : sp [zr 7 0, zi a, zi b, zi d, zi e] S (zR Q)) (hk : ∀ v S', Q v S' → kk L (zi v :: st) S' K) : z_invVq 7 4 sp kk L (zi e :: zi d :: zi b :: zi a :: zr 7 0 :: st) S K := by
  show (bif Nat.beq 7 7 && (Nat.ble st.length 4 && true) then ∃ K' : ZK, sp [zr 7 0, zi a, zi b, zi d, zi e] S K' ∧ ∀ o S', K' o S' → zcontQ kk L st K o S' else False)
  rw [hst]
  exact ⟨_, h, fun o S' ⟨v, e, hq⟩ => by subst e; exact hk v S' hq⟩
/-- the law's own methods -/
theorem zI2 {sp : ZSp} {kk : ZP} {L : List (Option ZV)} {st : List ZV} {S : ZS} {K : ZK} {Q : Int32 → ZS → Prop} {a b : ZV} (hc : (zc1b a && zc1b b) = true) (hst : Nat.ble st.length 4 = true) (h : sp [a, b] S (zR Q)) (hk : ∀ v S', Q v S' → kk L (zi v :: st) S' K) : z_invSq 2 sp kk L (b :: a :: st) S K := by
  show (bif Nat.ble st.length 4 && (zc1b a && (zc1b b && true)) then ∃ K' : ZK, sp [a, b] S K' ∧ ∀ o S', K' o S' → zcontQ kk L st K o S' else False)
  rw [hst, Bool.and_true, hc]
  exact ⟨_, h, fun o S' ⟨v, e, hq⟩ => by subst e; exact hk v S' hq⟩
theorem zI3 {sp : ZSp} {kk : ZP} {L : List (Option ZV)} {st : List ZV} {S : ZS} {K : ZK} {Q : Int32 → ZS → Prop} {a b : Int32} (hst : Nat.ble st.length 4 = true) (h : sp [zr 7 0, zi a, zi b] S (zR Q)) (hk : ∀ v S', Q v S' → kk L (zi v :: st) S' K) : z_invSq 3 sp kk L (zi b :: zi a :: zr 7 0 :: st) S K := by
  show (bif Nat.ble st.length 4 && true then ∃ K' : ZK, sp [zr 7 0, zi a, zi b] S K' ∧ ∀ o S', K' o S' → zcontQ kk L st K o S' else False)
  rw [hst]
  exact ⟨_, h, fun o S' ⟨v, e, hq⟩ => by subst e; exact hk v S' hq⟩
theorem zI5 {sp : ZSp} {kk : ZP} {L : List (Option ZV)} {st : List ZV} {S : ZS} {K : ZK} {Q : Int32 → ZS → Prop} {a b d e : Int32} (hst : Nat.ble st.length 4 = true) (h : sp [zr 7 0, zi a, zi b, zi d, zi e] S (zR Q)) (hk : ∀ v S', Q v S' → kk L (zi v :: st) S' K) : z_invSq 5 sp kk L (zi e :: zi d :: zi b :: zi a :: zr 7 0 :: st) S K := by
  show (bif Nat.ble st.length 4 && true then ∃ K' : ZK, sp [zr 7 0, zi a, zi b, zi d, zi e] S K' ∧ ∀ o S', K' o S' → zcontQ kk L st K o S' else False)
  rw [hst]
  exact ⟨_, h, fun o S' ⟨v, e, hq⟩ => by subst e; exact hk v S' hq⟩
/-- number k of the law's own range -/
theorem zn6 {k : Nat} (h : k < 6) : vp_in (nI k) 6 ∧ (nI k).toNatClampNeg = k := ⟨vp_in_nI h (by decide), nI_clamp (by omega)⟩
theorem znn {k n : Nat} (h : k < n) (hn : n ≤ 20) : vp_in (nI k) n ∧ (nI k).toNatClampNeg = k := ⟨vp_in_nI h (by omega), nI_clamp (by omega)⟩
