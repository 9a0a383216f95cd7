/-! the world grows: what is old stands, what is new is told -/
theorem zbq (a b : Nat) : Nat.beq a b = decide (a = b) := by
  rw [Bool.eq_iff_iff, decide_eq_true_iff]
  exact ⟨Nat.eq_of_beq_eq_true, fun h => h ▸ Nat.beq_refl a⟩
theorem va_at_q {D : va_G} {cl : List vw_C} {a n : Nat} {cA : ClassId} {f f' : Nat → Option Nat} {H : Heap} (h : va_at D cl (a, .inl (cA, n, .inr (.inr (.inr (.inr f))))) H) (hf : ∀ j, j < n → f' j = f j) : va_at D cl (a, .inl (cA, n, .inr (.inr (.inr (.inr f'))))) H := by
  show H[a]? = some (vp_cell cA (n, .inr (.inr (.inr (.inr f')))))
  have h1 : H[a]? = some (vp_cell cA (n, .inr (.inr (.inr (.inr f))))) := h
  rw [h1, vp_cell_q, vp_cell_q]
  have e : (fun j : Fin n => va_rf (f j.val)) = (fun j : Fin n => va_rf (f' j.val)) := funext fun j => by rw [hf j.val j.isLt]
  show some ({ cls := cA, slots := Array.ofFn (n := n) fun j => va_rf (f j.val), vm := .none } : Cell) = some { cls := cA, slots := Array.ofFn (n := n) fun j => va_rf (f' j.val), vm := .none }
  rw [e]
theorem zobj_ext {ad ad' : ZA} {S : ZS} {k i : Nat} (hw : zWF S) (hE : zExt S ad ad') (hl : zlv S k i) (hk : k < 9) : zobj ad' (S k i) k i = zobj ad (S k i) k i := by
  unfold zobj
  apply List.map_congr_left
  intro f _
  exact zc_ext hE (zfld_live hw hl hk)
theorem zcon_old {g : ZG} {ad ad' : ZA} {S S' : ZS} {H H4 : Heap} (hW : zW g ad S H) (hE : zExt S ad ad') {k i : Nat} (hk : k < 25) (h23 : k ≠ 23) (hl : zlv S k i) (hs : S' k i = S k i) (h17 : k = 17 → nP S' = nP S) (h18 : k = 18 → nD S' = nD S) (h19 : k = 19 → nS S' = nS S) (h20 : k = 20 → nF S' = nF S) (hq : H4[ad k i]? = H[ad k i]?) : va_at g.1 vwCl (ad k i, zcon g.2.1 ad' S' k i) H4 := by
  have h := ((hW.1 k i hk hl).1 h23).kept hq
  by_cases h9 : k < 9
  · rw [zcon_ob h9] at h ⊢
    rw [hs, zobj_ext hW.2.2.2 hE hl h9]
    exact h
  · by_cases hr : zrow k = true
    · rw [zcon_row hr] at h ⊢
      rw [hs]
      exact h
    · have hc : k = 16 ∨ k = 17 ∨ k = 18 ∨ k = 19 ∨ k = 20 ∨ k = 21 ∨ k = 23 ∨ k = 24 := by
        simp only [zrow, Bool.or_eq_true, Bool.and_eq_true, Nat.ble_eq, Nat.beq_eq] at hr
        omega
      rcases hc with rfl | rfl | rfl | rfl | rfl | rfl | rfl | rfl
      · exact va_at_q (f := fun j => some (ad 2 j)) h (fun j hj => congrArg some (hE 2 j hj))
      · refine va_at_q (f := fun j => if j < nP S then some (ad 3 j) else none) h (fun j hj => ?_)
        show (if j < nP S' then some (ad' 3 j) else none) = _
        rw [h17 rfl]
        by_cases hc : j < nP S
        · rw [if_pos hc, if_pos hc, hE 3 j hc]
        · rw [if_neg hc, if_neg hc]
      · refine va_at_q (f := fun j => if j < nD S then some (ad 0 j) else none) h (fun j hj => ?_)
        show (if j < nD S' then some (ad' 0 j) else none) = _
        rw [h18 rfl]
        by_cases hc : j < nD S
        · rw [if_pos hc, if_pos hc, hE 0 j hc]
        · rw [if_neg hc, if_neg hc]
      · refine va_at_q (f := fun j => if j < nS S then some (ad 6 j) else none) h (fun j hj => ?_)
        show (if j < nS S' then some (ad' 6 j) else none) = _
        rw [h19 rfl]
        by_cases hc : j < nS S
        · rw [if_pos hc, if_pos hc, hE 6 j hc]
        · rw [if_neg hc, if_neg hc]
      · refine va_at_q (f := fun j => if j < nF S then some (ad 1 j) else none) h (fun j hj => ?_)
        show (if j < nF S' then some (ad' 1 j) else none) = _
        rw [h20 rfl]
        by_cases hc : j < nF S
        · rw [if_pos hc, if_pos hc, hE 1 j hc]
        · rw [if_neg hc, if_neg hc]
      · refine va_at_q (f := fun j => some (ad 5 (6 * i + j))) h (fun j hj => ?_)
        have hi : i < nS S := hl
        exact congrArg some (hE 5 (6 * i + j) (show 6 * i + j < 6 * nS S by omega))
      · exact absurd rfl h23
      · show va_at g.1 vwCl (ad 24 i, .inl (g.2.1 8, (1, .inr (.inl (fun j => (S' 24 i j).toInt64))))) H4
        rw [hs]
        exact h
theorem zlv230 {S : ZS} {i : Nat} (h : zlv S 23 i) : i = 0 := h
theorem zlv23 (S S' : ZS) (i : Nat) (h : zlv S' 23 i) : zlv S 23 i := (show i = 0 from h)
theorem zW.grown {g : ZG} {ad ad' : ZA} {S S' : ZS} {H H4 : Heap} (hW : zW g ad S H) (hb : g.2.2 ≤ H.size) (hE : zExt S ad ad') (hwf : zWF S') (hs23 : S' 23 0 = S 23 0) (hq23 : H4[ad 23 0]? = H[ad 23 0]?) (hold : ∀ k i, k < 25 → k ≠ 23 → zlv S k i → va_at g.1 vwCl (ad k i, zcon g.2.1 ad' S' k i) H4)
    (hnew : ∀ k i, k < 25 → zlv S' k i → ¬ zlv S k i → va_at g.1 vwCl (ad' k i, zcon g.2.1 ad' S' k i) H4 ∧ H.size ≤ ad' k i)
    (hinj : ∀ k i k' i', k < 25 → k' < 25 → zlv S' k i → ¬ zlv S k i → zlv S' k' i' → ¬ zlv S k' i' → ad' k i = ad' k' i' → k = k' ∧ i = i') : zW g ad' S' H4 := by
  have hlt : ∀ k i, k < 25 → zlv S k i → ad' k i < H.size := fun k i hk hl => by
    rw [hE k i hl]
    exact (hW.1 k i hk hl).lt
  refine ⟨fun k i hk hl => ?_, fun k i k' i' hk hk' hl hl' e => ?_, fun k i hk hl => ?_, hwf⟩
  · by_cases ho : zlv S k i
    · refine ⟨fun e => ?_, fun e => ?_⟩
      · rw [hE k i ho]
        exact hold k i hk e ho
      · subst e
        cases zlv230 ho
        rw [hE 23 0 ho, hs23]
        exact ((hW.1 23 0 hk ho).2 rfl).kept hq23
    · exact ⟨fun _ => (hnew k i hk hl ho).1, fun e => by subst e; exact absurd (zlv23 S S' i hl) ho⟩
  · by_cases ho : zlv S k i
    · by_cases ho' : zlv S k' i'
      · rw [hE k i ho, hE k' i' ho'] at e
        exact hW.2.1 k i k' i' hk hk' ho ho' e
      · have h1 := hlt k i hk ho
        have h2 := (hnew k' i' hk' hl' ho').2
        omega
    · by_cases ho' : zlv S k' i'
      · have h1 := hlt k' i' hk' ho'
        have h2 := (hnew k i hk hl ho).2
        omega
      · exact hinj k i k' i' hk hk' hl ho hl' ho' e
  · by_cases ho : zlv S k i
    · rw [hE k i ho]
      exact hW.2.2.1 k i hk ho
    · exact Nat.le_trans hb (hnew k i (Nat.lt_trans hk (by decide)) hl ho).2
theorem zW.keptL {g : ZG} {ad : ZA} {S : ZS} {H H1 : Heap} (h : zW g ad S H) (hq : ∀ q : Nat, q < H.size → H1[q]? = H[q]?) : zW g ad S H1 := h.kept hq
theorem zgr7 {k n cf : Nat} {sub : Nat → Nat → Bool} {G : Nat → Int32} {S : ZS} (hk : k ≠ 7) (hs : ∀ i, sub 7 i = false) : zgrow k n cf sub G S 7 0 = fun f => if f = cf then nI (n + 1) else S 7 0 f := by
  funext f
  unfold zgrow
  rw [if_neg (fun h => hk h.1.symm), hs 0]
  by_cases hf : f = cf
  · rw [if_pos ⟨rfl, rfl, hf⟩, if_pos hf]
  · rw [if_neg (fun h => hf h.2.2), if_neg hf]
    rfl
theorem zgr_same {k n cf : Nat} {sub : Nat → Nat → Bool} {G : Nat → Int32} {S : ZS} {k' i : Nat} (h1 : ¬ (k' = k ∧ i = n)) (h7 : ¬ (k' = 7 ∧ i = 0)) (hs : sub k' i = false) : zgrow k n cf sub G S k' i = S k' i := by
  funext f
  unfold zgrow
  rw [if_neg h1, if_neg (fun h => h7 ⟨h.1, h.2.1⟩), hs]
  rfl
theorem zgr_new {k n cf : Nat} {sub : Nat → Nat → Bool} {G : Nat → Int32} {S : ZS} : zgrow k n cf sub G S k n = G := by
  funext f
  exact if_pos ⟨rfl, rfl⟩
theorem zgr_sub {k n cf : Nat} {sub : Nat → Nat → Bool} {G : Nat → Int32} {S : ZS} {k' i : Nat} (h1 : ¬ (k' = k ∧ i = n)) (h7 : k' ≠ 7) (hs : sub k' i = true) : zgrow k n cf sub G S k' i = fun _ => 0 := by
  funext f
  unfold zgrow
  rw [if_neg h1, if_neg (fun h => h7 h.1), if_pos hs]
section ZG9
variable {X : ZX} {cc : ByteArray} {own : String} {ret : Option FieldType} {F Lo cx sx : Nat}
theorem zCx.B (C : zCx X cc own ret F Lo cx sx) : zB X.p X.s X.m X.a X.c cc own X.nL X.g (zAA X.g) := ⟨C.hx, C.hb, C.hml, C.hw, C.hown, C.hE, fun _ h => Nat.le_trans C.hE.1.1 h, fun _ h => h⟩
/-- a field of a thing is read; the stack below is any -/
theorem zr_gf {pc idx k f N i : Nat} {Cn ref : String} {T : u_T} {ty : Nat → FieldType} {S : ZS} {ad : ZA} {H : Heap} {locs : List Loc} {ls : Array Slot} {rest : List Value} {ce sl : Nat} {v : Value} (C : zCx X cc own ret F Lo cx sx) (hK : zKl k Cn T N ty) (hf : f < N) (hlink : Cond.fieldLink own idx ref (T f).2.1 (T f).2.2.1 ∈ wG) (href : (T f).1 = ref) (hat : va_at X.g.1 vwCl (ad k i, .inr (k, zobj ad (S k i) k i)) H) (hv : zc ad (zfld S k i f) = v) (hd : decode cc pc = .ok (.getfield idx, 3)) (hk : W X.p X.l X.e X.R X.s X.m X.a X.b X.meth X.c H locs ce sl X.Q (F0 X.m (pc + 3) ls (v :: rest))) : W X.p X.l X.e X.R X.s X.m X.a X.b X.meth X.c H locs ce sl X.Q (F0 X.m pc ls (.ref (ad k i) :: rest)) := by
  obtain ⟨h1, h2, h3, h4, h5, h6⟩ := hK
  subst hv
  exact va_get (D := X.g.1) (ci := k) (v := zc ad (zfld S k i f)) (C := Cn) (T := T) (N := N) C.hx C.hb C.hw h2 C.hown C.hE.2.1 (zP1 hat) 0 rfl h1 f hf (C.hw _ hlink) (fun x hx => by rw [← href]; exact hx) (zobj_get ad (S k i) k i f (by rw [← h5]; exact hf)) hd hk
end ZG9
