/-! THE WP CALCULUS: values, states, the world. Objects by ids (kind, place); S k i f is an int field, or a place of an int row. -/
abbrev ZV : Type := Int32 ⊕ (Int64 ⊕ Option (Nat × Nat))
abbrev ZS : Type := Nat → Nat → Nat → Int32
abbrev ZO : Type := Option ZV ⊕ Nat
abbrev ZK : Type := ZO → ZS → Prop
abbrev ZSp : Type := List ZV → ZS → ZK → Prop
abbrev ZP : Type := List (Option ZV) → List ZV → ZS → ZK → Prop
abbrev ZA : Type := Nat → Nat → Nat
abbrev zi (x : Int32) : ZV := Sum.inl x
abbrev zl (x : Int64) : ZV := Sum.inr (Sum.inl x)
abbrev zr (k i : Nat) : ZV := Sum.inr (Sum.inr (some (k, i)))
abbrev zn : ZV := Sum.inr (Sum.inr none)
def zc (ad : ZA) : ZV → Value := fun v => match v with
  | .inl x => .int x
  | .inr (.inl x) => .long x
  | .inr (.inr none) => .null
  | .inr (.inr (some q)) => .ref (ad q.1 q.2)
def znth : List (Option ZV) → Nat → Option ZV
  | [], _ => none
  | a :: _, 0 => a
  | _ :: l, n + 1 => znth l n
def zset : List (Option ZV) → Nat → ZV → List (Option ZV)
  | [], _, _ => []
  | _ :: l, 0, v => some v :: l
  | a :: l, n + 1, v => a :: zset l n v
def ztake : Nat → List ZV → List ZV → Option (List ZV × List ZV)
  | 0, st, acc => some (acc, st)
  | n + 1, v :: st, acc => ztake n st (v :: acc)
  | _ + 1, [], _ => none
def nD (S : ZS) : Nat := (S 7 0 8).toNatClampNeg
def nP (S : ZS) : Nat := (S 7 0 7).toNatClampNeg
def nS (S : ZS) : Nat := (S 7 0 9).toNatClampNeg
def nF (S : ZS) : Nat := (S 7 0 10).toNatClampNeg
/-- the model's int rows, by its field numbers -/
def zma (i : Nat) : Bool := (Nat.ble 4 i && Nat.ble i 9) || (Nat.ble 11 i && Nat.ble i 18) || Nat.beq i 20 || (Nat.ble 22 i && Nat.ble i 24) || Nat.beq i 26 || Nat.beq i 27 || (Nat.ble 29 i && Nat.ble i 34) || (Nat.ble 36 i && Nat.ble i 40) || Nat.beq i 45
def zlv (S : ZS) (k i : Nat) : Prop := match k with
  | 0 => i < nD S
  | 1 => i < nF S
  | 2 => i < 6
  | 3 => i < nP S
  | 5 => i < 6 * nS S
  | 6 => i < nS S
  | 9 => i < nD S
  | 10 => i < nP S
  | 21 => i < nS S
  | 8 => False
  | 22 => False
  | 23 => i = 0
  | 24 => False
  | k => k < 21 ∧ i = 0
def zml (i : Nat) : Nat := bif Nat.ble i 9 then 6 else bif Nat.ble i 18 then 20 else bif Nat.ble i 20 then 120 else bif Nat.ble i 24 then 5000 else bif Nat.ble i 26 then 6 else bif Nat.ble i 27 then 36 else bif Nat.ble i 29 then 6 else bif Nat.ble i 34 then 36 else bif Nat.ble i 40 then 6 else 3001
def zlen (k i : Nat) : Nat := match k with
  | 9 => 6
  | 10 => 6
  | 15 => 3001
  | 16 => 6
  | 17 => 20
  | 18 => 6
  | 19 => 6
  | 20 => 6
  | 21 => 6
  | 22 => zml i
  | 23 => 20
  | 24 => 1
  | _ => 512
/-- what a field is: (0, _) an int; (1, k) the thing (k, i) of its own; (2, k) the thing (k, 0); (3, k) the thing (k, S k i f); (4, k) the same, or null; (5, k) the thing (k, f) -/
def zshape (k f : Nat) : Nat × Nat := match k with
  | 0 => match f with
    | 1 => (4, 0)
    | 2 => (1, 9)
    | _ => (0, 0)
  | 1 => match f with
    | 0 => (3, 0)
    | _ => (0, 0)
  | 3 => match f with
    | 2 => (3, 6)
    | 3 => (3, 6)
    | 10 => (1, 10)
    | _ => (0, 0)
  | 4 => match f with
    | 0 => (2, 11)
    | 1 => (2, 12)
    | 2 => (2, 13)
    | 3 => (2, 14)
    | _ => (0, 0)
  | 6 => match f with
    | 1 => (3, 0)
    | 2 => (1, 21)
    | _ => (0, 0)
  | 7 => match f with
    | 0 => (2, 16)
    | 1 => (2, 17)
    | 2 => (2, 18)
    | 3 => (2, 19)
    | 4 => (2, 20)
    | 5 => (2, 4)
    | 6 => (2, 15)
    | _ => (0, 0)
  | 8 => bif zma f then (5, 22) else bif Nat.beq f 19 then (5, 23) else (0, 0)
  | _ => (0, 0)
def zfldS (sh : Nat × Nat) (x : Int32) (i f : Nat) : ZV := match sh.1 with
  | 1 => zr sh.2 i
  | 2 => zr sh.2 0
  | 3 => zr sh.2 x.toNatClampNeg
  | 4 => Sum.inr (Sum.inr (if x < 0 then none else some (sh.2, x.toNatClampNeg)))
  | 5 => zr sh.2 f
  | _ => Sum.inl x
def zfld (S : ZS) (k i f : Nat) : ZV := zfldS (zshape k f) (S k i f) i f
def znf (k : Nat) : Nat := match k with
  | 0 => 3
  | 1 => 5
  | 2 => 5
  | 3 => 11
  | 4 => 5
  | 5 => 6
  | 6 => 3
  | 7 => 19
  | _ => 47
/-- a row's cell: of the thing itself, and the counts -/
def zconN (cA : Nat → ClassId) (ad : ZA) (F : Nat → Int32) (a b d h : Nat) (k i : Nat) : va_E := match k with
  | 16 => .inl (cA 4, (6, .inr (.inr (.inr (.inr (fun j => some (ad 2 j)))))))
  | 17 => .inl (cA 5, (20, .inr (.inr (.inr (.inr (fun j => if j < b then some (ad 3 j) else none))))))
  | 18 => .inl (cA 2, (6, .inr (.inr (.inr (.inr (fun j => if j < a then some (ad 0 j) else none))))))
  | 19 => .inl (cA 7, (6, .inr (.inr (.inr (.inr (fun j => if j < d then some (ad 6 j) else none))))))
  | 20 => .inl (cA 3, (6, .inr (.inr (.inr (.inr (fun j => if j < h then some (ad 1 j) else none))))))
  | 21 => .inl (cA 6, (6, .inr (.inr (.inr (.inr (fun j => some (ad 5 (6 * i + j))))))))
  | 23 => .inl (cA 0, ((F 1000).toNatClampNeg, .inl F))
  | 24 => .inl (cA 8, (1, .inr (.inl (fun j => (F j).toInt64))))
  | k => .inl (cA 0, (zlen k i, .inl F))
def zobj (ad : ZA) (F : Nat → Int32) (k i : Nat) : List Value := (List.range (znf k)).map (fun f => zc ad (zfldS (zshape k f) (F f) i f))
def zcon (cA : Nat → ClassId) (ad : ZA) (S : ZS) (k i : Nat) : va_E := if k < 9 then .inr (k, zobj ad (S k i) k i) else zconN cA ad (S k i) (nD S) (nP S) (nS S) (nF S) k i
def zup (S : ZS) (k i f : Nat) (v : Int32) : ZS := fun k' i' f' => if k' = k ∧ i' = i ∧ f' = f then v else S k' i' f'
def zWF (S : ZS) : Prop :=
  (∀ i, i < nD S → S 0 i 1 < 0 ∨ (S 0 i 1).toNatClampNeg < i) ∧ (∀ i, i < nF S → (S 1 i 0).toNatClampNeg < nD S) ∧
  (∀ i, i < nP S → (S 3 i 2).toNatClampNeg < nS S ∧ (S 3 i 3).toNatClampNeg < nS S) ∧ (∀ i, i < nS S → (S 6 i 1).toNatClampNeg < nD S)
/-- D, the rows' classes, the base: what is older stays -/
abbrev ZG : Type := va_G × (Nat → ClassId) × Nat
def zAA (g : ZG) : Nat → Prop := fun q => g.2.2 ≤ q
/-- the script: a cell of any make; its class's number, its places -/
def zscr (g : ZG) (a : Nat) (F : Nat → Int32) (H : Heap) : Prop := ∃ scr : Cell, H[a]? = some scr ∧ scr.cls = g.2.1 1 ∧ (∀ k, scr.vm ≠ .statics k) ∧ scr.vm ≠ .unknown ∧ scr.slots.size = (F 1000).toNatClampNeg ∧ ∀ j, j < (F 1000).toNatClampNeg → scr.slots[j]? = some (.int (F j))
def zat (g : ZG) (ad : ZA) (S : ZS) (k i : Nat) (H : Heap) : Prop := (k ≠ 23 → va_at g.1 vwCl (ad k i, zcon g.2.1 ad S k i) H) ∧ (k = 23 → zscr g (ad k i) (S k i) H)
theorem zscr.kept {g : ZG} {a : Nat} {F : Nat → Int32} {H H1 : Heap} (h : zscr g a F H) (hq : H1[a]? = H[a]?) : zscr g a F H1 := by
  obtain ⟨scr, h1, h2⟩ := h
  exact ⟨scr, hq.trans h1, h2⟩
theorem zat.kept {g : ZG} {ad : ZA} {S : ZS} {k i : Nat} {H H1 : Heap} (h : zat g ad S k i H) (hq : H1[ad k i]? = H[ad k i]?) : zat g ad S k i H1 := ⟨fun e => (h.1 e).kept hq, fun e => (h.2 e).kept hq⟩
theorem zat.lt {g : ZG} {ad : ZA} {S : ZS} {k i : Nat} {H : Heap} (h : zat g ad S k i H) : ad k i < H.size := by
  by_cases e : k = 23
  · obtain ⟨scr, h1, -⟩ := h.2 e
    exact (Array.getElem?_eq_some_iff.mp h1).1
  · exact (h.1 e).lt
def zW (g : ZG) (ad : ZA) (S : ZS) (H : Heap) : Prop :=
  (∀ k i, k < 25 → zlv S k i → zat g ad S k i H) ∧ (∀ k i k' i', k < 25 → k' < 25 → zlv S k i → zlv S k' i' → ad k i = ad k' i' → k = k' ∧ i = i') ∧
  (∀ k i, k < 23 → zlv S k i → zAA g (ad k i)) ∧ zWF S
def zlvv (S : ZS) (v : ZV) : Prop := match v with
  | .inr (.inr (some q)) => zlv S q.1 q.2
  | _ => True
def zlvs (S : ZS) : List ZV → Prop
  | [] => True
  | v :: st => zlvv S v ∧ zlvs S st
def zc1 (v : ZV) : Prop := match v with
  | .inr (.inl _) => False
  | _ => True
def zMono (S S' : ZS) : Prop := nD S ≤ nD S' ∧ nP S ≤ nP S' ∧ nS S ≤ nS S' ∧ nF S ≤ nF S'
def zExt (S : ZS) (ad ad' : ZA) : Prop := ∀ k i, zlv S k i → ad' k i = ad k i
def zLR (ad : ZA) (S : ZS) (ls : Array Slot) (nL : Nat) (L : List (Option ZV)) : Prop :=
  ls.size = nL ∧ lv_wf ls ∧ L.length = nL ∧ ∀ i v, znth L i = some v → ls[i]? = some (.val (zc ad v)) ∧ zlvv S v ∧ zc1 v
def zty (cA : Nat → ClassId) : List (ClassId × FieldType) := [(cA 0, .int), (cA 0, .int), (cA 2, .object "Pointsbook$Depot"), (cA 3, .object "Pointsbook$Farm"), (cA 4, .object "Pointsbook$Good"), (cA 5, .object "Pointsbook$Person"), (cA 6, .object "Pointsbook$Shelf"), (cA 7, .object "Pointsbook$Shop"), (cA 8, .int)]
theorem zW.at {g : ZG} {ad : ZA} {S : ZS} {H : Heap} (h : zW g ad S H) {k i : Nat} (hk : k < 23) (hl : zlv S k i) : va_at g.1 vwCl (ad k i, zcon g.2.1 ad S k i) H := (h.1 k i (Nat.lt_trans hk (by decide)) hl).1 (Nat.ne_of_lt hk)
theorem zMono.rf {S : ZS} : zMono S S := ⟨Nat.le_refl _, Nat.le_refl _, Nat.le_refl _, Nat.le_refl _⟩
theorem zMono.tr {S S' S'' : ZS} (h : zMono S S') (h' : zMono S' S'') : zMono S S'' := ⟨Nat.le_trans h.1 h'.1, Nat.le_trans h.2.1 h'.2.1, Nat.le_trans h.2.2.1 h'.2.2.1, Nat.le_trans h.2.2.2 h'.2.2.2⟩
theorem zlv.mono {S S' : ZS} (h : zMono S S') {k i : Nat} (hl : zlv S k i) : zlv S' k i := by
  obtain ⟨h1, h2, h3, h4⟩ := h
  unfold zlv at hl ⊢
  split <;> simp_all <;> omega
theorem zlvv.mono {S S' : ZS} (h : zMono S S') {v : ZV} (hl : zlvv S v) : zlvv S' v := by
  rcases v with v | v | _ | q
  · trivial
  · trivial
  · trivial
  · exact zlv.mono h hl
theorem zlvs.mono {S S' : ZS} (h : zMono S S') : ∀ {st : List ZV}, zlvs S st → zlvs S' st
  | [], _ => trivial
  | _ :: _, hl => ⟨hl.1.mono h, zlvs.mono h hl.2⟩
theorem zExt.rf {S : ZS} {ad : ZA} : zExt S ad ad := fun _ _ _ => rfl
theorem zExt.tr {S S' : ZS} {ad ad' ad'' : ZA} (hm : zMono S S') (h : zExt S ad ad') (h' : zExt S' ad' ad'') : zExt S ad ad'' := fun k i hl => (h' k i (hl.mono hm)).trans (h k i hl)
theorem zc_ext {S : ZS} {ad ad' : ZA} (h : zExt S ad ad') {v : ZV} (hl : zlvv S v) : zc ad' v = zc ad v := by
  rcases v with v | v | _ | q
  · rfl
  · rfl
  · rfl
  · show Value.ref _ = Value.ref _
    rw [h q.1 q.2 hl]
theorem zcs_ext {S : ZS} {ad ad' : ZA} (h : zExt S ad ad') : ∀ {st : List ZV}, zlvs S st → st.map (zc ad') = st.map (zc ad)
  | [], _ => rfl
  | v :: st, hl => by
    rw [List.map_cons, List.map_cons, zc_ext h hl.1, zcs_ext h hl.2]
theorem zLR.ext {S S' : ZS} {ad ad' : ZA} {ls : Array Slot} {nL : Nat} {L : List (Option ZV)} (hm : zMono S S') (h : zExt S ad ad') (hL : zLR ad S ls nL L) : zLR ad' S' ls nL L :=
  ⟨hL.1, hL.2.1, hL.2.2.1, fun i v hv => by
    obtain ⟨h1, h2, h3⟩ := hL.2.2.2 i v hv
    exact ⟨by rw [zc_ext h h2]; exact h1, h2.mono hm, h3⟩⟩
theorem znth_lt : ∀ {L : List (Option ZV)} {i : Nat} {v : ZV}, znth L i = some v → i < L.length
  | [], _, _, h => by cases h
  | _ :: _, 0, _, _ => Nat.succ_pos _
  | _ :: l, n + 1, v, h => Nat.succ_lt_succ (znth_lt (L := l) (i := n) (v := v) h)
theorem zset_len : ∀ (L : List (Option ZV)) (i : Nat) (v : ZV), (zset L i v).length = L.length
  | [], _, _ => rfl
  | _ :: _, 0, _ => rfl
  | _ :: l, n + 1, v => congrArg Nat.succ (zset_len l n v)
theorem znth_set_ne : ∀ (L : List (Option ZV)) (i j : Nat) (v : ZV), j ≠ i → znth (zset L i v) j = znth L j
  | [], _, _, _, _ => rfl
  | _ :: _, 0, 0, _, h => absurd rfl h
  | _ :: _, 0, _ + 1, _, _ => rfl
  | _ :: _, _ + 1, 0, _, _ => rfl
  | _ :: l, n + 1, k + 1, v, h => znth_set_ne l n k v (fun e => h (by rw [e]))
theorem znth_set_self : ∀ (L : List (Option ZV)) (i : Nat) (v w : ZV), znth (zset L i v) i = some w → w = v
  | [], _, _, _, h => by cases h
  | _ :: _, 0, _, _, h => (Option.some.inj h).symm
  | _ :: l, n + 1, v, w, h => znth_set_self l n v w h
theorem zcat {ad : ZA} {v : ZV} (h : zc1 v) : (zc ad v).category = 1 := by
  rcases v with v | v | _ | q
  · rfl
  · exact False.elim h
  · rfl
  · rfl
/-- the locals as the kit's rows have them -/
def zlst (ad : ZA) (L : List (Option ZV)) : List (Nat × Value) := (List.range L.length).filterMap (fun i => (znth L i).map (fun v => (i, zc ad v)))
theorem zLR.has {ad : ZA} {S : ZS} {ls : Array Slot} {nL : Nat} {L : List (Option ZV)} (h : zLR ad S ls nL L) : lv_has ls nL (zlst ad L) := by
  refine ⟨h.1, h.2.1, fun q hq => ?_⟩
  obtain ⟨i, -, hi⟩ := List.mem_filterMap.mp hq
  cases hv : znth L i with
  | none => rw [hv] at hi; cases hi
  | some v =>
    rw [hv] at hi
    cases hi
    exact (h.2.2.2 i v hv).1
theorem zLR.st {ad : ZA} {S : ZS} {ls ls' : Array Slot} {nL : Nat} {L : List (Option ZV)} (h : zLR ad S ls nL L) {i : Nat} {v : ZV} (hv : zlvv S v) (h1 : zc1 v)
    (h' : lv_has ls' nL ((i, zc ad v) :: (zlst ad L).filter (fun q => !(q.1 == i) && !(q.1 + 1 == i && q.2.category == 2)))) : zLR ad S ls' nL (zset L i v) := by
  refine ⟨h'.1, h'.2.1, (zset_len _ _ _).trans h.2.2.1, fun j w hw => ?_⟩
  by_cases hj : j = i
  · subst hj
    have hwv : w = v := znth_set_self L j v w hw
    subst hwv
    exact ⟨h'.2.2 _ List.mem_cons_self, hv, h1⟩
  · rw [znth_set_ne L i j v hj] at hw
    obtain ⟨g1, g2, g3⟩ := h.2.2.2 j w hw
    refine ⟨h'.2.2 (j, zc ad w) (List.mem_cons_of_mem _ (List.mem_filter.mpr ⟨List.mem_filterMap.mpr ⟨j, List.mem_range.mpr (znth_lt hw), by rw [hw]; rfl⟩, ?_⟩)), g2, g3⟩
    have hc : ((zc ad w).category == 2) = false := by rw [zcat g3]; rfl
    simp [hj, hc]
theorem zfldS_up {S : ZS} {k i f : Nat} {v : Int32} {k' i' f' : Nat} (h : ¬ (k' = k ∧ i' = i ∧ f' = f)) : zup S k i f v k' i' f' = S k' i' f' := if_neg h
theorem zup_self {S : ZS} {k i f : Nat} {v : Int32} : zup S k i f v k i f = v := if_pos ⟨rfl, rfl, rfl⟩
theorem zcon_congr {cA : Nat → ClassId} {ad : ZA} {S S' : ZS} {k i : Nat} (h : S' k i = S k i) (h1 : nD S' = nD S) (h2 : nP S' = nP S) (h3 : nS S' = nS S) (h4 : nF S' = nF S) : zcon cA ad S' k i = zcon cA ad S k i := by
  unfold zcon
  rw [h, h1, h2, h3, h4]
theorem zlv_congr {S S' : ZS} {k i : Nat} (h1 : nD S' = nD S) (h2 : nP S' = nP S) (h3 : nS S' = nS S) (h4 : nF S' = nF S) : zlv S' k i = zlv S k i := by
  unfold zlv
  rw [h1, h2, h3, h4]
theorem zobj_set (ad : ZA) (F : Nat → Int32) (k i f : Nat) (v : Int32) (hf : f < znf k) (x : ZV) (hx : zfldS (zshape k f) v i f = x) : zobj ad (fun j => if j = f then v else F j) k i = (zobj ad F k i).set f (zc ad x) := by
  apply List.ext_getElem?
  intro j
  by_cases hj : j = f
  · subst hj
    rw [List.getElem?_set_self (by simp [zobj, hf])]
    simp [zobj, hf, hx]
  · rw [List.getElem?_set_ne (fun e => hj e.symm)]
    unfold zobj
    rw [List.getElem?_map, List.getElem?_map]
    by_cases hl : j < znf k
    · simp [hl, hj]
    · simp [hl]
theorem zobj_get (ad : ZA) (F : Nat → Int32) (k i f : Nat) (hf : f < znf k) : (zobj ad F k i)[f]? = some (zc ad (zfldS (zshape k f) (F f) i f)) := by simp [zobj, hf]
theorem zup_fun (S : ZS) (k i f : Nat) (v : Int32) : zup S k i f v k i = fun j => if j = f then v else S k i j := by
  funext j
  by_cases hj : j = f
  · rw [if_pos hj, hj]; exact zup_self
  · rw [if_neg hj]; exact zfldS_up (fun h => hj h.2.2)
theorem zup_other (S : ZS) (k i f : Nat) (v : Int32) {k' i' : Nat} (h : ¬ (k' = k ∧ i' = i)) : zup S k i f v k' i' = S k' i' := by
  funext j
  exact zfldS_up (fun q => h ⟨q.1, q.2.1⟩)
/-- the places that counts and chains of things stand in -/
def zfix (k f : Nat) : Bool := (Nat.beq k 7 && (Nat.ble 7 f && Nat.ble f 10)) || (Nat.beq k 0 && Nat.beq f 1) || (Nat.beq k 1 && Nat.beq f 0) || (Nat.beq k 3 && (Nat.beq f 2 || Nat.beq f 3)) || (Nat.beq k 6 && Nat.beq f 1)
theorem zup_cnt {S : ZS} {k i f : Nat} {v : Int32} (h : k ≠ 7 ∨ f < 7 ∨ 10 < f) : nD (zup S k i f v) = nD S ∧ nP (zup S k i f v) = nP S ∧ nS (zup S k i f v) = nS S ∧ nF (zup S k i f v) = nF S := by
  have key : ∀ j, 7 ≤ j → j ≤ 10 → zup S k i f v 7 0 j = S 7 0 j := fun j h1 h2 => zfldS_up (fun q => by omega)
  unfold nD nP nS nF
  rw [key 8 (by decide) (by decide), key 7 (by decide) (by decide), key 9 (by decide) (by decide), key 10 (by decide) (by decide)]
  exact ⟨rfl, rfl, rfl, rfl⟩
/-- one cell is written, its new content is that of the new state -/
theorem zW.put {g : ZG} {ad : ZA} {S : ZS} {H H1 : Heap} (h : zW g ad S H) {k i f : Nat} {v : Int32} (hk23 : k < 23) (hl : zlv S k i) (hn : k ≠ 7 ∨ f < 7 ∨ 10 < f) (hwf : zWF (zup S k i f v))
    (hat : va_at g.1 vwCl (ad k i, zcon g.2.1 ad (zup S k i f v) k i) H1) (ho : ∀ q, q ≠ ad k i → H1[q]? = H[q]?) : zW g ad (zup S k i f v) H1 := by
  obtain ⟨c1, c2, c3, c4⟩ := zup_cnt (S := S) (i := i) (v := v) hn
  have lv : ∀ k' i', zlv (zup S k i f v) k' i' = zlv S k' i' := fun k' i' => zlv_congr c1 c2 c3 c4
  obtain ⟨w1, w2, w3, w4⟩ := h
  refine ⟨fun k' i' hk' h' => ?_, fun a b a' b' g1 g2 h1 h2 => w2 a b a' b' g1 g2 (by rw [← lv]; exact h1) (by rw [← lv]; exact h2), fun a b g1 h1 => w3 a b g1 (by rw [← lv]; exact h1), hwf⟩
  rw [lv] at h'
  by_cases hq : k' = k ∧ i' = i
  · obtain ⟨rfl, rfl⟩ := hq
    exact ⟨fun _ => hat, fun e => absurd e (Nat.ne_of_lt hk23)⟩
  · have hne := ho _ (fun e => hq (w2 k' i' k i hk' (Nat.lt_trans hk23 (by decide)) h' hl e))
    refine ⟨fun e => ?_, fun e => ?_⟩
    · rw [zcon_congr (zup_other S k i f v hq) c1 c2 c3 c4]
      exact ((w1 k' i' hk' h').1 e).kept hne
    · rw [zup_other S k i f v hq]
      exact ((w1 k' i' hk' h').2 e).kept hne
theorem zWF.put {S : ZS} {k i f : Nat} {v : Int32} (h : zWF S) (hz : zfix k f = false) : zWF (zup S k i f v) := by
  have hn : k ≠ 7 ∨ f < 7 ∨ 10 < f := by
    by_cases h1 : k = 7
    · subst h1
      by_cases h2 : f < 7
      · exact Or.inr (Or.inl h2)
      · by_cases h3 : 10 < f
        · exact Or.inr (Or.inr h3)
        · have : (Nat.ble 7 f && Nat.ble f 10) = true := by simp [Nat.ble_eq]; omega
          simp [zfix, this] at hz
    · exact Or.inl h1
  obtain ⟨c1, c2, c3, c4⟩ := zup_cnt (S := S) (i := i) (v := v) hn
  obtain ⟨w1, w2, w3, w4⟩ := h
  have key : ∀ a b j, zfix a j = true → zup S k i f v a b j = S a b j := fun a b j hj => zfldS_up (fun q => by obtain ⟨rfl, -, rfl⟩ := q; rw [hz] at hj; cases hj)
  refine ⟨fun a ha => ?_, fun a ha => ?_, fun a ha => ?_, fun a ha => ?_⟩
  · rw [c1] at ha; rw [key 0 a 1 rfl]; exact w1 a ha
  · rw [c4] at ha; rw [key 1 a 0 rfl, c1]; exact w2 a ha
  · rw [c2] at ha; rw [key 3 a 2 rfl, key 3 a 3 rfl, c3]; exact w3 a ha
  · rw [c3] at ha; rw [key 6 a 1 rfl, c1]; exact w4 a ha
theorem zfix_n {k f : Nat} (hz : zfix k f = false) : k ≠ 7 ∨ f < 7 ∨ 10 < f := by
  by_cases h1 : k = 7
  · subst h1
    by_cases h2 : f < 7
    · exact Or.inr (Or.inl h2)
    · by_cases h3 : 10 < f
      · exact Or.inr (Or.inr h3)
      · have : (Nat.ble 7 f && Nat.ble f 10) = true := by simp [Nat.ble_eq]; omega
        simp [zfix, this] at hz
  · exact Or.inl h1
/-- a field that is a thing: it lives -/
theorem zfld_live {S : ZS} {k i f : Nat} (hw : zWF S) (hl : zlv S k i) (hk : k < 9) : zlvv S (zfldS (zshape k f) (S k i f) i f) := by
  obtain ⟨w1, w2, w3, w4⟩ := hw
  rcases (show k = 0 ∨ k = 1 ∨ k = 2 ∨ k = 3 ∨ k = 4 ∨ k = 5 ∨ k = 6 ∨ k = 7 ∨ k = 8 by omega) with rfl | rfl | rfl | rfl | rfl | rfl | rfl | rfl | rfl
  · match f with
    | 0 => trivial
    | 1 =>
      show zlvv S (Sum.inr (Sum.inr (if S 0 i 1 < 0 then none else some (0, (S 0 i 1).toNatClampNeg))))
      by_cases hc : S 0 i 1 < 0
      · rw [if_pos hc]; trivial
      · rw [if_neg hc]
        exact Nat.lt_trans ((w1 i hl).resolve_left hc) hl
    | 2 => exact hl
    | f + 3 => trivial
  · match f with
    | 0 => exact w2 i hl
    | f + 1 => trivial
  · trivial
  · match f with
    | 0 => trivial
    | 1 => trivial
    | 2 => exact (w3 i hl).1
    | 3 => exact (w3 i hl).2
    | 4 => trivial
    | 5 => trivial
    | 6 => trivial
    | 7 => trivial
    | 8 => trivial
    | 9 => trivial
    | 10 => exact hl
    | f + 11 => trivial
  · match f with
    | 0 => exact ⟨by decide, rfl⟩
    | 1 => exact ⟨by decide, rfl⟩
    | 2 => exact ⟨by decide, rfl⟩
    | 3 => exact ⟨by decide, rfl⟩
    | f + 4 => trivial
  · trivial
  · match f with
    | 0 => trivial
    | 1 => exact w4 i hl
    | 2 => exact hl
    | f + 3 => trivial
  · match f with
    | 0 => exact ⟨by decide, rfl⟩
    | 1 => exact ⟨by decide, rfl⟩
    | 2 => exact ⟨by decide, rfl⟩
    | 3 => exact ⟨by decide, rfl⟩
    | 4 => exact ⟨by decide, rfl⟩
    | 5 => exact ⟨by decide, rfl⟩
    | 6 => exact ⟨by decide, rfl⟩
    | f + 7 => trivial
  · exact False.elim hl
