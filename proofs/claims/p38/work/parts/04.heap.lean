/-! rows that read and write the world -/
section ZH
variable {X : ZX} {cc : ByteArray} {own : String} {ret : Option FieldType} {F Lo cx sx : Nat}
theorem zCx.hx (C : zCx X cc own ret F Lo cx sx) : X.p.tables.exec = Jvm.exec := C.1
theorem zCx.hb (C : zCx X cc own ret F Lo cx sx) : X.c.code = cc := C.2.1
theorem zCx.hml (C : zCx X cc own ret F Lo cx sx) : X.c.maxLocals = X.nL := C.2.2.1
theorem zCx.hw (C : zCx X cc own ret F Lo cx sx) : ∀ w ∈ wG, w.before X.a X.s = true := C.2.2.2.1
theorem zCx.hown (C : zCx X cc own ret F Lo cx sx) : X.s.vm.findClass own = some X.m.cls := C.2.2.2.2.1
theorem zCx.hlk (C : zCx X cc own ret F Lo cx sx) : X.meth.locks = false := C.2.2.2.2.2.1
theorem zCx.hr (C : zCx X cc own ret F Lo cx sx) : X.meth.sig.returnType = ret := C.2.2.2.2.2.2.1
theorem zCx.htr (C : zCx X cc own ret F Lo cx sx) : X.l.stackTraces = false := C.2.2.2.2.2.2.2.1
theorem zCx.hnh (C : zCx X cc own ret F Lo cx sx) (ho : own ≠ "PointsbookLaw") : ∀ x ∈ X.c.exceptionTable.toList, False := C.2.2.2.2.2.2.2.2.1.resolve_left ho
theorem zCx.hE (C : zCx X cc own ret F Lo cx sx) : zE X.g X.s := C.2.2.2.2.2.2.2.2.2.1
theorem zCx.hQ (C : zCx X cc own ret F Lo cx sx) : ∀ t, zEnd X t → X.Q t := C.2.2.2.2.2.2.2.2.2.2.1
theorem zCx.hF (C : zCx X cc own ret F Lo cx sx) : F ≤ X.R.frames := C.2.2.2.2.2.2.2.2.2.2.2.1
theorem zCx.hLo (C : zCx X cc own ret F Lo cx sx) : Lo ≤ X.R.locals := C.2.2.2.2.2.2.2.2.2.2.2.2.1
theorem zCx.hce (C : zCx X cc own ret F Lo cx sx) : X.ce + cx ≤ X.R.cells := C.2.2.2.2.2.2.2.2.2.2.2.2.2.1
theorem zCx.hsl (C : zCx X cc own ret F Lo cx sx) : X.sl + sx ≤ X.R.slots := C.2.2.2.2.2.2.2.2.2.2.2.2.2.2
/-- what is known of a kind of things -/
def zKl (k : Nat) (Cn : String) (T : u_T) (N : Nat) (ty : Nat → FieldType) : Prop :=
  vwCl[k]? = some (Cn, T, N) ∧ (∀ w ∈ u_ws Cn T N, w ∈ wG) ∧ (∀ j, j < N → parseFieldDescriptor (T j).2.2.1 = some (ty j)) ∧ (∀ a, a < N → ∀ b, b < N → a ≠ b → (T a).2.1 ≠ (T b).2.1) ∧ N = znf k ∧ k < 9
theorem zcon_ob {cA : Nat → ClassId} {ad : ZA} {S : ZS} {k i : Nat} (hk : k < 9) : zcon cA ad S k i = .inr (k, zobj ad (S k i) k i) := if_pos hk
theorem zP1 {D : va_G} {q : Nat × va_E} {H : Heap} (h : va_at D vwCl q H) : va_P D vwCl [q] H := fun k q' hk => by
  cases k with
  | zero => cases hk; exact h
  | succ k => cases hk
theorem zW.ob {g : ZG} {ad : ZA} {S : ZS} {H : Heap} (h : zW g ad S H) {k i : Nat} (hl : zlv S k i) (hk : k < 9) : va_at g.1 vwCl (ad k i, .inr (k, zobj ad (S k i) k i)) H := by
  have h1 := h.at (Nat.lt_trans hk (by decide)) hl
  rw [zcon_ob hk] at h1
  exact h1
theorem z_gf_ok {pc idx k f N : Nat} {Cn ref : String} {T : u_T} {ty : Nat → FieldType} {kk : ZP} (C : zCx X cc own ret F Lo cx sx) (hK : zKl k Cn T N ty) (hf : f < N) (hlink : Cond.fieldLink own idx ref (T f).2.1 (T f).2.2.1 ∈ wG) (href : (T f).1 = ref) (hd : decode cc pc = .ok (.getfield idx, 3)) (hk : ZOK X (pc + 3) kk) : ZOK X pc (z_gf k f kk) := by
  intro L st S ad H locs ls hP hW hM hE hS hL hl
  rcases st with _ | ⟨x | x | _ | ⟨a, i⟩, st⟩ <;> try exact False.elim hP
  have hP : (bif Nat.beq a k then kk L (zfld S k i f :: st) S X.K else False) := hP
  cases hq : Nat.beq a k with
  | false => rw [hq] at hP; exact False.elim hP
  | true =>
    rw [hq] at hP
    have hP : kk L (zfld S k i f :: st) S X.K := hP
    have ha : a = k := Nat.eq_of_beq_eq_true hq
    subst ha
    have hlv : zlv S a i := hl.1
    obtain ⟨h1, h2, h3, h4, h5, h6⟩ := hK
    refine va_get (D := X.g.1) (ci := a) (v := zc ad (zfld S a i f)) (C := Cn) (T := T) (N := N) C.hx C.hb C.hw h2 C.hown C.hE.2.1 (zP1 (hW.ob hlv h6)) 0 rfl h1 f hf (C.hw _ hlink) (fun x hx => by rw [← href]; exact hx) (zobj_get ad (S a i) a i f (by rw [← h5]; exact hf)) hd ?_
    exact hk L (zfld S a i f :: st) S ad H locs ls hP hW hM hE hS hL ⟨zfld_live hW.2.2.2 hlv h6, hl.2⟩
theorem z_gfn_ok {pc idx k f k2 N : Nat} {Cn ref : String} {T : u_T} {ty : Nat → FieldType} {kk : ZP} (C : zCx X cc own ret F Lo cx sx) (hK : zKl k Cn T N ty) (hsh : zshape k f = (4, k2)) (hf : f < N) (hlink : Cond.fieldLink own idx ref (T f).2.1 (T f).2.2.1 ∈ wG) (href : (T f).1 = ref) (hd : decode cc pc = .ok (.getfield idx, 3)) (hk : ZOK X (pc + 3) kk) : ZOK X pc (z_gfn k f k2 kk) := by
  intro L st S ad H locs ls hP hW hM hE hS hL hl
  refine z_gf_ok C hK hf hlink href hd hk L st S ad H locs ls ?_ hW hM hE hS hL hl
  rcases st with _ | ⟨x | x | _ | ⟨a, i⟩, st⟩ <;> try exact False.elim hP
  have hP : (bif Nat.beq a k then (S k i f < 0 → kk L (.inr (.inr none) :: st) S X.K) ∧ (¬ S k i f < 0 → kk L (.inr (.inr (some (k2, (S k i f).toNatClampNeg))) :: st) S X.K) else False) := hP
  show (bif Nat.beq a k then kk L (zfld S k i f :: st) S X.K else False)
  cases hq : Nat.beq a k with
  | false => rw [hq] at hP; exact False.elim hP
  | true =>
    rw [hq] at hP
    have hP : (S k i f < 0 → kk L (.inr (.inr none) :: st) S X.K) ∧ (¬ S k i f < 0 → kk L (.inr (.inr (some (k2, (S k i f).toNatClampNeg))) :: st) S X.K) := hP
    show kk L (zfldS (zshape k f) (S k i f) i f :: st) S X.K
    rw [hsh]
    show kk L (Sum.inr (Sum.inr (if S k i f < 0 then none else some (k2, (S k i f).toNatClampNeg))) :: st) S X.K
    by_cases hc : S k i f < 0
    · rw [if_pos hc]; exact hP.1 hc
    · rw [if_neg hc]; exact hP.2 hc
/-- a field is written: the cell by itself -/
theorem zput_raw {D : va_G} {cl : List vw_C} {tys : List (ClassId × FieldType)} {pc a : Nat} {H : Heap} {locs : List Loc} {ls : Array Slot} {rest : List Value} (hexec : X.p.tables.exec = Jvm.exec) (hb : X.c.code = cc) {own ref C : String} {T : u_T} {N ci index : Nat} {Ts : List Cond} (hts : ∀ w ∈ Ts, w.before X.a X.s = true) (hin : ∀ w ∈ u_ws C T N, w ∈ Ts) (ty0 : Nat → FieldType) (hty : ∀ k, k < N → parseFieldDescriptor (T k).2.2.1 = some (ty0 k)) (hnm : ∀ a, a < N → ∀ b, b < N → a ≠ b → (T a).2.1 ≠ (T b).2.1) (hown : X.s.vm.findClass own = some X.m.cls) (hK : va_K D cl tys X.s) {fs : List Value} (he : va_at D cl (a, .inr (ci, fs)) H) (hc : cl[ci]? = some (C, T, N)) (k : Nat) (hk : k < N) (hlink : (Cond.fieldLink own index ref (T k).2.1 (T k).2.2.1).before X.a X.s = true) (hsame : ∀ x, X.s.fieldFound? (T k).1 (T k).2.1 (T k).2.2.1 = some x → X.s.fieldFound? ref (T k).2.1 (T k).2.2.1 = some x) (hfin : (T k).2.2.2 = false) {ty : FieldType} {v : Value} (hd : parseFieldDescriptor (T k).2.2.1 = some ty) (hn : narrow ty v = v) (hfit : fits ty v = true) (hl : k < fs.length)
    (hdg : decode cc pc = .ok (.putfield index, 3)) (kk : ∀ (H1 : Heap) (j : Nat), va_at D cl (a, .inr (ci, fs.set k v)) H1 → H1.size = H.size → (∀ q : Nat, q ≠ a → H1[q]? = H[q]?) → zGo X H1 (locs ++ [⟨a, j⟩]) (F0 X.m (pc + 3) ls rest)) : zGo X H locs (F0 X.m pc ls (v :: .ref a :: rest)) := by
  have hap := va_apart (own := own) hts hin ty0 hty hnm hK hc
  obtain ⟨r, h1, cell, q1, q2, q3, q4⟩ := he
  have hr : r = (C, T, N) := Option.some.inj (h1.symm.trans hc)
  subst hr
  obtain ⟨hS, hfc, kC, hkC, hkind⟩ := hK.1 ci _ hc
  obtain ⟨cf, kf, fi, f, hi, hsl⟩ := hS k hk
  have hlay := hts _ (hin _ (u_in_lay hk))
  unfold u_lay at hlay
  rw [if_neg (by rw [hfin]; decide)] at hlay
  have hst := (u_facts hfc hkC (u_lays hts hin hk) hi).1
  have h6 := u_store hfc hkC hkind hlay hi hd hn hfit
  refine W.putK hexec hb (f := f) ⟨hown, hlink, ⟨_, _, _, hsame _ hi⟩, hst⟩ (by rw [q2]; exact h6) q1 q3 (by rw [hsl]; exact k2_hasslot (q4 k hk)) rfl rfl hdg fun H' e1 e2 e3 => ?_
  rw [hsl] at e1 ⊢
  exact kk H' _ ⟨_, hc, t_OB.to (V := updV (vp_V fs) k v) ⟨_, e1, q2, q3, t_set q4 hap hk v⟩ (fun j _ => vp_updV_set hl v j)⟩ e2 e3
theorem zobj_len {ad : ZA} {G : Nat → Int32} {k i : Nat} : (zobj ad G k i).length = znf k := by simp [zobj]
/-- behind a write of an int, or of a thing by its number -/
theorem zput_ok {pc idx k f N i : Nat} {Cn ref : String} {T : u_T} {ty : Nat → FieldType} {kk : ZP} {v : Int32} {x : ZV} {ft : FieldType} {L : List (Option ZV)} {st : List ZV} {S : ZS} {ad : ZA} {H : Heap} {locs : List Loc} {ls : Array Slot} (C : zCx X cc own ret F Lo cx sx) (hK : zKl k Cn T N ty) (hf : f < N) (hlink : Cond.fieldLink own idx ref (T f).2.1 (T f).2.2.1 ∈ wG) (href : (T f).1 = ref) (hfin : (T f).2.2.2 = false) (hft : parseFieldDescriptor (T f).2.2.1 = some ft) (hx : zfldS (zshape k f) v i f = x) (hnar : narrow ft (zc ad x) = zc ad x) (hfit : fits ft (zc ad x) = true) (hnc : k ≠ 7 ∨ f < 7 ∨ 10 < f) (hwf : zWF (zup S k i f v)) (hd : decode cc pc = .ok (.putfield idx, 3)) (hk : ZOK X (pc + 3) kk)
    (hlv : zlv S k i) (hP : kk L st (zup S k i f v) X.K) (hW : zW X.g ad S H) (hM : zMono X.S0 S) (hE : zExt X.S0 X.ad ad) (hS : va_S (zAA X.g) X.s.heap H locs) (hL : zLR ad S ls X.nL L) (hl : zlvs S st) : zGo X H locs (F0 X.m pc ls (zc ad x :: .ref (ad k i) :: st.map (zc ad))) := by
  obtain ⟨h1, h2, h3, h4, h5, h6⟩ := hK
  have hfk : f < znf k := by rw [← h5]; exact hf
  refine zput_raw (D := X.g.1) (ci := k) (ty := ft) (C := Cn) (T := T) (N := N) C.hx C.hb C.hw h2 ty h3 h4 C.hown C.hE.2.1 (hW.ob hlv h6) h1 f hf (C.hw _ hlink) (fun x hx => by rw [← href]; exact hx) hfin hft hnar hfit (by rw [zobj_len]; exact hfk) hd fun H1 j hat hz ho => ?_
  have hcnt := zup_cnt (S := S) (i := i) (v := v) hnc
  have hmono : zMono S (zup S k i f v) := ⟨Nat.le_of_eq hcnt.1.symm, Nat.le_of_eq hcnt.2.1.symm, Nat.le_of_eq hcnt.2.2.1.symm, Nat.le_of_eq hcnt.2.2.2.symm⟩
  refine hk L st (zup S k i f v) ad H1 _ ls hP (hW.put (Nat.lt_trans h6 (by decide)) hlv hnc hwf ?_ ho) (hM.tr hmono) hE (hS.put hz ho (hW.2.2.1 k i (Nat.lt_trans h6 (by decide)) hlv)) (hL.ext hmono zExt.rf) (hl.mono hmono)
  rw [zcon_ob h6, zup_fun, zobj_set ad (S k i) k i f v hfk x hx]
  exact hat
theorem z_pf_ok {pc idx k f N : Nat} {Cn ref : String} {T : u_T} {ty : Nat → FieldType} {kk : ZP} (C : zCx X cc own ret F Lo cx sx) (hK : zKl k Cn T N ty) (hsh : (zshape k f).1 = 0) (hz : zfix k f = false) (hf : f < N) (hlink : Cond.fieldLink own idx ref (T f).2.1 (T f).2.2.1 ∈ wG) (href : (T f).1 = ref) (hfin : (T f).2.2.2 = false) (hft : parseFieldDescriptor (T f).2.2.1 = some .int) (hd : decode cc pc = .ok (.putfield idx, 3)) (hk : ZOK X (pc + 3) kk) : ZOK X pc (z_pf k f kk) := by
  intro L st S ad H locs ls hP hW hM hE hS hL hl
  rcases st with _ | ⟨v | v, _ | ⟨x | x | _ | ⟨a, i⟩, st⟩⟩ <;> try exact False.elim hP
  have hP : (bif Nat.beq a k then kk L st (zup S k i f v) X.K else False) := hP
  cases hq : Nat.beq a k with
  | false => rw [hq] at hP; exact False.elim hP
  | true =>
    rw [hq] at hP
    have ha : a = k := Nat.eq_of_beq_eq_true hq
    subst ha
    exact zput_ok (x := .inl v) (ft := .int) C hK hf hlink href hfin hft (by unfold zfldS; rw [hsh]; rfl) rfl rfl (zfix_n hz) (hW.2.2.2.put hz) hd hk hl.2.1 hP hW hM hE hS hL hl.2.2
theorem z_pfz_ok {pc idx k f N : Nat} {Cn ref : String} {T : u_T} {ty : Nat → FieldType} {kk : ZP} (C : zCx X cc own ret F Lo cx sx) (hK : zKl k Cn T N ty) (hsh : (zshape k f).1 = 0) (hz : zfix k f = false) (hf : f < N) (hlink : Cond.fieldLink own idx ref (T f).2.1 (T f).2.2.1 ∈ wG) (href : (T f).1 = ref) (hfin : (T f).2.2.2 = false) (hft : parseFieldDescriptor (T f).2.2.1 = some .boolean) (hd : decode cc pc = .ok (.putfield idx, 3)) (hk : ZOK X (pc + 3) kk) : ZOK X pc (z_pfz k f kk) := by
  intro L st S ad H locs ls hP hW hM hE hS hL hl
  rcases st with _ | ⟨v | v, _ | ⟨x | x | _ | ⟨a, i⟩, st⟩⟩ <;> try exact False.elim hP
  have hP : (bif Nat.beq a k then (v = 0 ∨ v = 1) ∧ kk L st (zup S k i f v) X.K else False) := hP
  cases hq : Nat.beq a k with
  | false => rw [hq] at hP; exact False.elim hP
  | true =>
    rw [hq] at hP
    obtain ⟨h01, hP⟩ := hP
    have ha : a = k := Nat.eq_of_beq_eq_true hq
    subst ha
    exact zput_ok (x := .inl v) (ft := .boolean) C hK hf hlink href hfin hft (by unfold zfldS; rw [hsh]; rfl) (by rcases h01 with rfl | rfl <;> rfl) (by rcases h01 with rfl | rfl <;> rfl) (zfix_n hz) (hW.2.2.2.put hz) hd hk hl.2.1 hP hW hM hE hS hL hl.2.2
theorem zn_lt (x : Int32) : x.toNatClampNeg < 2 ^ 31 := by
  have h1 : x.toNatClampNeg = x.toInt.toNat := rfl
  have h2 := Int32.toInt_lt x
  omega
theorem z_pfr_ok {pc idx f N : Nat} {Cn ref : String} {T : u_T} {ty : Nat → FieldType} {kk : ZP} (C : zCx X cc own ret F Lo cx sx) (hK : zKl 3 Cn T N ty) (hf23 : f = 2 ∨ f = 3) (hf : f < N) (hlink : Cond.fieldLink own idx ref (T f).2.1 (T f).2.2.1 ∈ wG) (href : (T f).1 = ref) (hfin : (T f).2.2.2 = false) (hft : parseFieldDescriptor (T f).2.2.1 = some (.object "Pointsbook$Shop")) (hd : decode cc pc = .ok (.putfield idx, 3)) (hk : ZOK X (pc + 3) kk) : ZOK X pc (z_pfr f kk) := by
  intro L st S ad H locs ls hP hW hM hE hS hL hl
  rcases st with _ | ⟨v | v | _ | ⟨b, j⟩, _ | ⟨x | x | _ | ⟨a, i⟩, st⟩⟩ <;> try exact False.elim hP
  have hP2 : (bif Nat.beq a 3 && Nat.beq b 6 then kk L st (zup S 3 i f (nI j)) X.K else False) := hP
  cases hq : Nat.beq a 3 && Nat.beq b 6 with
  | false => rw [hq] at hP2; exact False.elim hP2
  | true =>
    rw [hq] at hP2
    have hP3 : kk L st (zup S 3 i f (nI j)) X.K := hP2
    obtain ⟨ha, hb⟩ := (Bool.and_eq_true _ _).mp hq
    have ha : a = 3 := Nat.eq_of_beq_eq_true ha
    have hb : b = 6 := Nat.eq_of_beq_eq_true hb
    subst ha; subst hb
    have hjs : j < nS S := hl.1
    have hj : j < 2 ^ 31 := Nat.lt_trans hjs (zn_lt _)
    have hsh : zshape 3 f = (3, 6) := by rcases hf23 with rfl | rfl <;> rfl
    have hx : zfldS (zshape 3 f) (nI j) i f = .inr (.inr (some (6, j))) := by
      rw [hsh]
      show zr 6 (nI j).toNatClampNeg = _
      rw [nI_clamp hj]
    have hnc : 3 ≠ 7 ∨ f < 7 ∨ 10 < f := Or.inl (by decide)
    have hwf : zWF (zup S 3 i f (nI j)) := by
      obtain ⟨c1, c2, c3, c4⟩ := zup_cnt (S := S) (i := i) (v := nI j) hnc
      obtain ⟨w1, w2, w3, w4⟩ := hW.2.2.2
      have key : ∀ a b j', a ≠ 3 → zup S 3 i f (nI j) a b j' = S a b j' := fun a b j' h => zfldS_up (fun q => h q.1)
      refine ⟨fun a ha => ?_, fun a ha => ?_, fun a ha => ?_, fun a ha => ?_⟩
      · rw [c1] at ha; rw [key 0 a 1 (by decide)]; exact w1 a ha
      · rw [c4] at ha; rw [key 1 a 0 (by decide), c1]; exact w2 a ha
      · rw [c2] at ha
        rw [c3]
        have h23 : ∀ f', (zup S 3 i f (nI j) 3 a f').toNatClampNeg = if a = i ∧ f' = f then j else (S 3 a f').toNatClampNeg := by
          intro f'
          by_cases he : a = i ∧ f' = f
          · rw [if_pos he, he.1, he.2, zup_self, nI_clamp hj]
          · rw [if_neg he, zfldS_up (fun q => he ⟨q.2.1, q.2.2⟩)]
        rw [h23, h23]
        have := w3 a ha
        constructor <;> split <;> omega
      · rw [c3] at ha; rw [key 6 a 1 (by decide), c1]; exact w4 a ha
    exact zput_ok (x := .inr (.inr (some (6, j)))) (ft := .object "Pointsbook$Shop") C hK hf hlink href hfin hft hx rfl rfl hnc hwf hd hk hl.2.1 hP3 hW hM hE hS hL hl.2.2
-- rows of ints
def zrow (k : Nat) : Bool := (Nat.ble 9 k && Nat.ble k 15) || Nat.beq k 22
theorem zcon_row {cA : Nat → ClassId} {ad : ZA} {S : ZS} {k i : Nat} (hk : zrow k = true) : zcon cA ad S k i = .inl (cA 0, (zlen k i, .inl (S k i))) := by
  have h : k = 9 ∨ k = 10 ∨ k = 11 ∨ k = 12 ∨ k = 13 ∨ k = 14 ∨ k = 15 ∨ k = 22 := by
    simp only [zrow, Bool.or_eq_true, Bool.and_eq_true, Nat.ble_eq, Nat.beq_eq] at hk
    omega
  rcases h with rfl | rfl | rfl | rfl | rfl | rfl | rfl | rfl <;> rfl
theorem zrow_lt {k : Nat} (hk : zrow k = true) : k < 23 := by
  simp only [zrow, Bool.or_eq_true, Bool.and_eq_true, Nat.ble_eq, Nat.beq_eq] at hk
  omega
theorem z_iald_ok {pc : Nat} {kk : ZP} (C : zCx X cc own ret F Lo cx sx) (hd : decode cc pc = .ok (.iaload, 1)) (hk : ZOK X (pc + 1) kk) : ZOK X pc (z_iald kk) := by
  intro L st S ad H locs ls hP hW hM hE hS hL hl
  rcases st with _ | ⟨v | v, _ | ⟨x | x | _ | ⟨a, i⟩, st⟩⟩ <;> try exact False.elim hP
  have hP : (bif zrow a then vp_in v (zlen a i) ∧ kk L (.inl (S a i v.toNatClampNeg) :: st) S X.K else False) := hP
  cases hq : zrow a with
  | false => rw [hq] at hP; exact False.elim hP
  | true =>
    rw [hq] at hP
    obtain ⟨hin, hP⟩ := hP
    have h1 := hW.at (zrow_lt hq) hl.2.1
    rw [zcon_row hq] at h1
    exact va_iald C.hx C.hb C.hE.2.1 (zP1 h1) 0 0 rfl rfl hin hd (hk L (.inl (S a i v.toNatClampNeg) :: st) S ad H locs ls hP hW hM hE hS hL ⟨trivial, hl.2.2⟩)
theorem zrow_n {k f : Nat} (h : 9 ≤ k) : zfix k f = false := by
  have h7 : Nat.beq k 7 = false := by rw [Bool.eq_false_iff]; intro h; have := Nat.eq_of_beq_eq_true h; omega
  have h0 : Nat.beq k 0 = false := by rw [Bool.eq_false_iff]; intro h; have := Nat.eq_of_beq_eq_true h; omega
  have h1 : Nat.beq k 1 = false := by rw [Bool.eq_false_iff]; intro h; have := Nat.eq_of_beq_eq_true h; omega
  have h3 : Nat.beq k 3 = false := by rw [Bool.eq_false_iff]; intro h; have := Nat.eq_of_beq_eq_true h; omega
  have h6 : Nat.beq k 6 = false := by rw [Bool.eq_false_iff]; intro h; have := Nat.eq_of_beq_eq_true h; omega
  simp [zfix, h7, h0, h1, h3, h6]
theorem zup_upd (S : ZS) (k i j : Nat) (v : Int32) : zup S k i j v k i = upd (S k i) j v := by
  rw [zup_fun]; rfl
theorem zast_ok {pc k i j : Nat} {kk : ZP} {v : Int32} {L : List (Option ZV)} {st : List ZV} {S : ZS} {ad : ZA} {H H1 : Heap} {locs : List Loc} {ls : Array Slot} (h9 : 9 ≤ k) (h25 : k < 23) (hk : ZOK X (pc + 1) kk)
    (hlv : zlv S k i) (hP : kk L st (zup S k i j v) X.K) (hW : zW X.g ad S H) (hM : zMono X.S0 S) (hE : zExt X.S0 X.ad ad) (hS : va_S (zAA X.g) X.s.heap H locs) (hL : zLR ad S ls X.nL L) (hl : zlvs S st)
    (hat : va_at X.g.1 vwCl (ad k i, zcon X.g.2.1 ad (zup S k i j v) k i) H1) (hz : H1.size = H.size) (ho : ∀ q : Nat, q ≠ ad k i → H1[q]? = H[q]?) (j9 : Nat) : zGo X H1 (locs ++ [⟨ad k i, j9⟩]) (F0 X.m (pc + 1) ls (st.map (zc ad))) := by
  have hfx : zfix k j = false := zrow_n h9
  have hcnt := zup_cnt (S := S) (i := i) (v := v) (zfix_n hfx)
  have hmono : zMono S (zup S k i j v) := ⟨Nat.le_of_eq hcnt.1.symm, Nat.le_of_eq hcnt.2.1.symm, Nat.le_of_eq hcnt.2.2.1.symm, Nat.le_of_eq hcnt.2.2.2.symm⟩
  exact hk L st (zup S k i j v) ad H1 _ ls hP (hW.put h25 hlv (zfix_n hfx) (hW.2.2.2.put hfx) hat ho) (hM.tr hmono) hE (hS.put hz ho (hW.2.2.1 k i h25 hlv)) (hL.ext hmono zExt.rf) (hl.mono hmono)
theorem z_iast_ok {pc : Nat} {kk : ZP} (C : zCx X cc own ret F Lo cx sx) (hd : decode cc pc = .ok (.iastore, 1)) (hk : ZOK X (pc + 1) kk) : ZOK X pc (z_iast kk) := by
  intro L st S ad H locs ls hP hW hM hE hS hL hl
  rcases st with _ | ⟨v | v, _ | ⟨y | y, _ | ⟨x | x | _ | ⟨a, i⟩, st⟩⟩⟩ <;> try exact False.elim hP
  have hP : (bif zrow a then vp_in y (zlen a i) ∧ kk L st (zup S a i y.toNatClampNeg v) X.K else False) := hP
  cases hq : zrow a with
  | false => rw [hq] at hP; exact False.elim hP
  | true =>
    rw [hq] at hP
    obtain ⟨hin, hP⟩ := hP
    have h9 : 9 ≤ a := by
      simp only [zrow, Bool.or_eq_true, Bool.and_eq_true, Nat.ble_eq, Nat.beq_eq] at hq
      omega
    have h1 := hW.at (zrow_lt hq) hl.2.2.1
    rw [zcon_row hq] at h1
    refine W.iast C.hx C.hb h1 ((C.hE.2.1.2 0 _ rfl).1 (zlen a i) (fun j => .int (S a i j))) (fun q => by cases q) (by show ¬ (y < 0 ∨ (arrV _ _ _).slots.size ≤ _); rw [arrV_size]; exact hin) rfl rfl hd fun H1 e z oq => ?_
    refine zast_ok h9 (zrow_lt hq) hk hl.2.2.1 hP hW hM hE hS hL hl.2.2.2 ?_ z oq y.toNatClampNeg
    rw [zcon_row hq, zup_upd]
    show H1[ad a i]? = some (vp_cell _ _)
    rw [e]
    rw [vp_cell_i, vp_cell_i, arrV_store]
    congr 2
    funext q
    by_cases hq : q = y.toNatClampNeg
    · subst hq
      simp [updV, upd]
    · simp [updV, upd, hq]
-- rows of things
def ztc (k : Nat) : Nat := match k with
  | 16 => 4
  | 17 => 5
  | 18 => 2
  | 19 => 7
  | 20 => 3
  | _ => 6
theorem z_aald_ok {pc : Nat} {kk : ZP} (C : zCx X cc own ret F Lo cx sx) (hd : decode cc pc = .ok (.aaload, 1)) (hk : ZOK X (pc + 1) kk) : ZOK X pc (z_aald kk) := by
  intro L st S ad H locs ls hP hW hM hE hS hL hl
  rcases st with _ | ⟨v | v, _ | ⟨x | x | _ | ⟨a, i⟩, st⟩⟩ <;> try exact False.elim hP
  have hP : (bif Nat.ble 16 a && Nat.ble a 21 then vp_in v (zlen a i) ∧ v.toNatClampNeg < zcnt S a ∧ kk L (.inr (.inr (some (zchild a i v.toNatClampNeg))) :: st) S X.K else False) := hP
  cases hq : Nat.ble 16 a && Nat.ble a 21 with
  | false => rw [hq] at hP; exact False.elim hP
  | true =>
    rw [hq] at hP
    obtain ⟨hin, hcn, hP⟩ := hP
    have ha : a = 16 ∨ a = 17 ∨ a = 18 ∨ a = 19 ∨ a = 20 ∨ a = 21 := by
      simp only [Bool.and_eq_true, Nat.ble_eq] at hq
      omega
    have h1 := hW.at (by omega) hl.2.1
    have hk' := fun hlv => hk L (.inr (.inr (some (zchild a i v.toNatClampNeg))) :: st) S ad H locs ls hP hW hM hE hS hL ⟨hlv, hl.2.2⟩
    rcases ha with rfl | rfl | rfl | rfl | rfl | rfl
    · exact va_aldq C.hx C.hb C.hE.2.1 (zP1 h1) 0 4 rfl rfl hin hd (hk' hcn)
    · refine va_aldq C.hx C.hb C.hE.2.1 (zP1 h1) 0 5 rfl rfl hin hd ?_
      rw [if_pos (show v.toNatClampNeg < nP S from hcn)]
      exact hk' hcn
    · refine va_aldq C.hx C.hb C.hE.2.1 (zP1 h1) 0 2 rfl rfl hin hd ?_
      rw [if_pos (show v.toNatClampNeg < nD S from hcn)]
      exact hk' hcn
    · refine va_aldq C.hx C.hb C.hE.2.1 (zP1 h1) 0 7 rfl rfl hin hd ?_
      rw [if_pos (show v.toNatClampNeg < nS S from hcn)]
      exact hk' hcn
    · refine va_aldq C.hx C.hb C.hE.2.1 (zP1 h1) 0 3 rfl rfl hin hd ?_
      rw [if_pos (show v.toNatClampNeg < nF S from hcn)]
      exact hk' hcn
    · refine va_aldq C.hx C.hb C.hE.2.1 (zP1 h1) 0 6 rfl rfl hin hd (hk' ?_)
      have hi : i < nS S := hl.2.1
      have hv : v.toNatClampNeg < 6 := hcn
      show 6 * i + v.toNatClampNeg < 6 * nS S
      omega
theorem z_alen_ok {pc : Nat} {kk : ZP} (C : zCx X cc own ret F Lo cx sx) (hd : decode cc pc = .ok (.arraylength, 1)) (hk : ZOK X (pc + 1) kk) : ZOK X pc (z_alen kk) := by
  intro L st S ad H locs ls hP hW hM hE hS hL hl
  rcases st with _ | ⟨x | x | _ | ⟨a, i⟩, st⟩ <;> try exact False.elim hP
  have hP : (bif Nat.ble 9 a && Nat.ble a 22 then kk L (.inl (nI (zlen a i)) :: st) S X.K else False) := hP
  cases hq : Nat.ble 9 a && Nat.ble a 22 with
  | false => rw [hq] at hP; exact False.elim hP
  | true =>
    rw [hq] at hP
    have h1 := hW.at (by simp only [Bool.and_eq_true, Nat.ble_eq] at hq; omega) hl.1
    have hk' := hk L (.inl (nI (zlen a i)) :: st) S ad H locs ls hP hW hM hE hS hL ⟨trivial, hl.2⟩
    have ha : a = 16 ∨ a = 17 ∨ a = 18 ∨ a = 19 ∨ a = 20 ∨ a = 21 ∨ a = 23 ∨ zrow a = true := by
      simp only [zrow, Bool.or_eq_true, Bool.and_eq_true, Nat.ble_eq, Nat.beq_eq] at hq ⊢
      omega
    rcases ha with rfl | rfl | rfl | rfl | rfl | rfl | rfl | hr
    · exact va_alen C.hx C.hb C.hE.2.1 (zP1 h1) 0 4 rfl rfl rfl hd hk'
    · exact va_alen C.hx C.hb C.hE.2.1 (zP1 h1) 0 5 rfl rfl rfl hd hk'
    · exact va_alen C.hx C.hb C.hE.2.1 (zP1 h1) 0 2 rfl rfl rfl hd hk'
    · exact va_alen C.hx C.hb C.hE.2.1 (zP1 h1) 0 7 rfl rfl rfl hd hk'
    · exact va_alen C.hx C.hb C.hE.2.1 (zP1 h1) 0 3 rfl rfl rfl hd hk'
    · exact va_alen C.hx C.hb C.hE.2.1 (zP1 h1) 0 6 rfl rfl rfl hd hk'
    · cases hq
    · rw [zcon_row hr] at h1
      exact va_alen C.hx C.hb C.hE.2.1 (zP1 h1) 0 0 rfl rfl rfl hd hk'
/-- the script: its length, its numbers -/
def z_sln (kk : ZP) : ZP := fun L st S K => match st with
  | .inr (.inr (some q)) :: st => bif Nat.beq q.1 23 then kk L (.inl (nI (S 23 q.2 1000).toNatClampNeg) :: st) S K else False
  | _ => False
theorem z_sln_ok {pc : Nat} {kk : ZP} (C : zCx X cc own ret F Lo cx sx) (hd : decode cc pc = .ok (.arraylength, 1)) (hk : ZOK X (pc + 1) kk) : ZOK X pc (z_sln kk) := by
  intro L st S ad H locs ls hP hW hM hE hS hL hl
  rcases st with _ | ⟨x | x | _ | ⟨a, i⟩, st⟩ <;> try exact False.elim hP
  have hP2 : (bif Nat.beq a 23 then kk L (.inl (nI (S 23 i 1000).toNatClampNeg) :: st) S X.K else False) := hP
  cases hq : Nat.beq a 23 with
  | false => rw [hq] at hP2; exact False.elim hP2
  | true =>
    rw [hq] at hP2
    have ha : a = 23 := Nat.eq_of_beq_eq_true hq
    subst ha
    obtain ⟨scr, g1, g2, g3, g4, g5, g6⟩ := (hW.1 23 i (by decide) (show zlv S 23 i from hl.1)).2 rfl
    have harr : X.s.isArrayOf scr .int := ⟨g3, by rw [g2]; exact (C.hE.1.2.2 0 (fun _ => .null)).2⟩
    exact W.alen (n := Int32.ofNat (S 23 i 1000).toNatClampNeg) C.hx C.hb g1 harr (by rw [g5] <;> rfl) rfl rfl hd (hk L (.inl (nI (S 23 i 1000).toNatClampNeg) :: st) S ad H locs ls hP2 hW hM hE hS hL ⟨trivial, hl.2⟩)
def z_sld (kk : ZP) : ZP := fun L st S K => match st with
  | .inl i :: .inr (.inr (some q)) :: st => bif Nat.beq q.1 23 then vp_in i (S 23 q.2 1000).toNatClampNeg ∧ kk L (.inl (S 23 q.2 i.toNatClampNeg) :: st) S K else False
  | _ => False
theorem z_sld_ok {pc : Nat} {kk : ZP} (C : zCx X cc own ret F Lo cx sx) (hd : decode cc pc = .ok (.iaload, 1)) (hk : ZOK X (pc + 1) kk) : ZOK X pc (z_sld kk) := by
  intro L st S ad H locs ls hP hW hM hE hS hL hl
  rcases st with _ | ⟨v | v, _ | ⟨x | x | _ | ⟨a, i⟩, st⟩⟩ <;> try exact False.elim hP
  have hP2 : (bif Nat.beq a 23 then vp_in v (S 23 i 1000).toNatClampNeg ∧ kk L (.inl (S 23 i v.toNatClampNeg) :: st) S X.K else False) := hP
  cases hq : Nat.beq a 23 with
  | false => rw [hq] at hP2; exact False.elim hP2
  | true =>
    rw [hq] at hP2
    obtain ⟨hin, hP3⟩ := hP2
    have ha : a = 23 := Nat.eq_of_beq_eq_true hq
    subst ha
    obtain ⟨scr, g1, g2, g3, g4, g5, g6⟩ := (hW.1 23 i (by decide) (show zlv S 23 i from hl.2.1)).2 rfl
    have harr : X.s.isArrayOf scr .int := ⟨g3, by rw [g2]; exact (C.hE.1.2.2 0 (fun _ => .null)).2⟩
    have hlt : v.toNatClampNeg < (S 23 i 1000).toNatClampNeg := Nat.not_le.mp fun q => hin (Or.inr q)
    exact W.iald (v := .int (S 23 i v.toNatClampNeg)) C.hx C.hb g1 harr g4 (by rw [g5]; exact hin) (g6 _ hlt) rfl rfl hd (hk L (.inl (S 23 i v.toNatClampNeg) :: st) S ad H locs ls hP3 hW hM hE hS hL ⟨trivial, hl.2.2⟩)
theorem z_ldc_ok {pc idx : Nat} {v : Int32} {k : ZP} (C : zCx X cc own ret F Lo cx sx) (hw : Cond.constant own idx v ∈ wG) (hd : decode cc pc = .ok (.ldc idx, 2)) (hk : ZOK X (pc + 2) k) : ZOK X pc (z_push v k) := fun L st S ad H locs ls hP hW hM hE hS hL hl => lv_ldc C.hx C.hb C.hown (C.hw _ hw) hd (hk L (.inl v :: st) S ad H locs ls hP hW hM hE hS hL ⟨trivial, hl⟩)
theorem z_ldcw_ok {pc idx : Nat} {v : Int32} {k : ZP} (C : zCx X cc own ret F Lo cx sx) (hw : Cond.constant own idx v ∈ wG) (hd : decode cc pc = .ok (.ldc_w idx, 3)) (hk : ZOK X (pc + 3) k) : ZOK X pc (z_push v k) := fun L st S ad H locs ls hP hW hM hE hS hL hl => lv_ldcw C.hx C.hb C.hown (C.hw _ hw) hd (hk L (.inl v :: st) S ad H locs ls hP hW hM hE hS hL ⟨trivial, hl⟩)
theorem z_ldc2_ok {pc idx : Nat} {v : Int64} {k : ZP} (C : zCx X cc own ret F Lo cx sx) (hw : Cond.constantLong own idx v ∈ wG) (hd : decode cc pc = .ok (.ldc2_w idx, 3)) (hk : ZOK X (pc + 3) k) : ZOK X pc (z_lpush v k) := fun L st S ad H locs ls hP hW hM hE hS hL hl => lv_ldc2 C.hx C.hb C.hown (C.hw _ hw) hd (hk L (.inr (.inl v) :: st) S ad H locs ls hP hW hM hE hS hL ⟨trivial, hl⟩)
theorem zcat_le (v : Value) : v.category ≤ 2 := by rcases lv_cat v with h | h <;> omega
theorem zsum (ad : ZA) : ∀ st : List ZV, ((st.map (zc ad)).map fun v => v.category).sum ≤ 2 * st.length
  | [] => Nat.le_refl _
  | v :: st => by
    have h1 := zsum ad st
    have h2 := zcat_le (zc ad v)
    simp only [List.map_cons, List.sum_cons, List.length_cons]
    omega
def z_mm (f : Int32 → Int32 → Int32) (k : ZP) : ZP := fun L st S K => match st with
  | .inl y :: .inl x :: st => bif Nat.ble st.length 4 then k L (.inl (f x y) :: st) S K else False
  | _ => False
theorem z_min_ok {pc idx : Nat} {k : ZP} (C : zCx X cc own ret F Lo cx sx) (hF : 1 ≤ F) (hLo : 21 ≤ Lo) (h1 : Cond.methodLink own idx Lib.Math.min.name ∈ wG) (h2 : Cond.static Lib.Math.min.name ∈ wG) (h3 : Cond.initialized "java/lang/Math" ∈ wG) (h4 : Cond.code Lib.Math.min.name Lib.Math.min.code 2 (some .int) ∈ wG) (hd : decode cc pc = .ok (.invokestatic idx, 3)) (hk : ZOK X (pc + 3) k) : ZOK X pc (z_mm (fun x y => if y < x then y else x) k) := by
  intro L st S ad H locs ls hP hW hM hE hS hL hl
  rcases st with _ | ⟨y | y, _ | ⟨x | x, st⟩⟩ <;> try exact False.elim hP
  have hP : (bif Nat.ble st.length 4 then k L (.inl (if y < x then y else x) :: st) S X.K else False) := hP
  cases hq : Nat.ble st.length 4 with
  | false => rw [hq] at hP; exact False.elim hP
  | true =>
    rw [hq] at hP
    have hlen := Nat.le_of_ble_eq_true hq
    have hs := zsum ad st
    exact va_mmin C.hx C.hb (C.hml.trans hL.1.symm) C.hown (C.hw _ h1) (C.hw _ h2) (C.hw _ h3) (C.hw _ h4) (Nat.le_trans hF C.hF) (Nat.le_trans (by omega) (Nat.le_trans hLo C.hLo)) (Nat.le_trans (Nat.le_add_right _ _) C.hce) (Nat.le_trans (Nat.le_add_right _ _) C.hsl) hd (hk L (.inl (if y < x then y else x) :: st) S ad H locs ls hP hW hM hE hS hL ⟨trivial, hl.2.2⟩)
theorem z_max_ok {pc idx : Nat} {k : ZP} (C : zCx X cc own ret F Lo cx sx) (hF : 1 ≤ F) (hLo : 21 ≤ Lo) (h1 : Cond.methodLink own idx Lib.Math.max.name ∈ wG) (h2 : Cond.static Lib.Math.max.name ∈ wG) (h3 : Cond.initialized "java/lang/Math" ∈ wG) (h4 : Cond.code Lib.Math.max.name Lib.Math.max.code 2 (some .int) ∈ wG) (hd : decode cc pc = .ok (.invokestatic idx, 3)) (hk : ZOK X (pc + 3) k) : ZOK X pc (z_mm (fun x y => if x < y then y else x) k) := by
  intro L st S ad H locs ls hP hW hM hE hS hL hl
  rcases st with _ | ⟨y | y, _ | ⟨x | x, st⟩⟩ <;> try exact False.elim hP
  have hP : (bif Nat.ble st.length 4 then k L (.inl (if x < y then y else x) :: st) S X.K else False) := hP
  cases hq : Nat.ble st.length 4 with
  | false => rw [hq] at hP; exact False.elim hP
  | true =>
    rw [hq] at hP
    have hlen := Nat.le_of_ble_eq_true hq
    have hs := zsum ad st
    exact va_mmax C.hx C.hb (C.hml.trans hL.1.symm) C.hown (C.hw _ h1) (C.hw _ h2) (C.hw _ h3) (C.hw _ h4) (Nat.le_trans hF C.hF) (Nat.le_trans (by omega) (Nat.le_trans hLo C.hLo)) (Nat.le_trans (Nat.le_add_right _ _) C.hce) (Nat.le_trans (Nat.le_add_right _ _) C.hsl) hd (hk L (.inl (if x < y then y else x) :: st) S ad H locs ls hP hW hM hE hS hL ⟨trivial, hl.2.2⟩)
-- the ends
theorem zWmono {H : Heap} {locs : List Loc} {Q : State → Prop} {f : JFrame} (hQ : ∀ t, Q t → X.Q t) (h : W X.p X.l X.e X.R X.s X.m X.a X.b X.meth X.c H locs X.ce X.sl Q f) : zGo X H locs f := fun T hT Y => by
  obtain ⟨t, h1, h2⟩ := h T hT Y
  exact ⟨t, h1, hQ t h2⟩
theorem zMQ_end (t : State) (h : MQ X.b (zQc X.g X.ad X.S0 X.K) X.a X.s X.ce X.sl (zAA X.g) t) : zEnd X t := by
  obtain ⟨o, h1, h2, h3, h4⟩ := h
  exact ⟨o, h1, h2, Or.inl ⟨h3, h4⟩⟩
theorem z_iret_ok {pc : Nat} (C : zCx X cc own (some .int) F Lo cx sx) (hd : decode cc pc = .ok (.ireturn, 1)) : ZOK X pc (z_ret 1) := by
  intro L st S ad H locs ls hP hW hM hE hS hL hl
  rcases st with _ | ⟨x | x | x, _ | ⟨y, st⟩⟩ <;> try exact False.elim hP
  exact zWmono (fun t ht => C.hQ t (zMQ_end t ht)) (W.iret C.hx C.hb C.hr (fun t ht hw => ⟨some (.inl x), S, ad, rfl, hP, by rw [ht]; exact hW, hM, hE, fun v hv => by cases hv; exact ⟨trivial, trivial⟩, hS.F ht⟩) hS.2.2 hd C.hlk)
theorem z_zret_ok {pc : Nat} (C : zCx X cc own (some .boolean) F Lo cx sx) (hd : decode cc pc = .ok (.ireturn, 1)) : ZOK X pc (z_ret 2) := by
  intro L st S ad H locs ls hP hW hM hE hS hL hl
  rcases st with _ | ⟨x | x | x, _ | ⟨y, st⟩⟩ <;> try exact False.elim hP
  obtain ⟨h01, hP⟩ := (show (x = 0 ∨ x = 1) ∧ X.K (.inl (some (.inl x))) S from hP)
  exact zWmono (fun t ht => C.hQ t (zMQ_end t ht)) (W.zret C.hx C.hb C.hr (by rcases h01 with rfl | rfl <;> rfl) (fun t ht hw => ⟨some (.inl x), S, ad, rfl, hP, by rw [ht]; exact hW, hM, hE, fun v hv => by cases hv; exact ⟨trivial, trivial⟩, hS.F ht⟩) hS.2.2 hd C.hlk)
theorem z_aret_ok {pc : Nat} {n : String} (C : zCx X cc own (some (.object n)) F Lo cx sx) (hd : decode cc pc = .ok (.areturn, 1)) : ZOK X pc (z_ret 3) := by
  intro L st S ad H locs ls hP hW hM hE hS hL hl
  rcases st with _ | ⟨x | x | x, _ | ⟨y, st⟩⟩ <;> try exact False.elim hP
  exact zWmono (fun t ht => C.hQ t (zMQ_end t ht)) (W.aret (v := zc ad (.inr (.inr x))) C.hx C.hb C.hr (Or.inl ⟨n, rfl⟩) (by cases x with
    | none => exact Or.inl rfl
    | some q => exact Or.inr ⟨_, rfl⟩) (fun t ht hw => ⟨some (.inr (.inr x)), S, ad, rfl, hP, by rw [ht]; exact hW, hM, hE, fun v hv => by cases hv; exact ⟨hl.1, trivial⟩, hS.F ht⟩) hS.2.2 hd C.hlk)
theorem z_vret_ok {pc : Nat} (C : zCx X cc own none F Lo cx sx) (hd : decode cc pc = .ok (.return_, 1)) : ZOK X pc (z_ret 0) := by
  intro L st S ad H locs ls hP hW hM hE hS hL hl
  rcases st with _ | ⟨x | x | x, _ | ⟨y, st⟩⟩ <;> try exact False.elim hP
  exact zWmono (fun t ht => C.hQ t (zMQ_end t ht)) (W.vret C.hx C.hb C.hr (fun t ht hw => ⟨none, S, ad, rfl, hP, by rw [ht]; exact hW, hM, hE, fun v hv => (nomatch hv), hS.F ht⟩) hS.2.2 hd C.hlk)
end ZH
