/-! making things: raw rows, and what a constructor promises -/
def zB (p : Program) (s : State) (m : MethodId) (args : Array Value) (c : Code) (cc : ByteArray) (own : String) (nL : Nat) (g : ZG) (A : Nat → Prop) : Prop :=
  p.tables.exec = Jvm.exec ∧ c.code = cc ∧ c.maxLocals = nL ∧ (∀ w ∈ wG, w.before args s = true) ∧ s.vm.findClass own = some m.cls ∧ zE g s ∧ (∀ q, s.heap.size ≤ q → A q) ∧ ∀ q, A q → zAA g q
section ZN
variable {p : Program} {l : Launch} {e : Env} {R : Room} {s : State} {m : MethodId} {args : Array Value} {below : List Frame} {meth : Method} {c : Code} {H : Heap} {locs : List Loc} {cells slots : Nat} {Q : State → Prop}
variable {cc : ByteArray} {own : String} {nL : Nat} {g : ZG} {A : Nat → Prop} {pc : Nat} {ls : Array Slot} {rest : List Value} {ws : va_W}
theorem zB.hx (B : zB p s m args c cc own nL g A) : p.tables.exec = Jvm.exec := B.1
theorem zB.hb (B : zB p s m args c cc own nL g A) : c.code = cc := B.2.1
theorem zB.hml (B : zB p s m args c cc own nL g A) : c.maxLocals = nL := B.2.2.1
theorem zB.hw (B : zB p s m args c cc own nL g A) : ∀ w ∈ wG, w.before args s = true := B.2.2.2.1
theorem zB.hown (B : zB p s m args c cc own nL g A) : s.vm.findClass own = some m.cls := B.2.2.2.2.1
theorem zB.hE (B : zB p s m args c cc own nL g A) : zE g s := B.2.2.2.2.2.1
theorem zB.hA (B : zB p s m args c cc own nL g A) : ∀ q, s.heap.size ≤ q → A q := B.2.2.2.2.2.2.1
theorem zB.hg (B : zB p s m args c cc own nL g A) : ∀ q, A q → zAA g q := B.2.2.2.2.2.2.2
theorem zcls {U : State} {cA cB : ClassId} {ty : FieldType} (h : ∀ (cA : ClassId), va_RA U cA ty → U.vm.findClass ("[" ++ ty.toString) = some cA) (h1 : va_RA U cA ty) (h2 : va_RA U cB ty) : cA = cB := Option.some.inj ((h _ h1).symm.trans (h _ h2))
theorem zcls_o {U : State} {cA : ClassId} {C : String} (h : va_RA U cA (.object C)) : U.vm.findClass ("[" ++ (FieldType.object C).toString) = some cA := by
  obtain ⟨_, _, _, _, _, h4⟩ := h
  exact h4
theorem zc_newT {atype : ArrayType} {ty : FieldType} {k : Nat} {a0 : vp_A} {n : Int32} {N' : Nat} (B : zB p s m args c cc own nL g A) (hw9 : Cond.arrayClass ty ∈ wG) (hty : newarray.typeOf atype = ty) (hk : ∀ cA : Nat → ClassId, (zty cA)[k]? = some (cA k, ty)) (hra : ∀ (cA : ClassId), va_RA s cA ty → s.vm.findClass ("[" ++ ty.toString) = some cA) (ha : ∀ cA : ClassId, vp_cell cA a0 = arrV cA N' (fun _ => defaultValue ty))
    (hP : va_P g.1 vwCl ws H) (hD : va_D A ws) (hS : va_S A s.heap H locs) (hn : ¬ n < 0) (hN : n.toNatClampNeg = N') (hb9 : N' * componentBytes ty ≤ 536870912) (hcells : cells + 1 ≤ R.cells) (hslots : slots + N' ≤ R.slots) (hdg : decode cc pc = .ok (.newarray atype, 2))
    (kk : ∀ (q : Nat) (H1 : Heap), va_P g.1 vwCl (ws ++ [(q, .inl (g.2.1 k, a0))]) H1 → va_D A (ws ++ [(q, .inl (g.2.1 k, a0))]) → va_S A s.heap H1 locs → W p l e R s m args below meth c H1 locs (cells + 1) (slots + N') Q (F0 m (pc + 2) ls (.ref q :: rest))) : W p l e R s m args below meth c H locs cells slots Q (F0 m pc ls (.int n :: rest)) := by
  refine va_newa B.hx B.hb (atype := atype) (by rw [hty]; exact B.hw _ hw9) hty B.hE.2.1 hP hD hS B.hA ha hn hN hb9 hcells hslots hdg (fun q cA H1 hK hP hD hS => ?_)
  have e : cA = g.2.1 k := zcls hra (hK.2 9 (cA, ty) rfl).2 (B.hE.2.1.2 k _ (hk _)).2
  subst e
  exact kk q H1 hP hD hS
theorem zc_newq {C : String} {k idx : Nat} {n : Int32} {N' : Nat} (B : zB p s m args c cc own nL g A) (hC : C ∈ zao) (hcl : Cond.classLink own idx C ∈ wG) (hk : ∀ cA : Nat → ClassId, (zty cA)[k]? = some (cA k, .object C))
    (hP : va_P g.1 vwCl ws H) (hD : va_D A ws) (hS : va_S A s.heap H locs) (hn : ¬ n < 0) (hN : n.toNatClampNeg = N') (hb9 : N' * 4 ≤ 536870912) (hcells : cells + 1 ≤ R.cells) (hslots : slots + N' ≤ R.slots) (hdg : decode cc pc = .ok (.anewarray idx, 3))
    (kk : ∀ (q : Nat) (H1 : Heap), va_P g.1 vwCl (ws ++ [(q, .inl (g.2.1 k, N', .inr (.inr (.inr (.inr (fun _ => none))))))]) H1 → va_D A (ws ++ [(q, .inl (g.2.1 k, N', .inr (.inr (.inr (.inr (fun _ => none))))))]) → va_S A s.heap H1 locs → W p l e R s m args below meth c H1 locs (cells + 1) (slots + N') Q (F0 m (pc + 3) ls (.ref q :: rest))) : W p l e R s m args below meth c H locs cells slots Q (F0 m pc ls (.int n :: rest)) := by
  refine va_newq B.hx B.hb B.hown (B.hw _ hcl) (B.hE.1.2.1 C hC) B.hE.2.1 hP hD hS B.hA hn hN hb9 hcells hslots hdg (fun q cA H1 hK hP hD hS => ?_)
  have e : cA = g.2.1 k := zcls (fun _ h => zcls_o h) (hK.2 9 (cA, .object C) rfl).2 (B.hE.2.1.2 k _ (hk _)).2
  subst e
  exact kk q H1 hP hD hS
theorem zc_put {ci o f N idx : Nat} {Cn : String} {T : u_T} {ty : Nat → FieldType} {fs : List Value} {v : Value} {ft : FieldType} (B : zB p s m args c cc own nL g A) (hin : meth.name = "<init>") (hK : zKl ci Cn T N ty) (hf : f < N) (hlink : Cond.fieldLink own idx Cn (T f).2.1 (T f).2.2.1 ∈ wG) (href : (T f).1 = Cn) (hoc : Cn = own) (hft : parseFieldDescriptor (T f).2.2.1 = some ft) (hnar : narrow ft v = v) (hfit : fits ft v = true) (hl : fs.length = N)
    (hP : va_P g.1 vwCl ((o, .inr (ci, fs)) :: ws) H) (hD : va_D A ((o, .inr (ci, fs)) :: ws)) (hS : va_S A s.heap H locs) (hdg : decode cc pc = .ok (.putfield idx, 3))
    (kk : ∀ (H1 : Heap) (locs1 : List Loc), va_P g.1 vwCl ((o, .inr (ci, fs.set f v)) :: ws) H1 → va_D A ((o, .inr (ci, fs.set f v)) :: ws) → va_S A s.heap H1 locs1 → (fs.set f v).length = N → W p l e R s m args below meth c H1 locs1 cells slots Q (F0 m (pc + 3) ls rest)) : W p l e R s m args below meth c H locs cells slots Q (F0 m pc ls (v :: .ref o :: rest)) := by
  obtain ⟨h1, h2, h3, h4, h5, h6⟩ := hK
  have hlen : (fs.set f v).length = N := by rw [List.length_set]; exact hl
  cases hfin : (T f).2.2.2 with
  | false => exact va_put (D := g.1) (ci := ci) (v := v) (ty := ft) (C := Cn) (T := T) (N := N) B.hx B.hb B.hw h2 ty h3 h4 B.hown B.hE.2.1 hP hD hS 0 rfl h1 f hf (B.hw _ hlink) (fun x hx => by rw [← href]; exact hx) hfin hft hnar hfit (by rw [hl]; exact hf) hdg (fun H1 locs1 a b d => kk H1 locs1 a b d hlen)
  | true => exact va_putF (D := g.1) (ci := ci) (v := v) (ty := ft) (C := Cn) (T := T) (N := N) B.hx B.hb B.hw h2 ty h3 h4 B.hown B.hE.2.1 hP hD hS 0 rfl h1 f hf (B.hw _ hlink) (fun x hx => by rw [← href]; exact hx) hfin hin (href.trans hoc) hft hnar hfit (by rw [hl]; exact hf) hdg (fun H1 locs1 a b d => kk H1 locs1 a b d hlen)
theorem zc_obj {o idx : Nat} (B : zB p s m args c cc own nL g A) (hR : 1 ≤ R.frames ∧ 12 ≤ R.locals) (hsz : ls.size = nL) (hw1 : Cond.methodLink own idx objectInit ∈ wG) (hw2 : Cond.instanceMethod objectInit ∈ wG) (hw3 : Cond.code objectInit ⟨#[0xb1]⟩ 1 none ∈ wG) (hdg : decode cc pc = .ok (.invokespecial idx, 3))
    (kk : W p l e R s m args below meth c H locs cells slots Q (F0 m (pc + 3) ls [])) : W p l e R s m args below meth c H locs cells slots Q (F0 m pc ls [.ref o]) := by
  refine W.objInit B.hx B.hb B.hown (B.hw _ hw1) (B.hw _ hw2) (B.hw _ hw3) rfl (hsz.trans B.hml.symm) rfl hdg hR.1 hR.2 ?_
  exact W.eq (g2 := F0 m (pc + 3) ls []) rfl kk
theorem zr_new {ci N idx : Nat} {Cn : String} {T : u_T} {ty : Nat → FieldType} {fs : List Value} (hx : p.tables.exec = Jvm.exec) (hb : c.code = cc) (hw : ∀ w ∈ wG, w.before args s = true) (hown : s.vm.findClass own = some m.cls) (hE : zE g s) (hK : zKl ci Cn T N ty) (hcl : Cond.classLink own idx Cn ∈ wG) (hin : Cond.instantiable Cn N ∈ wG) (hini : Cond.initialized Cn ∈ wG) (hfs : ∀ j, j < N → defaultValue (ty j) = vp_V fs j) (hcells : cells + 1 ≤ R.cells) (hslots : slots + N ≤ R.slots) (hdg : decode cc pc = .ok (.new idx, 3))
    (kk : ∀ H1 : Heap, va_at g.1 vwCl (H.size, .inr (ci, fs)) H1 → H1.size = H.size + 1 → (∀ q, q < H.size → H1[q]? = H[q]?) → W p l e R s m args below meth c H1 locs (cells + 1) (slots + N) Q (F0 m (pc + 3) ls (.ref H.size :: rest))) : W p l e R s m args below meth c H locs cells slots Q (F0 m pc ls rest) := by
  obtain ⟨h1, h2, h3, h4, h5, h6⟩ := hK
  have hKn := hE.2.1.1 ci _ h1
  refine W.newcK hx hb hown (hw _ hcl) (hw _ hin) (hw _ hini) rfl hdg hcells hslots hKn.2.1 rfl fun H1 kC hkC e1 z1 o1 => ?_
  exact kk H1 ⟨_, h1, (u_born ty hw h2 hKn hkC e1 h3).to hfs⟩ z1 o1
theorem zr_ast {ci t0 v a n : Nat} {vs : List Value} {r : vw_C} {f : Nat → Option Nat} {i : Int32} (hx : p.tables.exec = Jvm.exec) (hb : c.code = cc) (hE : zE g s) (ha : va_at g.1 vwCl (a, .inl (g.2.1 t0, n, .inr (.inr (.inr (.inr f))))) H) (ht : (zty g.2.1)[t0]? = some (g.2.1 t0, .object r.1)) (hv : va_at g.1 vwCl (v, .inr (ci, vs)) H) (hc : vwCl[ci]? = some r) (hin : vp_in i n) (hdg : decode cc pc = .ok (.aastore, 1))
    (kk : ∀ (H1 : Heap) (j : Nat), va_at g.1 vwCl (a, .inl (g.2.1 t0, n, .inr (.inr (.inr (.inr (va_up f i.toNatClampNeg (some v))))))) H1 → H1.size = H.size → (∀ q : Nat, q ≠ a → H1[q]? = H[q]?) → W p l e R s m args below meth c H1 (locs ++ [⟨a, j⟩]) cells slots Q (F0 m (pc + 1) ls rest)) : W p l e R s m args below meth c H locs cells slots Q (F0 m pc ls (.ref v :: .int i :: .ref a :: rest)) := by
  have hK := hE.2.1
  have hlt : i.toNatClampNeg < n := Nat.not_le.mp fun q => hin (Or.inr q)
  have h0 : ¬ i < 0 := fun q => hin (Or.inl q)
  obtain ⟨r', hr', cellV, g1, g2, g3, -⟩ := hv
  have hcls := (hK.1 ci r hc).2
  obtain ⟨kA, comp, k1, k2, k3, -⟩ := (hK.2 t0 _ ht).2
  have hcomp : comp = g.1.1 ci := Option.some.inj (k3.symm.trans hcls.1)
  subst hcomp
  obtain ⟨kC, hkC, -⟩ := hcls.2
  refine W.aast hx hb ha (fun q h => by cases h) (fun h => by cases h) k1 k2 rfl hkC ⟨h0, by show _ < (arrV _ _ _).slots.size; rw [arrV_size]; exact hlt⟩ g1 (fun q h => by rw [g3] at h; cases h) (by rw [g2]; exact hkC) (by rw [g2]; exact va_assign hcls) rfl rfl hdg fun H1 e z oq => ?_
  refine kk H1 _ ?_ z oq
  show H1[a]? = some (vp_cell _ _)
  rw [e]
  rw [vp_cell_q, vp_cell_q, arrV_store]
  congr 2
  funext q
  by_cases hq : q = i.toNatClampNeg
  · subst hq
    simp [updV, va_up, va_rf]
  · simp [updV, va_up, hq]
/-- a constructor's promise: of the blank thing and the values it makes the cells w1 -/
def zMk (l : Launch) (y : MethodName) (bytes : ByteArray) (maxL : Nat) (rm : Room) (mc ms : Nat) (g : ZG) (As : List Value) (ci : Nat) (fs : List Value) (w1 : Nat → List Nat → va_W) : Prop :=
  ∀ (o sz : Nat), zAA g o → Met l y (Cond.code y bytes maxL none :: wG) rm (va_Pc (.ref o :: As) (fun U => U.heap.size = sz ∧ va_P g.1 vwCl [(o, .inr (ci, fs))] U.heap ∧ zE g U)) (va_Qv (fun _ : List Nat => True) (fun qs t => va_P g.1 vwCl (w1 o qs) t.heap ∧ va_D (va_A [(o, .inr (ci, fs))] sz) (w1 o qs)) (va_A [(o, .inr (ci, fs))] sz)) mc ms (va_A [(o, .inr (ci, fs))] sz)
theorem va_D1 {A : Nat → Prop} {q : Nat × va_E} (h : A q.1) : va_D A [q] := by
  refine ⟨fun i j p r hi hj _ => ?_, fun k r hk => ?_⟩
  · have h1 : i < 1 := (List.getElem?_eq_some_iff.mp hi).1
    have h2 : j < 1 := (List.getElem?_eq_some_iff.mp hj).1
    omega
  · have h1 : k < 1 := (List.getElem?_eq_some_iff.mp hk).1
    cases (show k = 0 by omega)
    cases hk
    exact h
theorem zMk_of {y : MethodName} {bytes : ByteArray} {maxL mc ms : Nat} {rm : Room} {As : List Value} {ci : Nat} {fs : List Value} {w1 : Nat → List Nat → va_W} (hy : plainName y.cls = true) (hnm : y.name = "<init>") (hsl : ∀ o, (lg_sl (.ref o :: As)).length ≤ maxL)
    (body : ∀ (o : Nat) (p : Program) (e : Env) (s : State) (m : MethodId) (args : Array Value) (below : List Frame) (meth : Method) (c : Code) (A : Nat → Prop) (ls : Array Slot), zB p s m args c bytes y.cls maxL g A → meth.name = "<init>" → meth.sig.returnType = none → meth.locks = false → va_P g.1 vwCl [(o, .inr (ci, fs))] s.heap → va_D A [(o, .inr (ci, fs))] → va_S A s.heap s.heap [] → lv_has ls maxL (lv_args 0 (.ref o :: As)) →
      W p l e rm s m args below meth c s.heap [] 0 0 (MQ below (va_Qv (fun _ : List Nat => True) (fun qs t => va_P g.1 vwCl (w1 o qs) t.heap ∧ va_D A (w1 o qs)) A) args s mc ms A) (F0 m 0 ls [])) : zMk l y bytes maxL rm mc ms g As ci fs w1 := by
  intro o sz ho
  refine Met.ofW (cc := bytes) (maxL := maxL) (ret := none) hy rfl ?_
  intro p e s m args below meth c s₁ B hml hv
  obtain ⟨rfl, hsz, hP, hE⟩ := hv
  subst hsz
  have hts := atoms_spec (ws := Cond.code y bytes maxL none :: wG) B.pre
  rw [lg_entry_eq]
  have hl := lv_entry (.ref o :: As) (n := maxL) (hsl o)
  generalize (lg_sl (.ref o :: As) ++ List.replicate (maxL - (lg_sl (.ref o :: As)).length) Slot.unset).toArray = ls at hl ⊢
  refine body o p e s m _ below meth c _ ls ⟨B.exec, B.bytes, hml, fun w hw => hts w (List.mem_cons_of_mem _ hw), findClass_of_methodNamed B.named, hE, fun q h => Or.inr h, fun q h => ?_⟩ ((name_of_methodNamed B.named B.method).1.trans hnm) B.returns B.notSynchronized hP (va_D1 (Or.inl ⟨0, _, rfl⟩)) va_S.rf hl
  rcases h with ⟨k, e9, h⟩ | h
  · have h1 : k < 1 := (List.getElem?_eq_some_iff.mp h).1
    cases (show k = 0 by omega)
    cases h
    exact ho
  · exact Nat.le_trans hE.1.1 h
theorem zc_vret {o : Nat} {w1 : Nat → List Nat → va_W} {locs : List Loc} (qs : List Nat) (B : zB p s m args c cc own nL g A) (hr : meth.sig.returnType = none) (hlk : meth.locks = false) (hP : va_P g.1 vwCl (w1 o qs) H) (hD : va_D A (w1 o qs)) (hS : va_S A s.heap H locs) (hdg : decode cc pc = .ok (.return_, 1)) :
    W p l e R s m args below meth c H locs cells slots (MQ below (va_Qv (fun _ : List Nat => True) (fun qs t => va_P g.1 vwCl (w1 o qs) t.heap ∧ va_D A (w1 o qs)) A) args s cells slots A) (F0 m pc ls []) :=
  W.vret B.hx B.hb hr (fun t ht hW => ⟨⟨qs, rfl, trivial, by rw [ht]; exact hP, hD⟩, hS.F ht⟩) hS.2.2 hdg hlk
/-- how a constructor is named: openly, or as a nest mate's own -/
def zlk (own : String) (index : Nat) (y : MethodName) : Prop := Cond.methodLink own index y ∈ wG ∨ ∃ host, Cond.methodLinkNest own index y host ∈ zxw
/-- a constructor is run -/
theorem zc_run {y : MethodName} {bytes : ByteArray} {maxL mc ms n index o : Nat} {rm : Room} {As : List Value} {ci : Nat} {fs : List Value} {w1 : Nat → List Nat → va_W} (B : zB p s m args c cc own nL g A) (hM : zMk l y bytes maxL rm mc ms g As ci fs w1) (hlk : zlk own index y) (hcode : Cond.code y bytes maxL none ∈ wG) (hini : Cond.initialized y.cls ∈ wG) (hinst : Cond.instanceMethod y ∈ wG) (hnm : y.name = "<init>")
    (hd : y.cls ≠ "java/lang/invoke/MethodHandle" ∧ y.cls ≠ "java/lang/invoke/VarHandle" ∧ (parseMethodDescriptor y.desc).map (fun d => d.parameters.length) = some n) (hn : As.length = n) (hrm : rm.cells = mc ∧ rm.slots = ms) (hR : rm.frames + 1 ≤ R.frames ∧ 8 + (maxL + 11) + rm.locals ≤ R.locals) (hcells : cells + mc ≤ R.cells) (hslots : slots + ms ≤ R.slots)
    (hPo : va_at g.1 vwCl (o, .inr (ci, fs)) H) (hS : va_S A s.heap H locs) (ho : A o) (hsz : ls.size = nL) (hcat : (rest.map fun v => v.category).sum ≤ 8) (hdg : decode cc pc = .ok (.invokespecial index, 3))
    (kk : ∀ (qs : List Nat) (H1 : Heap) (locs1 : List Loc), va_P g.1 vwCl (w1 o qs) H1 → va_D (va_A [(o, .inr (ci, fs))] H.size) (w1 o qs) → H.size ≤ H1.size → (∀ q, q < H.size → q ≠ o → H1[q]? = H[q]?) → va_S A s.heap H1 locs1 → W p l e R s m args below meth c H1 locs1 (cells + mc) (slots + ms) Q (F0 m (pc + 3) ls rest)) : W p l e R s m args below meth c H locs cells slots Q (F0 m pc ls (As.reverse ++ .ref o :: rest)) := by
  have hws : ∀ w ∈ (Cond.code y bytes maxL none :: wG), ∀ (a' : Array Value) (U : State), s.WarmedH U.vm → w.before a' U = true := fun w h a' U hW => by
    rcases List.mem_cons.mp h with rfl | h
    · exact word_at hW (wG_good hcode) (B.hw _ hcode)
    · exact word_at hW (wG_good h) (B.hw _ h)
  have hPre : PreS s H (va_Pc (.ref o :: As) (fun U => U.heap.size = H.size ∧ va_P g.1 vwCl [(o, .inr (ci, fs))] U.heap ∧ zE g U)) (.ref o :: As) := by
    refine ⟨fun a U g9 mk q => ?_, fun U hU hW => ⟨rfl, by rw [hU], by rw [hU]; exact zP1 hPo, ?_⟩⟩
    · obtain ⟨q0, q1, q2, q3⟩ := q
      exact ⟨q0, q1, q2, q3.calling⟩
    · exact B.hE.moved hW (by rw [hU]; exact hS.1) (fun q h1 h2 => by rw [hU]; exact hS.2.1 q h1 (fun h => h2 (B.hg _ h)))
  have hfree : ∀ q, va_A [(o, Sum.inr (ci, fs))] H.size q → A q := fun q h => by
    rcases h with ⟨k, e9, h⟩ | h
    · have h1 : k < 1 := (List.getElem?_eq_some_iff.mp h).1
      cases (show k = 0 by omega)
      cases h
      exact ho
    · exact B.hA _ (Nat.le_trans hS.1 h)
  have hrun : va_Run p l e R s m args below meth c H locs cells slots mc ms (F0 m pc ls (As.reverse ++ .ref o :: rest)) rest (va_Qv (fun _ : List Nat => True) (fun qs t => va_P g.1 vwCl (w1 o qs) t.heap ∧ va_D (va_A [(o, .inr (ci, fs))] H.size) (w1 o qs)) (va_A [(o, .inr (ci, fs))] H.size) (Value.ref o :: As).toArray) (va_A [(o, .inr (ci, fs))] H.size) := by
    rcases hlk with hlk | ⟨host, hlk⟩
    · exact va_runI (ws := Cond.code y bytes maxL none :: wG) (Ts := wG) (n := n) ⟨B.hx, B.hb, B.hml, B.hown, B.hw⟩ (hM o H.size (B.hg _ ho)) ⟨⟨hrm.1, hrm.2, hR.1, hR.2, hws, List.mem_cons_self, B.hw _ hcode, B.hw _ hini, ⟨hd.1, hd.2.1⟩, fun sig h => by have h2 := hd.2.2; rw [h] at h2; exact (Option.some.inj h2).symm, B.hw _ hlk⟩, hnm, B.hw _ hinst⟩ hPre rfl hn hsz rfl (lv_room hcat) hdg ⟨hcells, hslots⟩
    · exact va_runIN (ws := Cond.code y bytes maxL none :: wG) (Ts := wG) (n := n) (host := host) ⟨B.hx, B.hb, B.hml, B.hown, B.hw⟩ (hM o H.size (B.hg _ ho)) ⟨⟨⟨hrm.1, hrm.2, hR.1, hR.2, hws, List.mem_cons_self⟩, B.hw _ hcode, B.hw _ hini, ⟨hd.1, hd.2.1⟩, fun sig h => by have h2 := hd.2.2; rw [h] at h2; exact (Option.some.inj h2).symm, va_Nw.use rfl (B.hE.2.2.2.2.2.1 _ hlk)⟩, hnm, B.hw _ hinst⟩ hPre rfl hn hsz rfl (lv_room hcat) hdg ⟨hcells, hslots⟩
  refine va_callv hrun hS (fun q _ h => hfree q h) hfree (fun u t H1 locs1 ht hvm _ hB hz1 hk1 hS1 => ?_)
  obtain ⟨hP1, hD1⟩ := hB
  rw [ht] at hP1
  refine kk u H1 locs1 hP1 hD1 hz1 (fun q h1 h2 => hk1 q h1 (fun h => ?_)) hS1
  rcases h with ⟨k, e9, h⟩ | h
  · have h3 : k < 1 := (List.getElem?_eq_some_iff.mp h).1
    cases (show k = 0 by omega)
    cases h
    exact h2 rfl
  · omega
theorem va_D.app2 {A : Nat → Prop} {w1 w2 : va_W} (h1 : va_D A w1) (h2 : va_D A w2) (h : ∀ (i j : Nat) (p q : Nat × va_E), w1[i]? = some p → w2[j]? = some q → p.1 ≠ q.1) : va_D A (w1 ++ w2) := by
  refine ⟨fun i j p q hi hj e => ?_, fun k q hk => ?_⟩
  · by_cases a : i < w1.length
    · rw [List.getElem?_append_left a] at hi
      by_cases b : j < w1.length
      · rw [List.getElem?_append_left b] at hj
        exact h1.1 i j p q hi hj e
      · rw [List.getElem?_append_right (by omega)] at hj
        exact absurd e (h _ _ _ _ hi hj)
    · rw [List.getElem?_append_right (by omega)] at hi
      by_cases b : j < w1.length
      · rw [List.getElem?_append_left b] at hj
        exact absurd e.symm (h _ _ _ _ hj hi)
      · rw [List.getElem?_append_right (by omega)] at hj
        have := h2.1 _ _ p q hi hj e
        omega
  · by_cases a : k < w1.length
    · rw [List.getElem?_append_left a] at hk
      exact h1.2 k q hk
    · rw [List.getElem?_append_right (by omega)] at hk
      exact h2.2 _ q hk
/-- new; dup; the constructor, which takes no values -/
theorem zc_mk {y : MethodName} {bytes : ByteArray} {maxL mc ms index idx ci N : Nat} {rm : Room} {fs : List Value} {w1 : Nat → List Nat → va_W} {T : u_T} {ty : Nat → FieldType} (B : zB p s m args c cc own nL g A) (hK : zKl ci y.cls T N ty) (hcl : Cond.classLink own idx y.cls ∈ wG) (hins : Cond.instantiable y.cls N ∈ wG) (hfs : ∀ j, j < N → defaultValue (ty j) = vp_V fs j)
    (hM : zMk l y bytes maxL rm mc ms g [] ci fs w1) (hlk : zlk own index y) (hcode : Cond.code y bytes maxL none ∈ wG) (hini : Cond.initialized y.cls ∈ wG) (hinst : Cond.instanceMethod y ∈ wG) (hnm : y.name = "<init>")
    (hd : y.cls ≠ "java/lang/invoke/MethodHandle" ∧ y.cls ≠ "java/lang/invoke/VarHandle" ∧ (parseMethodDescriptor y.desc).map (fun d => d.parameters.length) = some 0) (hrm : rm.cells = mc ∧ rm.slots = ms) (hR : rm.frames + 1 ≤ R.frames ∧ 8 + (maxL + 11) + rm.locals ≤ R.locals) (hcells : cells + 1 + mc ≤ R.cells) (hslots : slots + N + ms ≤ R.slots)
    (hP : va_P g.1 vwCl ws H) (hD : va_D A ws) (hS : va_S A s.heap H locs) (hsz : ls.size = nL) (hcat : ((Value.ref 0 :: rest).map fun v => v.category).sum ≤ 8) (d0 : decode cc pc = .ok (.new idx, 3)) (d3 : decode cc (pc + 3) = .ok (.dup, 1)) (d4 : decode cc (pc + 4) = .ok (.invokespecial index, 3))
    (kk : ∀ (q : Nat) (qs : List Nat) (H1 : Heap) (locs1 : List Loc), va_P g.1 vwCl (ws ++ w1 q qs) H1 → va_D A (ws ++ w1 q qs) → va_S A s.heap H1 locs1 → W p l e R s m args below meth c H1 locs1 (cells + 1 + mc) (slots + N + ms) Q (F0 m (pc + 7) ls (.ref q :: rest))) : W p l e R s m args below meth c H locs cells slots Q (F0 m pc ls rest) := by
  refine zr_new B.hx B.hb B.hw B.hown B.hE hK hcl hins hini hfs (Nat.le_trans (Nat.le_add_right _ _) hcells) (Nat.le_trans (Nat.le_add_right _ _) hslots) d0 (fun H1 hat z1 o1 => ?_)
  refine lv_dup B.hx B.hb d3 rfl ?_
  have hS1 : va_S A s.heap H1 locs := ⟨Nat.le_trans hS.1 (by omega), fun q h1 h2 => (o1 q (Nat.lt_of_lt_of_le h1 hS.1)).trans (hS.2.1 q h1 h2), hS.2.2⟩
  refine zc_run (As := []) (rest := .ref H.size :: rest) B hM hlk hcode hini hinst hnm hd rfl hrm hR hcells hslots hat hS1 (B.hA _ hS.1) hsz hcat d4 (fun qs H2 locs2 hP2 hD2 z2 o2 hS2 => ?_)
  have hP1 : va_P g.1 vwCl ws H1 := hP.kept (fun k x hx => o1 _ (hP k x hx).lt)
  have hPk : va_P g.1 vwCl ws H2 := hP1.kept (fun k x hx => by
    have := (hP k x hx).lt
    exact o2 _ (by omega) (by omega))
  have hin : ∀ q, va_A [(H.size, Sum.inr (ci, fs))] H1.size q → H.size ≤ q := fun q h => by
    rcases h with ⟨k, e9, h⟩ | h
    · have h3 : k < 1 := (List.getElem?_eq_some_iff.mp h).1
      cases (show k = 0 by omega)
      cases h
      exact Nat.le_refl _
    · omega
  have hDA : va_D A (w1 H.size qs) := ⟨hD2.1, fun k q hk => B.hA _ (Nat.le_trans hS.1 (hin _ (hD2.2 k q hk)))⟩
  refine kk H.size qs H2 locs2 (hPk.app hP2) (hD.app2 hDA (fun i j p9 q9 hi hj e => ?_)) hS2
  have h1 := (hP i p9 hi).lt
  have h2 := hin _ (hD2.2 j q9 hj)
  omega
end ZN
