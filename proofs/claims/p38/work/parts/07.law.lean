/-! the law's own rows: calls that make cells, wrappers with handlers, the script, the long row -/
abbrev zXc (X : ZX) (a b : Nat) : ZX := (X.p, X.l, X.e, X.R, X.s, X.m, X.a, X.b, X.meth, X.c, X.g, X.S0, X.ad, X.K, a, b, X.nL, X.Q)
section Payer3
variable {l : Launch} {R : Room} {p : Program} {e : Env} {below : List Frame} {s : State} {sargs : Array Value} {y : MethodName} {len W9 : Nat}
/-- follows vx_backW -/
theorem z_backW {ws : List Cond} {rm : Room} {Pc : Array Value → State → Prop} {Qc : Array Value → State → Outcome → State → Prop} {XC : String → State → State → Prop} {mc ms mx my : Nat} {free : Addr → Prop} {bytes : ByteArray} {maxL : Nat} {ret : Option FieldType} {hh : List (Nat × Nat × Nat × Nat)}
    (hM : MetFree l y (headSpec ws rm) Pc (fun _ _ _ _ _ => True) (zQm Qc XC mc ms mx my free)) (hblind : FrameBlind Pc) (hrc : rm.cells = mx) (hrs : rm.slots = my)
    (hframes : rm.frames + 1 ≤ R.frames) (hlocals : W9 + (maxL + 11) + rm.locals ≤ R.locals)
    (hws : ∀ w ∈ ws, ∀ a' U, s.WarmedH U.vm → w.before a' U = true) (hcode : Cond.codeWith y bytes maxL ret hh ∈ ws) (hinit : ∀ a' U, s.WarmedH U.vm → (Cond.initialized y.cls).before a' U = true) :
    vx_Back l R p e below s sargs y len W9 (PreOf R mx my Pc) (PostOf Qc mc ms free) (vx_Post XC mx my free) := by
  intro m meth c A g ig mk a X hg hsize hdg hW hn hp
  have h1 : (headSpec ws rm).pre.before a A.U = true := atoms_intro fun w hw => hws w hw _ _ X.warmed
  have h2 : (Cond.codeWith y bytes maxL ret hh).before a A.U = true := hws _ hcode _ _ X.warmed
  have h3 : (Cond.initialized y.cls).before a A.U = true := hinit _ _ X.warmed
  have h4 : A.cells + (headSpec ws rm).room.cells ≤ R.cells := by rw [show (headSpec ws rm).room.cells = mx from hrc]; exact hp.1
  have h5 : A.slots + (headSpec ws rm).room.slots ≤ R.slots := by rw [show (headSpec ws rm).room.slots = my from hrs]; exact hp.2.1
  have hPc : Pc a (A.U.calling g mk a) := hblind _ _ _ _ hp.2.2
  obtain ⟨U, Ls, c0, s0⟩ := A
  dsimp only [Pt.U, Pt.locs, Pt.cells, Pt.slots] at h1 h2 h3 h4 h5 X hn hPc ⊢
  obtain ⟨m9, methY, cY, hn9, hmY, hcY, -, hlY, -⟩ := Cond.codeWith_spec h2
  cases Option.some.inj (hn9.symm.trans hn)
  obtain ⟨kY, hkY, -⟩ := className_of_methodNamed hn
  have hinitY : kY.init = .initialized := Cond.initialized_spec (findClass_of_methodNamed hn) hkY h3
  have h : At U g.method c below := by rw [hg]; exact X.here
  have hlocals9 : W9 + (maxL + 11) + (headSpec ws rm).room.locals ≤ R.locals := hlocals
  have happ : (headSpec ws rm).appliesLoose y e.platform (U.calling g mk a) = true :=
    Spec.appliesLoose_calling (g := g) h hdg hn hkY hinitY
      (X.room_calling (g := g) (R' := (headSpec ws rm).room) hsize hmY hcY hframes (by rw [hlY]; omega) h4 h5) h1
  obtain ⟨mid, hmid⟩ := h.above
  have hfr : (U.setTop g).frames = (.java g :: mid) ++ below := by rw [State.frames_setTop' g h.top, hmid]; rfl
  obtain ⟨o, s₂, hsteps, -, hend, hq⟩ := Steps.callFree hM p X.admits X.cas X.clock (acts := []) hfr happ hPc trivial
  have hq' : zQm Qc XC mc ms mx my free a (U.calling g mk a) o s₂ := hq
  rw [State.frames_setTop' g h.top] at hend
  obtain ⟨g₀, hg0⟩ := Option.isSome_iff_exists.mp h.top
  obtain ⟨r, hr⟩ := State.topJava?_eq_some.mp hg0
  have hr' : (({ U with heap := s₂.heap, slotsUsed := s₂.slotsUsed } : State).setVm s₂.vm).frames = .java g₀ :: r := hr
  rcases hq' with ⟨hqc, L, hfe, hL⟩ | ⟨q, rfl, E, ce, L, hx, hce, hcv, hcl, hW₂, hsm, hL⟩
  · obtain ⟨⟨v, rfl⟩, hW₂, e2, q2, q3, q4, q5, q6⟩ := id hfe
    have e3 : s₂ = ({ (U.calling g mk a).setFrames s₂.frames with heap := s₂.heap, slotsUsed := s₂.slotsUsed } : State).setVm s₂.vm := by
      have : s₂ = ({ s₂ with vm := (U.calling g mk a).vm } : State).setVm s₂.vm := rfl
      rw [e2] at this
      exact this
    obtain ⟨c₂, i₂, len₂, hc₂, hd₂, hf₂⟩ := hend
    have hW' : U.WarmedH s₂.vm := hW₂
    have hcc : c₂ = c := by
      have h1 : s₂.code? g.method = U.code? g.method := by
        rw [State.code?_eq, State.code?_eq, hW'.alike.method?]
      exact Option.some.inj (hc₂.symm.trans (h1.trans h.code))
    subst hcc
    have hlen : len₂ = len := by rw [hdg] at hd₂; cases hd₂; rfl
    subst hlen
    have hs₂ : s₂ = (({ U with heap := s₂.heap, slotsUsed := s₂.slotsUsed } : State).setVm s₂.vm).setTop { g with pc := g.pc + len₂, stack := v.toList ++ g.stack } := by
      refine e3.trans ?_
      rw [hf₂, State.calling_eq h.top, State.setFrames_setFrames, State.setTop_of_frames _ hr', hr]
      rfl
    have hsame : U.sameButNew ({ U with heap := s₂.heap, slotsUsed := s₂.slotsUsed } : State) L mc ms := by
      refine ⟨?_, q2, q3, q4, q5, q6⟩
      obtain ⟨t, ht, -⟩ := State.frames_cons hr
      show ({ U with heap := s₂.heap, slotsUsed := s₂.slotsUsed } : State) = { U.setFrames U.frames with heap := s₂.heap, slotsUsed := s₂.slotsUsed }
      rw [State.setFrames_self ht]
    subst hg
    refine Or.inl ⟨v, ⟨(({ U with heap := s₂.heap, slotsUsed := s₂.slotsUsed } : State).setVm s₂.vm), Ls ++ L, c0 + mc, s0 + ms⟩,
      ⟨X.admits, X.cas, X.clock, X.frames, X.room, X.hears, X.method, X.code, (X.here.setHeapUsed s₂.heap s₂.slotsUsed).setVm hW'.alike, X.tail, State.WarmedH.trans X.warmed hW', X.limits, X.bytes, X.same.trans (hsame.setVm s.vm)⟩,
      ⟨g, mk, s₂, L, rfl, rfl, hqc, rfl, hL, rfl, rfl⟩, ?_⟩
    show Steps p.tables e below _ ((({ U with heap := s₂.heap, slotsUsed := s₂.slotsUsed } : State).setVm s₂.vm).setTop { g with pc := g.pc + len₂, stack := v.toList ++ g.stack })
    rw [← hs₂]
    exact hsteps
  · obtain ⟨e2, q2, q3, q4, q5, q6⟩ := id hsm
    have e3 : s₂ = ({ (U.calling g mk a).setFrames s₂.frames with heap := s₂.heap, slotsUsed := s₂.slotsUsed } : State).setVm s₂.vm := by
      have : s₂ = ({ s₂ with vm := (U.calling g mk a).vm } : State).setVm s₂.vm := rfl
      rw [e2] at this
      exact this
    have hf₂ : s₂.frames = .throwing q :: .java g :: U.frames.tail := hend
    have hW' : U.WarmedH s₂.vm := hW₂
    have hs₂ : s₂ = ((({ U with heap := s₂.heap, slotsUsed := s₂.slotsUsed } : State).setVm s₂.vm).setTop g).pushFrame (.throwing q) := by
      refine e3.trans ?_
      rw [hf₂, State.calling_eq h.top, State.setFrames_setFrames, State.pushFrame, State.frames_setTop _ hr', State.setTop_of_frames _ hr', State.setFrames_setFrames, hr]
      rfl
    have hsame : U.sameButNew ({ U with heap := s₂.heap, slotsUsed := s₂.slotsUsed } : State) L mx my := by
      refine ⟨?_, q2, q3, q4, q5, q6⟩
      obtain ⟨t, ht, -⟩ := State.frames_cons hr
      show ({ U with heap := s₂.heap, slotsUsed := s₂.slotsUsed } : State) = { U.setFrames U.frames with heap := s₂.heap, slotsUsed := s₂.slotsUsed }
      rw [State.setFrames_self ht]
    subst hg
    refine Or.inr ⟨q, ⟨(({ U with heap := s₂.heap, slotsUsed := s₂.slotsUsed } : State).setVm s₂.vm), Ls ++ L, c0 + mx, s0 + my⟩,
      ⟨X.admits, X.cas, X.clock, X.frames, X.room, X.hears, X.method, X.code, (X.here.setHeapUsed s₂.heap s₂.slotsUsed).setVm hW'.alike, X.tail, State.WarmedH.trans X.warmed hW', X.limits, X.bytes, X.same.trans (hsame.setVm s.vm)⟩,
      ⟨g, mk, s₂, L, E, ce, rfl, rfl, hx, hce, hcv, hcl, rfl, hL, rfl, rfl⟩, ?_⟩
    show Steps p.tables e below _ (((({ U with heap := s₂.heap, slotsUsed := s₂.slotsUsed } : State).setVm s₂.vm).setTop g).pushFrame (.throwing q))
    rw [← hs₂]
    exact hsteps
end Payer3
def zMetW (l : Launch) (y : MethodName) (bytes : ByteArray) (maxL : Nat) (ret : Option FieldType) (hh : List (Nat × Nat × Nat × Nat)) (rm : Room) (mc ms : Nat) (sp : ZSp) : Prop :=
  ∀ (g : ZG) (ad : ZA) (S : ZS) (K : ZK) (as : List ZV), sp as S K → MetFree l y (headSpec (Cond.codeWith y bytes maxL ret hh :: wG) rm) (zPc g ad S as) (fun _ _ _ _ _ => True) (zQm (zQc g ad S K) (zXC g ad S K) mc ms (mc + 1) (ms + 6) (zAA g))
def zcallW (own : String) (index : Nat) (y : MethodName) (bytes : ByteArray) (maxL : Nat) (ret : Option FieldType) (hh : List (Nat × Nat × Nat × Nat)) (n : Nat) : Prop :=
  Cond.methodLink own index y ∈ wG ∧ Cond.codeWith y bytes maxL ret hh ∈ wG ∧ Cond.initialized y.cls ∈ wG ∧ (y.cls ≠ "java/lang/invoke/MethodHandle" ∧ y.cls ≠ "java/lang/invoke/VarHandle") ∧ (parseMethodDescriptor y.desc).map (fun d => d.parameters.length) = some n
section ZL
variable {X : ZX} {cc : ByteArray} {own : String} {ret : Option FieldType} {F Lo cx sx : Nat}
theorem zcallW_ws {y : MethodName} {bytes : ByteArray} {maxL : Nat} {rt : Option FieldType} {hh : List (Nat × Nat × Nat × Nat)} (hw : ∀ w ∈ wG, w.before X.a X.s = true) (hc : Cond.codeWith y bytes maxL rt hh ∈ wG) : ∀ w ∈ (Cond.codeWith y bytes maxL rt hh :: wG), ∀ (a' : Array Value) (U : State), X.s.WarmedH U.vm → w.before a' U = true := fun w h a' U hW => by
  rcases List.mem_cons.mp h with rfl | h
  · exact word_at hW (wG_good hc) (hw _ hc)
  · exact word_at hW (wG_good h) (hw _ h)
theorem z_runSW {index n : Nat} {y : MethodName} {bytes : ByteArray} {maxL : Nat} {rt : Option FieldType} {rm : Room} {hh : List (Nat × Nat × Nat × Nat)} {mc ms pc : Nat} {sp : ZSp} {K : ZK} {S : ZS} {ad : ZA} {H : Heap} {locs : List Loc} {ls : Array Slot} {as : List ZV} {rest : List Value} (C : zCx X cc own ret F Lo cx sx) (hM : zMetW X.l y bytes maxL rt hh rm mc ms sp) (hrm : rm.cells = mc + 1 ∧ rm.slots = ms + 6) (hR : rm.frames + 1 ≤ F ∧ 8 + (maxL + 11) + rm.locals ≤ Lo) (hcx : mc + 1 ≤ cx) (hsx : ms + 6 ≤ sx)
    (hw : zcallW own index y bytes maxL rt hh n) (hst : Cond.static y ∈ wG)
    (hsp : sp as S K) (hW : zW X.g ad S H) (hS : va_S (zAA X.g) X.s.heap H locs) (hl : zlvs S as) (h1 : ∀ x ∈ as, zc1 x) (hn : as.length = n) (hsz : ls.size = X.nL) (hcat : (rest.map fun v => v.category).sum ≤ 8) (hd : decode cc pc = .ok (.invokestatic index, 3)) :
    zRun X X.g ad S K mc ms H locs (F0 X.m pc ls ((as.map (zc ad)).reverse ++ rest)) rest ((as.map (zc ad)).toArray) := by
  obtain ⟨w1, w2, w3, w4, w5⟩ := hw
  have hB : vx_Back X.l X.R X.p X.e X.b X.s X.a y 3 8 (PreOf X.R (mc + 1) (ms + 6) (zPc X.g ad S as)) (PostOf (zQc X.g ad S K) mc ms (zAA X.g)) (vx_Post (zXC X.g ad S K) (mc + 1) (ms + 6) (zAA X.g)) :=
    z_backW (hh := hh) (bytes := bytes) (maxL := maxL) (ret := rt) (hM X.g ad S K _ hsp) (zPc_blind _ _ _ _) hrm.1 hrm.2 (Nat.le_trans hR.1 C.hF) (Nat.le_trans hR.2 C.hLo) (zcallW_ws C.hw w2) List.mem_cons_self (fun a' U hW9 => word_at hW9 (wG_good w3) (C.hw _ w3))
  have hPc := zPc_at (as := as) C.hE hW hS hl h1
  have hlen : (as.map (zc ad)).length = n := (List.length_map _).trans hn
  intro T9 hT Y
  rcases vx_callSX Y C.hx (hh := hh) (bytes := bytes) (maxL := maxL) (ret := rt) C.hown (C.hw _ w1) (C.hw _ hst) (C.hw _ w3) (C.hw _ w2) w4 hB rfl (hsz.trans C.hml.symm) (argsL := as.map (zc ad)) (rest := rest) (fun sig h => by rw [h] at w5; exact hlen.trans (Option.some.inj w5).symm) rfl (lv_room hcat) (by rw [C.hb]; exact hd)
    (fun vm₁ hW₁ => ⟨Nat.le_trans (Nat.add_le_add_left hcx _) C.hce, Nat.le_trans (Nat.add_le_add_left hsx _) C.hsl, hPc (T9.setVm vm₁) hT hW₁⟩) with ⟨v, vm₁, ⟨U', l2, c2, s2⟩, hW₁, X', ⟨g', mk, t, L, e1, e2, hq, h1, hL, h2, h3⟩, st⟩ | ⟨q, vm₁, ⟨U', l2, c2, s2⟩, hW₁, X', ⟨g', mk, t, L, E, ce, e1, e2, hq, hce, hcv, hcl, h1, hL, h2, h3⟩, st⟩
  · dsimp only [Pt.U, Pt.locs, Pt.cells, Pt.slots] at X' e1 e2 h1 h2 h3 st
    subst h1; subst h2; subst h3
    exact Or.inl ⟨v, (T9.setVm vm₁).calling g' mk _, t, U', L, hT, X', hL, e1, e2, hq, st⟩
  · dsimp only [Pt.U, Pt.locs, Pt.cells, Pt.slots] at X' e1 e2 h1 h2 h3 st hcl
    subst h1; subst h2; subst h3
    exact Or.inr ⟨q, (T9.setVm vm₁).calling g' mk _, t, U', L, E, ce, hT, X', hL, e1, e2, hq, hce, hcv, vx_cls hW₁ hcl, st⟩
/-- behind a call, with its cost, and what a throw goes on with -/
theorem z_afterC {pc mc ms : Nat} {S : ZS} {ad : ZA} {H : Heap} {locs : List Loc} {ls : Array Slot} {a : Array Value} {L : List (Option ZV)} {st : List ZV} {stk : List Value} {kk : ZP} {K' : ZK}
    (hr : zRun X X.g ad S K' mc ms H locs (F0 X.m pc ls stk) (st.map (zc ad)) a) (h0 : ∀ S', K' (.inl none) S' → kk L st S' X.K) (h1 : ∀ v S', K' (.inl (some v)) S' → kk L (v :: st) S' X.K) (hk : ZOK (zXc X (X.ce + mc) (X.sl + ms)) (pc + 3) kk)
    (hM : zMono X.S0 S) (hE : zExt X.S0 X.ad ad) (hS : va_S (zAA X.g) X.s.heap H locs) (hL : zLR ad S ls X.nL L) (hl : zlvs S st)
    (kx : ∀ (n : Nat) (S' : ZS) (ad' : ZA) (H1 : Heap) (locs1 : List Loc) (q : Addr) (ce : Cell), 1 ≤ n → n ≤ 3 → K' (.inr n) S' → zW X.g ad' S' H1 → zMono S S' → zExt S ad ad' → va_S (zAA X.g) X.s.heap H1 locs1 → H1[q]? = some ce → ce.vm = .none → X.s.vm.findClass (zen n) = some ce.cls → vx_W X.p X.l X.e X.R X.s X.m X.a X.b X.meth X.c H1 locs1 (X.ce + (mc + 1)) (X.sl + (ms + 6)) X.Q (F0 X.m pc ls (st.map (zc ad))) q) : zGo X H locs (F0 X.m pc ls stk) := by
  intro T hT Y
  rcases hr T hT Y with ⟨v, st₀, t, T', L1, g0, Y', hL1, e1, e2, ⟨w, S', ad', hv, hK, hW', hM', hE', hx, hF⟩, go⟩ | ⟨q, st₀, t, T', L1, E, ce, g0, Y', hL1, e1, e2, ⟨n, S', ad', hE1, hn1, hn3, hK, hW', hM', hE', hF⟩, hce, hcv, hcl, go⟩
  · have hS1 := zS_after (S := S) (S0 := S) g0 e1 hS hL1 hF
    have hvw : v = w.map (zc ad') := by
      have := hv
      injection this
    subst hvw
    have hst : st.map (zc ad') = st.map (zc ad) := zcs_ext hE' hl
    cases w with
    | none =>
      obtain ⟨t2, a1, b1⟩ := hk L st S' ad' T'.heap (locs ++ L1) ls (h0 S' hK) (by rw [e1]; exact hW') (hM.tr hM') (hE.tr hM hE') hS1 (hL.ext hM' hE') (hl.mono hM') T' rfl Y'
      rw [hst] at a1
      exact ⟨t2, go t2 a1, b1⟩
    | some x =>
      obtain ⟨t2, a1, b1⟩ := hk L (x :: st) S' ad' T'.heap (locs ++ L1) ls (h1 x S' hK) (by rw [e1]; exact hW') (hM.tr hM') (hE.tr hM hE') hS1 (hL.ext hM' hE') ⟨(hx x rfl).1, hl.mono hM'⟩ T' rfl Y'
      rw [List.map_cons, hst] at a1
      exact ⟨t2, go t2 a1, b1⟩
  · have hS1 := zS_after (S := S) (S0 := S) g0 e1 hS hL1 hF
    subst hE1
    obtain ⟨t2, a1, b1⟩ := kx n S' ad' T'.heap (locs ++ L1) q ce hn1 hn3 hK (by rw [e1]; exact hW') hM' hE' hS1 (by rw [e1]; exact hce) hcv hcl T' rfl Y'
    exact ⟨t2, go.trans a1, b1⟩
/-- a handler of kind n at pc: its row in the table; there astore, iconst, ireturn -/
def zhnd (X : ZX) (cc : ByteArray) (own : String) (pc n : Nat) (v : Int32) : Prop :=
  ∃ (pre : List ExceptionTableEntry) (x : ExceptionTableEntry) (suf : List ExceptionTableEntry), X.c.exceptionTable.toList = pre ++ x :: suf ∧ (∀ z ∈ pre, covers z pc = false ∨ (z.catchType ≠ 0 ∧ ∃ nm : String, Cond.classLink own z.catchType nm ∈ wG ∧ va_Nc (zen n) nm X.s)) ∧ covers x pc = true ∧ x.catchType ≠ 0 ∧
    Cond.classLink own x.catchType (zen n) ∈ wG ∧ Cond.castable (zen n) (zen n) ∈ zxw ∧ ∃ (i : Nat) (d : Nat) (k : Int), i < X.nL ∧ (decode cc x.handlerPc = .ok (.astore i, 2) ∧ d = 2 ∨ ∃ k4 : Fin 4, decode cc x.handlerPc = .ok (.astore_n k4, 1) ∧ (k4 : Nat) = i ∧ d = 1) ∧ ∃ ln : Nat, (decode cc (x.handlerPc + d) = .ok (.iconst k, 1) ∧ Int32.ofInt k = v ∧ ln = 1 ∨ decode cc (x.handlerPc + d) = .ok (.bipush k, 2) ∧ (Int8.ofInt k).toInt32 = v ∧ ln = 2 ∨ decode cc (x.handlerPc + d) = .ok (.sipush k, 3) ∧ (Int16.ofInt k).toInt32 = v ∧ ln = 3) ∧ decode cc (x.handlerPc + d + ln) = .ok (.ireturn, 1)
theorem z_caught {pc n a b : Nat} {v : Int32} {S : ZS} {ad : ZA} {H : Heap} {locs : List Loc} {ls : Array Slot} {L : List (Option ZV)} {rest : List Value} {q : Addr} {ce : Cell} (C : zCx X cc own (some .int) F Lo cx sx) (hQ : ∀ t, zEndP X.b X.g X.ad X.S0 X.K X.a X.s a b t → X.Q t) (h : zhnd X cc own pc n v) (hK : X.K (.inl (some (.inl v))) S)
    (hW : zW X.g ad S H) (hM : zMono X.S0 S) (hE : zExt X.S0 X.ad ad) (hS : va_S (zAA X.g) X.s.heap H locs) (hL : zLR ad S ls X.nL L) (hce : H[q]? = some ce) (hcv : ce.vm = .none) (hcl : X.s.vm.findClass (zen n) = some ce.cls) : vx_W X.p X.l X.e X.R X.s X.m X.a X.b X.meth X.c H locs a b X.Q (F0 X.m pc ls rest) q := by
  obtain ⟨pre, x, suf, h1, h2, h3, h4, h5, h6, i, d, k, hi, h7, ln, h8, h10⟩ := h
  refine vx_catch C.hown pre x suf h1 (fun z hz => (h2 z hz).imp id (fun g => ⟨g.1, g.2.elim fun nm g2 => ⟨nm, C.hw _ g2.1, g2.2⟩⟩)) h3 h4 (C.hw _ h5) (va_Nw.use rfl (C.hE.2.2.2.2.2.1 _ h6)) hce hcv hcl ?_
  have hend : ∀ ls' : Array Slot, W X.p X.l X.e X.R X.s X.m X.a X.b X.meth X.c H locs a b X.Q (F0 X.m (x.handlerPc + d) ls' []) := fun ls' => by
    have hm : W X.p X.l X.e X.R X.s X.m X.a X.b X.meth X.c H locs a b (MQ X.b (zQc X.g X.ad X.S0 X.K) X.a X.s a b (zAA X.g)) (F0 X.m (x.handlerPc + d + ln) ls' [.int v]) :=
      W.iret C.hx C.hb C.hr (fun t ht hw => ⟨some (.inl v), S, ad, rfl, hK, by rw [ht]; exact hW, hM, hE, fun v hv => by cases hv; exact ⟨trivial, trivial⟩, hS.F ht⟩) hS.2.2 h10 C.hlk
    have hm2 : W X.p X.l X.e X.R X.s X.m X.a X.b X.meth X.c H locs a b (MQ X.b (zQc X.g X.ad X.S0 X.K) X.a X.s a b (zAA X.g)) (F0 X.m (x.handlerPc + d) ls' []) := by
      rcases h8 with ⟨h8, h9, rfl⟩ | ⟨h8, h9, rfl⟩ | ⟨h8, h9, rfl⟩
      · exact lv_iconst C.hx C.hb h8 h9 hm
      · exact lv_bipush C.hx C.hb h8 h9 hm
      · exact lv_sipush C.hx C.hb h8 h9 hm
    intro T hT Y
    obtain ⟨t, a1, o, b1, b2, b3, b4⟩ := hm2 T hT Y
    exact ⟨t, a1, hQ t ⟨o, b1, b2, Or.inl ⟨b3, b4⟩⟩⟩
  rcases h7 with ⟨h7, rfl⟩ | ⟨k4, h7, hk4, rfl⟩
  · exact lv_astore C.hx C.hb h7 hL.has hi rfl (fun ls' _ => hend ls')
  · exact lv_astore_n C.hx C.hb h7 hk4 hL.has hi rfl (fun ls' _ => hend ls')
def zcontH (kk : ZP) (L : List (Option ZV)) (st : List ZV) (K : ZK) (hs : Nat → Option Int32) : ZK := fun o S' => match o with
  | .inl none => kk L st S' K
  | .inl (some v) => kk L (v :: st) S' K
  | .inr n => match hs n with
    | some v => K (.inl (some (.inl v))) S'
    | none => False
def z_invH (k n : Nat) (sp : ZSp) (hs : Nat → Option Int32) (kk : ZP) : ZP := fun L st S K => match ztake (n + 1) st [] with
  | some (.inr (.inr (some q)) :: as, st') => bif Nat.beq q.1 k && (Nat.ble st'.length 4 && as.all zc1b) then sp (.inr (.inr (some q)) :: as) S (zcontH kk L st' K hs) else False
  | _ => False
/-- the arguments of a call on the stack -/
theorem ztake_v {n k i : Nat} {st as st' : List ZV} {S : ZS} {ad : ZA} (hz : ztake (n + 1) st [] = some (zr k i :: as, st')) (hl : zlvs S st) : as.length = n ∧ zlvs S as ∧ zlv S k i ∧ zlvs S st' ∧ st.map (zc ad) = (as.map (zc ad)).reverse ++ .ref (ad k i) :: st'.map (zc ad) := by
  obtain ⟨t1, t2⟩ := ztake_sp hz
  have hst : st = as.reverse ++ (zr k i :: st') := by
    rw [List.reverse_cons, List.append_assoc] at t1
    exact t1.symm
  have hlall := zlvs_iff.mp hl
  rw [hst] at hlall
  refine ⟨?_, zlvs_iff.mpr (fun v hv => hlall v (List.mem_append_left _ (List.mem_reverse.mpr hv))), hlall (zr k i) (List.mem_append_right _ List.mem_cons_self), zlvs_iff.mpr (fun v hv => hlall v (List.mem_append_right _ (List.mem_cons_of_mem _ hv))), ?_⟩
  · rw [List.length_cons] at t2
    have : ([] : List ZV).length = 0 := rfl
    omega
  · rw [hst, List.map_append, List.map_reverse]
    rfl
theorem ztake_s {n : Nat} {st as st' : List ZV} {S : ZS} {ad : ZA} (hz : ztake n st [] = some (as, st')) (hl : zlvs S st) : as.length = n ∧ zlvs S as ∧ zlvs S st' ∧ st.map (zc ad) = (as.map (zc ad)).reverse ++ st'.map (zc ad) := by
  obtain ⟨t1, t2⟩ := ztake_sp hz
  have hst9 : st = as.reverse ++ st' := t1.symm
  have hlall := zlvs_iff.mp hl
  rw [hst9] at hlall
  refine ⟨t2, zlvs_iff.mpr (fun v hv => hlall v (List.mem_append_left _ (List.mem_reverse.mpr hv))), zlvs_iff.mpr (fun v hv => hlall v (List.mem_append_right _ hv)), ?_⟩
  rw [hst9, List.map_append, List.map_reverse]
theorem z_invH_ok {pc index k n mc ms : Nat} {y : MethodName} {bytes : ByteArray} {maxL : Nat} {rt : Option FieldType} {rm : Room} {Cn : String} {T : u_T} {N : Nat} {ty : Nat → FieldType} {sp : ZSp} {hs : Nat → Option Int32} {kk : ZP} (C : zCx X cc own (some .int) F Lo cx sx) (hQ : ∀ t, zEndP X.b X.g X.ad X.S0 X.K X.a X.s (X.ce + (mc + 1)) (X.sl + (ms + 6)) t → X.Q t) (hM : zMet X.l y bytes maxL rt rm mc ms sp) (hrm : rm.cells = mc + 1 ∧ rm.slots = ms + 6) (hR : rm.frames + 1 ≤ F ∧ 8 + (maxL + 11) + rm.locals ≤ Lo) (hcx : mc + 1 ≤ cx) (hsx : ms + 6 ≤ sx)
    (hw : zcall own index y bytes maxL rt n) (hinst : Cond.instanceMethod y ∈ wG) (hsel : Cond.selects Cn y y ∈ wG) (hK : zKl k Cn T N ty) (hh : ∀ n v, hs n = some v → zhnd X cc own pc n v) (hd : decode cc pc = .ok (.invokevirtual index, 3)) (hk : ZOK (zXc X (X.ce + mc) (X.sl + ms)) (pc + 3) kk) : ZOK X pc (z_invH k n sp hs kk) := by
  intro L st S ad H locs ls hP hW hM' hE hS hL hl
  have hP1 : (match ztake (n + 1) st [] with
    | some (.inr (.inr (some q)) :: as, st') => bif Nat.beq q.1 k && (Nat.ble st'.length 4 && as.all zc1b) then sp (.inr (.inr (some q)) :: as) S (zcontH kk L st' X.K hs) else False
    | _ => False) := hP
  cases hz : ztake (n + 1) st [] with
  | none => rw [hz] at hP1; exact False.elim hP1
  | some z =>
    rw [hz] at hP1
    obtain ⟨as0, st'⟩ := z
    rcases as0 with _ | ⟨x | x | _ | ⟨a, i⟩, as⟩ <;> try exact False.elim hP1
    have hP2 : (bif Nat.beq a k && (Nat.ble st'.length 4 && as.all zc1b) then sp (zr a i :: as) S (zcontH kk L st' X.K hs) else False) := hP1
    cases hq : Nat.beq a k && (Nat.ble st'.length 4 && as.all zc1b) with
    | false => rw [hq] at hP2; exact False.elim hP2
    | true =>
      rw [hq] at hP2
      obtain ⟨g1, g2⟩ := (Bool.and_eq_true _ _).mp hq
      obtain ⟨g3, g4⟩ := (Bool.and_eq_true _ _).mp g2
      have ha : a = k := Nat.eq_of_beq_eq_true g1
      obtain ⟨hlen, hlas, hlv, hlst, hmap⟩ := ztake_v (ad := ad) hz hl
      subst ha
      have hrun := z_runV (pc := pc) (ls := ls) (rest := st'.map (zc ad)) C hM hrm hR hcx hsx hw hinst hsel hK hlv hP2 hW hS hlas (zc1_of g4) hlen hL.1 (zsum8 g3) hd
      rw [hmap]
      refine z_afterC hrun (fun S' h => h) (fun v S' h => h) hk hM' hE hS hL hlst (fun n' S' ad' H1 locs1 q ce hn1 hn3 hKn hW' hm hx hS1 hce hcv hcl => ?_)
      have hKn1 : (match hs n' with
        | some v => X.K (.inl (some (.inl v))) S'
        | none => False) := hKn
      cases hv : hs n' with
      | none => rw [hv] at hKn1; exact False.elim hKn1
      | some v =>
        rw [hv] at hKn1
        exact z_caught C hQ (hh n' v hv) hKn1 hW' (hM'.tr hm) (hE.tr hM' hx) hS1 (hL.ext hm hx) hce hcv hcl
end ZL
