/-! a method of the law with handlers -/
theorem zMetW_of {mc ms : Nat} {l : Launch} {y : MethodName} {bytes : ByteArray} {maxL : Nat} {ret : Option FieldType} {hh : List (Nat × Nat × Nat × Nat)} {rm : Room} (hl : l.stackTraces = false) (hy : plainName y.cls = true) (hyL : y.cls = "PointsbookLaw") (hrm : rm.cells = mc + 1 ∧ rm.slots = ms + 6) {P : ZP} (body : ∀ X : ZX, zCx X bytes y.cls ret rm.frames rm.locals (mc + 1) (ms + 6) → X.nL = maxL → X.ce = 0 ∧ X.sl = 0 ∧ X.Q = zEndP X.b X.g X.ad X.S0 X.K X.a X.s mc ms → X.c.exceptionTable.toList = tableOf hh → ZOK X 0 P) :
    zMetW l y bytes maxL ret hh rm mc ms (fun as S K => as.length ≤ maxL ∧ zsp maxL P as S K) := by
  intro g ad S K as hsp
  refine MetFree.of_bodyS (code := bytes) (maxLocals := maxL) (ret := ret) hy ?_ ?_
  · intro args s m h hn
    obtain ⟨m9, meth, c, hn9, h1, h2, h3, h4, -, h5, h6, -⟩ := Cond.codeWith_spec (atoms_spec (ws := Cond.codeWith y bytes maxL ret hh :: wG) h _ List.mem_cons_self)
    cases hn.symm.trans hn9
    exact ⟨meth, c, h1, h2, h3, h4, h5, h6⟩
  · intro p e s m args below meth c s₁ B hml hP _
    have hh0 : s₁.heap = s.heap := by rw [B.state]; rfl
    obtain ⟨hargs, hE, hW, hlv, h1⟩ := hP
    have hts := atoms_spec (ws := Cond.codeWith y bytes maxL ret hh :: wG) B.pre
    have htab := vx_table (x := y) B (hts _ List.mem_cons_self)
    have hY := Stand.of_body B
    have hR : (headSpec (Cond.codeWith y bytes maxL ret hh :: wG) rm).room = rm := rfl
    rw [hR] at hY
    have C : zCx (p, l, e, rm, s, m, args, below, meth, c, g, S, ad, K, 0, 0, maxL, zEndP below g ad S K args s mc ms) bytes y.cls ret rm.frames rm.locals (mc + 1) (ms + 6) := ⟨B.exec, B.bytes, hml, fun w hw => hts w (List.mem_cons_of_mem _ hw), findClass_of_methodNamed B.named, B.notSynchronized, B.returns, hl, Or.inl hyL, hE, fun t h => zEnd_mono (Nat.zero_le _) (Nat.zero_le _) t h, Nat.le_refl _, Nat.le_refl _, Nat.le_of_eq ((Nat.zero_add _).trans hrm.1.symm), Nat.le_of_eq ((Nat.zero_add _).trans hrm.2.symm)⟩
    obtain ⟨t, a1, o, b1, b2, b3⟩ := zX_go (as := as) (body _ C rfl ⟨rfl, rfl, rfl⟩ htab) rfl hsp.2 hsp.1 hW h1 hlv hh0 hY
    refine ⟨t, o, ?_, b1, b2, b3⟩
    rw [hargs]
    exact a1
