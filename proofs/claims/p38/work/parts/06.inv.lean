section ZJ
variable {X : ZX} {cc : ByteArray} {own : String} {ret : Option FieldType} {F Lo cx sx : Nat}
/-- behind a call: it has returned, or thrown -/
def zRun (X : ZX) (g : ZG) (ad : ZA) (S : ZS) (K : ZK) (mc ms : Nat) (H : Heap) (locs : List Loc) (f : JFrame) (rest : List Value) (a : Array Value) : Prop :=
  ∀ T : State, T.heap = H → Stand X.p X.l X.e X.R X.s X.m X.a X.b X.meth X.c T locs X.ce X.sl →
    (∃ (v : Option Value) (st₀ t T' : State) (L : List Loc), st₀.heap = H ∧ Stand X.p X.l X.e X.R X.s X.m X.a X.b X.meth X.c T' (locs ++ L) (X.ce + mc) (X.sl + ms) ∧ (∀ q ∈ L, zAA g q.base) ∧ T'.heap = t.heap ∧ T'.vm = t.vm ∧ zQc g ad S K a st₀ (.returned v) t ∧
      Goes X.p X.e X.b T f T' { f with pc := f.pc + 3, stack := v.toList ++ rest }) ∨
    (∃ (q : Addr) (st₀ t T' : State) (L : List Loc) (E : String) (ce : Cell), st₀.heap = H ∧ Stand X.p X.l X.e X.R X.s X.m X.a X.b X.meth X.c T' (locs ++ L) (X.ce + (mc + 1)) (X.sl + (ms + 6)) ∧ (∀ z ∈ L, zAA g z.base) ∧ T'.heap = t.heap ∧ T'.vm = t.vm ∧ zXC g ad S K E st₀ t ∧ t.heap[q]? = some ce ∧ ce.vm = .none ∧ X.s.vm.findClass E = some ce.cls ∧
      Steps X.p.tables X.e X.b (T.setTop f) ((T'.setTop { f with stack := rest }).pushFrame (.throwing q)))
/-- the words of a call -/
def zcall (own : String) (index : Nat) (y : MethodName) (bytes : ByteArray) (maxL : Nat) (ret : Option FieldType) (n : Nat) : Prop :=
  Cond.methodLink own index y ∈ wG ∧ Cond.code y bytes maxL ret ∈ wG ∧ Cond.initialized y.cls ∈ wG ∧ (y.cls ≠ "java/lang/invoke/MethodHandle" ∧ y.cls ≠ "java/lang/invoke/VarHandle") ∧ (parseMethodDescriptor y.desc).map (fun d => d.parameters.length) = some n
theorem wG_good {w : Cond} (h : w ∈ wG) : (w.onTables && w.keeps) = true ∨ ∃ ty, w = .arrayClass ty := good_of_word (List.mem_filter.mp h).2
theorem zcall_ws {y : MethodName} {bytes : ByteArray} {maxL : Nat} {rt : Option FieldType} (hw : ∀ w ∈ wG, w.before X.a X.s = true) (hc : Cond.code y bytes maxL rt ∈ wG) : ∀ w ∈ (Cond.code y bytes maxL rt :: wG), ∀ (a' : Array Value) (U : State), X.s.WarmedH U.vm → w.before a' U = true := fun w h a' U hW => by
  rcases List.mem_cons.mp h with rfl | h
  · exact word_at hW (wG_good hc) (hw _ hc)
  · exact word_at hW (wG_good h) (hw _ h)
theorem zPc_at {S : ZS} {ad : ZA} {H : Heap} {locs : List Loc} {as : List ZV} (hE : zE X.g X.s) (hW : zW X.g ad S H) (hS : va_S (zAA X.g) X.s.heap H locs) (hl : zlvs S as) (h1 : ∀ x ∈ as, zc1 x) : ∀ U : State, U.heap = H → X.s.WarmedH U.vm → zPc X.g ad S as (as.map (zc ad)).toArray U := fun U hU hW9 =>
  ⟨rfl, hE.moved hW9 (by rw [hU]; exact hS.1) (fun q h1 h2 => by rw [hU]; exact hS.2.1 q h1 h2), by rw [hU]; exact hW, hl, h1⟩
theorem z_runV {index n : Nat} {y : MethodName} {bytes : ByteArray} {maxL : Nat} {rt : Option FieldType} {rm : Room} {mc ms pc k i : Nat} {Cn : String} {T : u_T} {N : Nat} {ty : Nat → FieldType} {sp : ZSp} {K : ZK} {S : ZS} {ad : ZA} {H : Heap} {locs : List Loc} {ls : Array Slot} {as : List ZV} {rest : List Value} (C : zCx X cc own ret F Lo cx sx) (hM : zMet X.l y bytes maxL rt rm mc ms sp) (hrm : rm.cells = mc + 1 ∧ rm.slots = ms + 6) (hR : rm.frames + 1 ≤ F ∧ 8 + (maxL + 11) + rm.locals ≤ Lo) (hcx : mc + 1 ≤ cx) (hsx : ms + 6 ≤ sx)
    (hw : zcall own index y bytes maxL rt n) (hinst : Cond.instanceMethod y ∈ wG) (hsel : Cond.selects Cn y y ∈ wG) (hK : zKl k Cn T N ty) (hlv : zlv S k i)
    (hsp : sp (zr k i :: as) S K) (hW : zW X.g ad S H) (hS : va_S (zAA X.g) X.s.heap H locs) (hl : zlvs S as) (h1 : ∀ x ∈ as, zc1 x) (hn : as.length = n) (hsz : ls.size = X.nL) (hcat : (rest.map fun v => v.category).sum ≤ 8) (hd : decode cc pc = .ok (.invokevirtual index, 3)) :
    zRun X X.g ad S K mc ms H locs (F0 X.m pc ls ((as.map (zc ad)).reverse ++ .ref (ad k i) :: rest)) rest (((zr k i :: as).map (zc ad)).toArray) := by
  obtain ⟨w1, w2, w3, w4, w5⟩ := hw
  have hB : vx_Back X.l X.R X.p X.e X.b X.s X.a y 3 8 (PreOf X.R (mc + 1) (ms + 6) (zPc X.g ad S (zr k i :: as))) (PostOf (zQc X.g ad S K) mc ms (zAA X.g)) (vx_Post (zXC X.g ad S K) (mc + 1) (ms + 6) (zAA X.g)) :=
    z_back (bytes := bytes) (maxL := maxL) (ret := rt) (hM X.g ad S K _ hsp) (zPc_blind _ _ _ _) hrm.1 hrm.2 (Nat.le_trans hR.1 C.hF) (Nat.le_trans hR.2 C.hLo) (zcall_ws C.hw w2) List.mem_cons_self (fun a' U hW9 => word_at hW9 (wG_good w3) (C.hw _ w3))
  have hPc := zPc_at (as := zr k i :: as) C.hE hW hS ⟨hlv, hl⟩ (List.forall_mem_cons.mpr ⟨trivial, h1⟩)
  obtain ⟨hk1, hk2, hk3, hk4, hk5, hk6⟩ := hK
  obtain ⟨cellB, hcB, hoB, hclB⟩ := va_recv C.hE.2.1 (zP1 (hW.ob hlv hk6)) hk1 (q0 := 0) rfl
  have hlen : (as.map (zc ad)).length = n := (List.length_map _).trans hn
  intro T9 hT Y
  rcases vx_callV Y C.hx (C := Cn) (bytes := bytes) (maxL := maxL) (ret := rt) C.hown (C.hw _ w1) (C.hw _ hinst) (C.hw _ hsel) (C.hw _ w2) w4 hB (by rw [hT]; exact hcB) hoB hclB rfl (hsz.trans C.hml.symm) (argsL := as.map (zc ad)) (rest := rest) (fun sig h => by rw [h] at w5; exact hlen.trans (Option.some.inj w5).symm) rfl (lv_room hcat) (by rw [C.hb]; exact hd)
    (fun vm₁ hW₁ => ⟨Nat.le_trans (Nat.add_le_add_left hcx _) C.hce, Nat.le_trans (Nat.add_le_add_left hsx _) C.hsl, hPc (T9.setVm vm₁) hT hW₁⟩) with ⟨v, vm₁, ⟨U', l2, c2, s2⟩, hW₁, X', ⟨g', mk, t, L, e1, e2, hq, h1, hL, h2, h3⟩, st⟩ | ⟨q, vm₁, ⟨U', l2, c2, s2⟩, hW₁, X', ⟨g', mk, t, L, E, ce, e1, e2, hq, hce, hcv, hcl, h1, hL, h2, h3⟩, st⟩
  · dsimp only [Pt.U, Pt.locs, Pt.cells, Pt.slots] at X' e1 e2 h1 h2 h3 st
    subst h1; subst h2; subst h3
    exact Or.inl ⟨v, (T9.setVm vm₁).calling g' mk _, t, U', L, hT, X', hL, e1, e2, hq, st⟩
  · dsimp only [Pt.U, Pt.locs, Pt.cells, Pt.slots] at X' e1 e2 h1 h2 h3 st hcl
    subst h1; subst h2; subst h3
    exact Or.inr ⟨q, (T9.setVm vm₁).calling g' mk _, t, U', L, E, ce, hT, X', hL, e1, e2, hq, hce, hcv, vx_cls hW₁ hcl, st⟩
theorem z_runS {index n : Nat} {y : MethodName} {bytes : ByteArray} {maxL : Nat} {rt : Option FieldType} {rm : Room} {mc ms pc : Nat} {sp : ZSp} {K : ZK} {S : ZS} {ad : ZA} {H : Heap} {locs : List Loc} {ls : Array Slot} {as : List ZV} {rest : List Value} (C : zCx X cc own ret F Lo cx sx) (hM : zMet X.l y bytes maxL rt rm mc ms sp) (hrm : rm.cells = mc + 1 ∧ rm.slots = ms + 6) (hR : rm.frames + 1 ≤ F ∧ 8 + (maxL + 11) + rm.locals ≤ Lo) (hcx : mc + 1 ≤ cx) (hsx : ms + 6 ≤ sx)
    (hw : zcall own index y bytes maxL rt n) (hst : Cond.static y ∈ wG)
    (hsp : sp as S K) (hW : zW X.g ad S H) (hS : va_S (zAA X.g) X.s.heap H locs) (hl : zlvs S as) (h1 : ∀ x ∈ as, zc1 x) (hn : as.length = n) (hsz : ls.size = X.nL) (hcat : (rest.map fun v => v.category).sum ≤ 8) (hd : decode cc pc = .ok (.invokestatic index, 3)) :
    zRun X X.g ad S K mc ms H locs (F0 X.m pc ls ((as.map (zc ad)).reverse ++ rest)) rest ((as.map (zc ad)).toArray) := by
  obtain ⟨w1, w2, w3, w4, w5⟩ := hw
  have hB : vx_Back X.l X.R X.p X.e X.b X.s X.a y 3 8 (PreOf X.R (mc + 1) (ms + 6) (zPc X.g ad S as)) (PostOf (zQc X.g ad S K) mc ms (zAA X.g)) (vx_Post (zXC X.g ad S K) (mc + 1) (ms + 6) (zAA X.g)) :=
    z_back (bytes := bytes) (maxL := maxL) (ret := rt) (hM X.g ad S K _ hsp) (zPc_blind _ _ _ _) hrm.1 hrm.2 (Nat.le_trans hR.1 C.hF) (Nat.le_trans hR.2 C.hLo) (zcall_ws C.hw w2) List.mem_cons_self (fun a' U hW9 => word_at hW9 (wG_good w3) (C.hw _ w3))
  have hPc := zPc_at (as := as) C.hE hW hS hl h1
  have hlen : (as.map (zc ad)).length = n := (List.length_map _).trans hn
  intro T9 hT Y
  rcases vx_callS Y C.hx (bytes := bytes) (maxL := maxL) (ret := rt) C.hown (C.hw _ w1) (C.hw _ hst) (C.hw _ w3) (C.hw _ w2) w4 hB rfl (hsz.trans C.hml.symm) (argsL := as.map (zc ad)) (rest := rest) (fun sig h => by rw [h] at w5; exact hlen.trans (Option.some.inj w5).symm) rfl (lv_room hcat) (by rw [C.hb]; exact hd)
    (fun vm₁ hW₁ => ⟨Nat.le_trans (Nat.add_le_add_left hcx _) C.hce, Nat.le_trans (Nat.add_le_add_left hsx _) C.hsl, hPc (T9.setVm vm₁) hT hW₁⟩) with ⟨v, vm₁, ⟨U', l2, c2, s2⟩, hW₁, X', ⟨g', mk, t, L, e1, e2, hq, h1, hL, h2, h3⟩, st⟩ | ⟨q, vm₁, ⟨U', l2, c2, s2⟩, hW₁, X', ⟨g', mk, t, L, E, ce, e1, e2, hq, hce, hcv, hcl, h1, hL, h2, h3⟩, st⟩
  · dsimp only [Pt.U, Pt.locs, Pt.cells, Pt.slots] at X' e1 e2 h1 h2 h3 st
    subst h1; subst h2; subst h3
    exact Or.inl ⟨v, (T9.setVm vm₁).calling g' mk _, t, U', L, hT, X', hL, e1, e2, hq, st⟩
  · dsimp only [Pt.U, Pt.locs, Pt.cells, Pt.slots] at X' e1 e2 h1 h2 h3 st hcl
    subst h1; subst h2; subst h3
    exact Or.inr ⟨q, (T9.setVm vm₁).calling g' mk _, t, U', L, E, ce, hT, X', hL, e1, e2, hq, hce, hcv, vx_cls hW₁ hcl, st⟩
theorem zS_after {g : ZG} {S S0 : ZS} {st₀ t T' : State} {L locs : List Loc} {H : Heap} {H0 : Heap} (h0 : st₀.heap = H) (e1 : T'.heap = t.heap) (hS : va_S (zAA g) H0 H locs) (hL : ∀ q ∈ L, zAA g q.base) (hF : va_F (zAA g) st₀ t) : va_S (zAA g) H0 T'.heap (locs ++ L) :=
  (vx_keep h0 e1 hS (fun _ _ h => h) (fun _ h => h) hL hF).2.2
/-- the walk goes on behind a call that made nothing -/
theorem z_after {pc : Nat} {S : ZS} {ad : ZA} {H : Heap} {locs : List Loc} {ls : Array Slot} {a : Array Value} {L : List (Option ZV)} {st : List ZV} {stk : List Value} {kk : ZP} (C : zCx X cc own ret F Lo cx sx) (ho : own ≠ "PointsbookLaw")
    (hr : zRun X X.g ad S (zcont kk L st X.K) 0 0 H locs (F0 X.m pc ls stk) (st.map (zc ad)) a) (hk : ZOK X (pc + 3) kk)
    (hM : zMono X.S0 S) (hE : zExt X.S0 X.ad ad) (hS : va_S (zAA X.g) X.s.heap H locs) (hL : zLR ad S ls X.nL L) (hl : zlvs S st) : zGo X H locs (F0 X.m pc ls stk) := by
  intro T hT Y
  rcases hr T hT Y with ⟨v, st₀, t, T', L1, h0, Y', hL1, e1, e2, ⟨w, S', ad', hv, hK, hW', hM', hE', hx, hF⟩, go⟩ | ⟨q, st₀, t, T', L1, E, ce, h0, Y', hL1, e1, e2, ⟨n, S', ad', hE1, hn1, hn3, hK, hW', hM', hE', hF⟩, hce, hcv, hcl, go⟩
  · have hS1 := zS_after (S := S) (S0 := S) h0 e1 hS hL1 hF
    have hvw : v = w.map (zc ad') := by
      have := hv
      injection this
    subst hvw
    have hst : st.map (zc ad') = st.map (zc ad) := zcs_ext hE' hl
    cases w with
    | none =>
      obtain ⟨t2, a1, b1⟩ := hk L st S' ad' T'.heap (locs ++ L1) ls hK (by rw [e1]; exact hW') (hM.tr hM') (hE.tr hM hE') hS1 (hL.ext hM' hE') (hl.mono hM') T' rfl Y'
      rw [hst] at a1
      exact ⟨t2, go t2 a1, b1⟩
    | some x =>
      obtain ⟨t2, a1, b1⟩ := hk L (x :: st) S' ad' T'.heap (locs ++ L1) ls hK (by rw [e1]; exact hW') (hM.tr hM') (hE.tr hM hE') hS1 (hL.ext hM' hE') ⟨(hx x rfl).1, hl.mono hM'⟩ T' rfl Y'
      rw [List.map_cons, hst] at a1
      exact ⟨t2, go t2 a1, b1⟩
  · have hS1 := zS_after (S := S) (S0 := S) h0 e1 hS hL1 hF
    have hout := vx_out (p := X.p) (l := X.l) (e := X.e) (R := X.R) (s := X.s) (m := X.m) (args := X.a) (below := X.b) (meth := X.meth) (c := X.c) (H := T'.heap) (locs := locs ++ L1) (cells := X.ce + 1) (slots := X.sl + 6) (mc := X.ce + 1) (ms := X.sl + 6) (free := zAA X.g) (Qc := fun _ _ _ _ => False) (XC := zXC X.g X.ad X.S0 X.K) (ls := ls) (rest := st.map (zc ad)) (pc := pc) (E := E) (ce := ce) (q := q)
      (fun x hx => (C.hnh ho x hx).elim) C.hlk (by rw [e1]; exact hce) hcv hcl (fun t' ht' _ => ⟨n, S', ad', hE1, hn1, hn3, hK, by rw [ht', e1]; exact hW', hM.tr hM', hE.tr hM hE', hS1.F ht'⟩) hS1.2.2 (Nat.le_refl _) (Nat.le_refl _)
    obtain ⟨t2, a1, b1⟩ := hout T' rfl Y'
    exact ⟨t2, go.trans a1, C.hQ t2 (zMQ_thr (A0 := zAA X.g) t2 b1)⟩
theorem zsum8 {ad : ZA} {st : List ZV} (h : Nat.ble st.length 4 = true) : ((st.map (zc ad)).map fun v => v.category).sum ≤ 8 := by
  have h1 := zsum ad st
  have h2 := Nat.le_of_ble_eq_true h
  omega
theorem z_invV_ok {pc index k n : Nat} {y : MethodName} {bytes : ByteArray} {maxL : Nat} {rt : Option FieldType} {rm : Room} {Cn : String} {T : u_T} {N : Nat} {ty : Nat → FieldType} {sp : ZSp} {kk : ZP} (C : zCx X cc own ret F Lo cx sx) (ho : own ≠ "PointsbookLaw") (hM : zMet X.l y bytes maxL rt rm 0 0 sp) (hrm : rm.cells = 1 ∧ rm.slots = 6) (hR : rm.frames + 1 ≤ F ∧ 8 + (maxL + 11) + rm.locals ≤ Lo) (hcx : 1 ≤ cx) (hsx : 6 ≤ sx)
    (hw : zcall own index y bytes maxL rt n) (hinst : Cond.instanceMethod y ∈ wG) (hsel : Cond.selects Cn y y ∈ wG) (hK : zKl k Cn T N ty) (hd : decode cc pc = .ok (.invokevirtual index, 3)) (hk : ZOK X (pc + 3) kk) : ZOK X pc (z_invV k n sp kk) := by
  intro L st S ad H locs ls hP hW hM' hE hS hL hl
  have hP1 : (match ztake (n + 1) st [] with
    | some (.inr (.inr (some q)) :: as, st') => bif Nat.beq q.1 k && (Nat.ble st'.length 4 && as.all zc1b) then sp (.inr (.inr (some q)) :: as) S (zcont kk L st' X.K) else False
    | _ => False) := hP
  cases hz : ztake (n + 1) st [] with
  | none => rw [hz] at hP1; exact False.elim hP1
  | some z =>
    rw [hz] at hP1
    obtain ⟨as0, st'⟩ := z
    rcases as0 with _ | ⟨x | x | _ | ⟨a, i⟩, as⟩ <;> try exact False.elim hP1
    have hP2 : (bif Nat.beq a k && (Nat.ble st'.length 4 && as.all zc1b) then sp (zr a i :: as) S (zcont kk L st' X.K) else False) := hP1
    cases hq : Nat.beq a k && (Nat.ble st'.length 4 && as.all zc1b) with
    | false => rw [hq] at hP2; exact False.elim hP2
    | true =>
      rw [hq] at hP2
      obtain ⟨g1, g2⟩ := (Bool.and_eq_true _ _).mp hq
      obtain ⟨g3, g4⟩ := (Bool.and_eq_true _ _).mp g2
      have ha : a = k := Nat.eq_of_beq_eq_true g1
      obtain ⟨t1, t2⟩ := ztake_sp hz
      have hst : st = as.reverse ++ (zr a i :: st') := by
        rw [List.reverse_cons, List.append_assoc] at t1
        exact t1.symm
      have hlen : as.length = n := by
        rw [List.length_cons] at t2
        have : ([] : List ZV).length = 0 := rfl
        omega
      have hlall := zlvs_iff.mp hl
      rw [hst] at hlall
      have hlas : zlvs S as := zlvs_iff.mpr (fun v hv => hlall v (List.mem_append_left _ (List.mem_reverse.mpr hv)))
      have hlv : zlv S a i := hlall (zr a i) (List.mem_append_right _ List.mem_cons_self)
      have hlst : zlvs S st' := zlvs_iff.mpr (fun v hv => hlall v (List.mem_append_right _ (List.mem_cons_of_mem _ hv)))
      subst ha
      have hrun := z_runV (mc := 0) (ms := 0) (pc := pc) (ls := ls) (rest := st'.map (zc ad)) C hM hrm hR hcx hsx hw hinst hsel hK hlv hP2 hW hS hlas (zc1_of g4) hlen hL.1 (zsum8 g3) hd
      have hgo := z_after C ho hrun hk hM' hE hS hL hlst
      have hmap : st.map (zc ad) = (as.map (zc ad)).reverse ++ .ref (ad a i) :: st'.map (zc ad) := by
        rw [hst, List.map_append, List.map_reverse]
        rfl
      rw [hmap]
      exact hgo
theorem z_invS_ok {pc index n : Nat} {y : MethodName} {bytes : ByteArray} {maxL : Nat} {rt : Option FieldType} {rm : Room} {sp : ZSp} {kk : ZP} (C : zCx X cc own ret F Lo cx sx) (ho : own ≠ "PointsbookLaw") (hM : zMet X.l y bytes maxL rt rm 0 0 sp) (hrm : rm.cells = 1 ∧ rm.slots = 6) (hR : rm.frames + 1 ≤ F ∧ 8 + (maxL + 11) + rm.locals ≤ Lo) (hcx : 1 ≤ cx) (hsx : 6 ≤ sx)
    (hw : zcall own index y bytes maxL rt n) (hst : Cond.static y ∈ wG) (hd : decode cc pc = .ok (.invokestatic index, 3)) (hk : ZOK X (pc + 3) kk) : ZOK X pc (z_invS n sp kk) := by
  intro L st S ad H locs ls hP hW hM' hE hS hL hl
  have hP1 : (match ztake n st [] with
    | some (as, st') => bif Nat.ble st'.length 4 && as.all zc1b then sp as S (zcont kk L st' X.K) else False
    | none => False) := hP
  cases hz : ztake n st [] with
  | none => rw [hz] at hP1; exact False.elim hP1
  | some z =>
    rw [hz] at hP1
    obtain ⟨as, st'⟩ := z
    have hP2 : (bif Nat.ble st'.length 4 && as.all zc1b then sp as S (zcont kk L st' X.K) else False) := hP1
    cases hq : Nat.ble st'.length 4 && as.all zc1b with
    | false => rw [hq] at hP2; exact False.elim hP2
    | true =>
      rw [hq] at hP2
      obtain ⟨g3, g4⟩ := (Bool.and_eq_true _ _).mp hq
      obtain ⟨t1, t2⟩ := ztake_sp hz
      have hst9 : st = as.reverse ++ st' := t1.symm
      have hlen : as.length = n := t2
      have hlall := zlvs_iff.mp hl
      rw [hst9] at hlall
      have hlas : zlvs S as := zlvs_iff.mpr (fun v hv => hlall v (List.mem_append_left _ (List.mem_reverse.mpr hv)))
      have hlst : zlvs S st' := zlvs_iff.mpr (fun v hv => hlall v (List.mem_append_right _ hv))
      have hrun := z_runS (mc := 0) (ms := 0) (pc := pc) (ls := ls) (rest := st'.map (zc ad)) C hM hrm hR hcx hsx hw hst hP2 hW hS hlas (zc1_of g4) hlen hL.1 (zsum8 g3) hd
      have hgo := z_after C ho hrun hk hM' hE hS hL hlst
      have hmap : st.map (zc ad) = (as.map (zc ad)).reverse ++ st'.map (zc ad) := by
        rw [hst9, List.map_append, List.map_reverse]
      rw [hmap]
      exact hgo
end ZJ
-- a method's entry
def zin : Nat → List ZV → List (Option ZV)
  | 0, _ => []
  | n + 1, [] => none :: zin n []
  | n + 1, a :: as => some a :: zin n as
def zsp (maxL : Nat) (P : ZP) : ZSp := fun as S K => P (zin maxL as) [] S K
theorem zin_len : ∀ (n : Nat) (as : List ZV), (zin n as).length = n
  | 0, _ => rfl
  | n + 1, [] => congrArg Nat.succ (zin_len n [])
  | n + 1, _ :: as => congrArg Nat.succ (zin_len n as)
theorem zin_nth {ad : ZA} : ∀ (n : Nat) (as : List ZV) (i0 i : Nat) (v : ZV), (∀ x ∈ as, zc1 x) → znth (zin n as) i = some v → (i0 + i, zc ad v) ∈ lv_args i0 (as.map (zc ad)) ∧ v ∈ as
  | 0, _, _, _, _, _, h => by cases h
  | n + 1, [], _, 0, _, _, h => by cases h
  | n + 1, [], i0, i + 1, v, h1, h => by
    obtain ⟨-, h2⟩ := zin_nth (ad := ad) n [] i0 i v h1 h
    cases h2
  | n + 1, a :: as, i0, 0, v, _, h => by
    cases h
    exact ⟨List.mem_cons_self, List.mem_cons_self⟩
  | n + 1, a :: as, i0, i + 1, v, h1, h => by
    obtain ⟨h2, h3⟩ := zin_nth (ad := ad) n as (i0 + 1) i v (fun x hx => h1 x (List.mem_cons_of_mem _ hx)) h
    refine ⟨?_, List.mem_cons_of_mem _ h3⟩
    have hc : (zc ad a).category = 1 := zcat (h1 a List.mem_cons_self)
    show _ ∈ (i0, zc ad a) :: lv_args (if (zc ad a).category = 2 then i0 + 2 else i0 + 1) (as.map (zc ad))
    rw [if_neg (by rw [hc]; decide), show i0 + (i + 1) = i0 + 1 + i by omega]
    exact List.mem_cons_of_mem _ h2
theorem zsl_len (ad : ZA) : ∀ {as : List ZV}, (∀ x ∈ as, zc1 x) → (lg_sl (as.map (zc ad))).length = as.length
  | [], _ => rfl
  | a :: as, h => by
    have hc : (zc ad a).category = 1 := zcat (h a List.mem_cons_self)
    have h1 := zsl_len ad (as := as) (fun x hx => h x (List.mem_cons_of_mem _ hx))
    simp only [lg_sl, List.map_cons, List.flatMap_cons, hc] at h1 ⊢
    simp [h1]
theorem zLR_in {ad : ZA} {S : ZS} {n : Nat} {as : List ZV} (hn : as.length ≤ n) (h1 : ∀ x ∈ as, zc1 x) (hl : zlvs S as) : zLR ad S ((lg_sl (as.map (zc ad)) ++ List.replicate (n - (lg_sl (as.map (zc ad))).length) Slot.unset).toArray) n (zin n as) := by
  have h2 := lv_entry (as.map (zc ad)) (n := n) (by rw [zsl_len ad h1]; exact hn)
  refine ⟨h2.1, h2.2.1, zin_len n as, fun i v hv => ?_⟩
  obtain ⟨h3, h4⟩ := zin_nth (ad := ad) n as 0 i v h1 hv
  rw [Nat.zero_add] at h3
  exact ⟨h2.2.2 _ h3, zlvs_iff.mp hl v h4, h1 v h4⟩
theorem zX_go {X : ZX} {P : ZP} {as : List ZV} {n : Nat} {s₁ : State} (hZ : ZOK X 0 P) (hn : X.nL = n) (hP : P (zin n as) [] X.S0 X.K) (hlen : as.length ≤ n) (hW : zW X.g X.ad X.S0 X.s.heap) (h1 : ∀ x ∈ as, zc1 x) (hl : zlvs X.S0 as) (hh : s₁.heap = X.s.heap) (Y : Stand X.p X.l X.e X.R X.s X.m X.a X.b X.meth X.c s₁ [] X.ce X.sl) : ∃ t, Steps X.p.tables X.e X.b (s₁.setTop (entryFrame X.m (as.map (zc X.ad)).toArray n)) t ∧ X.Q t := by
  subst hn
  rw [lg_entry_eq]
  exact hZ (zin X.nL as) [] X.S0 X.ad X.s.heap [] _ hP hW zMono.rf zExt.rf va_S.rf (zLR_in hlen h1 hl) trivial s₁ hh Y
theorem zEnd_mono {below : List Frame} {g : ZG} {ad : ZA} {S0 : ZS} {K : ZK} {args : Array Value} {s : State} {a b a' b' : Nat} (h1 : a ≤ a') (h2 : b ≤ b') (t : State) (h : zEndP below g ad S0 K args s a b t) : zEndP below g ad S0 K args s a' b' t := by
  obtain ⟨o, g1, g2, ⟨hq, L, hf, hL⟩ | ⟨q, hq, E, ce, L, e1, e2, e3, e4, e5, e6, e7⟩⟩ := h
  · exact ⟨o, g1, g2, Or.inl ⟨hq, L, ⟨hf.1, hf.2.1, hf.2.2.mono h1 h2⟩, hL⟩⟩
  · exact ⟨o, g1, g2, Or.inr ⟨q, hq, E, ce, L, e1, e2, e3, e4, e5, e6.mono (by omega) (by omega), e7⟩⟩
theorem zMet_of {mc ms : Nat} {l : Launch} {y : MethodName} {bytes : ByteArray} {maxL : Nat} {ret : Option FieldType} {rm : Room} (hl : l.stackTraces = false) (hy : plainName y.cls = true) (hrm : rm.cells = mc + 1 ∧ rm.slots = ms + 6) {P : ZP} (body : ∀ X : ZX, zCx X bytes y.cls ret rm.frames rm.locals (mc + 1) (ms + 6) → X.nL = maxL → X.ce = 0 ∧ X.sl = 0 ∧ X.Q = zEndP X.b X.g X.ad X.S0 X.K X.a X.s mc ms → ZOK X 0 P) :
    zMet l y bytes maxL ret rm mc ms (fun as S K => as.length ≤ maxL ∧ zsp maxL P as S K) := by
  intro g ad S K as hsp
  refine MetFree.of_bodyS (code := bytes) (maxLocals := maxL) (ret := ret) hy ?_ ?_
  · intro args s m h hn
    obtain ⟨meth, c, h1, h2, h3, h4, h5, h6, -, -⟩ := Cond.code_spec hn (atoms_spec (ws := Cond.code y bytes maxL ret :: wG) h _ List.mem_cons_self)
    exact ⟨meth, c, h1, h2, h3, h4, h5, h6⟩
  · intro p e s m args below meth c s₁ B hml hP _
    have hh0 : s₁.heap = s.heap := by rw [B.state]; rfl
    have ht : ∀ x ∈ c.exceptionTable.toList, False := by
      obtain ⟨meth9, c9, h1, h2, -, -, -, -, h7, -⟩ := Cond.code_spec B.named (atoms_spec (ws := Cond.code y bytes maxL ret :: wG) B.pre _ List.mem_cons_self)
      cases Option.some.inj (h1.symm.trans B.method)
      cases Option.some.inj (h2.symm.trans (Stand.of_body B).code)
      intro x hx
      rw [Array.isEmpty_iff.mp h7] at hx
      cases hx
    obtain ⟨hargs, hE, hW, hlv, h1⟩ := hP
    have hts := atoms_spec (ws := Cond.code y bytes maxL ret :: wG) B.pre
    have hY := Stand.of_body B
    have hR : (headSpec (Cond.code y bytes maxL ret :: wG) rm).room = rm := rfl
    rw [hR] at hY
    have C : zCx (p, l, e, rm, s, m, args, below, meth, c, g, S, ad, K, 0, 0, maxL, zEndP below g ad S K args s mc ms) bytes y.cls ret rm.frames rm.locals (mc + 1) (ms + 6) := ⟨B.exec, B.bytes, hml, fun w hw => hts w (List.mem_cons_of_mem _ hw), findClass_of_methodNamed B.named, B.notSynchronized, B.returns, hl, Or.inr ht, hE, fun t h => zEnd_mono (Nat.zero_le _) (Nat.zero_le _) t h, Nat.le_refl _, Nat.le_refl _, Nat.le_of_eq ((Nat.zero_add _).trans hrm.1.symm), Nat.le_of_eq ((Nat.zero_add _).trans hrm.2.symm)⟩
    obtain ⟨t, a1, o, b1, b2, b3⟩ := zX_go (as := as) (body _ C rfl ⟨rfl, rfl, rfl⟩) rfl hsp.2 hsp.1 hW h1 hlv hh0 hY
    refine ⟨t, o, ?_, b1, b2, b3⟩
    rw [hargs]
    exact a1
-- loops: n rounds
def z_iter (body : ZP → ZP) : Nat → ZP
  | 0 => fun _ _ _ _ => False
  | n + 1 => body (z_iter body n)
def z_loop (body : ZP → ZP) : ZP := fun L st S K => ∃ n, z_iter body n L st S K
theorem z_loop_ok {X : ZX} {pc : Nat} {body : ZP → ZP} (h : ∀ J, ZOK X pc J → ZOK X pc (body J)) : ZOK X pc (z_loop body) := by
  have key : ∀ n, ZOK X pc (z_iter body n) := fun n => by
    induction n with
    | zero => exact fun L st S ad H locs ls hP => False.elim hP
    | succ n ih => exact h _ ih
  intro L st S ad H locs ls ⟨n, hP⟩
  exact key n L st S ad H locs ls hP
