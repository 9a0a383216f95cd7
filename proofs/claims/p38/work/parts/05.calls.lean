/-! switches, throws, calls, entries, loops -/
section ZI
variable {X : ZX} {cc : ByteArray} {own : String} {ret : Option FieldType} {F Lo cx sx : Nat}
def zswOK (X : ZX) (pc : Nat) (lo : Int) (offs : Array Int) : Nat → List (Int32 × ZP) → Prop
  | _, [] => True
  | j, q :: cs => (q.1.toInt = lo + j ∧ ∃ (off : Int) (t : Nat), offs[j]? = some off ∧ (pc : Int) + off = (t : Int) ∧ ZOK X t q.2) ∧ zswOK X pc lo offs (j + 1) cs
theorem zswOK_at {X : ZX} {pc : Nat} {lo : Int} {offs : Array Int} : ∀ {cs : List (Int32 × ZP)} {j0 : Nat}, zswOK X pc lo offs j0 cs → ∀ {j : Nat} {q : Int32 × ZP}, cs[j]? = some q → q.1.toInt = lo + ((j0 + j : Nat) : Int) ∧ ∃ (off : Int) (t : Nat), offs[j0 + j]? = some off ∧ (pc : Int) + off = (t : Int) ∧ ZOK X t q.2
  | [], _, _, _, _, h => by cases h
  | _ :: _, j0, h, 0, q, hq => by cases hq; exact h.1
  | _ :: cs, j0, h, j + 1, q, hq => by
    have h1 := zswOK_at (cs := cs) (j0 := j0 + 1) h.2 (j := j) (q := q) hq
    rw [show j0 + 1 + j = j0 + (j + 1) by omega] at h1
    exact h1
theorem z_sw_sp {d : ZP} {L : List (Option ZV)} {st : List ZV} {S : ZS} {K : ZK} {x : Int32} : ∀ {cs : List (Int32 × ZP)}, z_sw cs d L (.inl x :: st) S K → (∃ (j : Nat) (q : Int32 × ZP), cs[j]? = some q ∧ x = q.1 ∧ q.2 L st S K) ∨ ((∀ (j : Nat) (q : Int32 × ZP), cs[j]? = some q → ¬ x = q.1) ∧ d L st S K)
  | [], h => Or.inr ⟨fun j q h => by simp at h, h⟩
  | q :: cs, h => by
    obtain ⟨h1, h2⟩ := (show (x = q.1 → q.2 L st S K) ∧ (¬ x = q.1 → z_sw cs d L (.inl x :: st) S K) from h)
    by_cases hx : x = q.1
    · exact Or.inl ⟨0, q, rfl, hx, h1 hx⟩
    · rcases z_sw_sp (cs := cs) (h2 hx) with ⟨j, r, a, b, c⟩ | ⟨a, b⟩
      · exact Or.inl ⟨j + 1, r, a, b, c⟩
      · refine Or.inr ⟨fun j r hr => ?_, b⟩
        cases j with
        | zero => cases hr; exact hx
        | succ j => exact a j r hr
theorem z_sw_ok {pc len tgt : Nat} {dflt lo hi : Int} {offs : Array Int} {cs : List (Int32 × ZP)} {d : ZP} (hx : X.p.tables.exec = Jvm.exec) (hb : X.c.code = cc) (hd : decode cc pc = .ok (.tableswitch dflt lo hi offs, len)) (ht : (pc : Int) + dflt = (tgt : Int)) (hdk : ZOK X tgt d) (hcs : zswOK X pc lo offs 0 cs) (hhi : hi + 1 = lo + (cs.length : Int)) : ZOK X pc (z_sw cs d) := by
  intro L st S ad H locs ls hP hW hM hE hS hL hl
  rcases st with _ | ⟨x | x, st⟩
  · cases cs <;> exact False.elim hP
  · rcases z_sw_sp hP with ⟨j, q, hj, hxq, hP1⟩ | ⟨hno, hP1⟩
    · obtain ⟨h1, off, t, h2, h3, h4⟩ := zswOK_at hcs hj
      rw [Nat.zero_add] at h1 h2
      have hjl : j < cs.length := (List.getElem?_eq_some_iff.mp hj).1
      have hxi : x.toInt = lo + (j : Int) := by rw [hxq]; exact h1
      exact lv_tableIn hx hb hd (by omega) (by omega) (by rw [show (x.toInt - lo).toNat = j by omega]; exact h2) h3 (h4 L st S ad H locs ls hP1 hW hM hE hS hL hl.2)
    · refine lv_tableOut hx hb hd ?_ ht (hdk L st S ad H locs ls hP1 hW hM hE hS hL hl.2)
      by_cases h1 : x.toInt < lo
      · exact Or.inl h1
      · by_cases h2 : hi < x.toInt
        · exact Or.inr h2
        · have hjl : (x.toInt - lo).toNat < cs.length := by omega
          obtain ⟨q, hq⟩ : ∃ q, cs[(x.toInt - lo).toNat]? = some q := ⟨_, List.getElem?_eq_getElem hjl⟩
          obtain ⟨h3, -⟩ := zswOK_at hcs hq
          rw [Nat.zero_add] at h3
          exact absurd (Int32.toInt_inj.mp (by omega)) (hno _ q hq)
  · cases cs <;> exact False.elim hP
theorem zW.kept {g : ZG} {ad : ZA} {S : ZS} {H H1 : Heap} (h : zW g ad S H) (hq : ∀ q : Nat, q < H.size → H1[q]? = H[q]?) : zW g ad S H1 :=
  ⟨fun k i hk hl => (h.1 k i hk hl).kept (hq _ (h.1 k i hk hl).lt), h.2.1, h.2.2.1, h.2.2.2⟩
theorem zMQ_thr {A0 : Nat → Prop} (t : State) (h : vx_MQ X.b (fun _ _ _ _ => False) (zXC X.g X.ad X.S0 X.K) X.a X.s (X.ce + 1) (X.sl + 6) (zAA X.g) t) : zEnd X t := by
  obtain ⟨o, h1, h2, ⟨h3, -⟩ | h3⟩ := h
  · exact h3.elim
  · exact ⟨o, h1, h2, Or.inr h3⟩
abbrev znames : List String := ["java/lang/RuntimeException", "java/lang/Exception"]
/-- what a throw of kind n, its constructor at ic, wants of the tables -/
def zthr (own : String) (ik ic n : Nat) : Prop := (1 ≤ n ∧ n ≤ 3) ∧ Bundle.fit (zen n) = true ∧ Cond.classLink own ik (zen n) ∈ wG ∧ Cond.initialized (zen n) ∈ wG ∧ (∀ w ∈ vx_atS own ic (zen n) znames, w ∈ wG ∨ w ∈ zxw) ∧ (∀ w ∈ Cond.classLink own ik (zen n) :: Cond.initialized (zen n) :: vx_atS own ic (zen n) znames, vx_ot w = true)
theorem zn_fit : ∀ n ∈ znames, Bundle.fit n = true := by decide +kernel
theorem zthr_x {n : Nat} {S : ZS} {ad : ZA} {H : Heap} {locs : List Loc} (hn : 1 ≤ n ∧ n ≤ 3) (hP : X.K (.inr n) S) (hW : zW X.g ad S H) (hM : zMono X.S0 S) (hE : zExt X.S0 X.ad ad) (hS : va_S (zAA X.g) X.s.heap H locs) :
    ∀ t : State, X.s.vm.Alike t.vm → H.size ≤ t.heap.size → (∀ q : Nat, q < H.size → t.heap[q]? = H[q]?) → zXC X.g X.ad X.S0 X.K (zen n) X.s t := fun t _ hz hq =>
  ⟨n, S, ad, rfl, hn.1, hn.2, hP, hW.kept hq, hM, hE, Nat.le_trans hS.1 hz, fun q h1 h2 => (hq q (Nat.lt_of_lt_of_le h1 hS.1)).trans (hS.2.1 q h1 h2)⟩
theorem zxw_tab : ∀ w ∈ zxw, w.onTables = true := by decide +kernel
theorem zthr_w {ik ic n : Nat} (C : zCx X cc own ret F Lo cx sx) (h3 : ∀ w ∈ vx_atS own ic (zen n) znames, w ∈ wG ∨ w ∈ zxw) (_ : ∀ w ∈ Cond.classLink own ik (zen n) :: Cond.initialized (zen n) :: vx_atS own ic (zen n) znames, vx_ot w = true) : ∀ w ∈ vx_atS own ic (zen n) znames, w.before X.a X.s = true := fun w hw =>
  (h3 w hw).elim (fun h => C.hw _ h) (fun h => va_Nw.use (zxw_tab w h) (C.hE.2.2.2.2.2.1 w h))
theorem z_throwS_ok {pc ik is ic n : Nat} {text : String} (C : zCx X cc own ret F Lo cx sx) (h : zthr own ik ic n) (hs : (own, is, text) ∈ zstr)
    (d0 : decode cc pc = .ok (.new ik, 3)) (d3 : decode cc (pc + 3) = .ok (.dup, 1)) (d4 : decode cc (pc + 4) = .ok (.ldc is, 2)) (d6 : decode cc (pc + 6) = .ok (.invokespecial ic, 3)) (d9 : decode cc (pc + 9) = .ok (.athrow, 1))
    (ho : own ≠ "PointsbookLaw") (hF : 6 ≤ F) (hLo : 90 ≤ Lo) (hcx : 1 ≤ cx) (hsx : 6 ≤ sx) : ZOK X pc (z_throw n) := by
  intro L st S ad H locs ls hP hW hM hE hS hL hl
  have hP2 : (bif Nat.ble st.length 4 then X.K (.inr n) S else False) := hP
  cases hq : Nat.ble st.length 4 with
  | false => rw [hq] at hP2; exact False.elim hP2
  | true =>
    rw [hq] at hP2
    have hlen := Nat.le_of_ble_eq_true hq
    have hsm := zsum ad st
    obtain ⟨hn, hfit, h1, h2, h3, h4⟩ := h
    obtain ⟨sa, hsa⟩ := C.hE.2.2.2.2.1 _ hs
    have hRl := C.hLo
    have hRf := C.hF
    exact zWmono (fun t ht => C.hQ t (zMQ_thr (A0 := zAA X.g) t ht)) (vx_throwS (cls := zen n) (names := znames) C.hx C.hb C.htr C.hown hfit zn_fit (C.hw _ h1) (C.hw _ h2) hsa (fun w hw => zthr_w C h3 h4 w hw) h4 C.hE.2.2.1 C.hE.2.2.2.1 hS (hL.1.trans C.hml.symm) d0 d3 d4 d6 d9 (fun x hx => (C.hnh ho x hx).elim)
      (show 2 + 3 < X.R.frames by omega) (show _ + (13 * (2 + 1) + 43) ≤ X.R.locals by omega) (Nat.le_trans (Nat.add_le_add_left hcx _) C.hce) (Nat.le_trans (Nat.add_le_add_left hsx _) C.hsl) C.hlk (zthr_x hn hP2 hW hM hE hS) hS.2.2 (Nat.le_refl _) (Nat.le_refl _))
theorem z_throwSW_ok {pc ik is ic n : Nat} {text : String} (C : zCx X cc own ret F Lo cx sx) (h : zthr own ik ic n) (hs : (own, is, text) ∈ zstr)
    (d0 : decode cc pc = .ok (.new ik, 3)) (d3 : decode cc (pc + 3) = .ok (.dup, 1)) (d4 : decode cc (pc + 4) = .ok (.ldc_w is, 3)) (d7 : decode cc (pc + 7) = .ok (.invokespecial ic, 3)) (d10 : decode cc (pc + 10) = .ok (.athrow, 1))
    (ho : own ≠ "PointsbookLaw") (hF : 6 ≤ F) (hLo : 90 ≤ Lo) (hcx : 1 ≤ cx) (hsx : 6 ≤ sx) : ZOK X pc (z_throw n) := by
  intro L st S ad H locs ls hP hW hM hE hS hL hl
  have hP2 : (bif Nat.ble st.length 4 then X.K (.inr n) S else False) := hP
  cases hq : Nat.ble st.length 4 with
  | false => rw [hq] at hP2; exact False.elim hP2
  | true =>
    rw [hq] at hP2
    have hlen := Nat.le_of_ble_eq_true hq
    have hsm := zsum ad st
    obtain ⟨hn, hfit, h1, h2, h3, h4⟩ := h
    obtain ⟨sa, hsa⟩ := C.hE.2.2.2.2.1 _ hs
    have hRl := C.hLo
    have hRf := C.hF
    exact zWmono (fun t ht => C.hQ t (zMQ_thr (A0 := zAA X.g) t ht)) (vx_throwSW (cls := zen n) (names := znames) C.hx C.hb C.htr C.hown hfit zn_fit (C.hw _ h1) (C.hw _ h2) hsa (fun w hw => zthr_w C h3 h4 w hw) h4 C.hE.2.2.1 C.hE.2.2.2.1 hS (hL.1.trans C.hml.symm) d0 d3 d4 d7 d10 (fun x hx => (C.hnh ho x hx).elim)
      (show 2 + 3 < X.R.frames by omega) (show _ + (13 * (2 + 1) + 43) ≤ X.R.locals by omega) (Nat.le_trans (Nat.add_le_add_left hcx _) C.hce) (Nat.le_trans (Nat.add_le_add_left hsx _) C.hsl) C.hlk (zthr_x hn hP2 hW hM hE hS) hS.2.2 (Nat.le_refl _) (Nat.le_refl _))
end ZI
-- contracts
def zPc (g : ZG) (ad : ZA) (S : ZS) (as : List ZV) : Array Value → State → Prop := fun v U => v = (as.map (zc ad)).toArray ∧ zE g U ∧ zW g ad S U.heap ∧ zlvs S as ∧ ∀ x ∈ as, zc1 x
def zMet (l : Launch) (y : MethodName) (bytes : ByteArray) (maxL : Nat) (ret : Option FieldType) (rm : Room) (mc ms : Nat) (sp : ZSp) : Prop :=
  ∀ (g : ZG) (ad : ZA) (S : ZS) (K : ZK) (as : List ZV), sp as S K → MetFree l y (headSpec (Cond.code y bytes maxL ret :: wG) rm) (zPc g ad S as) (fun _ _ _ _ _ => True) (zQm (zQc g ad S K) (zXC g ad S K) mc ms (mc + 1) (ms + 6) (zAA g))
theorem zE.calling {g : ZG} {U : State} {f : JFrame} {mk : MethodId} {a : Array Value} (h : zE g U) : zE g (U.calling f mk a) := zE.moved (U := U.calling f mk a) h (State.WarmedH.refl U) (Nat.le_refl _) (fun _ _ _ => rfl)
theorem zPc_blind (g : ZG) (ad : ZA) (S : ZS) (as : List ZV) : FrameBlind (zPc g ad S as) := fun _ _ _ _ q => ⟨q.1, q.2.1.calling, q.2.2⟩
section Payer2
variable {l : Launch} {R : Room} {p : Program} {e : Env} {below : List Frame} {s : State} {sargs : Array Value} {y : MethodName} {len W9 : Nat}
/-- follows vx_back, with a cost of its own for a throw -/
theorem z_back {ws : List Cond} {rm : Room} {Pc : Array Value → State → Prop} {Qc : Array Value → State → Outcome → State → Prop} {XC : String → State → State → Prop} {mc ms mx my : Nat} {free : Addr → Prop} {bytes : ByteArray} {maxL : Nat} {ret : Option FieldType}
    (hM : MetFree l y (headSpec ws rm) Pc (fun _ _ _ _ _ => True) (zQm Qc XC mc ms mx my free)) (hblind : FrameBlind Pc) (hrc : rm.cells = mx) (hrs : rm.slots = my)
    (hframes : rm.frames + 1 ≤ R.frames) (hlocals : W9 + (maxL + 11) + rm.locals ≤ R.locals)
    (hws : ∀ w ∈ ws, ∀ a' U, s.WarmedH U.vm → w.before a' U = true) (hcode : Cond.code y bytes maxL ret ∈ ws) (hinit : ∀ a' U, s.WarmedH U.vm → (Cond.initialized y.cls).before a' U = true) :
    vx_Back l R p e below s sargs y len W9 (PreOf R mx my Pc) (PostOf Qc mc ms free) (vx_Post XC mx my free) := by
  intro m meth c A g ig mk a X hg hsize hdg hW hn hp
  have h1 : (headSpec ws rm).pre.before a A.U = true := atoms_intro fun w hw => hws w hw _ _ X.warmed
  have h2 : (Cond.code y bytes maxL ret).before a A.U = true := hws _ hcode _ _ X.warmed
  have h3 : (Cond.initialized y.cls).before a A.U = true := hinit _ _ X.warmed
  have h4 : A.cells + (headSpec ws rm).room.cells ≤ R.cells := by rw [show (headSpec ws rm).room.cells = mx from hrc]; exact hp.1
  have h5 : A.slots + (headSpec ws rm).room.slots ≤ R.slots := by rw [show (headSpec ws rm).room.slots = my from hrs]; exact hp.2.1
  have hPc : Pc a (A.U.calling g mk a) := hblind _ _ _ _ hp.2.2
  obtain ⟨U, Ls, c0, s0⟩ := A
  dsimp only [Pt.U, Pt.locs, Pt.cells, Pt.slots] at h1 h2 h3 h4 h5 X hn hPc ⊢
  obtain ⟨methY, cY, hmY, hcY, -, hlY, -, -, -, -⟩ := Cond.code_spec hn h2
  obtain ⟨kY, hkY, -⟩ := className_of_methodNamed hn
  have hinitY : kY.init = .initialized := Cond.initialized_spec (findClass_of_methodNamed hn) hkY h3
  have h : At U g.method c below := by rw [hg]; exact X.here
  have hlocals9 : W9 + (maxL + 11) + (headSpec ws rm).room.locals ≤ R.locals := hlocals
  have happ : (headSpec ws rm).appliesLoose y e.platform (U.calling g mk a) = true :=
    Spec.appliesLoose_calling (g := g) h hdg hn hkY hinitY
      (X.room_calling (g := g) (R' := (headSpec ws rm).room) hsize hmY hcY hframes (by rw [hlY]; omega) h4 h5) h1
  obtain ⟨mid, hmid⟩ := h.above
  have hfr : (U.setTop g).frames = (.java g :: mid) ++ below := by rw [State.frames_setTop' g h.top, hmid]; rfl
  obtain ⟨o, s₂, hsteps, -, hend, hq⟩ := Steps.callFree hM p X.admits X.cas X.clock (acts := []) hfr happ hPc trivial
  have hq' : zQm Qc XC mc ms mx my free a (U.calling g mk a) o s₂ := hq
  rw [State.frames_setTop' g h.top] at hend
  obtain ⟨g₀, hg0⟩ := Option.isSome_iff_exists.mp h.top
  obtain ⟨r, hr⟩ := State.topJava?_eq_some.mp hg0
  have hr' : (({ U with heap := s₂.heap, slotsUsed := s₂.slotsUsed } : State).setVm s₂.vm).frames = .java g₀ :: r := hr
  rcases hq' with ⟨hqc, L, hfe, hL⟩ | ⟨q, rfl, E, ce, L, hx, hce, hcv, hcl, hW₂, hsm, hL⟩
  · obtain ⟨⟨v, rfl⟩, hW₂, e2, q2, q3, q4, q5, q6⟩ := id hfe
    have e3 : s₂ = ({ (U.calling g mk a).setFrames s₂.frames with heap := s₂.heap, slotsUsed := s₂.slotsUsed } : State).setVm s₂.vm := by
      have : s₂ = ({ s₂ with vm := (U.calling g mk a).vm } : State).setVm s₂.vm := rfl
      rw [e2] at this
      exact this
    obtain ⟨c₂, i₂, len₂, hc₂, hd₂, hf₂⟩ := hend
    have hW' : U.WarmedH s₂.vm := hW₂
    have hcc : c₂ = c := by
      have h1 : s₂.code? g.method = U.code? g.method := by
        rw [State.code?_eq, State.code?_eq, hW'.alike.method?]
      exact Option.some.inj (hc₂.symm.trans (h1.trans h.code))
    subst hcc
    have hlen : len₂ = len := by rw [hdg] at hd₂; cases hd₂; rfl
    subst hlen
    have hs₂ : s₂ = (({ U with heap := s₂.heap, slotsUsed := s₂.slotsUsed } : State).setVm s₂.vm).setTop { g with pc := g.pc + len₂, stack := v.toList ++ g.stack } := by
      refine e3.trans ?_
      rw [hf₂, State.calling_eq h.top, State.setFrames_setFrames, State.setTop_of_frames _ hr', hr]
      rfl
    have hsame : U.sameButNew ({ U with heap := s₂.heap, slotsUsed := s₂.slotsUsed } : State) L mc ms := by
      refine ⟨?_, q2, q3, q4, q5, q6⟩
      obtain ⟨t, ht, -⟩ := State.frames_cons hr
      show ({ U with heap := s₂.heap, slotsUsed := s₂.slotsUsed } : State) = { U.setFrames U.frames with heap := s₂.heap, slotsUsed := s₂.slotsUsed }
      rw [State.setFrames_self ht]
    subst hg
    refine Or.inl ⟨v, ⟨(({ U with heap := s₂.heap, slotsUsed := s₂.slotsUsed } : State).setVm s₂.vm), Ls ++ L, c0 + mc, s0 + ms⟩,
      ⟨X.admits, X.cas, X.clock, X.frames, X.room, X.hears, X.method, X.code, (X.here.setHeapUsed s₂.heap s₂.slotsUsed).setVm hW'.alike, X.tail, State.WarmedH.trans X.warmed hW', X.limits, X.bytes, X.same.trans (hsame.setVm s.vm)⟩,
      ⟨g, mk, s₂, L, rfl, rfl, hqc, rfl, hL, rfl, rfl⟩, ?_⟩
    show Steps p.tables e below _ ((({ U with heap := s₂.heap, slotsUsed := s₂.slotsUsed } : State).setVm s₂.vm).setTop { g with pc := g.pc + len₂, stack := v.toList ++ g.stack })
    rw [← hs₂]
    exact hsteps
  · obtain ⟨e2, q2, q3, q4, q5, q6⟩ := id hsm
    have e3 : s₂ = ({ (U.calling g mk a).setFrames s₂.frames with heap := s₂.heap, slotsUsed := s₂.slotsUsed } : State).setVm s₂.vm := by
      have : s₂ = ({ s₂ with vm := (U.calling g mk a).vm } : State).setVm s₂.vm := rfl
      rw [e2] at this
      exact this
    have hf₂ : s₂.frames = .throwing q :: .java g :: U.frames.tail := hend
    have hW' : U.WarmedH s₂.vm := hW₂
    have hs₂ : s₂ = ((({ U with heap := s₂.heap, slotsUsed := s₂.slotsUsed } : State).setVm s₂.vm).setTop g).pushFrame (.throwing q) := by
      refine e3.trans ?_
      rw [hf₂, State.calling_eq h.top, State.setFrames_setFrames, State.pushFrame, State.frames_setTop _ hr', State.setTop_of_frames _ hr', State.setFrames_setFrames, hr]
      rfl
    have hsame : U.sameButNew ({ U with heap := s₂.heap, slotsUsed := s₂.slotsUsed } : State) L mx my := by
      refine ⟨?_, q2, q3, q4, q5, q6⟩
      obtain ⟨t, ht, -⟩ := State.frames_cons hr
      show ({ U with heap := s₂.heap, slotsUsed := s₂.slotsUsed } : State) = { U.setFrames U.frames with heap := s₂.heap, slotsUsed := s₂.slotsUsed }
      rw [State.setFrames_self ht]
    subst hg
    refine Or.inr ⟨q, ⟨(({ U with heap := s₂.heap, slotsUsed := s₂.slotsUsed } : State).setVm s₂.vm), Ls ++ L, c0 + mx, s0 + my⟩,
      ⟨X.admits, X.cas, X.clock, X.frames, X.room, X.hears, X.method, X.code, (X.here.setHeapUsed s₂.heap s₂.slotsUsed).setVm hW'.alike, X.tail, State.WarmedH.trans X.warmed hW', X.limits, X.bytes, X.same.trans (hsame.setVm s.vm)⟩,
      ⟨g, mk, s₂, L, E, ce, rfl, rfl, hx, hce, hcv, hcl, rfl, hL, rfl, rfl⟩, ?_⟩
    show Steps p.tables e below _ (((({ U with heap := s₂.heap, slotsUsed := s₂.slotsUsed } : State).setVm s₂.vm).setTop g).pushFrame (.throwing q))
    rw [← hs₂]
    exact hsteps
end Payer2
theorem ztake_sp : ∀ {n : Nat} {st acc as st' : List ZV}, ztake n st acc = some (as, st') → as.reverse ++ st' = acc.reverse ++ st ∧ as.length = n + acc.length
  | 0, st, acc, as, st', h => by cases h; exact ⟨rfl, (Nat.zero_add _).symm⟩
  | n + 1, [], acc, as, st', h => by cases h
  | n + 1, v :: st, acc, as, st', h => by
    obtain ⟨h1, h2⟩ := ztake_sp (n := n) (st := st) (acc := v :: acc) h
    refine ⟨by rw [h1]; simp, by rw [h2, List.length_cons]; omega⟩
theorem zlvs_iff {S : ZS} : ∀ {st : List ZV}, zlvs S st ↔ ∀ v ∈ st, zlvv S v
  | [] => ⟨fun _ _ h => (nomatch h), fun _ => trivial⟩
  | v :: st => by
    rw [List.forall_mem_cons]
    exact and_congr Iff.rfl zlvs_iff
theorem zc1_of {as : List ZV} (h : as.all zc1b = true) : ∀ x ∈ as, zc1 x := fun x hx => by
  have h1 := List.all_eq_true.mp h x hx
  rcases x with x | x | _ | q
  · trivial
  · cases h1
  · trivial
  · trivial
