/-! the context of a walk, as one value; the judgement ZOK; one row an instruction -/
abbrev ZX : Type := Program × Launch × Env × Room × State × MethodId × Array Value × List Frame × Method × Code × ZG × ZS × ZA × ZK × Nat × Nat × Nat × (State → Prop)
abbrev ZX.p (X : ZX) := X.1
abbrev ZX.l (X : ZX) := X.2.1
abbrev ZX.e (X : ZX) := X.2.2.1
abbrev ZX.R (X : ZX) := X.2.2.2.1
abbrev ZX.s (X : ZX) := X.2.2.2.2.1
abbrev ZX.m (X : ZX) := X.2.2.2.2.2.1
abbrev ZX.a (X : ZX) := X.2.2.2.2.2.2.1
abbrev ZX.b (X : ZX) := X.2.2.2.2.2.2.2.1
abbrev ZX.meth (X : ZX) := X.2.2.2.2.2.2.2.2.1
abbrev ZX.c (X : ZX) := X.2.2.2.2.2.2.2.2.2.1
abbrev ZX.g (X : ZX) := X.2.2.2.2.2.2.2.2.2.2.1
abbrev ZX.S0 (X : ZX) := X.2.2.2.2.2.2.2.2.2.2.2.1
abbrev ZX.ad (X : ZX) := X.2.2.2.2.2.2.2.2.2.2.2.2.1
abbrev ZX.K (X : ZX) := X.2.2.2.2.2.2.2.2.2.2.2.2.2.1
abbrev ZX.ce (X : ZX) := X.2.2.2.2.2.2.2.2.2.2.2.2.2.2.1
abbrev ZX.sl (X : ZX) := X.2.2.2.2.2.2.2.2.2.2.2.2.2.2.2.1
abbrev ZX.nL (X : ZX) := X.2.2.2.2.2.2.2.2.2.2.2.2.2.2.2.2.1
abbrev ZX.Q (X : ZX) := X.2.2.2.2.2.2.2.2.2.2.2.2.2.2.2.2.2
abbrev zGo (X : ZX) (H : Heap) (locs : List Loc) (f : JFrame) : Prop := W X.p X.l X.e X.R X.s X.m X.a X.b X.meth X.c H locs X.ce X.sl X.Q f
def ZOK (X : ZX) (pc : Nat) (P : ZP) : Prop :=
  ∀ (L : List (Option ZV)) (st : List ZV) (S : ZS) (ad : ZA) (H : Heap) (locs : List Loc) (ls : Array Slot), P L st S X.K → zW X.g ad S H → zMono X.S0 S → zExt X.S0 X.ad ad → va_S (zAA X.g) X.s.heap H locs → zLR ad S ls X.nL L → zlvs S st → zGo X H locs (F0 X.m pc ls (st.map (zc ad)))
/-- what the tables and the old heap give -/
def zqu (j : Nat) : Int32 := match j with
  | 0 => 2
  | 1 => 4
  | 2 => 6
  | _ => 5
def zstr : List (String × Nat × String) := [("Pointsbook", 153, "nobody gives points to themselves"), ("Pointsbook", 167, "fewer points are left"), ("Pointsbook", 225, "on points only whole hundreds of grams are sold"), ("Pointsbook", 303, "the last month does not end"), ("Pointsbook", 335, "no such good"), ("Pointsbook", 338, "no such person"), ("Pointsbook", 340, "no such depot"), ("Pointsbook", 342, "no such shop"), ("Pointsbook", 344, "no such farm"), ("Pointsbook", 346, "out of range"), ("Pointsbook", 348, "there are as many as can be"), ("Pointsbook", 350, "they are dead"), ("Pointsbook", 355, "they are dead, or the book is stolen"), ("Pointsbook", 357, "there are fewer"), ("Pointsbook", 359, "they may not buy so many grams there"), ("Pointsbook", 365, "the depots cannot supply so many")]
def zen (n : Nat) : String := match n with
  | 1 => "java/lang/IndexOutOfBoundsException"
  | 2 => "java/lang/IllegalArgumentException"
  | _ => "java/lang/IllegalStateException"
/-- words that the tables keep by rows of their own -/
def zxw : List Cond := [.castable "java/lang/IndexOutOfBoundsException" "java/lang/IndexOutOfBoundsException", .castable "java/lang/IllegalArgumentException" "java/lang/IllegalArgumentException", .castable "java/lang/IllegalStateException" "java/lang/IllegalStateException", .fieldLinkNest "Pointsbook$Person" 48 "Pointsbook" "QUARTERS" "[I" "Pointsbook", .declares ⟨"java/lang/RuntimeException", "<init>", "(Ljava/lang/String;)V"⟩, .declares ⟨"java/lang/Exception", "<init>", "(Ljava/lang/String;)V"⟩, .declares ⟨"java/lang/Throwable", "<init>", "(Ljava/lang/String;)V"⟩, .methodLinkNest "Pointsbook" 41 ⟨"Pointsbook$Sales", "<init>", "()V"⟩ "Pointsbook", .methodLinkNest "Pointsbook" 87 ⟨"Pointsbook$Good", "<init>", "()V"⟩ "Pointsbook", .methodLinkNest "Pointsbook$Shop" 25 ⟨"Pointsbook$Shelf", "<init>", "()V"⟩ "Pointsbook"]
theorem zxw_warm {s U : State} (hW : s.WarmedH U.vm) (h : ∀ w ∈ zxw, va_Nw w s) : ∀ w ∈ zxw, va_Nw w U :=
  List.forall_mem_cons.mpr ⟨va_Nw.warmC hW (h _ (List.mem_of_getElem? (i := 0) rfl)), List.forall_mem_cons.mpr ⟨va_Nw.warmC hW (h _ (List.mem_of_getElem? (i := 1) rfl)), List.forall_mem_cons.mpr ⟨va_Nw.warmC hW (h _ (List.mem_of_getElem? (i := 2) rfl)), List.forall_mem_cons.mpr ⟨va_Nw.warmF hW (h _ (List.mem_of_getElem? (i := 3) rfl)), List.forall_mem_cons.mpr ⟨va_Nw.warmD hW (h _ (List.mem_of_getElem? (i := 4) rfl)), List.forall_mem_cons.mpr ⟨va_Nw.warmD hW (h _ (List.mem_of_getElem? (i := 5) rfl)), List.forall_mem_cons.mpr ⟨va_Nw.warmD hW (h _ (List.mem_of_getElem? (i := 6) rfl)), List.forall_mem_cons.mpr ⟨va_Nw.warmM hW (h _ (List.mem_of_getElem? (i := 7) rfl)), List.forall_mem_cons.mpr ⟨va_Nw.warmM hW (h _ (List.mem_of_getElem? (i := 8) rfl)), List.forall_mem_cons.mpr ⟨va_Nw.warmM hW (h _ (List.mem_of_getElem? (i := 9) rfl)), fun _ h => (nomatch h)⟩⟩⟩⟩⟩⟩⟩⟩⟩⟩
/-- the kinds that rows of things are made of -/
def zao : List String := ["Pointsbook$Good", "Pointsbook$Person", "Pointsbook$Depot", "Pointsbook$Shop", "Pointsbook$Farm", "Pointsbook$Shelf"]
def zE (g : ZG) (s : State) : Prop :=
  (g.2.2 ≤ s.heap.size ∧ (∀ C ∈ zao, va_AO C s) ∧ ArrOfT s (g.2.1 1) .int) ∧ va_K g.1 vwCl (zty g.2.1) s ∧ vx_Zq Bundle.tN "UNASSIGNED_STACK" Bundle.steD (zAA g) s s.heap ∧ vx_Zq Bundle.tN "SUPPRESSED_SENTINEL" Bundle.listD (zAA g) s s.heap ∧
  (∀ q ∈ zstr, ∃ sa, vk_R q.1 q.2.1 q.2.2 sa s) ∧ (∀ w ∈ zxw, va_Nw w s) ∧ (va_Nc (zen 2) (zen 1) s ∧ va_Nc (zen 3) (zen 1) s ∧ va_Nc (zen 3) (zen 2) s) ∧ ∃ qt, va_Z "Pointsbook" "QUARTERS" "[I" (.ref qt) (zAA g) s s.heap ∧ va_T .int qt 4 (fun j => .int (zqu j)) (zAA g) s s.heap
theorem zE.moved {g : ZG} {s U : State} (h : zE g s) (hW : s.WarmedH U.vm) (hz : s.heap.size ≤ U.heap.size) (hq : ∀ q : Nat, q < s.heap.size → ¬ zAA g q → U.heap[q]? = s.heap[q]?) : zE g U := by
  obtain ⟨h1, h2, h3, h4, h5, hxw, ⟨n1, n2, n3⟩, qt, h6, h7⟩ := h
  have hv := hW.alike
  exact ⟨⟨Nat.le_trans h1.1 hz, fun C hC => va_AO.moved hv (h1.2.1 C hC), arrOfT_moved hv h1.2.2⟩, va_K.moved hv h2, vx_Zq.moved hv (h3.kept hq), vx_Zq.moved hv (h4.kept hq), fun q hq9 => (h5 q hq9).elim fun sa hs => ⟨sa, hs.warm hW⟩, zxw_warm hW hxw, ⟨n1.moved hv, n2.moved hv, n3.moved hv⟩, qt, va_Z.moved hv (h6.kept hq), va_T.moved hv (h7.kept hq)⟩
def zQc (g : ZG) (ad : ZA) (S : ZS) (K : ZK) : Array Value → State → Outcome → State → Prop := fun _ st o t =>
  ∃ (v : Option ZV) (S' : ZS) (ad' : ZA), o = .returned (v.map (zc ad')) ∧ K (.inl v) S' ∧ zW g ad' S' t.heap ∧ zMono S S' ∧ zExt S ad ad' ∧ (∀ x, v = some x → zlvv S' x ∧ zc1 x) ∧ va_F (zAA g) st t
def zXC (g : ZG) (ad : ZA) (S : ZS) (K : ZK) : String → State → State → Prop := fun E st t =>
  ∃ (n : Nat) (S' : ZS) (ad' : ZA), E = zen n ∧ 1 ≤ n ∧ n ≤ 3 ∧ K (.inr n) S' ∧ zW g ad' S' t.heap ∧ zMono S S' ∧ zExt S ad ad' ∧ va_F (zAA g) st t
/-- a return makes mc cells of ms places, a throw mx of my -/
def zQm (Qc : Array Value → State → Outcome → State → Prop) (XC : String → State → State → Prop) (mc ms mx my : Nat) (free : Addr → Prop) : Array Value → State → Outcome → State → Prop := fun a st o t =>
  (Qc a st o t ∧ ∃ L, FrameEnd st o t L mc ms ∧ ∀ q ∈ L, free q.base) ∨ ∃ q, o = .threw q ∧ vx_T XC st q t mx my free
def zEndP (below : List Frame) (g : ZG) (ad : ZA) (S0 : ZS) (K : ZK) (args : Array Value) (s : State) (ce sl : Nat) : State → Prop := fun t =>
  ∃ o, t.status = .running ∧ Ended t below o ∧ zQm (zQc g ad S0 K) (zXC g ad S0 K) ce sl (ce + 1) (sl + 6) (zAA g) args s o t
abbrev zEnd (X : ZX) : State → Prop := zEndP X.b X.g X.ad X.S0 X.K X.a X.s X.ce X.sl
def wG : List Cond := lw_tbl.filter goodWord
theorem zg (i : Nat) {w : Cond} (h : lw_tbl[i]? = some w) (hg : goodWord w = true) : w ∈ wG := List.mem_filter.mpr ⟨List.mem_of_getElem? h, hg⟩
def zCx (X : ZX) (cc : ByteArray) (own : String) (ret : Option FieldType) (F Lo cx sx : Nat) : Prop :=
  X.p.tables.exec = Jvm.exec ∧ X.c.code = cc ∧ X.c.maxLocals = X.nL ∧ (∀ w ∈ wG, w.before X.a X.s = true) ∧ X.s.vm.findClass own = some X.m.cls ∧ X.meth.locks = false ∧ X.meth.sig.returnType = ret ∧ X.l.stackTraces = false ∧
  (own = "PointsbookLaw" ∨ ∀ x ∈ X.c.exceptionTable.toList, False) ∧ zE X.g X.s ∧ (∀ t, zEnd X t → X.Q t) ∧ F ≤ X.R.frames ∧ Lo ≤ X.R.locals ∧ X.ce + cx ≤ X.R.cells ∧ X.sl + sx ≤ X.R.slots
-- the instructions' meaning
def z_push (v : Int32) (k : ZP) : ZP := fun L st S K => k L (.inl v :: st) S K
def z_ild (i : Nat) (k : ZP) : ZP := fun L st S K => match znth L i with
  | some (.inl x) => k L (.inl x :: st) S K
  | _ => False
def z_ald (i : Nat) (k : ZP) : ZP := fun L st S K => match znth L i with
  | some (.inr (.inr r)) => k L (.inr (.inr r) :: st) S K
  | _ => False
def z_ist (i : Nat) (k : ZP) : ZP := fun L st S K => match st with
  | .inl x :: st => k (zset L i (.inl x)) st S K
  | _ => False
def z_ast (i : Nat) (k : ZP) : ZP := fun L st S K => match st with
  | .inr (.inr r) :: st => k (zset L i (.inr (.inr r))) st S K
  | _ => False
def z_inc (i : Nat) (n : Int32) (k : ZP) : ZP := fun L st S K => match znth L i with
  | some (.inl x) => k (zset L i (.inl (x + n))) st S K
  | _ => False
def z_bin (f : Int32 → Int32 → Int32) (k : ZP) : ZP := fun L st S K => match st with
  | .inl y :: .inl x :: st => k L (.inl (f x y) :: st) S K
  | _ => False
def z_dvn (f : Int32 → Int32 → Int32) (k : ZP) : ZP := fun L st S K => match st with
  | .inl y :: .inl x :: st => ¬ y = 0 ∧ k L (.inl (f x y) :: st) S K
  | _ => False
def z_un (f : Int32 → Int32) (k : ZP) : ZP := fun L st S K => match st with
  | .inl x :: st => k L (.inl (f x) :: st) S K
  | _ => False
def z_i2l (k : ZP) : ZP := fun L st S K => match st with
  | .inl x :: st => k L (.inr (.inl x.toInt64) :: st) S K
  | _ => False
def z_l2i (k : ZP) : ZP := fun L st S K => match st with
  | .inr (.inl x) :: st => k L (.inl x.toInt32 :: st) S K
  | _ => False
def z_lpush (v : Int64) (k : ZP) : ZP := fun L st S K => k L (.inr (.inl v) :: st) S K
def z_lbin (f : Int64 → Int64 → Int64) (k : ZP) : ZP := fun L st S K => match st with
  | .inr (.inl y) :: .inr (.inl x) :: st => k L (.inr (.inl (f x y)) :: st) S K
  | _ => False
def z_ldiv (k : ZP) : ZP := fun L st S K => match st with
  | .inr (.inl y) :: .inr (.inl x) :: st => ¬ y = 0 ∧ k L (.inr (.inl (x / y)) :: st) S K
  | _ => False
def z_lcmp (k : ZP) : ZP := fun L st S K => match st with
  | .inr (.inl y) :: .inr (.inl x) :: st => k L (.inl (lg_cmp x y) :: st) S K
  | _ => False
def z_dup (k : ZP) : ZP := fun L st S K => match st with
  | .inl x :: st => k L (.inl x :: .inl x :: st) S K
  | .inr (.inr r) :: st => k L (.inr (.inr r) :: .inr (.inr r) :: st) S K
  | _ => False
def z_dup2 (k : ZP) : ZP := fun L st S K => match st with
  | .inl y :: .inr (.inr r) :: st => k L (.inl y :: .inr (.inr r) :: .inl y :: .inr (.inr r) :: st) S K
  | _ => False
def z_pop (k : ZP) : ZP := fun L st S K => match st with
  | .inl _ :: st => k L st S K
  | .inr (.inr _) :: st => k L st S K
  | _ => False
def z_if (r : Int32 → Prop) (kt kf : ZP) : ZP := fun L st S K => match st with
  | .inl x :: st => (r x → kt L st S K) ∧ (¬ r x → kf L st S K)
  | _ => False
def z_cmp (r : Int32 → Int32 → Prop) (kt kf : ZP) : ZP := fun L st S K => match st with
  | .inl y :: .inl x :: st => (r x y → kt L st S K) ∧ (¬ r x y → kf L st S K)
  | _ => False
def z_ifnull (kt kf : ZP) : ZP := fun L st S K => match st with
  | .inr (.inr none) :: st => kt L st S K
  | .inr (.inr (some _)) :: st => kf L st S K
  | _ => False
def z_pnull (k : ZP) : ZP := fun L st S K => k L (.inr (.inr none) :: st) S K
/-- if_acmpne of two things of one kind -/
def z_acn (kt kf : ZP) : ZP := fun L st S K => match st with
  | .inr (.inr (some q)) :: .inr (.inr (some r)) :: st => bif Nat.beq q.1 6 && Nat.beq r.1 6 then (¬ r.2 = q.2 → kt L st S K) ∧ (r.2 = q.2 → kf L st S K) else False
  | _ => False
def z_gf (k f : Nat) (kk : ZP) : ZP := fun L st S K => match st with
  | .inr (.inr (some q)) :: st => bif Nat.beq q.1 k then kk L (zfld S k q.2 f :: st) S K else False
  | _ => False
/-- a field that may be null: both ways -/
def z_gfn (k f k2 : Nat) (kk : ZP) : ZP := fun L st S K => match st with
  | .inr (.inr (some q)) :: st => bif Nat.beq q.1 k then (S k q.2 f < 0 → kk L (.inr (.inr none) :: st) S K) ∧ (¬ S k q.2 f < 0 → kk L (.inr (.inr (some (k2, (S k q.2 f).toNatClampNeg))) :: st) S K) else False
  | _ => False
def z_pf (k f : Nat) (kk : ZP) : ZP := fun L st S K => match st with
  | .inl v :: .inr (.inr (some q)) :: st => bif Nat.beq q.1 k then kk L st (zup S k q.2 f v) K else False
  | _ => False
/-- a boolean field: 0 or 1 -/
def z_pfz (k f : Nat) (kk : ZP) : ZP := fun L st S K => match st with
  | .inl v :: .inr (.inr (some q)) :: st => bif Nat.beq q.1 k then (v = 0 ∨ v = 1) ∧ kk L st (zup S k q.2 f v) K else False
  | _ => False
/-- registered, next: a shop -/
def z_pfr (f : Nat) (kk : ZP) : ZP := fun L st S K => match st with
  | .inr (.inr (some q2)) :: .inr (.inr (some q)) :: st => bif Nat.beq q.1 3 && Nat.beq q2.1 6 then kk L st (zup S 3 q.2 f (nI q2.2)) K else False
  | _ => False
def z_iald (kk : ZP) : ZP := fun L st S K => match st with
  | .inl i :: .inr (.inr (some q)) :: st => bif (Nat.ble 9 q.1 && Nat.ble q.1 15) || Nat.beq q.1 22 then vp_in i (zlen q.1 q.2) ∧ kk L (.inl (S q.1 q.2 i.toNatClampNeg) :: st) S K else False
  | _ => False
def z_iast (kk : ZP) : ZP := fun L st S K => match st with
  | .inl v :: .inl i :: .inr (.inr (some q)) :: st => bif (Nat.ble 9 q.1 && Nat.ble q.1 15) || Nat.beq q.1 22 then vp_in i (zlen q.1 q.2) ∧ kk L st (zup S q.1 q.2 i.toNatClampNeg v) K else False
  | _ => False
def zcnt (S : ZS) (k : Nat) : Nat := match k with
  | 17 => nP S
  | 18 => nD S
  | 19 => nS S
  | 20 => nF S
  | _ => 6
def zchild (k i j : Nat) : Nat × Nat := match k with
  | 16 => (2, j)
  | 17 => (3, j)
  | 18 => (0, j)
  | 19 => (6, j)
  | 20 => (1, j)
  | _ => (5, 6 * i + j)
def z_aald (kk : ZP) : ZP := fun L st S K => match st with
  | .inl i :: .inr (.inr (some q)) :: st => bif Nat.ble 16 q.1 && Nat.ble q.1 21 then vp_in i (zlen q.1 q.2) ∧ i.toNatClampNeg < zcnt S q.1 ∧ kk L (.inr (.inr (some (zchild q.1 q.2 i.toNatClampNeg))) :: st) S K else False
  | _ => False
def z_alen (kk : ZP) : ZP := fun L st S K => match st with
  | .inr (.inr (some q)) :: st => bif Nat.ble 9 q.1 && Nat.ble q.1 22 then kk L (.inl (nI (zlen q.1 q.2)) :: st) S K else False
  | _ => False
def z_ret (k : Nat) : ZP := fun _ st S K => match st with
  | [.inl x] => bif Nat.beq k 1 then K (.inl (some (.inl x))) S else bif Nat.beq k 2 then (x = 0 ∨ x = 1) ∧ K (.inl (some (.inl x))) S else False
  | [.inr (.inr r)] => bif Nat.beq k 3 then K (.inl (some (.inr (.inr r)))) S else False
  | [] => bif Nat.beq k 0 then K (.inl none) S else False
  | _ => False
def zc1b (v : ZV) : Bool := match v with
  | .inr (.inl _) => false
  | _ => true
def zcont (kk : ZP) (L : List (Option ZV)) (st : List ZV) (K : ZK) : ZK := fun o S' => match o with
  | .inl none => kk L st S' K
  | .inl (some v) => kk L (v :: st) S' K
  | .inr n => K (.inr n) S'
/-- a call by a receiver of kind k, with n more arguments -/
def z_invV (k n : Nat) (sp : ZSp) (kk : ZP) : ZP := fun L st S K => match ztake (n + 1) st [] with
  | some (.inr (.inr (some q)) :: as, st') => bif Nat.beq q.1 k && (Nat.ble st'.length 4 && as.all zc1b) then sp (.inr (.inr (some q)) :: as) S (zcont kk L st' K) else False
  | _ => False
def z_invS (n : Nat) (sp : ZSp) (kk : ZP) : ZP := fun L st S K => match ztake n st [] with
  | some (as, st') => bif Nat.ble st'.length 4 && as.all zc1b then sp as S (zcont kk L st' K) else False
  | none => False
def z_throw (n : Nat) : ZP := fun _ st S K => bif Nat.ble st.length 4 then K (.inr n) S else False
/-- a switch: number by number, then the rest -/
def z_sw : List (Int32 × ZP) → ZP → ZP
  | [], d => fun L st S K => match st with
    | .inl _ :: st' => d L st' S K
    | _ => False
  | q :: cs, d => fun L st S K => match st with
    | .inl x :: st' => (x = q.1 → q.2 L st' S K) ∧ (¬ x = q.1 → z_sw cs d L st S K)
    | _ => False
theorem z_iconst_ok {X : ZX} {cc : ByteArray} {pc : Nat} {k : ZP} (hx : X.p.tables.exec = Jvm.exec) (hb : X.c.code = cc) {n : Int} {v : Int32} (hd : decode cc pc = .ok (.iconst n, 1)) (hv : Int32.ofInt n = v) (hk : ZOK X (pc + 1) k) : ZOK X pc (z_push v k) := by
  intro L st S ad H locs ls hP hW hM hE hS hL hl
  exact lv_iconst hx hb hd hv (hk L (.inl v :: st) S ad H locs ls hP hW hM hE hS hL ⟨trivial, hl⟩)
theorem z_bipush_ok {X : ZX} {cc : ByteArray} {pc : Nat} {k : ZP} (hx : X.p.tables.exec = Jvm.exec) (hb : X.c.code = cc) {n : Int} {v : Int32} (hd : decode cc pc = .ok (.bipush n, 2)) (hv : (Int8.ofInt n).toInt32 = v) (hk : ZOK X (pc + 2) k) : ZOK X pc (z_push v k) := by
  intro L st S ad H locs ls hP hW hM hE hS hL hl
  exact lv_bipush hx hb hd hv (hk L (.inl v :: st) S ad H locs ls hP hW hM hE hS hL ⟨trivial, hl⟩)
theorem z_sipush_ok {X : ZX} {cc : ByteArray} {pc : Nat} {k : ZP} (hx : X.p.tables.exec = Jvm.exec) (hb : X.c.code = cc) {n : Int} {v : Int32} (hd : decode cc pc = .ok (.sipush n, 3)) (hv : (Int16.ofInt n).toInt32 = v) (hk : ZOK X (pc + 3) k) : ZOK X pc (z_push v k) := by
  intro L st S ad H locs ls hP hW hM hE hS hL hl
  exact lv_sipush hx hb hd hv (hk L (.inl v :: st) S ad H locs ls hP hW hM hE hS hL ⟨trivial, hl⟩)
theorem z_iload_n_ok {X : ZX} {cc : ByteArray} {pc : Nat} {k : ZP} (hx : X.p.tables.exec = Jvm.exec) (hb : X.c.code = cc) {i : Nat} {k4 : Fin 4} (hd : decode cc pc = .ok (.iload_n k4, 1)) (hi : (k4 : Nat) = i) (hk : ZOK X (pc + 1) k) : ZOK X pc (z_ild i k) := by
  intro L st S ad H locs ls hP hW hM hE hS hL hl
  unfold z_ild at hP
  cases hv : znth L i with
  | none => rw [hv] at hP; exact False.elim hP
  | some v =>
    rw [hv] at hP
    rcases v with x | x
    · exact lv_iload_n hx hb hd hi (hL.2.2.2 i _ hv).1 (hk L (.inl x :: st) S ad H locs ls hP hW hM hE hS hL ⟨trivial, hl⟩)
    · exact False.elim hP
theorem z_iload_ok {X : ZX} {cc : ByteArray} {pc : Nat} {k : ZP} (hx : X.p.tables.exec = Jvm.exec) (hb : X.c.code = cc) {i : Nat} (hd : decode cc pc = .ok (.iload i, 2)) (hk : ZOK X (pc + 2) k) : ZOK X pc (z_ild i k) := by
  intro L st S ad H locs ls hP hW hM hE hS hL hl
  unfold z_ild at hP
  cases hv : znth L i with
  | none => rw [hv] at hP; exact False.elim hP
  | some v =>
    rw [hv] at hP
    rcases v with x | x
    · exact lv_iload hx hb hd (hL.2.2.2 i _ hv).1 (hk L (.inl x :: st) S ad H locs ls hP hW hM hE hS hL ⟨trivial, hl⟩)
    · exact False.elim hP
theorem z_aload_n_ok {X : ZX} {cc : ByteArray} {pc : Nat} {k : ZP} (hx : X.p.tables.exec = Jvm.exec) (hb : X.c.code = cc) {i : Nat} {k4 : Fin 4} (hd : decode cc pc = .ok (.aload_n k4, 1)) (hi : (k4 : Nat) = i) (hk : ZOK X (pc + 1) k) : ZOK X pc (z_ald i k) := by
  intro L st S ad H locs ls hP hW hM hE hS hL hl
  unfold z_ald at hP
  cases hv : znth L i with
  | none => rw [hv] at hP; exact False.elim hP
  | some v =>
    rw [hv] at hP
    rcases v with x | x | _ | q
    · exact False.elim hP
    · exact False.elim hP
    · exact lv_aload_nN hx hb hd hi (hL.2.2.2 i _ hv).1 (hk L (.inr (.inr none) :: st) S ad H locs ls hP hW hM hE hS hL ⟨trivial, hl⟩)
    · exact lv_aload_n hx hb hd hi (hL.2.2.2 i _ hv).1 (hk L (.inr (.inr (some q)) :: st) S ad H locs ls hP hW hM hE hS hL ⟨(hL.2.2.2 i _ hv).2.1, hl⟩)
theorem z_aload_ok {X : ZX} {cc : ByteArray} {pc : Nat} {k : ZP} (hx : X.p.tables.exec = Jvm.exec) (hb : X.c.code = cc) {i : Nat} (hd : decode cc pc = .ok (.aload i, 2)) (hk : ZOK X (pc + 2) k) : ZOK X pc (z_ald i k) := by
  intro L st S ad H locs ls hP hW hM hE hS hL hl
  unfold z_ald at hP
  cases hv : znth L i with
  | none => rw [hv] at hP; exact False.elim hP
  | some v =>
    rw [hv] at hP
    rcases v with x | x | _ | q
    · exact False.elim hP
    · exact False.elim hP
    · exact lv_aloadN hx hb hd (hL.2.2.2 i _ hv).1 (hk L (.inr (.inr none) :: st) S ad H locs ls hP hW hM hE hS hL ⟨trivial, hl⟩)
    · exact lv_aload hx hb hd (hL.2.2.2 i _ hv).1 (hk L (.inr (.inr (some q)) :: st) S ad H locs ls hP hW hM hE hS hL ⟨(hL.2.2.2 i _ hv).2.1, hl⟩)
theorem z_istore_n_ok {X : ZX} {cc : ByteArray} {pc : Nat} {k : ZP} (hx : X.p.tables.exec = Jvm.exec) (hb : X.c.code = cc) {i : Nat} {k4 : Fin 4} (hd : decode cc pc = .ok (.istore_n k4, 1)) (hi : (k4 : Nat) = i) (hn : i < X.nL) (hk : ZOK X (pc + 1) k) : ZOK X pc (z_ist i k) := by
  intro L st S ad H locs ls hP hW hM hE hS hL hl
  rcases st with _ | ⟨x | x, st⟩
  · exact False.elim hP
  · exact lv_istore_n hx hb hd hi hL.has hn rfl (fun ls' h' => hk (zset L i (.inl x)) st S ad H locs ls' hP hW hM hE hS (hL.st (v := .inl x) trivial trivial h') hl.2)
  · exact False.elim hP
theorem z_istore_ok {X : ZX} {cc : ByteArray} {pc : Nat} {k : ZP} (hx : X.p.tables.exec = Jvm.exec) (hb : X.c.code = cc) {i : Nat} (hd : decode cc pc = .ok (.istore i, 2)) (hn : i < X.nL) (hk : ZOK X (pc + 2) k) : ZOK X pc (z_ist i k) := by
  intro L st S ad H locs ls hP hW hM hE hS hL hl
  rcases st with _ | ⟨x | x, st⟩
  · exact False.elim hP
  · exact lv_istore hx hb hd hL.has hn rfl (fun ls' h' => hk (zset L i (.inl x)) st S ad H locs ls' hP hW hM hE hS (hL.st (v := .inl x) trivial trivial h') hl.2)
  · exact False.elim hP
theorem z_astore_n_ok {X : ZX} {cc : ByteArray} {pc : Nat} {k : ZP} (hx : X.p.tables.exec = Jvm.exec) (hb : X.c.code = cc) {i : Nat} {k4 : Fin 4} (hd : decode cc pc = .ok (.astore_n k4, 1)) (hi : (k4 : Nat) = i) (hn : i < X.nL) (hk : ZOK X (pc + 1) k) : ZOK X pc (z_ast i k) := by
  intro L st S ad H locs ls hP hW hM hE hS hL hl
  rcases st with _ | ⟨x | x | _ | q, st⟩
  · exact False.elim hP
  · exact False.elim hP
  · exact False.elim hP
  · exact lv_astore_nN hx hb hd hi hL.has hn rfl (fun ls' h' => hk (zset L i (.inr (.inr none))) st S ad H locs ls' hP hW hM hE hS (hL.st (v := .inr (.inr none)) trivial trivial h') hl.2)
  · exact lv_astore_n hx hb hd hi hL.has hn rfl (fun ls' h' => hk (zset L i (.inr (.inr (some q)))) st S ad H locs ls' hP hW hM hE hS (hL.st (v := .inr (.inr (some q))) hl.1 trivial h') hl.2)
theorem z_astore_ok {X : ZX} {cc : ByteArray} {pc : Nat} {k : ZP} (hx : X.p.tables.exec = Jvm.exec) (hb : X.c.code = cc) {i : Nat} (hd : decode cc pc = .ok (.astore i, 2)) (hn : i < X.nL) (hk : ZOK X (pc + 2) k) : ZOK X pc (z_ast i k) := by
  intro L st S ad H locs ls hP hW hM hE hS hL hl
  rcases st with _ | ⟨x | x | _ | q, st⟩
  · exact False.elim hP
  · exact False.elim hP
  · exact False.elim hP
  · exact lv_astoreN hx hb hd hL.has hn rfl (fun ls' h' => hk (zset L i (.inr (.inr none))) st S ad H locs ls' hP hW hM hE hS (hL.st (v := .inr (.inr none)) trivial trivial h') hl.2)
  · exact lv_astore hx hb hd hL.has hn rfl (fun ls' h' => hk (zset L i (.inr (.inr (some q)))) st S ad H locs ls' hP hW hM hE hS (hL.st (v := .inr (.inr (some q))) hl.1 trivial h') hl.2)
theorem zlst_get {ad : ZA} {L : List (Option ZV)} {i : Nat} {v : ZV} (h : znth L i = some v) : ∃ k : Nat, (zlst ad L)[k]? = some (i, zc ad v) :=
  List.getElem?_of_mem (List.mem_filterMap.mpr ⟨i, List.mem_range.mpr (znth_lt h), by rw [h]; rfl⟩)
theorem z_iinc_ok {X : ZX} {cc : ByteArray} {pc : Nat} {k : ZP} (hx : X.p.tables.exec = Jvm.exec) (hb : X.c.code = cc) {i : Nat} {n : Int} {v : Int32} (hd : decode cc pc = .ok (.iinc i n, 3)) (hv : Int32.ofInt n = v) (hn : i < X.nL) (hk : ZOK X (pc + 3) k) : ZOK X pc (z_inc i v k) := by
  intro L st S ad H locs ls hP hW hM hE hS hL hl
  unfold z_inc at hP
  cases hz : znth L i with
  | none => rw [hz] at hP; exact False.elim hP
  | some w =>
    rw [hz] at hP
    rcases w with x | x
    · obtain ⟨j, hj⟩ := zlst_get (ad := ad) hz
      exact lv_iinc (v := x + v) hx hb hd hL.has hj (by rw [hv]) hn rfl (fun ls' h' => hk (zset L i (.inl (x + v))) st S ad H locs ls' hP hW hM hE hS (hL.st (v := .inl (x + v)) trivial trivial h') hl)
    · exact False.elim hP
theorem z_iadd_ok {X : ZX} {cc : ByteArray} {pc : Nat} {k : ZP} (hx : X.p.tables.exec = Jvm.exec) (hb : X.c.code = cc) (hd : decode cc pc = .ok (.iadd, 1)) (hk : ZOK X (pc + 1) k) : ZOK X pc (z_bin (fun x y => x + y) k) := by
  intro L st S ad H locs ls hP hW hM hE hS hL hl
  rcases st with _ | ⟨y | y, _ | ⟨x | x, st⟩⟩
  · exact False.elim hP
  · exact False.elim hP
  · exact lv_iadd hx hb hd (hk L (.inl (x + y) :: st) S ad H locs ls hP hW hM hE hS hL ⟨trivial, hl.2.2⟩)
  · exact False.elim hP
  · exact False.elim hP
  · exact False.elim hP
  · exact False.elim hP
theorem z_isub_ok {X : ZX} {cc : ByteArray} {pc : Nat} {k : ZP} (hx : X.p.tables.exec = Jvm.exec) (hb : X.c.code = cc) (hd : decode cc pc = .ok (.isub, 1)) (hk : ZOK X (pc + 1) k) : ZOK X pc (z_bin (fun x y => x - y) k) := by
  intro L st S ad H locs ls hP hW hM hE hS hL hl
  rcases st with _ | ⟨y | y, _ | ⟨x | x, st⟩⟩
  · exact False.elim hP
  · exact False.elim hP
  · exact lv_isub hx hb hd (hk L (.inl (x - y) :: st) S ad H locs ls hP hW hM hE hS hL ⟨trivial, hl.2.2⟩)
  · exact False.elim hP
  · exact False.elim hP
  · exact False.elim hP
  · exact False.elim hP
theorem z_imul_ok {X : ZX} {cc : ByteArray} {pc : Nat} {k : ZP} (hx : X.p.tables.exec = Jvm.exec) (hb : X.c.code = cc) (hd : decode cc pc = .ok (.imul, 1)) (hk : ZOK X (pc + 1) k) : ZOK X pc (z_bin (fun x y => x * y) k) := by
  intro L st S ad H locs ls hP hW hM hE hS hL hl
  rcases st with _ | ⟨y | y, _ | ⟨x | x, st⟩⟩
  · exact False.elim hP
  · exact False.elim hP
  · exact lv_imul hx hb hd (hk L (.inl (x * y) :: st) S ad H locs ls hP hW hM hE hS hL ⟨trivial, hl.2.2⟩)
  · exact False.elim hP
  · exact False.elim hP
  · exact False.elim hP
  · exact False.elim hP
theorem z_iand_ok {X : ZX} {cc : ByteArray} {pc : Nat} {k : ZP} (hx : X.p.tables.exec = Jvm.exec) (hb : X.c.code = cc) (hd : decode cc pc = .ok (.iand, 1)) (hk : ZOK X (pc + 1) k) : ZOK X pc (z_bin (fun x y => x &&& y) k) := by
  intro L st S ad H locs ls hP hW hM hE hS hL hl
  rcases st with _ | ⟨y | y, _ | ⟨x | x, st⟩⟩
  · exact False.elim hP
  · exact False.elim hP
  · exact lv_iand hx hb hd (hk L (.inl (x &&& y) :: st) S ad H locs ls hP hW hM hE hS hL ⟨trivial, hl.2.2⟩)
  · exact False.elim hP
  · exact False.elim hP
  · exact False.elim hP
  · exact False.elim hP
theorem z_ior_ok {X : ZX} {cc : ByteArray} {pc : Nat} {k : ZP} (hx : X.p.tables.exec = Jvm.exec) (hb : X.c.code = cc) (hd : decode cc pc = .ok (.ior, 1)) (hk : ZOK X (pc + 1) k) : ZOK X pc (z_bin (fun x y => x ||| y) k) := by
  intro L st S ad H locs ls hP hW hM hE hS hL hl
  rcases st with _ | ⟨y | y, _ | ⟨x | x, st⟩⟩
  · exact False.elim hP
  · exact False.elim hP
  · exact lv_ior hx hb hd (hk L (.inl (x ||| y) :: st) S ad H locs ls hP hW hM hE hS hL ⟨trivial, hl.2.2⟩)
  · exact False.elim hP
  · exact False.elim hP
  · exact False.elim hP
  · exact False.elim hP
theorem z_idiv_ok {X : ZX} {cc : ByteArray} {pc : Nat} {k : ZP} (hx : X.p.tables.exec = Jvm.exec) (hb : X.c.code = cc) (hd : decode cc pc = .ok (.idiv, 1)) (hk : ZOK X (pc + 1) k) : ZOK X pc (z_dvn (fun x y => x / y) k) := by
  intro L st S ad H locs ls hP hW hM hE hS hL hl
  rcases st with _ | ⟨y | y, _ | ⟨x | x, st⟩⟩
  · exact False.elim hP
  · exact False.elim hP
  · exact lv_idiv hx hb hd hP.1 (hk L (.inl (x / y) :: st) S ad H locs ls hP.2 hW hM hE hS hL ⟨trivial, hl.2.2⟩)
  · exact False.elim hP
  · exact False.elim hP
  · exact False.elim hP
  · exact False.elim hP
theorem z_irem_ok {X : ZX} {cc : ByteArray} {pc : Nat} {k : ZP} (hx : X.p.tables.exec = Jvm.exec) (hb : X.c.code = cc) (hd : decode cc pc = .ok (.irem, 1)) (hk : ZOK X (pc + 1) k) : ZOK X pc (z_dvn (fun x y => x - x / y * y) k) := by
  intro L st S ad H locs ls hP hW hM hE hS hL hl
  rcases st with _ | ⟨y | y, _ | ⟨x | x, st⟩⟩
  · exact False.elim hP
  · exact False.elim hP
  · exact lv_irem hx hb hd hP.1 (hk L (.inl (x - x / y * y) :: st) S ad H locs ls hP.2 hW hM hE hS hL ⟨trivial, hl.2.2⟩)
  · exact False.elim hP
  · exact False.elim hP
  · exact False.elim hP
  · exact False.elim hP
theorem z_ineg_ok {X : ZX} {cc : ByteArray} {pc : Nat} {k : ZP} (hx : X.p.tables.exec = Jvm.exec) (hb : X.c.code = cc) (hd : decode cc pc = .ok (.ineg, 1)) (hk : ZOK X (pc + 1) k) : ZOK X pc (z_un (fun x => -x) k) := by
  intro L st S ad H locs ls hP hW hM hE hS hL hl
  rcases st with _ | ⟨x | x, st⟩
  · exact False.elim hP
  · exact lv_ineg hx hb hd (hk L (.inl (-x) :: st) S ad H locs ls hP hW hM hE hS hL ⟨trivial, hl.2⟩)
  · exact False.elim hP
theorem z_i2l_ok {X : ZX} {cc : ByteArray} {pc : Nat} {k : ZP} (hx : X.p.tables.exec = Jvm.exec) (hb : X.c.code = cc) (hd : decode cc pc = .ok (.i2l, 1)) (hk : ZOK X (pc + 1) k) : ZOK X pc (z_i2l k) := by
  intro L st S ad H locs ls hP hW hM hE hS hL hl
  rcases st with _ | ⟨x | x, st⟩
  · exact False.elim hP
  · exact lv_i2l hx hb hd rfl (hk L (.inr (.inl x.toInt64) :: st) S ad H locs ls hP hW hM hE hS hL ⟨trivial, hl.2⟩)
  · exact False.elim hP
theorem z_l2i_ok {X : ZX} {cc : ByteArray} {pc : Nat} {k : ZP} (hx : X.p.tables.exec = Jvm.exec) (hb : X.c.code = cc) (hd : decode cc pc = .ok (.l2i, 1)) (hk : ZOK X (pc + 1) k) : ZOK X pc (z_l2i k) := by
  intro L st S ad H locs ls hP hW hM hE hS hL hl
  rcases st with _ | ⟨x | x | x, st⟩
  · exact False.elim hP
  · exact False.elim hP
  · exact lv_l2i hx hb hd rfl (hk L (.inl x.toInt32 :: st) S ad H locs ls hP hW hM hE hS hL ⟨trivial, hl.2⟩)
  · exact False.elim hP
theorem z_lmul_ok {X : ZX} {cc : ByteArray} {pc : Nat} {k : ZP} (hx : X.p.tables.exec = Jvm.exec) (hb : X.c.code = cc) (hd : decode cc pc = .ok (.lmul, 1)) (hk : ZOK X (pc + 1) k) : ZOK X pc (z_lbin (fun x y => x * y) k) := by
  intro L st S ad H locs ls hP hW hM hE hS hL hl
  rcases st with _ | ⟨y | y | y, _ | ⟨x | x | x, st⟩⟩
  · exact False.elim hP
  · exact False.elim hP
  · exact False.elim hP
  · exact False.elim hP
  · exact False.elim hP
  · exact False.elim hP
  · exact False.elim hP
  · exact lv_lmul hx hb hd (hk L (.inr (.inl (x * y)) :: st) S ad H locs ls hP hW hM hE hS hL ⟨trivial, hl.2.2⟩)
  · exact False.elim hP
  · exact False.elim hP
  · exact False.elim hP
  · exact False.elim hP
  · exact False.elim hP
theorem z_ldiv_ok {X : ZX} {cc : ByteArray} {pc : Nat} {k : ZP} (hx : X.p.tables.exec = Jvm.exec) (hb : X.c.code = cc) (hd : decode cc pc = .ok (.ldiv, 1)) (hk : ZOK X (pc + 1) k) : ZOK X pc (z_ldiv k) := by
  intro L st S ad H locs ls hP hW hM hE hS hL hl
  rcases st with _ | ⟨y | y | y, _ | ⟨x | x | x, st⟩⟩
  · exact False.elim hP
  · exact False.elim hP
  · exact False.elim hP
  · exact False.elim hP
  · exact False.elim hP
  · exact False.elim hP
  · exact False.elim hP
  · exact lv_ldiv hx hb hd hP.1 (hk L (.inr (.inl (x / y)) :: st) S ad H locs ls hP.2 hW hM hE hS hL ⟨trivial, hl.2.2⟩)
  · exact False.elim hP
  · exact False.elim hP
  · exact False.elim hP
  · exact False.elim hP
  · exact False.elim hP
theorem z_lcmp_ok {X : ZX} {cc : ByteArray} {pc : Nat} {k : ZP} (hx : X.p.tables.exec = Jvm.exec) (hb : X.c.code = cc) (hd : decode cc pc = .ok (.lcmp, 1)) (hk : ZOK X (pc + 1) k) : ZOK X pc (z_lcmp k) := by
  intro L st S ad H locs ls hP hW hM hE hS hL hl
  rcases st with _ | ⟨y | y | y, _ | ⟨x | x | x, st⟩⟩
  · exact False.elim hP
  · exact False.elim hP
  · exact False.elim hP
  · exact False.elim hP
  · exact False.elim hP
  · exact False.elim hP
  · exact False.elim hP
  · exact W.lcmp hx hb hd (hk L (.inl (lg_cmp x y) :: st) S ad H locs ls hP hW hM hE hS hL ⟨trivial, hl.2.2⟩)
  · exact False.elim hP
  · exact False.elim hP
  · exact False.elim hP
  · exact False.elim hP
  · exact False.elim hP
theorem z_dup_ok {X : ZX} {cc : ByteArray} {pc : Nat} {k : ZP} (hx : X.p.tables.exec = Jvm.exec) (hb : X.c.code = cc) (hd : decode cc pc = .ok (.dup, 1)) (hk : ZOK X (pc + 1) k) : ZOK X pc (z_dup k) := by
  intro L st S ad H locs ls hP hW hM hE hS hL hl
  rcases st with _ | ⟨x | x | x, st⟩
  · exact False.elim hP
  · exact lv_dup hx hb hd rfl (hk L (.inl x :: .inl x :: st) S ad H locs ls hP hW hM hE hS hL ⟨trivial, trivial, hl.2⟩)
  · exact False.elim hP
  · exact lv_dup hx hb hd (zcat (v := .inr (.inr x)) trivial) (hk L (.inr (.inr x) :: .inr (.inr x) :: st) S ad H locs ls hP hW hM hE hS hL ⟨hl.1, hl.1, hl.2⟩)
theorem z_dup2_ok {X : ZX} {cc : ByteArray} {pc : Nat} {k : ZP} (hx : X.p.tables.exec = Jvm.exec) (hb : X.c.code = cc) (hd : decode cc pc = .ok (.dup2, 1)) (hk : ZOK X (pc + 1) k) : ZOK X pc (z_dup2 k) := by
  intro L st S ad H locs ls hP hW hM hE hS hL hl
  rcases st with _ | ⟨y | y, _ | ⟨x | x | x, st⟩⟩
  · exact False.elim hP
  · exact False.elim hP
  · exact False.elim hP
  · exact False.elim hP
  · exact lv_dup2_11 hx hb hd rfl (zcat (v := .inr (.inr x)) trivial) (hk L (.inl y :: .inr (.inr x) :: .inl y :: .inr (.inr x) :: st) S ad H locs ls hP hW hM hE hS hL ⟨trivial, hl.2.1, trivial, hl.2.1, hl.2.2⟩)
  · exact False.elim hP
  · exact False.elim hP
  · exact False.elim hP
  · exact False.elim hP
theorem z_pop_ok {X : ZX} {cc : ByteArray} {pc : Nat} {k : ZP} (hx : X.p.tables.exec = Jvm.exec) (hb : X.c.code = cc) (hd : decode cc pc = .ok (.pop, 1)) (hk : ZOK X (pc + 1) k) : ZOK X pc (z_pop k) := by
  intro L st S ad H locs ls hP hW hM hE hS hL hl
  rcases st with _ | ⟨x | x | x, st⟩
  · exact False.elim hP
  · exact lv_pop hx hb hd rfl (hk L st S ad H locs ls hP hW hM hE hS hL hl.2)
  · exact False.elim hP
  · exact lv_pop hx hb hd (zcat (v := .inr (.inr x)) trivial) (hk L st S ad H locs ls hP hW hM hE hS hL hl.2)
theorem z_if_eq_ok {X : ZX} {cc : ByteArray} {pc tgt : Nat} {off : Int} {kt kf : ZP} (hx : X.p.tables.exec = Jvm.exec) (hb : X.c.code = cc) (hd : decode cc pc = .ok (.ifCond .eq off, 3)) (ht : (pc : Int) + off = (tgt : Int)) (h1 : ZOK X tgt kt) (h2 : ZOK X (pc + 3) kf) : ZOK X pc (z_if (fun x => x = 0) kt kf) := by
  intro L st S ad H locs ls hP hW hM hE hS hL hl
  rcases st with _ | ⟨x | x, st⟩
  · exact False.elim hP
  · exact lv_if_eq hx hb hd ht (fun q => h1 L st S ad H locs ls (hP.1 q) hW hM hE hS hL hl.2) (fun q => h2 L st S ad H locs ls (hP.2 q) hW hM hE hS hL hl.2)
  · exact False.elim hP
theorem z_icmp_eq_ok {X : ZX} {cc : ByteArray} {pc tgt : Nat} {off : Int} {kt kf : ZP} (hx : X.p.tables.exec = Jvm.exec) (hb : X.c.code = cc) (hd : decode cc pc = .ok (.if_icmp .eq off, 3)) (ht : (pc : Int) + off = (tgt : Int)) (h1 : ZOK X tgt kt) (h2 : ZOK X (pc + 3) kf) : ZOK X pc (z_cmp (fun x y => x = y) kt kf) := by
  intro L st S ad H locs ls hP hW hM hE hS hL hl
  rcases st with _ | ⟨y | y, _ | ⟨x | x, st⟩⟩
  · exact False.elim hP
  · exact False.elim hP
  · exact lv_icmp_eq hx hb hd ht (fun q => h1 L st S ad H locs ls (hP.1 q) hW hM hE hS hL hl.2.2) (fun q => h2 L st S ad H locs ls (hP.2 q) hW hM hE hS hL hl.2.2)
  · exact False.elim hP
  · exact False.elim hP
  · exact False.elim hP
  · exact False.elim hP
theorem z_if_lt_ok {X : ZX} {cc : ByteArray} {pc tgt : Nat} {off : Int} {kt kf : ZP} (hx : X.p.tables.exec = Jvm.exec) (hb : X.c.code = cc) (hd : decode cc pc = .ok (.ifCond .lt off, 3)) (ht : (pc : Int) + off = (tgt : Int)) (h1 : ZOK X tgt kt) (h2 : ZOK X (pc + 3) kf) : ZOK X pc (z_if (fun x => x < 0) kt kf) := by
  intro L st S ad H locs ls hP hW hM hE hS hL hl
  rcases st with _ | ⟨x | x, st⟩
  · exact False.elim hP
  · exact lv_if_lt hx hb hd ht (fun q => h1 L st S ad H locs ls (hP.1 q) hW hM hE hS hL hl.2) (fun q => h2 L st S ad H locs ls (hP.2 q) hW hM hE hS hL hl.2)
  · exact False.elim hP
theorem z_icmp_lt_ok {X : ZX} {cc : ByteArray} {pc tgt : Nat} {off : Int} {kt kf : ZP} (hx : X.p.tables.exec = Jvm.exec) (hb : X.c.code = cc) (hd : decode cc pc = .ok (.if_icmp .lt off, 3)) (ht : (pc : Int) + off = (tgt : Int)) (h1 : ZOK X tgt kt) (h2 : ZOK X (pc + 3) kf) : ZOK X pc (z_cmp (fun x y => x < y) kt kf) := by
  intro L st S ad H locs ls hP hW hM hE hS hL hl
  rcases st with _ | ⟨y | y, _ | ⟨x | x, st⟩⟩
  · exact False.elim hP
  · exact False.elim hP
  · exact lv_icmp_lt hx hb hd ht (fun q => h1 L st S ad H locs ls (hP.1 q) hW hM hE hS hL hl.2.2) (fun q => h2 L st S ad H locs ls (hP.2 q) hW hM hE hS hL hl.2.2)
  · exact False.elim hP
  · exact False.elim hP
  · exact False.elim hP
  · exact False.elim hP
theorem z_if_ge_ok {X : ZX} {cc : ByteArray} {pc tgt : Nat} {off : Int} {kt kf : ZP} (hx : X.p.tables.exec = Jvm.exec) (hb : X.c.code = cc) (hd : decode cc pc = .ok (.ifCond .ge off, 3)) (ht : (pc : Int) + off = (tgt : Int)) (h1 : ZOK X tgt kt) (h2 : ZOK X (pc + 3) kf) : ZOK X pc (z_if (fun x => 0 ≤ x) kt kf) := by
  intro L st S ad H locs ls hP hW hM hE hS hL hl
  rcases st with _ | ⟨x | x, st⟩
  · exact False.elim hP
  · exact lv_if_ge hx hb hd ht (fun q => h1 L st S ad H locs ls (hP.1 q) hW hM hE hS hL hl.2) (fun q => h2 L st S ad H locs ls (hP.2 q) hW hM hE hS hL hl.2)
  · exact False.elim hP
theorem z_icmp_ge_ok {X : ZX} {cc : ByteArray} {pc tgt : Nat} {off : Int} {kt kf : ZP} (hx : X.p.tables.exec = Jvm.exec) (hb : X.c.code = cc) (hd : decode cc pc = .ok (.if_icmp .ge off, 3)) (ht : (pc : Int) + off = (tgt : Int)) (h1 : ZOK X tgt kt) (h2 : ZOK X (pc + 3) kf) : ZOK X pc (z_cmp (fun x y => y ≤ x) kt kf) := by
  intro L st S ad H locs ls hP hW hM hE hS hL hl
  rcases st with _ | ⟨y | y, _ | ⟨x | x, st⟩⟩
  · exact False.elim hP
  · exact False.elim hP
  · exact lv_icmp_ge hx hb hd ht (fun q => h1 L st S ad H locs ls (hP.1 q) hW hM hE hS hL hl.2.2) (fun q => h2 L st S ad H locs ls (hP.2 q) hW hM hE hS hL hl.2.2)
  · exact False.elim hP
  · exact False.elim hP
  · exact False.elim hP
  · exact False.elim hP
theorem z_if_gt_ok {X : ZX} {cc : ByteArray} {pc tgt : Nat} {off : Int} {kt kf : ZP} (hx : X.p.tables.exec = Jvm.exec) (hb : X.c.code = cc) (hd : decode cc pc = .ok (.ifCond .gt off, 3)) (ht : (pc : Int) + off = (tgt : Int)) (h1 : ZOK X tgt kt) (h2 : ZOK X (pc + 3) kf) : ZOK X pc (z_if (fun x => 0 < x) kt kf) := by
  intro L st S ad H locs ls hP hW hM hE hS hL hl
  rcases st with _ | ⟨x | x, st⟩
  · exact False.elim hP
  · exact lv_if_gt hx hb hd ht (fun q => h1 L st S ad H locs ls (hP.1 q) hW hM hE hS hL hl.2) (fun q => h2 L st S ad H locs ls (hP.2 q) hW hM hE hS hL hl.2)
  · exact False.elim hP
theorem z_icmp_gt_ok {X : ZX} {cc : ByteArray} {pc tgt : Nat} {off : Int} {kt kf : ZP} (hx : X.p.tables.exec = Jvm.exec) (hb : X.c.code = cc) (hd : decode cc pc = .ok (.if_icmp .gt off, 3)) (ht : (pc : Int) + off = (tgt : Int)) (h1 : ZOK X tgt kt) (h2 : ZOK X (pc + 3) kf) : ZOK X pc (z_cmp (fun x y => y < x) kt kf) := by
  intro L st S ad H locs ls hP hW hM hE hS hL hl
  rcases st with _ | ⟨y | y, _ | ⟨x | x, st⟩⟩
  · exact False.elim hP
  · exact False.elim hP
  · exact lv_icmp_gt hx hb hd ht (fun q => h1 L st S ad H locs ls (hP.1 q) hW hM hE hS hL hl.2.2) (fun q => h2 L st S ad H locs ls (hP.2 q) hW hM hE hS hL hl.2.2)
  · exact False.elim hP
  · exact False.elim hP
  · exact False.elim hP
  · exact False.elim hP
theorem z_if_le_ok {X : ZX} {cc : ByteArray} {pc tgt : Nat} {off : Int} {kt kf : ZP} (hx : X.p.tables.exec = Jvm.exec) (hb : X.c.code = cc) (hd : decode cc pc = .ok (.ifCond .le off, 3)) (ht : (pc : Int) + off = (tgt : Int)) (h1 : ZOK X tgt kt) (h2 : ZOK X (pc + 3) kf) : ZOK X pc (z_if (fun x => x ≤ 0) kt kf) := by
  intro L st S ad H locs ls hP hW hM hE hS hL hl
  rcases st with _ | ⟨x | x, st⟩
  · exact False.elim hP
  · exact lv_if_le hx hb hd ht (fun q => h1 L st S ad H locs ls (hP.1 q) hW hM hE hS hL hl.2) (fun q => h2 L st S ad H locs ls (hP.2 q) hW hM hE hS hL hl.2)
  · exact False.elim hP
theorem z_icmp_le_ok {X : ZX} {cc : ByteArray} {pc tgt : Nat} {off : Int} {kt kf : ZP} (hx : X.p.tables.exec = Jvm.exec) (hb : X.c.code = cc) (hd : decode cc pc = .ok (.if_icmp .le off, 3)) (ht : (pc : Int) + off = (tgt : Int)) (h1 : ZOK X tgt kt) (h2 : ZOK X (pc + 3) kf) : ZOK X pc (z_cmp (fun x y => x ≤ y) kt kf) := by
  intro L st S ad H locs ls hP hW hM hE hS hL hl
  rcases st with _ | ⟨y | y, _ | ⟨x | x, st⟩⟩
  · exact False.elim hP
  · exact False.elim hP
  · exact lv_icmp_le hx hb hd ht (fun q => h1 L st S ad H locs ls (hP.1 q) hW hM hE hS hL hl.2.2) (fun q => h2 L st S ad H locs ls (hP.2 q) hW hM hE hS hL hl.2.2)
  · exact False.elim hP
  · exact False.elim hP
  · exact False.elim hP
  · exact False.elim hP
theorem z_if_ne_ok {X : ZX} {cc : ByteArray} {pc tgt : Nat} {off : Int} {kt kf : ZP} (hx : X.p.tables.exec = Jvm.exec) (hb : X.c.code = cc) (hd : decode cc pc = .ok (.ifCond .ne off, 3)) (ht : (pc : Int) + off = (tgt : Int)) (h1 : ZOK X tgt kt) (h2 : ZOK X (pc + 3) kf) : ZOK X pc (z_if (fun x => x = 0) kf kt) := by
  intro L st S ad H locs ls hP hW hM hE hS hL hl
  rcases st with _ | ⟨x | x, st⟩
  · exact False.elim hP
  · exact lv_if_ne hx hb hd ht (fun q => h1 L st S ad H locs ls (hP.2 q) hW hM hE hS hL hl.2) (fun q => h2 L st S ad H locs ls (hP.1 q) hW hM hE hS hL hl.2)
  · exact False.elim hP
theorem z_icmp_ne_ok {X : ZX} {cc : ByteArray} {pc tgt : Nat} {off : Int} {kt kf : ZP} (hx : X.p.tables.exec = Jvm.exec) (hb : X.c.code = cc) (hd : decode cc pc = .ok (.if_icmp .ne off, 3)) (ht : (pc : Int) + off = (tgt : Int)) (h1 : ZOK X tgt kt) (h2 : ZOK X (pc + 3) kf) : ZOK X pc (z_cmp (fun x y => x = y) kf kt) := by
  intro L st S ad H locs ls hP hW hM hE hS hL hl
  rcases st with _ | ⟨y | y, _ | ⟨x | x, st⟩⟩
  · exact False.elim hP
  · exact False.elim hP
  · exact lv_icmp_ne hx hb hd ht (fun q => h1 L st S ad H locs ls (hP.2 q) hW hM hE hS hL hl.2.2) (fun q => h2 L st S ad H locs ls (hP.1 q) hW hM hE hS hL hl.2.2)
  · exact False.elim hP
  · exact False.elim hP
  · exact False.elim hP
  · exact False.elim hP
theorem z_goto_ok {X : ZX} {cc : ByteArray} {pc tgt : Nat} {off : Int} {k : ZP} (hx : X.p.tables.exec = Jvm.exec) (hb : X.c.code = cc) (hd : decode cc pc = .ok (.goto off, 3)) (ht : (pc : Int) + off = (tgt : Int)) (h1 : ZOK X tgt k) : ZOK X pc k := fun L st S ad H locs ls hP hW hM hE hS hL hl => lv_goto hx hb hd ht (h1 L st S ad H locs ls hP hW hM hE hS hL hl)
theorem z_ifnull_ok {X : ZX} {cc : ByteArray} {pc tgt : Nat} {off : Int} {kt kf : ZP} (hx : X.p.tables.exec = Jvm.exec) (hb : X.c.code = cc) (hd : decode cc pc = .ok (.ifnull off, 3)) (ht : (pc : Int) + off = (tgt : Int)) (h1 : ZOK X tgt kt) (h2 : ZOK X (pc + 3) kf) : ZOK X pc (z_ifnull kt kf) := by
  intro L st S ad H locs ls hP hW hM hE hS hL hl
  rcases st with _ | ⟨x | x | _ | q, st⟩
  · exact False.elim hP
  · exact False.elim hP
  · exact False.elim hP
  · exact lv_ifnullN hx hb hd ht (h1 L st S ad H locs ls hP hW hM hE hS hL hl.2)
  · exact lv_ifnull hx hb hd (h2 L st S ad H locs ls hP hW hM hE hS hL hl.2)
theorem z_pnull_ok {X : ZX} {cc : ByteArray} {pc : Nat} {k : ZP} (hx : X.p.tables.exec = Jvm.exec) (hb : X.c.code = cc) (hd : decode cc pc = .ok (.aconst_null, 1)) (hk : ZOK X (pc + 1) k) : ZOK X pc (z_pnull k) := by
  intro L st S ad H locs ls hP hW hM hE hS hL hl
  exact lv_null hx hb hd (hk L (.inr (.inr none) :: st) S ad H locs ls hP hW hM hE hS hL ⟨trivial, hl⟩)
theorem z_acn_ok {X : ZX} {cc : ByteArray} {pc tgt : Nat} {off : Int} {kt kf : ZP} (hx : X.p.tables.exec = Jvm.exec) (hb : X.c.code = cc) (hd : decode cc pc = .ok (.if_acmp .ne off, 3)) (ht : (pc : Int) + off = (tgt : Int)) (h1 : ZOK X tgt kt) (h2 : ZOK X (pc + 3) kf) : ZOK X pc (z_acn kt kf) := by
  intro L st S ad H locs ls hP hW hM hE hS hL hl
  rcases st with _ | ⟨y | y | _ | ⟨a, i⟩, _ | ⟨x | x | _ | ⟨b, j⟩, st⟩⟩ <;> try exact False.elim hP
  have hP0 : (bif Nat.beq a 6 && Nat.beq b 6 then (¬ j = i → kt L st S X.K) ∧ (j = i → kf L st S X.K) else False) := hP
  cases hq : Nat.beq a 6 && Nat.beq b 6 with
  | false => rw [hq] at hP0; exact False.elim hP0
  | true =>
    rw [hq] at hP0
    obtain ⟨hP1, hP2⟩ := hP0
    obtain ⟨ha, hb6⟩ := (Bool.and_eq_true _ _).mp hq
    have ha : a = 6 := Nat.eq_of_beq_eq_true ha
    have hb6 : b = 6 := Nat.eq_of_beq_eq_true hb6
    subst ha; subst hb6
    refine lv_acmp_ne (rx := some (ad 6 j)) (ry := some (ad 6 i)) hx hb hd ht (fun q => h1 L st S ad H locs ls (hP1 (fun e => q ?_)) hW hM hE hS hL hl.2.2) (fun q => h2 L st S ad H locs ls (hP2 ?_) hW hM hE hS hL hl.2.2)
    · rw [e]
    · exact (hW.2.1 6 j 6 i (by decide) (by decide) hl.2.1 hl.1 (Option.some.inj q)).2
