/-! calls out of the law's methods: nothing may be thrown; a free end; the room is told by units -/
def zcontQ (kk : ZP) (L : List (Option ZV)) (st : List ZV) (K : ZK) : ZK := fun o S' => match o with
  | .inl none => kk L st S' K
  | .inl (some v) => kk L (v :: st) S' K
  | .inr _ => False
def z_invVq (k n : Nat) (sp : ZSp) (kk : ZP) : ZP := fun L st S K => match ztake (n + 1) st [] with
  | some (.inr (.inr (some q)) :: as, st') => bif Nat.beq q.1 k && (Nat.ble st'.length 4 && as.all zc1b) then ∃ K' : ZK, sp (.inr (.inr (some q)) :: as) S K' ∧ ∀ o S', K' o S' → zcontQ kk L st' K o S' else False
  | _ => False
def z_invSq (n : Nat) (sp : ZSp) (kk : ZP) : ZP := fun L st S K => match ztake n st [] with
  | some (as, st') => bif Nat.ble st'.length 4 && as.all zc1b then ∃ K' : ZK, sp as S K' ∧ ∀ o S', K' o S' → zcontQ kk L st' K o S' else False
  | none => False
section ZQ
variable {X : ZX} {cc : ByteArray} {own : String} {ret : Option FieldType} {F Lo cx sx : Nat}
theorem z_invVq_ok {pc index k n mc ms : Nat} {y : MethodName} {bytes : ByteArray} {maxL : Nat} {rt : Option FieldType} {rm : Room} {Cn : String} {T : u_T} {N : Nat} {ty : Nat → FieldType} {sp : ZSp} {kk : ZP} (C : zCx X cc own ret F Lo cx sx) (hM : zMet X.l y bytes maxL rt rm mc ms sp) (hrm : rm.cells = mc + 1 ∧ rm.slots = ms + 6) (hR : rm.frames + 1 ≤ F ∧ 8 + (maxL + 11) + rm.locals ≤ Lo) (hcx : mc + 1 ≤ cx) (hsx : ms + 6 ≤ sx)
    (hw : zcall own index y bytes maxL rt n) (hinst : Cond.instanceMethod y ∈ wG) (hsel : Cond.selects Cn y y ∈ wG) (hK : zKl k Cn T N ty) (hd : decode cc pc = .ok (.invokevirtual index, 3)) (hk : ZOK (zXc X (X.ce + mc) (X.sl + ms)) (pc + 3) kk) : ZOK X pc (z_invVq k n sp kk) := by
  intro L st S ad H locs ls hP hW hM' hE hS hL hl
  have hP1 : (match ztake (n + 1) st [] with
    | some (.inr (.inr (some q)) :: as, st') => bif Nat.beq q.1 k && (Nat.ble st'.length 4 && as.all zc1b) then ∃ K' : ZK, sp (.inr (.inr (some q)) :: as) S K' ∧ ∀ o S', K' o S' → zcontQ kk L st' X.K o S' else False
    | _ => False) := hP
  cases hz : ztake (n + 1) st [] with
  | none => rw [hz] at hP1; exact False.elim hP1
  | some z =>
    rw [hz] at hP1
    obtain ⟨as0, st'⟩ := z
    rcases as0 with _ | ⟨x | x | _ | ⟨a, i⟩, as⟩ <;> try exact False.elim hP1
    have hP2 : (bif Nat.beq a k && (Nat.ble st'.length 4 && as.all zc1b) then ∃ K' : ZK, sp (zr a i :: as) S K' ∧ ∀ o S', K' o S' → zcontQ kk L st' X.K o S' else False) := hP1
    cases hq : Nat.beq a k && (Nat.ble st'.length 4 && as.all zc1b) with
    | false => rw [hq] at hP2; exact False.elim hP2
    | true =>
      rw [hq, cond_true] at hP2
      obtain ⟨K', hP3, hcvt⟩ := hP2
      obtain ⟨g1, g2⟩ := (Bool.and_eq_true _ _).mp hq
      obtain ⟨g3, g4⟩ := (Bool.and_eq_true _ _).mp g2
      have ha : a = k := Nat.eq_of_beq_eq_true g1
      obtain ⟨hlen, hlas, hlv, hlst, hmap⟩ := ztake_v (ad := ad) hz hl
      subst ha
      have hrun := z_runV (pc := pc) (ls := ls) (rest := st'.map (zc ad)) C hM hrm hR hcx hsx hw hinst hsel hK hlv hP3 hW hS hlas (zc1_of g4) hlen hL.1 (zsum8 g3) hd
      rw [hmap]
      exact z_afterC hrun (fun S' h => hcvt _ _ h) (fun v S' h => hcvt _ _ h) hk hM' hE hS hL hlst (fun n' S' ad' H1 locs1 q ce hn1 hn3 hKn hW' hm hx hS1 hce hcv hcl => False.elim (hcvt (.inr n') S' hKn))
theorem z_invSq_ok {pc index n mc ms : Nat} {y : MethodName} {bytes : ByteArray} {maxL : Nat} {rt : Option FieldType} {rm : Room} {sp : ZSp} {kk : ZP} (C : zCx X cc own ret F Lo cx sx) (hM : zMet X.l y bytes maxL rt rm mc ms sp) (hrm : rm.cells = mc + 1 ∧ rm.slots = ms + 6) (hR : rm.frames + 1 ≤ F ∧ 8 + (maxL + 11) + rm.locals ≤ Lo) (hcx : mc + 1 ≤ cx) (hsx : ms + 6 ≤ sx)
    (hw : zcall own index y bytes maxL rt n) (hst : Cond.static y ∈ wG) (hd : decode cc pc = .ok (.invokestatic index, 3)) (hk : ZOK (zXc X (X.ce + mc) (X.sl + ms)) (pc + 3) kk) : ZOK X pc (z_invSq n sp kk) := by
  intro L st S ad H locs ls hP hW hM' hE hS hL hl
  have hP1 : (match ztake n st [] with
    | some (as, st') => bif Nat.ble st'.length 4 && as.all zc1b then ∃ K' : ZK, sp as S K' ∧ ∀ o S', K' o S' → zcontQ kk L st' X.K o S' else False
    | none => False) := hP
  cases hz : ztake n st [] with
  | none => rw [hz] at hP1; exact False.elim hP1
  | some z =>
    rw [hz] at hP1
    obtain ⟨as, st'⟩ := z
    have hP2 : (bif Nat.ble st'.length 4 && as.all zc1b then ∃ K' : ZK, sp as S K' ∧ ∀ o S', K' o S' → zcontQ kk L st' X.K o S' else False) := hP1
    cases hq : Nat.ble st'.length 4 && as.all zc1b with
    | false => rw [hq] at hP2; exact False.elim hP2
    | true =>
      rw [hq, cond_true] at hP2
      obtain ⟨K', hP3, hcvt⟩ := hP2
      obtain ⟨g3, g4⟩ := (Bool.and_eq_true _ _).mp hq
      obtain ⟨hlen, hlas, hlst, hmap⟩ := ztake_s (ad := ad) hz hl
      have hrun := z_runS (pc := pc) (ls := ls) (rest := st'.map (zc ad)) C hM hrm hR hcx hsx hw hst hP3 hW hS hlas (zc1_of g4) hlen hL.1 (zsum8 g3) hd
      rw [hmap]
      exact z_afterC hrun (fun S' h => hcvt _ _ h) (fun v S' h => hcvt _ _ h) hk hM' hE hS hL hlst (fun n' S' ad' H1 locs1 q ce hn1 hn3 hKn hW' hm hx hS1 hce hcv hcl => False.elim (hcvt (.inr n') S' hKn))
theorem z_invSWq_ok {pc index n mc ms : Nat} {y : MethodName} {bytes : ByteArray} {maxL : Nat} {rt : Option FieldType} {hh : List (Nat × Nat × Nat × Nat)} {rm : Room} {sp : ZSp} {kk : ZP} (C : zCx X cc own ret F Lo cx sx) (hM : zMetW X.l y bytes maxL rt hh rm mc ms sp) (hrm : rm.cells = mc + 1 ∧ rm.slots = ms + 6) (hR : rm.frames + 1 ≤ F ∧ 8 + (maxL + 11) + rm.locals ≤ Lo) (hcx : mc + 1 ≤ cx) (hsx : ms + 6 ≤ sx)
    (hw : zcallW own index y bytes maxL rt hh n) (hst : Cond.static y ∈ wG) (hd : decode cc pc = .ok (.invokestatic index, 3)) (hk : ZOK (zXc X (X.ce + mc) (X.sl + ms)) (pc + 3) kk) : ZOK X pc (z_invSq n sp kk) := by
  intro L st S ad H locs ls hP hW hM' hE hS hL hl
  have hP1 : (match ztake n st [] with
    | some (as, st') => bif Nat.ble st'.length 4 && as.all zc1b then ∃ K' : ZK, sp as S K' ∧ ∀ o S', K' o S' → zcontQ kk L st' X.K o S' else False
    | none => False) := hP
  cases hz : ztake n st [] with
  | none => rw [hz] at hP1; exact False.elim hP1
  | some z =>
    rw [hz] at hP1
    obtain ⟨as, st'⟩ := z
    have hP2 : (bif Nat.ble st'.length 4 && as.all zc1b then ∃ K' : ZK, sp as S K' ∧ ∀ o S', K' o S' → zcontQ kk L st' X.K o S' else False) := hP1
    cases hq : Nat.ble st'.length 4 && as.all zc1b with
    | false => rw [hq] at hP2; exact False.elim hP2
    | true =>
      rw [hq, cond_true] at hP2
      obtain ⟨K', hP3, hcvt⟩ := hP2
      obtain ⟨g3, g4⟩ := (Bool.and_eq_true _ _).mp hq
      obtain ⟨hlen, hlas, hlst, hmap⟩ := ztake_s (ad := ad) hz hl
      have hrun := z_runSW (pc := pc) (ls := ls) (rest := st'.map (zc ad)) C hM hrm hR hcx hsx hw hst hP3 hW hS hlas (zc1_of g4) hlen hL.1 (zsum8 g3) hd
      rw [hmap]
      exact z_afterC hrun (fun S' h => hcvt _ _ h) (fun v S' h => hcvt _ _ h) hk hM' hE hS hL hlst (fun n' S' ad' H1 locs1 q ce hn1 hn3 hKn hW' hm hx hS1 hce hcv hcl => False.elim (hcvt (.inr n') S' hKn))
end ZQ
/-- n units of room (10 cells, 60 places each) are left -/
def ZL (X : ZX) (pc n : Nat) (P : ZP) : Prop := ∀ a d : Nat, a + 10 * n ≤ 100000 → d + 60 * n ≤ 1000000 → ZOK (zXc X a d) pc P
theorem ZL.up {X : ZX} {pc n n' : Nat} {P : ZP} (h : ZL X pc n P) (hn : n ≤ n') : ZL X pc n' P := fun a d ha hd => h a d (by omega) (by omega)
theorem ZL.no {X : ZX} {pc n : Nat} : ZL X pc n (fun _ _ _ _ => False) := fun _ _ _ _ _ _ _ _ _ _ _ h => h.elim
def z_loopN (N : Nat) (body : ZP → ZP) : ZP := fun L st S K => ∃ n, n ≤ N ∧ z_iter body n L st S K
theorem z_loopN_ok {X : ZX} {pc N c e : Nat} {body : ZP → ZP} (h : ∀ (m : Nat) (J : ZP), e ≤ m → ZL X pc m J → ZL X pc (m + c) (body J)) : ZL X pc (N * c + e) (z_loopN N body) := by
  have key : ∀ n, ZL X pc (n * c + e) (z_iter body n) := fun n => by
    induction n with
    | zero => exact fun a d _ _ L st S ad H locs ls hP => False.elim hP
    | succ n ih =>
      have := h (n * c + e) _ (Nat.le_add_left _ _) ih
      rw [Nat.succ_mul]
      exact this.up (by omega)
  intro a d ha hd L st S ad H locs ls ⟨n, hn, hP⟩
  have h1 : n * c ≤ N * c := Nat.mul_le_mul_right c hn
  exact key n a d (by omega) (by omega) L st S ad H locs ls hP
