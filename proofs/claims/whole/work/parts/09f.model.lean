section ZNA
variable {p : Program} {l : Launch} {e : Env} {R : Room} {s : State} {m : MethodId} {args : Array Value} {below : List Frame} {meth : Method} {c : Code} {H : Heap} {locs : List Loc} {cells slots : Nat} {Q : State → Prop}
variable {cc : ByteArray} {own : String} {nL : Nat} {g : ZG} {A : Nat → Prop} {pc : Nat} {ls : Array Slot} {rest : List Value} {ws : va_W}
/-- a row of ints is made and kept in a field -/
theorem zc_arr {ci o f N idx : Nat} {Cn : String} {T : u_T} {tyf : Nat → FieldType} {fs : List Value} {ft : FieldType} {atype : ArrayType} {ty : FieldType} {k : Nat} {n : Int32} {N' : Nat} (B : zB p s m args c cc own nL g A) (hin : meth.name = "<init>") (hK : zKl ci Cn T N tyf) (hf : f < N) (hlink : Cond.fieldLink own idx Cn (T f).2.1 (T f).2.2.1 ∈ wG) (href : (T f).1 = Cn) (hoc : Cn = own) (hft : parseFieldDescriptor (T f).2.2.1 = some ft) (hnar : ∀ q, narrow ft (.ref q) = .ref q) (hfit : ∀ q, fits ft (.ref q) = true) (hl : fs.length = N)
    (hw9 : Cond.arrayClass ty ∈ wG) (hty : newarray.typeOf atype = ty) (hk : ∀ cA : Nat → ClassId, (zty cA)[k]? = some (cA k, ty)) (hra : ∀ (cA : ClassId), va_RA s cA ty → s.vm.findClass ("[" ++ ty.toString) = some cA) (ha : ∀ cA : ClassId, vp_cell cA (N', .inl (fun _ => 0)) = arrV cA N' (fun _ => defaultValue ty))
    (hP : va_P g.1 vwCl ((o, .inr (ci, fs)) :: ws) H) (hD : va_D A ((o, .inr (ci, fs)) :: ws)) (hS : va_S A s.heap H locs) (hn : ¬ n < 0) (hN : n.toNatClampNeg = N') (hb9 : N' * componentBytes ty ≤ 536870912) (hcells : cells + 1 ≤ R.cells) (hslots : slots + N' ≤ R.slots) (hdg : decode cc pc = .ok (.newarray atype, 2)) (hd2 : decode cc (pc + 2) = .ok (.putfield idx, 3))
    (kk : ∀ (q : Nat) (H1 : Heap) (locs1 : List Loc), va_P g.1 vwCl ((o, .inr (ci, fs.set f (.ref q))) :: (ws ++ [(q, .inl (g.2.1 k, (N', .inl (fun _ => 0))))])) H1 → va_D A ((o, .inr (ci, fs.set f (.ref q))) :: (ws ++ [(q, .inl (g.2.1 k, (N', .inl (fun _ => 0))))])) → va_S A s.heap H1 locs1 → (fs.set f (.ref q)).length = N → W p l e R s m args below meth c H1 locs1 (cells + 1) (slots + N') Q (F0 m (pc + 5) ls rest)) : W p l e R s m args below meth c H locs cells slots Q (F0 m pc ls (.int n :: .ref o :: rest)) := by
  refine zc_newT B hw9 hty hk hra ha hP hD hS hn hN hb9 hcells hslots hdg (fun q H1 hP hD hS => ?_)
  rw [List.cons_append] at hP hD
  exact zc_put B hin hK hf hlink href hoc hft (hnar q) (hfit q) hl hP hD hS hd2 (fun H2 locs2 hP hD hS hfl => kk q H2 locs2 hP hD hS hfl)
end ZNA
theorem dX8_init_0 : decode cX8_init 0 = .ok (.aload_n 0, 1) := by decide +kernel
theorem dX8_init_1 : decode cX8_init 1 = .ok (.invokespecial 1, 3) := by decide +kernel
theorem dX8_init_4 : decode cX8_init 4 = .ok (.aload_n 0, 1) := by decide +kernel
theorem dX8_init_5 : decode cX8_init 5 = .ok (.bipush 20, 2) := by decide +kernel
theorem dX8_init_7 : decode cX8_init 7 = .ok (.putfield 7, 3) := by decide +kernel
theorem dX8_init_10 : decode cX8_init 10 = .ok (.aload_n 0, 1) := by decide +kernel
theorem dX8_init_11 : decode cX8_init 11 = .ok (.iconst 2, 1) := by decide +kernel
theorem dX8_init_12 : decode cX8_init 12 = .ok (.putfield 13, 3) := by decide +kernel
theorem dX8_init_15 : decode cX8_init 15 = .ok (.aload_n 0, 1) := by decide +kernel
theorem dX8_init_16 : decode cX8_init 16 = .ok (.bipush 6, 2) := by decide +kernel
theorem dX8_init_18 : decode cX8_init 18 = .ok (.newarray .int, 2) := by decide +kernel
theorem dX8_init_20 : decode cX8_init 20 = .ok (.putfield 16, 3) := by decide +kernel
theorem dX8_init_23 : decode cX8_init 23 = .ok (.aload_n 0, 1) := by decide +kernel
theorem dX8_init_24 : decode cX8_init 24 = .ok (.bipush 6, 2) := by decide +kernel
theorem dX8_init_26 : decode cX8_init 26 = .ok (.newarray .int, 2) := by decide +kernel
theorem dX8_init_28 : decode cX8_init 28 = .ok (.putfield 20, 3) := by decide +kernel
theorem dX8_init_31 : decode cX8_init 31 = .ok (.aload_n 0, 1) := by decide +kernel
theorem dX8_init_32 : decode cX8_init 32 = .ok (.bipush 6, 2) := by decide +kernel
theorem dX8_init_34 : decode cX8_init 34 = .ok (.newarray .int, 2) := by decide +kernel
theorem dX8_init_36 : decode cX8_init 36 = .ok (.putfield 23, 3) := by decide +kernel
theorem dX8_init_39 : decode cX8_init 39 = .ok (.aload_n 0, 1) := by decide +kernel
theorem dX8_init_40 : decode cX8_init 40 = .ok (.bipush 6, 2) := by decide +kernel
theorem dX8_init_42 : decode cX8_init 42 = .ok (.newarray .int, 2) := by decide +kernel
theorem dX8_init_44 : decode cX8_init 44 = .ok (.putfield 26, 3) := by decide +kernel
theorem dX8_init_47 : decode cX8_init 47 = .ok (.aload_n 0, 1) := by decide +kernel
theorem dX8_init_48 : decode cX8_init 48 = .ok (.bipush 6, 2) := by decide +kernel
theorem dX8_init_50 : decode cX8_init 50 = .ok (.newarray .int, 2) := by decide +kernel
theorem dX8_init_52 : decode cX8_init 52 = .ok (.putfield 29, 3) := by decide +kernel
theorem dX8_init_55 : decode cX8_init 55 = .ok (.aload_n 0, 1) := by decide +kernel
theorem dX8_init_56 : decode cX8_init 56 = .ok (.bipush 6, 2) := by decide +kernel
theorem dX8_init_58 : decode cX8_init 58 = .ok (.newarray .int, 2) := by decide +kernel
theorem dX8_init_60 : decode cX8_init 60 = .ok (.putfield 32, 3) := by decide +kernel
theorem dX8_init_63 : decode cX8_init 63 = .ok (.aload_n 0, 1) := by decide +kernel
theorem dX8_init_64 : decode cX8_init 64 = .ok (.bipush 20, 2) := by decide +kernel
theorem dX8_init_66 : decode cX8_init 66 = .ok (.newarray .int, 2) := by decide +kernel
theorem dX8_init_68 : decode cX8_init 68 = .ok (.putfield 35, 3) := by decide +kernel
theorem dX8_init_71 : decode cX8_init 71 = .ok (.aload_n 0, 1) := by decide +kernel
theorem dX8_init_72 : decode cX8_init 72 = .ok (.bipush 20, 2) := by decide +kernel
theorem dX8_init_74 : decode cX8_init 74 = .ok (.newarray .int, 2) := by decide +kernel
theorem dX8_init_76 : decode cX8_init 76 = .ok (.putfield 38, 3) := by decide +kernel
theorem dX8_init_79 : decode cX8_init 79 = .ok (.aload_n 0, 1) := by decide +kernel
theorem dX8_init_80 : decode cX8_init 80 = .ok (.bipush 20, 2) := by decide +kernel
theorem dX8_init_82 : decode cX8_init 82 = .ok (.newarray .int, 2) := by decide +kernel
theorem dX8_init_84 : decode cX8_init 84 = .ok (.putfield 41, 3) := by decide +kernel
theorem dX8_init_87 : decode cX8_init 87 = .ok (.aload_n 0, 1) := by decide +kernel
theorem dX8_init_88 : decode cX8_init 88 = .ok (.bipush 20, 2) := by decide +kernel
theorem dX8_init_90 : decode cX8_init 90 = .ok (.newarray .int, 2) := by decide +kernel
theorem dX8_init_92 : decode cX8_init 92 = .ok (.putfield 44, 3) := by decide +kernel
theorem dX8_init_95 : decode cX8_init 95 = .ok (.aload_n 0, 1) := by decide +kernel
theorem dX8_init_96 : decode cX8_init 96 = .ok (.bipush 20, 2) := by decide +kernel
theorem dX8_init_98 : decode cX8_init 98 = .ok (.newarray .int, 2) := by decide +kernel
theorem dX8_init_100 : decode cX8_init 100 = .ok (.putfield 47, 3) := by decide +kernel
theorem dX8_init_103 : decode cX8_init 103 = .ok (.aload_n 0, 1) := by decide +kernel
theorem dX8_init_104 : decode cX8_init 104 = .ok (.bipush 20, 2) := by decide +kernel
theorem dX8_init_106 : decode cX8_init 106 = .ok (.newarray .int, 2) := by decide +kernel
theorem dX8_init_108 : decode cX8_init 108 = .ok (.putfield 50, 3) := by decide +kernel
theorem dX8_init_111 : decode cX8_init 111 = .ok (.aload_n 0, 1) := by decide +kernel
theorem dX8_init_112 : decode cX8_init 112 = .ok (.bipush 20, 2) := by decide +kernel
theorem dX8_init_114 : decode cX8_init 114 = .ok (.newarray .int, 2) := by decide +kernel
theorem dX8_init_116 : decode cX8_init 116 = .ok (.putfield 53, 3) := by decide +kernel
theorem dX8_init_119 : decode cX8_init 119 = .ok (.aload_n 0, 1) := by decide +kernel
theorem dX8_init_120 : decode cX8_init 120 = .ok (.bipush 20, 2) := by decide +kernel
theorem dX8_init_122 : decode cX8_init 122 = .ok (.newarray .int, 2) := by decide +kernel
theorem dX8_init_124 : decode cX8_init 124 = .ok (.putfield 56, 3) := by decide +kernel
theorem dX8_init_127 : decode cX8_init 127 = .ok (.aload_n 0, 1) := by decide +kernel
theorem dX8_init_128 : decode cX8_init 128 = .ok (.bipush 20, 2) := by decide +kernel
theorem dX8_init_130 : decode cX8_init 130 = .ok (.newarray .boolean, 2) := by decide +kernel
theorem dX8_init_132 : decode cX8_init 132 = .ok (.putfield 59, 3) := by decide +kernel
theorem dX8_init_135 : decode cX8_init 135 = .ok (.aload_n 0, 1) := by decide +kernel
theorem dX8_init_136 : decode cX8_init 136 = .ok (.bipush 120, 2) := by decide +kernel
theorem dX8_init_138 : decode cX8_init 138 = .ok (.newarray .int, 2) := by decide +kernel
theorem dX8_init_140 : decode cX8_init 140 = .ok (.putfield 63, 3) := by decide +kernel
theorem dX8_init_143 : decode cX8_init 143 = .ok (.aload_n 0, 1) := by decide +kernel
theorem dX8_init_144 : decode cX8_init 144 = .ok (.sipush 5000, 3) := by decide +kernel
theorem dX8_init_147 : decode cX8_init 147 = .ok (.newarray .int, 2) := by decide +kernel
theorem dX8_init_149 : decode cX8_init 149 = .ok (.putfield 66, 3) := by decide +kernel
theorem dX8_init_152 : decode cX8_init 152 = .ok (.aload_n 0, 1) := by decide +kernel
theorem dX8_init_153 : decode cX8_init 153 = .ok (.sipush 5000, 3) := by decide +kernel
theorem dX8_init_156 : decode cX8_init 156 = .ok (.newarray .int, 2) := by decide +kernel
theorem dX8_init_158 : decode cX8_init 158 = .ok (.putfield 69, 3) := by decide +kernel
theorem dX8_init_161 : decode cX8_init 161 = .ok (.aload_n 0, 1) := by decide +kernel
theorem dX8_init_162 : decode cX8_init 162 = .ok (.sipush 5000, 3) := by decide +kernel
theorem dX8_init_165 : decode cX8_init 165 = .ok (.newarray .int, 2) := by decide +kernel
theorem dX8_init_167 : decode cX8_init 167 = .ok (.putfield 72, 3) := by decide +kernel
theorem dX8_init_170 : decode cX8_init 170 = .ok (.aload_n 0, 1) := by decide +kernel
theorem dX8_init_171 : decode cX8_init 171 = .ok (.bipush 6, 2) := by decide +kernel
theorem dX8_init_173 : decode cX8_init 173 = .ok (.newarray .int, 2) := by decide +kernel
theorem dX8_init_175 : decode cX8_init 175 = .ok (.putfield 75, 3) := by decide +kernel
theorem dX8_init_178 : decode cX8_init 178 = .ok (.aload_n 0, 1) := by decide +kernel
theorem dX8_init_179 : decode cX8_init 179 = .ok (.bipush 36, 2) := by decide +kernel
theorem dX8_init_181 : decode cX8_init 181 = .ok (.newarray .int, 2) := by decide +kernel
theorem dX8_init_183 : decode cX8_init 183 = .ok (.putfield 78, 3) := by decide +kernel
theorem dX8_init_186 : decode cX8_init 186 = .ok (.aload_n 0, 1) := by decide +kernel
theorem dX8_init_187 : decode cX8_init 187 = .ok (.bipush 6, 2) := by decide +kernel
theorem dX8_init_189 : decode cX8_init 189 = .ok (.newarray .int, 2) := by decide +kernel
theorem dX8_init_191 : decode cX8_init 191 = .ok (.putfield 81, 3) := by decide +kernel
theorem dX8_init_194 : decode cX8_init 194 = .ok (.aload_n 0, 1) := by decide +kernel
theorem dX8_init_195 : decode cX8_init 195 = .ok (.bipush 36, 2) := by decide +kernel
theorem dX8_init_197 : decode cX8_init 197 = .ok (.newarray .int, 2) := by decide +kernel
theorem dX8_init_199 : decode cX8_init 199 = .ok (.putfield 84, 3) := by decide +kernel
theorem dX8_init_202 : decode cX8_init 202 = .ok (.aload_n 0, 1) := by decide +kernel
theorem dX8_init_203 : decode cX8_init 203 = .ok (.bipush 36, 2) := by decide +kernel
theorem dX8_init_205 : decode cX8_init 205 = .ok (.newarray .int, 2) := by decide +kernel
theorem dX8_init_207 : decode cX8_init 207 = .ok (.putfield 87, 3) := by decide +kernel
theorem dX8_init_210 : decode cX8_init 210 = .ok (.aload_n 0, 1) := by decide +kernel
theorem dX8_init_211 : decode cX8_init 211 = .ok (.bipush 36, 2) := by decide +kernel
theorem dX8_init_213 : decode cX8_init 213 = .ok (.newarray .int, 2) := by decide +kernel
theorem dX8_init_215 : decode cX8_init 215 = .ok (.putfield 90, 3) := by decide +kernel
theorem dX8_init_218 : decode cX8_init 218 = .ok (.aload_n 0, 1) := by decide +kernel
theorem dX8_init_219 : decode cX8_init 219 = .ok (.bipush 36, 2) := by decide +kernel
theorem dX8_init_221 : decode cX8_init 221 = .ok (.newarray .int, 2) := by decide +kernel
theorem dX8_init_223 : decode cX8_init 223 = .ok (.putfield 93, 3) := by decide +kernel
theorem dX8_init_226 : decode cX8_init 226 = .ok (.aload_n 0, 1) := by decide +kernel
theorem dX8_init_227 : decode cX8_init 227 = .ok (.bipush 36, 2) := by decide +kernel
theorem dX8_init_229 : decode cX8_init 229 = .ok (.newarray .int, 2) := by decide +kernel
theorem dX8_init_231 : decode cX8_init 231 = .ok (.putfield 96, 3) := by decide +kernel
theorem dX8_init_234 : decode cX8_init 234 = .ok (.aload_n 0, 1) := by decide +kernel
theorem dX8_init_235 : decode cX8_init 235 = .ok (.bipush 6, 2) := by decide +kernel
theorem dX8_init_237 : decode cX8_init 237 = .ok (.newarray .int, 2) := by decide +kernel
theorem dX8_init_239 : decode cX8_init 239 = .ok (.putfield 99, 3) := by decide +kernel
theorem dX8_init_242 : decode cX8_init 242 = .ok (.aload_n 0, 1) := by decide +kernel
theorem dX8_init_243 : decode cX8_init 243 = .ok (.bipush 6, 2) := by decide +kernel
theorem dX8_init_245 : decode cX8_init 245 = .ok (.newarray .int, 2) := by decide +kernel
theorem dX8_init_247 : decode cX8_init 247 = .ok (.putfield 102, 3) := by decide +kernel
theorem dX8_init_250 : decode cX8_init 250 = .ok (.aload_n 0, 1) := by decide +kernel
theorem dX8_init_251 : decode cX8_init 251 = .ok (.bipush 6, 2) := by decide +kernel
theorem dX8_init_253 : decode cX8_init 253 = .ok (.newarray .int, 2) := by decide +kernel
theorem dX8_init_255 : decode cX8_init 255 = .ok (.putfield 105, 3) := by decide +kernel
theorem dX8_init_258 : decode cX8_init 258 = .ok (.aload_n 0, 1) := by decide +kernel
theorem dX8_init_259 : decode cX8_init 259 = .ok (.bipush 6, 2) := by decide +kernel
theorem dX8_init_261 : decode cX8_init 261 = .ok (.newarray .int, 2) := by decide +kernel
theorem dX8_init_263 : decode cX8_init 263 = .ok (.putfield 108, 3) := by decide +kernel
theorem dX8_init_266 : decode cX8_init 266 = .ok (.aload_n 0, 1) := by decide +kernel
theorem dX8_init_267 : decode cX8_init 267 = .ok (.bipush 6, 2) := by decide +kernel
theorem dX8_init_269 : decode cX8_init 269 = .ok (.newarray .int, 2) := by decide +kernel
theorem dX8_init_271 : decode cX8_init 271 = .ok (.putfield 111, 3) := by decide +kernel
theorem dX8_init_274 : decode cX8_init 274 = .ok (.aload_n 0, 1) := by decide +kernel
theorem dX8_init_275 : decode cX8_init 275 = .ok (.sipush 3001, 3) := by decide +kernel
theorem dX8_init_278 : decode cX8_init 278 = .ok (.newarray .int, 2) := by decide +kernel
theorem dX8_init_280 : decode cX8_init 280 = .ok (.putfield 114, 3) := by decide +kernel
theorem dX8_init_283 : decode cX8_init 283 = .ok (.return_, 1) := by decide +kernel
def w_X8 (g : ZG) (o : Nat) (qs : List Nat) : va_W := (o, .inr (8, ((((((((((((((((((((((((((((((((((([.int 0, .int 0, .int 0, .int 0, .null, .null, .null, .null, .null, .null, .int 0, .null, .null, .null, .null, .null, .null, .null, .null, .null, .null, .int 0, .null, .null, .null, .int 0, .null, .null, .int 0, .null, .null, .null, .null, .null, .null, .int 0, .null, .null, .null, .null, .null, .int 0, .int 0, .int 0, .int 0, .null, .int 0].set 1 (.int 20)).set 2 (.int 2)).set 4 (.ref (qs.getD 0 0))).set 5 (.ref (qs.getD 1 0))).set 6 (.ref (qs.getD 2 0))).set 7 (.ref (qs.getD 3 0))).set 8 (.ref (qs.getD 4 0))).set 9 (.ref (qs.getD 5 0))).set 11 (.ref (qs.getD 6 0))).set 12 (.ref (qs.getD 7 0))).set 13 (.ref (qs.getD 8 0))).set 14 (.ref (qs.getD 9 0))).set 15 (.ref (qs.getD 10 0))).set 16 (.ref (qs.getD 11 0))).set 17 (.ref (qs.getD 12 0))).set 18 (.ref (qs.getD 13 0))).set 19 (.ref (qs.getD 14 0))).set 20 (.ref (qs.getD 15 0))).set 22 (.ref (qs.getD 16 0))).set 23 (.ref (qs.getD 17 0))).set 24 (.ref (qs.getD 18 0))).set 26 (.ref (qs.getD 19 0))).set 27 (.ref (qs.getD 20 0))).set 29 (.ref (qs.getD 21 0))).set 30 (.ref (qs.getD 22 0))).set 31 (.ref (qs.getD 23 0))).set 32 (.ref (qs.getD 24 0))).set 33 (.ref (qs.getD 25 0))).set 34 (.ref (qs.getD 26 0))).set 36 (.ref (qs.getD 27 0))).set 37 (.ref (qs.getD 28 0))).set 38 (.ref (qs.getD 29 0))).set 39 (.ref (qs.getD 30 0))).set 40 (.ref (qs.getD 31 0))).set 45 (.ref (qs.getD 32 0))))) :: ((((((((((((((((((((((((((((((((([] ++ [((qs.getD 0 0), .inl (g.2.1 0, (6, .inl (fun _ => 0))))]) ++ [((qs.getD 1 0), .inl (g.2.1 0, (6, .inl (fun _ => 0))))]) ++ [((qs.getD 2 0), .inl (g.2.1 0, (6, .inl (fun _ => 0))))]) ++ [((qs.getD 3 0), .inl (g.2.1 0, (6, .inl (fun _ => 0))))]) ++ [((qs.getD 4 0), .inl (g.2.1 0, (6, .inl (fun _ => 0))))]) ++ [((qs.getD 5 0), .inl (g.2.1 0, (6, .inl (fun _ => 0))))]) ++ [((qs.getD 6 0), .inl (g.2.1 0, (20, .inl (fun _ => 0))))]) ++ [((qs.getD 7 0), .inl (g.2.1 0, (20, .inl (fun _ => 0))))]) ++ [((qs.getD 8 0), .inl (g.2.1 0, (20, .inl (fun _ => 0))))]) ++ [((qs.getD 9 0), .inl (g.2.1 0, (20, .inl (fun _ => 0))))]) ++ [((qs.getD 10 0), .inl (g.2.1 0, (20, .inl (fun _ => 0))))]) ++ [((qs.getD 11 0), .inl (g.2.1 0, (20, .inl (fun _ => 0))))]) ++ [((qs.getD 12 0), .inl (g.2.1 0, (20, .inl (fun _ => 0))))]) ++ [((qs.getD 13 0), .inl (g.2.1 0, (20, .inl (fun _ => 0))))]) ++ [((qs.getD 14 0), .inl (g.2.1 1, (20, .inl (fun _ => 0))))]) ++ [((qs.getD 15 0), .inl (g.2.1 0, (120, .inl (fun _ => 0))))]) ++ [((qs.getD 16 0), .inl (g.2.1 0, (5000, .inl (fun _ => 0))))]) ++ [((qs.getD 17 0), .inl (g.2.1 0, (5000, .inl (fun _ => 0))))]) ++ [((qs.getD 18 0), .inl (g.2.1 0, (5000, .inl (fun _ => 0))))]) ++ [((qs.getD 19 0), .inl (g.2.1 0, (6, .inl (fun _ => 0))))]) ++ [((qs.getD 20 0), .inl (g.2.1 0, (36, .inl (fun _ => 0))))]) ++ [((qs.getD 21 0), .inl (g.2.1 0, (6, .inl (fun _ => 0))))]) ++ [((qs.getD 22 0), .inl (g.2.1 0, (36, .inl (fun _ => 0))))]) ++ [((qs.getD 23 0), .inl (g.2.1 0, (36, .inl (fun _ => 0))))]) ++ [((qs.getD 24 0), .inl (g.2.1 0, (36, .inl (fun _ => 0))))]) ++ [((qs.getD 25 0), .inl (g.2.1 0, (36, .inl (fun _ => 0))))]) ++ [((qs.getD 26 0), .inl (g.2.1 0, (36, .inl (fun _ => 0))))]) ++ [((qs.getD 27 0), .inl (g.2.1 0, (6, .inl (fun _ => 0))))]) ++ [((qs.getD 28 0), .inl (g.2.1 0, (6, .inl (fun _ => 0))))]) ++ [((qs.getD 29 0), .inl (g.2.1 0, (6, .inl (fun _ => 0))))]) ++ [((qs.getD 30 0), .inl (g.2.1 0, (6, .inl (fun _ => 0))))]) ++ [((qs.getD 31 0), .inl (g.2.1 0, (6, .inl (fun _ => 0))))]) ++ [((qs.getD 32 0), .inl (g.2.1 0, (3001, .inl (fun _ => 0))))])
set_option maxRecDepth 100000 in
set_option maxHeartbeats 4000000 in
theorem zmk_X8 (l : Launch) (g : ZG) : zMk l yX8_init cX8_init 1 { frames := 1, cells := 33, slots := 18595, locals := 12 } 33 18595 g [] 8 [.int 0, .int 0, .int 0, .int 0, .null, .null, .null, .null, .null, .null, .int 0, .null, .null, .null, .null, .null, .null, .null, .null, .null, .null, .int 0, .null, .null, .null, .int 0, .null, .null, .int 0, .null, .null, .null, .null, .null, .null, .int 0, .null, .null, .null, .null, .null, .int 0, .int 0, .int 0, .int 0, .null, .int 0] (w_X8 g) := by
  refine zMk_of (by decide +kernel) rfl (fun o => (Nat.le_of_ble_eq_true rfl)) (fun o p e s m args below meth c A ls B hin hr hlk hP hD hS hl => ?_)
  have hl : lv_has ls 1 [(0, .ref o)] := hl
  refine lv_aload_n B.hx B.hb dX8_init_0 rfl (lv_at hl 0 rfl) ?_
  refine zc_obj B ⟨(Nat.le_of_ble_eq_true rfl), (Nat.le_of_ble_eq_true rfl)⟩ hl.1 zv_856 zv_65 zv_66 dX8_init_1 ?_
  refine lv_aload_n B.hx B.hb dX8_init_4 rfl (lv_at hl 0 rfl) ?_
  refine lv_bipush (v := 20) B.hx B.hb dX8_init_5 (by decide) ?_
  refine zc_put (f := 1) (ft := tyX8 1) B hin zK8 (by decide) zv_858 rfl rfl (tyX8_ok 1 (by decide)) rfl rfl rfl hP hD hS dX8_init_7 (fun H locs hP hD hS hfl => ?_)
  refine lv_aload_n B.hx B.hb dX8_init_10 rfl (lv_at hl 0 rfl) ?_
  refine lv_iconst (v := 2) B.hx B.hb dX8_init_11 (by decide) ?_
  refine zc_put (f := 2) (ft := tyX8 2) B hin zK8 (by decide) zv_859 rfl rfl (tyX8_ok 2 (by decide)) rfl rfl hfl hP hD hS dX8_init_12 (fun H locs hP hD hS hfl => ?_)
  refine lv_aload_n B.hx B.hb dX8_init_15 rfl (lv_at hl 0 rfl) ?_
  refine lv_bipush (v := 6) B.hx B.hb dX8_init_16 (by decide) ?_
  refine zc_arr (k := 0) (ty := .int) (N' := 6) (f := 4) (ft := tyX8 4) B hin zK8 (by decide) zv_861 rfl rfl (tyX8_ok 4 (by decide)) (fun _ => rfl) (fun _ => rfl) hfl zv_99 rfl (fun _ => rfl) (fun _ h => h) (fun _ => rfl) hP hD hS (by decide) rfl (Nat.le_of_ble_eq_true rfl) (Nat.le_of_ble_eq_true rfl) (Nat.le_of_ble_eq_true rfl) dX8_init_18 dX8_init_20 (fun q1 H locs hP hD hS hfl => ?_)
  refine lv_aload_n B.hx B.hb dX8_init_23 rfl (lv_at hl 0 rfl) ?_
  refine lv_bipush (v := 6) B.hx B.hb dX8_init_24 (by decide) ?_
  refine zc_arr (k := 0) (ty := .int) (N' := 6) (f := 5) (ft := tyX8 5) B hin zK8 (by decide) zv_862 rfl rfl (tyX8_ok 5 (by decide)) (fun _ => rfl) (fun _ => rfl) hfl zv_99 rfl (fun _ => rfl) (fun _ h => h) (fun _ => rfl) hP hD hS (by decide) rfl (Nat.le_of_ble_eq_true rfl) (Nat.le_of_ble_eq_true rfl) (Nat.le_of_ble_eq_true rfl) dX8_init_26 dX8_init_28 (fun q2 H locs hP hD hS hfl => ?_)
  refine lv_aload_n B.hx B.hb dX8_init_31 rfl (lv_at hl 0 rfl) ?_
  refine lv_bipush (v := 6) B.hx B.hb dX8_init_32 (by decide) ?_
  refine zc_arr (k := 0) (ty := .int) (N' := 6) (f := 6) (ft := tyX8 6) B hin zK8 (by decide) zv_863 rfl rfl (tyX8_ok 6 (by decide)) (fun _ => rfl) (fun _ => rfl) hfl zv_99 rfl (fun _ => rfl) (fun _ h => h) (fun _ => rfl) hP hD hS (by decide) rfl (Nat.le_of_ble_eq_true rfl) (Nat.le_of_ble_eq_true rfl) (Nat.le_of_ble_eq_true rfl) dX8_init_34 dX8_init_36 (fun q3 H locs hP hD hS hfl => ?_)
  refine lv_aload_n B.hx B.hb dX8_init_39 rfl (lv_at hl 0 rfl) ?_
  refine lv_bipush (v := 6) B.hx B.hb dX8_init_40 (by decide) ?_
  refine zc_arr (k := 0) (ty := .int) (N' := 6) (f := 7) (ft := tyX8 7) B hin zK8 (by decide) zv_864 rfl rfl (tyX8_ok 7 (by decide)) (fun _ => rfl) (fun _ => rfl) hfl zv_99 rfl (fun _ => rfl) (fun _ h => h) (fun _ => rfl) hP hD hS (by decide) rfl (Nat.le_of_ble_eq_true rfl) (Nat.le_of_ble_eq_true rfl) (Nat.le_of_ble_eq_true rfl) dX8_init_42 dX8_init_44 (fun q4 H locs hP hD hS hfl => ?_)
  refine lv_aload_n B.hx B.hb dX8_init_47 rfl (lv_at hl 0 rfl) ?_
  refine lv_bipush (v := 6) B.hx B.hb dX8_init_48 (by decide) ?_
  refine zc_arr (k := 0) (ty := .int) (N' := 6) (f := 8) (ft := tyX8 8) B hin zK8 (by decide) zv_865 rfl rfl (tyX8_ok 8 (by decide)) (fun _ => rfl) (fun _ => rfl) hfl zv_99 rfl (fun _ => rfl) (fun _ h => h) (fun _ => rfl) hP hD hS (by decide) rfl (Nat.le_of_ble_eq_true rfl) (Nat.le_of_ble_eq_true rfl) (Nat.le_of_ble_eq_true rfl) dX8_init_50 dX8_init_52 (fun q5 H locs hP hD hS hfl => ?_)
  refine lv_aload_n B.hx B.hb dX8_init_55 rfl (lv_at hl 0 rfl) ?_
  refine lv_bipush (v := 6) B.hx B.hb dX8_init_56 (by decide) ?_
  refine zc_arr (k := 0) (ty := .int) (N' := 6) (f := 9) (ft := tyX8 9) B hin zK8 (by decide) zv_866 rfl rfl (tyX8_ok 9 (by decide)) (fun _ => rfl) (fun _ => rfl) hfl zv_99 rfl (fun _ => rfl) (fun _ h => h) (fun _ => rfl) hP hD hS (by decide) rfl (Nat.le_of_ble_eq_true rfl) (Nat.le_of_ble_eq_true rfl) (Nat.le_of_ble_eq_true rfl) dX8_init_58 dX8_init_60 (fun q6 H locs hP hD hS hfl => ?_)
  refine lv_aload_n B.hx B.hb dX8_init_63 rfl (lv_at hl 0 rfl) ?_
  refine lv_bipush (v := 20) B.hx B.hb dX8_init_64 (by decide) ?_
  refine zc_arr (k := 0) (ty := .int) (N' := 20) (f := 11) (ft := tyX8 11) B hin zK8 (by decide) zv_868 rfl rfl (tyX8_ok 11 (by decide)) (fun _ => rfl) (fun _ => rfl) hfl zv_99 rfl (fun _ => rfl) (fun _ h => h) (fun _ => rfl) hP hD hS (by decide) rfl (Nat.le_of_ble_eq_true rfl) (Nat.le_of_ble_eq_true rfl) (Nat.le_of_ble_eq_true rfl) dX8_init_66 dX8_init_68 (fun q7 H locs hP hD hS hfl => ?_)
  refine lv_aload_n B.hx B.hb dX8_init_71 rfl (lv_at hl 0 rfl) ?_
  refine lv_bipush (v := 20) B.hx B.hb dX8_init_72 (by decide) ?_
  refine zc_arr (k := 0) (ty := .int) (N' := 20) (f := 12) (ft := tyX8 12) B hin zK8 (by decide) zv_869 rfl rfl (tyX8_ok 12 (by decide)) (fun _ => rfl) (fun _ => rfl) hfl zv_99 rfl (fun _ => rfl) (fun _ h => h) (fun _ => rfl) hP hD hS (by decide) rfl (Nat.le_of_ble_eq_true rfl) (Nat.le_of_ble_eq_true rfl) (Nat.le_of_ble_eq_true rfl) dX8_init_74 dX8_init_76 (fun q8 H locs hP hD hS hfl => ?_)
  refine lv_aload_n B.hx B.hb dX8_init_79 rfl (lv_at hl 0 rfl) ?_
  refine lv_bipush (v := 20) B.hx B.hb dX8_init_80 (by decide) ?_
  refine zc_arr (k := 0) (ty := .int) (N' := 20) (f := 13) (ft := tyX8 13) B hin zK8 (by decide) zv_870 rfl rfl (tyX8_ok 13 (by decide)) (fun _ => rfl) (fun _ => rfl) hfl zv_99 rfl (fun _ => rfl) (fun _ h => h) (fun _ => rfl) hP hD hS (by decide) rfl (Nat.le_of_ble_eq_true rfl) (Nat.le_of_ble_eq_true rfl) (Nat.le_of_ble_eq_true rfl) dX8_init_82 dX8_init_84 (fun q9 H locs hP hD hS hfl => ?_)
  refine lv_aload_n B.hx B.hb dX8_init_87 rfl (lv_at hl 0 rfl) ?_
  refine lv_bipush (v := 20) B.hx B.hb dX8_init_88 (by decide) ?_
  refine zc_arr (k := 0) (ty := .int) (N' := 20) (f := 14) (ft := tyX8 14) B hin zK8 (by decide) zv_871 rfl rfl (tyX8_ok 14 (by decide)) (fun _ => rfl) (fun _ => rfl) hfl zv_99 rfl (fun _ => rfl) (fun _ h => h) (fun _ => rfl) hP hD hS (by decide) rfl (Nat.le_of_ble_eq_true rfl) (Nat.le_of_ble_eq_true rfl) (Nat.le_of_ble_eq_true rfl) dX8_init_90 dX8_init_92 (fun q10 H locs hP hD hS hfl => ?_)
  refine lv_aload_n B.hx B.hb dX8_init_95 rfl (lv_at hl 0 rfl) ?_
  refine lv_bipush (v := 20) B.hx B.hb dX8_init_96 (by decide) ?_
  refine zc_arr (k := 0) (ty := .int) (N' := 20) (f := 15) (ft := tyX8 15) B hin zK8 (by decide) zv_872 rfl rfl (tyX8_ok 15 (by decide)) (fun _ => rfl) (fun _ => rfl) hfl zv_99 rfl (fun _ => rfl) (fun _ h => h) (fun _ => rfl) hP hD hS (by decide) rfl (Nat.le_of_ble_eq_true rfl) (Nat.le_of_ble_eq_true rfl) (Nat.le_of_ble_eq_true rfl) dX8_init_98 dX8_init_100 (fun q11 H locs hP hD hS hfl => ?_)
  refine lv_aload_n B.hx B.hb dX8_init_103 rfl (lv_at hl 0 rfl) ?_
  refine lv_bipush (v := 20) B.hx B.hb dX8_init_104 (by decide) ?_
  refine zc_arr (k := 0) (ty := .int) (N' := 20) (f := 16) (ft := tyX8 16) B hin zK8 (by decide) zv_873 rfl rfl (tyX8_ok 16 (by decide)) (fun _ => rfl) (fun _ => rfl) hfl zv_99 rfl (fun _ => rfl) (fun _ h => h) (fun _ => rfl) hP hD hS (by decide) rfl (Nat.le_of_ble_eq_true rfl) (Nat.le_of_ble_eq_true rfl) (Nat.le_of_ble_eq_true rfl) dX8_init_106 dX8_init_108 (fun q12 H locs hP hD hS hfl => ?_)
  refine lv_aload_n B.hx B.hb dX8_init_111 rfl (lv_at hl 0 rfl) ?_
  refine lv_bipush (v := 20) B.hx B.hb dX8_init_112 (by decide) ?_
  refine zc_arr (k := 0) (ty := .int) (N' := 20) (f := 17) (ft := tyX8 17) B hin zK8 (by decide) zv_874 rfl rfl (tyX8_ok 17 (by decide)) (fun _ => rfl) (fun _ => rfl) hfl zv_99 rfl (fun _ => rfl) (fun _ h => h) (fun _ => rfl) hP hD hS (by decide) rfl (Nat.le_of_ble_eq_true rfl) (Nat.le_of_ble_eq_true rfl) (Nat.le_of_ble_eq_true rfl) dX8_init_114 dX8_init_116 (fun q13 H locs hP hD hS hfl => ?_)
  refine lv_aload_n B.hx B.hb dX8_init_119 rfl (lv_at hl 0 rfl) ?_
  refine lv_bipush (v := 20) B.hx B.hb dX8_init_120 (by decide) ?_
  refine zc_arr (k := 0) (ty := .int) (N' := 20) (f := 18) (ft := tyX8 18) B hin zK8 (by decide) zv_875 rfl rfl (tyX8_ok 18 (by decide)) (fun _ => rfl) (fun _ => rfl) hfl zv_99 rfl (fun _ => rfl) (fun _ h => h) (fun _ => rfl) hP hD hS (by decide) rfl (Nat.le_of_ble_eq_true rfl) (Nat.le_of_ble_eq_true rfl) (Nat.le_of_ble_eq_true rfl) dX8_init_122 dX8_init_124 (fun q14 H locs hP hD hS hfl => ?_)
  refine lv_aload_n B.hx B.hb dX8_init_127 rfl (lv_at hl 0 rfl) ?_
  refine lv_bipush (v := 20) B.hx B.hb dX8_init_128 (by decide) ?_
  refine zc_arr (k := 1) (ty := .boolean) (N' := 20) (f := 19) (ft := tyX8 19) B hin zK8 (by decide) zv_876 rfl rfl (tyX8_ok 19 (by decide)) (fun _ => rfl) (fun _ => rfl) hfl zv_999 rfl (fun _ => rfl) (fun _ h => h) (fun _ => rfl) hP hD hS (by decide) rfl (Nat.le_of_ble_eq_true rfl) (Nat.le_of_ble_eq_true rfl) (Nat.le_of_ble_eq_true rfl) dX8_init_130 dX8_init_132 (fun q15 H locs hP hD hS hfl => ?_)
  refine lv_aload_n B.hx B.hb dX8_init_135 rfl (lv_at hl 0 rfl) ?_
  refine lv_bipush (v := 120) B.hx B.hb dX8_init_136 (by decide) ?_
  refine zc_arr (k := 0) (ty := .int) (N' := 120) (f := 20) (ft := tyX8 20) B hin zK8 (by decide) zv_877 rfl rfl (tyX8_ok 20 (by decide)) (fun _ => rfl) (fun _ => rfl) hfl zv_99 rfl (fun _ => rfl) (fun _ h => h) (fun _ => rfl) hP hD hS (by decide) rfl (Nat.le_of_ble_eq_true rfl) (Nat.le_of_ble_eq_true rfl) (Nat.le_of_ble_eq_true rfl) dX8_init_138 dX8_init_140 (fun q16 H locs hP hD hS hfl => ?_)
  refine lv_aload_n B.hx B.hb dX8_init_143 rfl (lv_at hl 0 rfl) ?_
  refine lv_sipush (v := 5000) B.hx B.hb dX8_init_144 (by decide) ?_
  refine zc_arr (k := 0) (ty := .int) (N' := 5000) (f := 22) (ft := tyX8 22) B hin zK8 (by decide) zv_879 rfl rfl (tyX8_ok 22 (by decide)) (fun _ => rfl) (fun _ => rfl) hfl zv_99 rfl (fun _ => rfl) (fun _ h => h) (fun _ => rfl) hP hD hS (by decide) rfl (Nat.le_of_ble_eq_true rfl) (Nat.le_of_ble_eq_true rfl) (Nat.le_of_ble_eq_true rfl) dX8_init_147 dX8_init_149 (fun q17 H locs hP hD hS hfl => ?_)
  refine lv_aload_n B.hx B.hb dX8_init_152 rfl (lv_at hl 0 rfl) ?_
  refine lv_sipush (v := 5000) B.hx B.hb dX8_init_153 (by decide) ?_
  refine zc_arr (k := 0) (ty := .int) (N' := 5000) (f := 23) (ft := tyX8 23) B hin zK8 (by decide) zv_880 rfl rfl (tyX8_ok 23 (by decide)) (fun _ => rfl) (fun _ => rfl) hfl zv_99 rfl (fun _ => rfl) (fun _ h => h) (fun _ => rfl) hP hD hS (by decide) rfl (Nat.le_of_ble_eq_true rfl) (Nat.le_of_ble_eq_true rfl) (Nat.le_of_ble_eq_true rfl) dX8_init_156 dX8_init_158 (fun q18 H locs hP hD hS hfl => ?_)
  refine lv_aload_n B.hx B.hb dX8_init_161 rfl (lv_at hl 0 rfl) ?_
  refine lv_sipush (v := 5000) B.hx B.hb dX8_init_162 (by decide) ?_
  refine zc_arr (k := 0) (ty := .int) (N' := 5000) (f := 24) (ft := tyX8 24) B hin zK8 (by decide) zv_881 rfl rfl (tyX8_ok 24 (by decide)) (fun _ => rfl) (fun _ => rfl) hfl zv_99 rfl (fun _ => rfl) (fun _ h => h) (fun _ => rfl) hP hD hS (by decide) rfl (Nat.le_of_ble_eq_true rfl) (Nat.le_of_ble_eq_true rfl) (Nat.le_of_ble_eq_true rfl) dX8_init_165 dX8_init_167 (fun q19 H locs hP hD hS hfl => ?_)
  refine lv_aload_n B.hx B.hb dX8_init_170 rfl (lv_at hl 0 rfl) ?_
  refine lv_bipush (v := 6) B.hx B.hb dX8_init_171 (by decide) ?_
  refine zc_arr (k := 0) (ty := .int) (N' := 6) (f := 26) (ft := tyX8 26) B hin zK8 (by decide) zv_883 rfl rfl (tyX8_ok 26 (by decide)) (fun _ => rfl) (fun _ => rfl) hfl zv_99 rfl (fun _ => rfl) (fun _ h => h) (fun _ => rfl) hP hD hS (by decide) rfl (Nat.le_of_ble_eq_true rfl) (Nat.le_of_ble_eq_true rfl) (Nat.le_of_ble_eq_true rfl) dX8_init_173 dX8_init_175 (fun q20 H locs hP hD hS hfl => ?_)
  refine lv_aload_n B.hx B.hb dX8_init_178 rfl (lv_at hl 0 rfl) ?_
  refine lv_bipush (v := 36) B.hx B.hb dX8_init_179 (by decide) ?_
  refine zc_arr (k := 0) (ty := .int) (N' := 36) (f := 27) (ft := tyX8 27) B hin zK8 (by decide) zv_884 rfl rfl (tyX8_ok 27 (by decide)) (fun _ => rfl) (fun _ => rfl) hfl zv_99 rfl (fun _ => rfl) (fun _ h => h) (fun _ => rfl) hP hD hS (by decide) rfl (Nat.le_of_ble_eq_true rfl) (Nat.le_of_ble_eq_true rfl) (Nat.le_of_ble_eq_true rfl) dX8_init_181 dX8_init_183 (fun q21 H locs hP hD hS hfl => ?_)
  refine lv_aload_n B.hx B.hb dX8_init_186 rfl (lv_at hl 0 rfl) ?_
  refine lv_bipush (v := 6) B.hx B.hb dX8_init_187 (by decide) ?_
  refine zc_arr (k := 0) (ty := .int) (N' := 6) (f := 29) (ft := tyX8 29) B hin zK8 (by decide) zv_886 rfl rfl (tyX8_ok 29 (by decide)) (fun _ => rfl) (fun _ => rfl) hfl zv_99 rfl (fun _ => rfl) (fun _ h => h) (fun _ => rfl) hP hD hS (by decide) rfl (Nat.le_of_ble_eq_true rfl) (Nat.le_of_ble_eq_true rfl) (Nat.le_of_ble_eq_true rfl) dX8_init_189 dX8_init_191 (fun q22 H locs hP hD hS hfl => ?_)
  refine lv_aload_n B.hx B.hb dX8_init_194 rfl (lv_at hl 0 rfl) ?_
  refine lv_bipush (v := 36) B.hx B.hb dX8_init_195 (by decide) ?_
  refine zc_arr (k := 0) (ty := .int) (N' := 36) (f := 30) (ft := tyX8 30) B hin zK8 (by decide) zv_887 rfl rfl (tyX8_ok 30 (by decide)) (fun _ => rfl) (fun _ => rfl) hfl zv_99 rfl (fun _ => rfl) (fun _ h => h) (fun _ => rfl) hP hD hS (by decide) rfl (Nat.le_of_ble_eq_true rfl) (Nat.le_of_ble_eq_true rfl) (Nat.le_of_ble_eq_true rfl) dX8_init_197 dX8_init_199 (fun q23 H locs hP hD hS hfl => ?_)
  refine lv_aload_n B.hx B.hb dX8_init_202 rfl (lv_at hl 0 rfl) ?_
  refine lv_bipush (v := 36) B.hx B.hb dX8_init_203 (by decide) ?_
  refine zc_arr (k := 0) (ty := .int) (N' := 36) (f := 31) (ft := tyX8 31) B hin zK8 (by decide) zv_888 rfl rfl (tyX8_ok 31 (by decide)) (fun _ => rfl) (fun _ => rfl) hfl zv_99 rfl (fun _ => rfl) (fun _ h => h) (fun _ => rfl) hP hD hS (by decide) rfl (Nat.le_of_ble_eq_true rfl) (Nat.le_of_ble_eq_true rfl) (Nat.le_of_ble_eq_true rfl) dX8_init_205 dX8_init_207 (fun q24 H locs hP hD hS hfl => ?_)
  refine lv_aload_n B.hx B.hb dX8_init_210 rfl (lv_at hl 0 rfl) ?_
  refine lv_bipush (v := 36) B.hx B.hb dX8_init_211 (by decide) ?_
  refine zc_arr (k := 0) (ty := .int) (N' := 36) (f := 32) (ft := tyX8 32) B hin zK8 (by decide) zv_889 rfl rfl (tyX8_ok 32 (by decide)) (fun _ => rfl) (fun _ => rfl) hfl zv_99 rfl (fun _ => rfl) (fun _ h => h) (fun _ => rfl) hP hD hS (by decide) rfl (Nat.le_of_ble_eq_true rfl) (Nat.le_of_ble_eq_true rfl) (Nat.le_of_ble_eq_true rfl) dX8_init_213 dX8_init_215 (fun q25 H locs hP hD hS hfl => ?_)
  refine lv_aload_n B.hx B.hb dX8_init_218 rfl (lv_at hl 0 rfl) ?_
  refine lv_bipush (v := 36) B.hx B.hb dX8_init_219 (by decide) ?_
  refine zc_arr (k := 0) (ty := .int) (N' := 36) (f := 33) (ft := tyX8 33) B hin zK8 (by decide) zv_890 rfl rfl (tyX8_ok 33 (by decide)) (fun _ => rfl) (fun _ => rfl) hfl zv_99 rfl (fun _ => rfl) (fun _ h => h) (fun _ => rfl) hP hD hS (by decide) rfl (Nat.le_of_ble_eq_true rfl) (Nat.le_of_ble_eq_true rfl) (Nat.le_of_ble_eq_true rfl) dX8_init_221 dX8_init_223 (fun q26 H locs hP hD hS hfl => ?_)
  refine lv_aload_n B.hx B.hb dX8_init_226 rfl (lv_at hl 0 rfl) ?_
  refine lv_bipush (v := 36) B.hx B.hb dX8_init_227 (by decide) ?_
  refine zc_arr (k := 0) (ty := .int) (N' := 36) (f := 34) (ft := tyX8 34) B hin zK8 (by decide) zv_891 rfl rfl (tyX8_ok 34 (by decide)) (fun _ => rfl) (fun _ => rfl) hfl zv_99 rfl (fun _ => rfl) (fun _ h => h) (fun _ => rfl) hP hD hS (by decide) rfl (Nat.le_of_ble_eq_true rfl) (Nat.le_of_ble_eq_true rfl) (Nat.le_of_ble_eq_true rfl) dX8_init_229 dX8_init_231 (fun q27 H locs hP hD hS hfl => ?_)
  refine lv_aload_n B.hx B.hb dX8_init_234 rfl (lv_at hl 0 rfl) ?_
  refine lv_bipush (v := 6) B.hx B.hb dX8_init_235 (by decide) ?_
  refine zc_arr (k := 0) (ty := .int) (N' := 6) (f := 36) (ft := tyX8 36) B hin zK8 (by decide) zv_893 rfl rfl (tyX8_ok 36 (by decide)) (fun _ => rfl) (fun _ => rfl) hfl zv_99 rfl (fun _ => rfl) (fun _ h => h) (fun _ => rfl) hP hD hS (by decide) rfl (Nat.le_of_ble_eq_true rfl) (Nat.le_of_ble_eq_true rfl) (Nat.le_of_ble_eq_true rfl) dX8_init_237 dX8_init_239 (fun q28 H locs hP hD hS hfl => ?_)
  refine lv_aload_n B.hx B.hb dX8_init_242 rfl (lv_at hl 0 rfl) ?_
  refine lv_bipush (v := 6) B.hx B.hb dX8_init_243 (by decide) ?_
  refine zc_arr (k := 0) (ty := .int) (N' := 6) (f := 37) (ft := tyX8 37) B hin zK8 (by decide) zv_894 rfl rfl (tyX8_ok 37 (by decide)) (fun _ => rfl) (fun _ => rfl) hfl zv_99 rfl (fun _ => rfl) (fun _ h => h) (fun _ => rfl) hP hD hS (by decide) rfl (Nat.le_of_ble_eq_true rfl) (Nat.le_of_ble_eq_true rfl) (Nat.le_of_ble_eq_true rfl) dX8_init_245 dX8_init_247 (fun q29 H locs hP hD hS hfl => ?_)
  refine lv_aload_n B.hx B.hb dX8_init_250 rfl (lv_at hl 0 rfl) ?_
  refine lv_bipush (v := 6) B.hx B.hb dX8_init_251 (by decide) ?_
  refine zc_arr (k := 0) (ty := .int) (N' := 6) (f := 38) (ft := tyX8 38) B hin zK8 (by decide) zv_895 rfl rfl (tyX8_ok 38 (by decide)) (fun _ => rfl) (fun _ => rfl) hfl zv_99 rfl (fun _ => rfl) (fun _ h => h) (fun _ => rfl) hP hD hS (by decide) rfl (Nat.le_of_ble_eq_true rfl) (Nat.le_of_ble_eq_true rfl) (Nat.le_of_ble_eq_true rfl) dX8_init_253 dX8_init_255 (fun q30 H locs hP hD hS hfl => ?_)
  refine lv_aload_n B.hx B.hb dX8_init_258 rfl (lv_at hl 0 rfl) ?_
  refine lv_bipush (v := 6) B.hx B.hb dX8_init_259 (by decide) ?_
  refine zc_arr (k := 0) (ty := .int) (N' := 6) (f := 39) (ft := tyX8 39) B hin zK8 (by decide) zv_896 rfl rfl (tyX8_ok 39 (by decide)) (fun _ => rfl) (fun _ => rfl) hfl zv_99 rfl (fun _ => rfl) (fun _ h => h) (fun _ => rfl) hP hD hS (by decide) rfl (Nat.le_of_ble_eq_true rfl) (Nat.le_of_ble_eq_true rfl) (Nat.le_of_ble_eq_true rfl) dX8_init_261 dX8_init_263 (fun q31 H locs hP hD hS hfl => ?_)
  refine lv_aload_n B.hx B.hb dX8_init_266 rfl (lv_at hl 0 rfl) ?_
  refine lv_bipush (v := 6) B.hx B.hb dX8_init_267 (by decide) ?_
  refine zc_arr (k := 0) (ty := .int) (N' := 6) (f := 40) (ft := tyX8 40) B hin zK8 (by decide) zv_897 rfl rfl (tyX8_ok 40 (by decide)) (fun _ => rfl) (fun _ => rfl) hfl zv_99 rfl (fun _ => rfl) (fun _ h => h) (fun _ => rfl) hP hD hS (by decide) rfl (Nat.le_of_ble_eq_true rfl) (Nat.le_of_ble_eq_true rfl) (Nat.le_of_ble_eq_true rfl) dX8_init_269 dX8_init_271 (fun q32 H locs hP hD hS hfl => ?_)
  refine lv_aload_n B.hx B.hb dX8_init_274 rfl (lv_at hl 0 rfl) ?_
  refine lv_sipush (v := 3001) B.hx B.hb dX8_init_275 (by decide) ?_
  refine zc_arr (k := 0) (ty := .int) (N' := 3001) (f := 45) (ft := tyX8 45) B hin zK8 (by decide) zv_902 rfl rfl (tyX8_ok 45 (by decide)) (fun _ => rfl) (fun _ => rfl) hfl zv_99 rfl (fun _ => rfl) (fun _ h => h) (fun _ => rfl) hP hD hS (by decide) rfl (Nat.le_of_ble_eq_true rfl) (Nat.le_of_ble_eq_true rfl) (Nat.le_of_ble_eq_true rfl) dX8_init_278 dX8_init_280 (fun q33 H locs hP hD hS hfl => ?_)
  exact zc_vret (w1 := w_X8 g) [q1, q2, q3, q4, q5, q6, q7, q8, q9, q10, q11, q12, q13, q14, q15, q16, q17, q18, q19, q20, q21, q22, q23, q24, q25, q26, q27, q28, q29, q30, q31, q32, q33] B hr hlk hP hD hS dX8_init_283
set_option maxRecDepth 100000 in
set_option maxHeartbeats 4000000 in
theorem w_X8_eq (g : ZG) (o : Nat) (qs : List Nat) : w_X8 g o qs = [(o, .inr (8, [.int 0, .int 20, .int 2, .int 0, .ref (qs.getD 0 0), .ref (qs.getD 1 0), .ref (qs.getD 2 0), .ref (qs.getD 3 0), .ref (qs.getD 4 0), .ref (qs.getD 5 0), .int 0, .ref (qs.getD 6 0), .ref (qs.getD 7 0), .ref (qs.getD 8 0), .ref (qs.getD 9 0), .ref (qs.getD 10 0), .ref (qs.getD 11 0), .ref (qs.getD 12 0), .ref (qs.getD 13 0), .ref (qs.getD 14 0), .ref (qs.getD 15 0), .int 0, .ref (qs.getD 16 0), .ref (qs.getD 17 0), .ref (qs.getD 18 0), .int 0, .ref (qs.getD 19 0), .ref (qs.getD 20 0), .int 0, .ref (qs.getD 21 0), .ref (qs.getD 22 0), .ref (qs.getD 23 0), .ref (qs.getD 24 0), .ref (qs.getD 25 0), .ref (qs.getD 26 0), .int 0, .ref (qs.getD 27 0), .ref (qs.getD 28 0), .ref (qs.getD 29 0), .ref (qs.getD 30 0), .ref (qs.getD 31 0), .int 0, .int 0, .int 0, .int 0, .ref (qs.getD 32 0), .int 0])), ((qs.getD 0 0), .inl (g.2.1 0, (6, .inl (fun _ => 0)))), ((qs.getD 1 0), .inl (g.2.1 0, (6, .inl (fun _ => 0)))), ((qs.getD 2 0), .inl (g.2.1 0, (6, .inl (fun _ => 0)))), ((qs.getD 3 0), .inl (g.2.1 0, (6, .inl (fun _ => 0)))), ((qs.getD 4 0), .inl (g.2.1 0, (6, .inl (fun _ => 0)))), ((qs.getD 5 0), .inl (g.2.1 0, (6, .inl (fun _ => 0)))), ((qs.getD 6 0), .inl (g.2.1 0, (20, .inl (fun _ => 0)))), ((qs.getD 7 0), .inl (g.2.1 0, (20, .inl (fun _ => 0)))), ((qs.getD 8 0), .inl (g.2.1 0, (20, .inl (fun _ => 0)))), ((qs.getD 9 0), .inl (g.2.1 0, (20, .inl (fun _ => 0)))), ((qs.getD 10 0), .inl (g.2.1 0, (20, .inl (fun _ => 0)))), ((qs.getD 11 0), .inl (g.2.1 0, (20, .inl (fun _ => 0)))), ((qs.getD 12 0), .inl (g.2.1 0, (20, .inl (fun _ => 0)))), ((qs.getD 13 0), .inl (g.2.1 0, (20, .inl (fun _ => 0)))), ((qs.getD 14 0), .inl (g.2.1 1, (20, .inl (fun _ => 0)))), ((qs.getD 15 0), .inl (g.2.1 0, (120, .inl (fun _ => 0)))), ((qs.getD 16 0), .inl (g.2.1 0, (5000, .inl (fun _ => 0)))), ((qs.getD 17 0), .inl (g.2.1 0, (5000, .inl (fun _ => 0)))), ((qs.getD 18 0), .inl (g.2.1 0, (5000, .inl (fun _ => 0)))), ((qs.getD 19 0), .inl (g.2.1 0, (6, .inl (fun _ => 0)))), ((qs.getD 20 0), .inl (g.2.1 0, (36, .inl (fun _ => 0)))), ((qs.getD 21 0), .inl (g.2.1 0, (6, .inl (fun _ => 0)))), ((qs.getD 22 0), .inl (g.2.1 0, (36, .inl (fun _ => 0)))), ((qs.getD 23 0), .inl (g.2.1 0, (36, .inl (fun _ => 0)))), ((qs.getD 24 0), .inl (g.2.1 0, (36, .inl (fun _ => 0)))), ((qs.getD 25 0), .inl (g.2.1 0, (36, .inl (fun _ => 0)))), ((qs.getD 26 0), .inl (g.2.1 0, (36, .inl (fun _ => 0)))), ((qs.getD 27 0), .inl (g.2.1 0, (6, .inl (fun _ => 0)))), ((qs.getD 28 0), .inl (g.2.1 0, (6, .inl (fun _ => 0)))), ((qs.getD 29 0), .inl (g.2.1 0, (6, .inl (fun _ => 0)))), ((qs.getD 30 0), .inl (g.2.1 0, (6, .inl (fun _ => 0)))), ((qs.getD 31 0), .inl (g.2.1 0, (6, .inl (fun _ => 0)))), ((qs.getD 32 0), .inl (g.2.1 0, (3001, .inl (fun _ => 0))))] := by
  simp only [w_X8, List.cons_append, List.nil_append, List.set_cons_succ, List.set_cons_zero]
