theorem dL_cell_0 : decode cL_cell 0 = .ok (.iload_n 1, 1) := by decide +kernel
theorem dL_cell_1 : decode cL_cell 1 = .ok (.aload_n 0, 1) := by decide +kernel
theorem dL_cell_2 : decode cL_cell 2 = .ok (.arraylength, 1) := by decide +kernel
theorem dL_cell_3 : decode cL_cell 3 = .ok (.if_icmp .ge 9, 3) := by decide +kernel
theorem dL_cell_6 : decode cL_cell 6 = .ok (.aload_n 0, 1) := by decide +kernel
theorem dL_cell_7 : decode cL_cell 7 = .ok (.iload_n 1, 1) := by decide +kernel
theorem dL_cell_8 : decode cL_cell 8 = .ok (.iaload, 1) := by decide +kernel
theorem dL_cell_9 : decode cL_cell 9 = .ok (.goto 11, 3) := by decide +kernel
theorem dL_cell_12 : decode cL_cell 12 = .ok (.ldc 7, 2) := by decide +kernel
theorem dL_cell_14 : decode cL_cell 14 = .ok (.iload_n 1, 1) := by decide +kernel
theorem dL_cell_15 : decode cL_cell 15 = .ok (.imul, 1) := by decide +kernel
theorem dL_cell_16 : decode cL_cell 16 = .ok (.sipush 15013, 3) := by decide +kernel
theorem dL_cell_19 : decode cL_cell 19 = .ok (.iadd, 1) := by decide +kernel
theorem dL_cell_20 : decode cL_cell 20 = .ok (.ireturn, 1) := by decide +kernel
def zb_L_cell_20 : ZP := (z_ret 1)
set_option maxRecDepth 20000 in
theorem zk_L_cell_20 {X : ZX} (C : zCx X cL_cell RL (some .int) 0 0 1 6) (hn : X.nL = 2) : ZOK X 20 (zb_L_cell_20) := by
  unfold zb_L_cell_20
  exact z_iret_ok (pc := 20) C dL_cell_20
def zb_L_cell_0 : ZP := (z_ild 1 (z_ald 0 (z_sln (z_cmp (fun x y => y ≤ x) (z_push 38110103 (z_ild 1 (z_bin (fun x y => x * y) (z_push 15013 (z_bin (fun x y => x + y) zb_L_cell_20))))) (z_ald 0 (z_ild 1 (z_sld zb_L_cell_20)))))))
set_option maxRecDepth 20000 in
theorem zk_L_cell_0 {X : ZX} (C : zCx X cL_cell RL (some .int) 0 0 1 6) (hn : X.nL = 2) : ZOK X 0 (zb_L_cell_0) := by
  unfold zb_L_cell_0
  refine z_iload_n_ok (pc := 0) (i := 1) C.hx C.hb dL_cell_0 rfl ?_
  refine z_aload_n_ok (pc := 1) (i := 0) C.hx C.hb dL_cell_1 rfl ?_
  refine z_sln_ok (pc := 2) C dL_cell_2 ?_
  refine z_icmp_ge_ok (pc := 3) (tgt := 12) C.hx C.hb dL_cell_3 (by decide) ?_ ?_
  · refine z_ldc_ok (pc := 12) C zw_623 dL_cell_12 ?_
    refine z_iload_n_ok (pc := 14) (i := 1) C.hx C.hb dL_cell_14 rfl ?_
    refine z_imul_ok (pc := 15) C.hx C.hb dL_cell_15 ?_
    refine z_sipush_ok (pc := 16) (v := 15013) C.hx C.hb dL_cell_16 (by decide) ?_
    refine z_iadd_ok (pc := 19) C.hx C.hb dL_cell_19 ?_
    exact zk_L_cell_20 C hn 
  · refine z_aload_n_ok (pc := 6) (i := 0) C.hx C.hb dL_cell_6 rfl ?_
    refine z_iload_n_ok (pc := 7) (i := 1) C.hx C.hb dL_cell_7 rfl ?_
    refine z_sld_ok (pc := 8) C dL_cell_8 ?_
    refine z_goto_ok (pc := 9) (tgt := 20) C.hx C.hb dL_cell_9 (by decide) ?_
    exact zk_L_cell_20 C hn 
def sp_L_cell : ZSp := fun as S K => as.length ≤ 2 ∧ zsp 2 zb_L_cell_0 as S K
theorem zm_L_cell (l : Launch) (hl : l.stackTraces = false) : zMet l yL_cell cL_cell 2 (some .int) { frames := 0, cells := 1, slots := 6, locals := 0 } 0 0 sp_L_cell := zMet_of hl (by decide +kernel) ⟨rfl, rfl⟩ (fun X C hn _ => zk_L_cell_0 C hn)
theorem dL_low_0 : decode cL_low 0 = .ok (.iload_n 0, 1) := by decide +kernel
theorem dL_low_1 : decode cL_low 1 = .ok (.ldc 8, 2) := by decide +kernel
theorem dL_low_3 : decode cL_low 3 = .ok (.iand, 1) := by decide +kernel
theorem dL_low_4 : decode cL_low 4 = .ok (.iload_n 1, 1) := by decide +kernel
theorem dL_low_5 : decode cL_low 5 = .ok (.irem, 1) := by decide +kernel
theorem dL_low_6 : decode cL_low 6 = .ok (.ireturn, 1) := by decide +kernel
def zb_L_low_0 : ZP := (z_ild 0 (z_push 2147483647 (z_bin (fun x y => x &&& y) (z_ild 1 (z_dvn (fun x y => x - x / y * y) (z_ret 1))))))
set_option maxRecDepth 20000 in
theorem zk_L_low_0 {X : ZX} (C : zCx X cL_low RL (some .int) 0 0 1 6) (hn : X.nL = 2) : ZOK X 0 (zb_L_low_0) := by
  unfold zb_L_low_0
  refine z_iload_n_ok (pc := 0) (i := 0) C.hx C.hb dL_low_0 rfl ?_
  refine z_ldc_ok (pc := 1) C zw_627 dL_low_1 ?_
  refine z_iand_ok (pc := 3) C.hx C.hb dL_low_3 ?_
  refine z_iload_n_ok (pc := 4) (i := 1) C.hx C.hb dL_low_4 rfl ?_
  refine z_irem_ok (pc := 5) C.hx C.hb dL_low_5 ?_
  exact z_iret_ok (pc := 6) C dL_low_6
def sp_L_low : ZSp := fun as S K => as.length ≤ 2 ∧ zsp 2 zb_L_low_0 as S K
theorem zm_L_low (l : Launch) (hl : l.stackTraces = false) : zMet l yL_low cL_low 2 (some .int) { frames := 0, cells := 1, slots := 6, locals := 0 } 0 0 sp_L_low := zMet_of hl (by decide +kernel) ⟨rfl, rfl⟩ (fun X C hn _ => zk_L_low_0 C hn)
theorem dL_agrees_0 : decode cL_agrees 0 = .ok (.aload_n 0, 1) := by decide +kernel
theorem dL_agrees_1 : decode cL_agrees 1 = .ok (.iconst 1, 1) := by decide +kernel
theorem dL_agrees_2 : decode cL_agrees 2 = .ok (.invokevirtual 45, 3) := by decide +kernel
theorem dL_agrees_5 : decode cL_agrees 5 = .ok (.aload_n 0, 1) := by decide +kernel
theorem dL_agrees_6 : decode cL_agrees 6 = .ok (.iconst 2, 1) := by decide +kernel
theorem dL_agrees_7 : decode cL_agrees 7 = .ok (.invokevirtual 45, 3) := by decide +kernel
theorem dL_agrees_10 : decode cL_agrees 10 = .ok (.aload_n 0, 1) := by decide +kernel
theorem dL_agrees_11 : decode cL_agrees 11 = .ok (.iconst 3, 1) := by decide +kernel
theorem dL_agrees_12 : decode cL_agrees 12 = .ok (.invokevirtual 45, 3) := by decide +kernel
theorem dL_agrees_15 : decode cL_agrees 15 = .ok (.iadd, 1) := by decide +kernel
theorem dL_agrees_16 : decode cL_agrees 16 = .ok (.aload_n 0, 1) := by decide +kernel
theorem dL_agrees_17 : decode cL_agrees 17 = .ok (.iconst 4, 1) := by decide +kernel
theorem dL_agrees_18 : decode cL_agrees 18 = .ok (.invokevirtual 45, 3) := by decide +kernel
theorem dL_agrees_21 : decode cL_agrees 21 = .ok (.iadd, 1) := by decide +kernel
theorem dL_agrees_22 : decode cL_agrees 22 = .ok (.aload_n 0, 1) := by decide +kernel
theorem dL_agrees_23 : decode cL_agrees 23 = .ok (.iconst 5, 1) := by decide +kernel
theorem dL_agrees_24 : decode cL_agrees 24 = .ok (.invokevirtual 45, 3) := by decide +kernel
theorem dL_agrees_27 : decode cL_agrees 27 = .ok (.iadd, 1) := by decide +kernel
theorem dL_agrees_28 : decode cL_agrees 28 = .ok (.aload_n 0, 1) := by decide +kernel
theorem dL_agrees_29 : decode cL_agrees 29 = .ok (.bipush 6, 2) := by decide +kernel
theorem dL_agrees_31 : decode cL_agrees 31 = .ok (.invokevirtual 45, 3) := by decide +kernel
theorem dL_agrees_34 : decode cL_agrees 34 = .ok (.iadd, 1) := by decide +kernel
theorem dL_agrees_35 : decode cL_agrees 35 = .ok (.if_icmp .ne 7, 3) := by decide +kernel
theorem dL_agrees_38 : decode cL_agrees 38 = .ok (.iconst 1, 1) := by decide +kernel
theorem dL_agrees_39 : decode cL_agrees 39 = .ok (.goto 4, 3) := by decide +kernel
theorem dL_agrees_42 : decode cL_agrees 42 = .ok (.iconst 0, 1) := by decide +kernel
theorem dL_agrees_43 : decode cL_agrees 43 = .ok (.istore_n 3, 1) := by decide +kernel
theorem dL_agrees_44 : decode cL_agrees 44 = .ok (.iconst 0, 1) := by decide +kernel
theorem dL_agrees_45 : decode cL_agrees 45 = .ok (.istore 4, 2) := by decide +kernel
theorem dL_agrees_47 : decode cL_agrees 47 = .ok (.iconst 0, 1) := by decide +kernel
theorem dL_agrees_48 : decode cL_agrees 48 = .ok (.istore 5, 2) := by decide +kernel
theorem dL_agrees_50 : decode cL_agrees 50 = .ok (.iload 5, 2) := by decide +kernel
theorem dL_agrees_52 : decode cL_agrees 52 = .ok (.iload_n 1, 1) := by decide +kernel
theorem dL_agrees_53 : decode cL_agrees 53 = .ok (.if_icmp .ge 154, 3) := by decide +kernel
theorem dL_agrees_56 : decode cL_agrees 56 = .ok (.iload 4, 2) := by decide +kernel
theorem dL_agrees_58 : decode cL_agrees 58 = .ok (.iconst 1, 1) := by decide +kernel
theorem dL_agrees_59 : decode cL_agrees 59 = .ok (.aload_n 0, 1) := by decide +kernel
theorem dL_agrees_60 : decode cL_agrees 60 = .ok (.iload 5, 2) := by decide +kernel
theorem dL_agrees_62 : decode cL_agrees 62 = .ok (.bipush 6, 2) := by decide +kernel
theorem dL_agrees_64 : decode cL_agrees 64 = .ok (.invokevirtual 48, 3) := by decide +kernel
theorem dL_agrees_67 : decode cL_agrees 67 = .ok (.isub, 1) := by decide +kernel
theorem dL_agrees_68 : decode cL_agrees 68 = .ok (.iadd, 1) := by decide +kernel
theorem dL_agrees_69 : decode cL_agrees 69 = .ok (.istore 4, 2) := by decide +kernel
theorem dL_agrees_71 : decode cL_agrees 71 = .ok (.iload_n 3, 1) := by decide +kernel
theorem dL_agrees_72 : decode cL_agrees 72 = .ok (.aload_n 0, 1) := by decide +kernel
theorem dL_agrees_73 : decode cL_agrees 73 = .ok (.iload 5, 2) := by decide +kernel
theorem dL_agrees_75 : decode cL_agrees 75 = .ok (.iconst 2, 1) := by decide +kernel
theorem dL_agrees_76 : decode cL_agrees 76 = .ok (.invokevirtual 48, 3) := by decide +kernel
theorem dL_agrees_79 : decode cL_agrees 79 = .ok (.bipush 100, 2) := by decide +kernel
theorem dL_agrees_81 : decode cL_agrees 81 = .ok (.if_icmp .gt 52, 3) := by decide +kernel
theorem dL_agrees_84 : decode cL_agrees 84 = .ok (.aload_n 0, 1) := by decide +kernel
theorem dL_agrees_85 : decode cL_agrees 85 = .ok (.iload 5, 2) := by decide +kernel
theorem dL_agrees_87 : decode cL_agrees 87 = .ok (.iconst 2, 1) := by decide +kernel
theorem dL_agrees_88 : decode cL_agrees 88 = .ok (.invokevirtual 48, 3) := by decide +kernel
theorem dL_agrees_91 : decode cL_agrees 91 = .ok (.ifCond .ne 7, 3) := by decide +kernel
theorem dL_agrees_94 : decode cL_agrees 94 = .ok (.iconst 1, 1) := by decide +kernel
theorem dL_agrees_95 : decode cL_agrees 95 = .ok (.goto 4, 3) := by decide +kernel
theorem dL_agrees_98 : decode cL_agrees 98 = .ok (.iconst 0, 1) := by decide +kernel
theorem dL_agrees_99 : decode cL_agrees 99 = .ok (.aload_n 0, 1) := by decide +kernel
theorem dL_agrees_100 : decode cL_agrees 100 = .ok (.iload 5, 2) := by decide +kernel
theorem dL_agrees_102 : decode cL_agrees 102 = .ok (.bipush 6, 2) := by decide +kernel
theorem dL_agrees_104 : decode cL_agrees 104 = .ok (.invokevirtual 48, 3) := by decide +kernel
theorem dL_agrees_107 : decode cL_agrees 107 = .ok (.iconst 1, 1) := by decide +kernel
theorem dL_agrees_108 : decode cL_agrees 108 = .ok (.if_icmp .ne 7, 3) := by decide +kernel
theorem dL_agrees_111 : decode cL_agrees 111 = .ok (.iconst 1, 1) := by decide +kernel
theorem dL_agrees_112 : decode cL_agrees 112 = .ok (.goto 4, 3) := by decide +kernel
theorem dL_agrees_115 : decode cL_agrees 115 = .ok (.iconst 0, 1) := by decide +kernel
theorem dL_agrees_116 : decode cL_agrees 116 = .ok (.if_icmp .ne 17, 3) := by decide +kernel
theorem dL_agrees_119 : decode cL_agrees 119 = .ok (.aload_n 0, 1) := by decide +kernel
theorem dL_agrees_120 : decode cL_agrees 120 = .ok (.iload 5, 2) := by decide +kernel
theorem dL_agrees_122 : decode cL_agrees 122 = .ok (.iconst 4, 1) := by decide +kernel
theorem dL_agrees_123 : decode cL_agrees 123 = .ok (.invokevirtual 48, 3) := by decide +kernel
theorem dL_agrees_126 : decode cL_agrees 126 = .ok (.ifCond .lt 7, 3) := by decide +kernel
theorem dL_agrees_129 : decode cL_agrees 129 = .ok (.iconst 1, 1) := by decide +kernel
theorem dL_agrees_130 : decode cL_agrees 130 = .ok (.goto 4, 3) := by decide +kernel
theorem dL_agrees_133 : decode cL_agrees 133 = .ok (.iconst 0, 1) := by decide +kernel
theorem dL_agrees_134 : decode cL_agrees 134 = .ok (.iand, 1) := by decide +kernel
theorem dL_agrees_135 : decode cL_agrees 135 = .ok (.istore_n 3, 1) := by decide +kernel
theorem dL_agrees_136 : decode cL_agrees 136 = .ok (.iconst 0, 1) := by decide +kernel
theorem dL_agrees_137 : decode cL_agrees 137 = .ok (.istore 6, 2) := by decide +kernel
theorem dL_agrees_139 : decode cL_agrees 139 = .ok (.iload 6, 2) := by decide +kernel
theorem dL_agrees_141 : decode cL_agrees 141 = .ok (.bipush 6, 2) := by decide +kernel
theorem dL_agrees_143 : decode cL_agrees 143 = .ok (.if_icmp .ge 58, 3) := by decide +kernel
theorem dL_agrees_146 : decode cL_agrees 146 = .ok (.iload_n 3, 1) := by decide +kernel
theorem dL_agrees_147 : decode cL_agrees 147 = .ok (.aload_n 0, 1) := by decide +kernel
theorem dL_agrees_148 : decode cL_agrees 148 = .ok (.iload 5, 2) := by decide +kernel
theorem dL_agrees_150 : decode cL_agrees 150 = .ok (.iload 6, 2) := by decide +kernel
theorem dL_agrees_152 : decode cL_agrees 152 = .ok (.invokevirtual 51, 3) := by decide +kernel
theorem dL_agrees_155 : decode cL_agrees 155 = .ok (.aload_n 0, 1) := by decide +kernel
theorem dL_agrees_156 : decode cL_agrees 156 = .ok (.iload 5, 2) := by decide +kernel
theorem dL_agrees_158 : decode cL_agrees 158 = .ok (.iload 6, 2) := by decide +kernel
theorem dL_agrees_160 : decode cL_agrees 160 = .ok (.invokevirtual 54, 3) := by decide +kernel
theorem dL_agrees_163 : decode cL_agrees 163 = .ok (.if_icmp .ne 29, 3) := by decide +kernel
theorem dL_agrees_166 : decode cL_agrees 166 = .ok (.aload_n 0, 1) := by decide +kernel
theorem dL_agrees_167 : decode cL_agrees 167 = .ok (.iload 5, 2) := by decide +kernel
theorem dL_agrees_169 : decode cL_agrees 169 = .ok (.bipush 6, 2) := by decide +kernel
theorem dL_agrees_171 : decode cL_agrees 171 = .ok (.invokevirtual 48, 3) := by decide +kernel
theorem dL_agrees_174 : decode cL_agrees 174 = .ok (.ifCond .eq 14, 3) := by decide +kernel
theorem dL_agrees_177 : decode cL_agrees 177 = .ok (.aload_n 0, 1) := by decide +kernel
theorem dL_agrees_178 : decode cL_agrees 178 = .ok (.iload 5, 2) := by decide +kernel
theorem dL_agrees_180 : decode cL_agrees 180 = .ok (.iload 6, 2) := by decide +kernel
theorem dL_agrees_182 : decode cL_agrees 182 = .ok (.invokevirtual 51, 3) := by decide +kernel
theorem dL_agrees_185 : decode cL_agrees 185 = .ok (.ifCond .ne 7, 3) := by decide +kernel
theorem dL_agrees_188 : decode cL_agrees 188 = .ok (.iconst 1, 1) := by decide +kernel
theorem dL_agrees_189 : decode cL_agrees 189 = .ok (.goto 4, 3) := by decide +kernel
theorem dL_agrees_192 : decode cL_agrees 192 = .ok (.iconst 0, 1) := by decide +kernel
theorem dL_agrees_193 : decode cL_agrees 193 = .ok (.iand, 1) := by decide +kernel
theorem dL_agrees_194 : decode cL_agrees 194 = .ok (.istore_n 3, 1) := by decide +kernel
theorem dL_agrees_195 : decode cL_agrees 195 = .ok (.iinc 6 1, 3) := by decide +kernel
theorem dL_agrees_198 : decode cL_agrees 198 = .ok (.goto (-59), 3) := by decide +kernel
theorem dL_agrees_201 : decode cL_agrees 201 = .ok (.iinc 5 1, 3) := by decide +kernel
theorem dL_agrees_204 : decode cL_agrees 204 = .ok (.goto (-154), 3) := by decide +kernel
theorem dL_agrees_207 : decode cL_agrees 207 = .ok (.iconst 0, 1) := by decide +kernel
theorem dL_agrees_208 : decode cL_agrees 208 = .ok (.istore 5, 2) := by decide +kernel
theorem dL_agrees_210 : decode cL_agrees 210 = .ok (.iconst 0, 1) := by decide +kernel
theorem dL_agrees_211 : decode cL_agrees 211 = .ok (.istore 6, 2) := by decide +kernel
theorem dL_agrees_213 : decode cL_agrees 213 = .ok (.iload 6, 2) := by decide +kernel
theorem dL_agrees_215 : decode cL_agrees 215 = .ok (.bipush 6, 2) := by decide +kernel
theorem dL_agrees_217 : decode cL_agrees 217 = .ok (.if_icmp .ge 100, 3) := by decide +kernel
theorem dL_agrees_220 : decode cL_agrees 220 = .ok (.iconst 0, 1) := by decide +kernel
theorem dL_agrees_221 : decode cL_agrees 221 = .ok (.istore 7, 2) := by decide +kernel
theorem dL_agrees_223 : decode cL_agrees 223 = .ok (.iconst 0, 1) := by decide +kernel
theorem dL_agrees_224 : decode cL_agrees 224 = .ok (.istore 8, 2) := by decide +kernel
theorem dL_agrees_226 : decode cL_agrees 226 = .ok (.iload 8, 2) := by decide +kernel
theorem dL_agrees_228 : decode cL_agrees 228 = .ok (.iload_n 2, 1) := by decide +kernel
theorem dL_agrees_229 : decode cL_agrees 229 = .ok (.if_icmp .ge 55, 3) := by decide +kernel
theorem dL_agrees_232 : decode cL_agrees 232 = .ok (.iload 7, 2) := by decide +kernel
theorem dL_agrees_234 : decode cL_agrees 234 = .ok (.aload_n 0, 1) := by decide +kernel
theorem dL_agrees_235 : decode cL_agrees 235 = .ok (.iload 8, 2) := by decide +kernel
theorem dL_agrees_237 : decode cL_agrees 237 = .ok (.iload 6, 2) := by decide +kernel
theorem dL_agrees_239 : decode cL_agrees 239 = .ok (.iconst 0, 1) := by decide +kernel
theorem dL_agrees_240 : decode cL_agrees 240 = .ok (.invokevirtual 57, 3) := by decide +kernel
theorem dL_agrees_243 : decode cL_agrees 243 = .ok (.iadd, 1) := by decide +kernel
theorem dL_agrees_244 : decode cL_agrees 244 = .ok (.istore 7, 2) := by decide +kernel
theorem dL_agrees_246 : decode cL_agrees 246 = .ok (.iload_n 3, 1) := by decide +kernel
theorem dL_agrees_247 : decode cL_agrees 247 = .ok (.aload_n 0, 1) := by decide +kernel
theorem dL_agrees_248 : decode cL_agrees 248 = .ok (.iload 8, 2) := by decide +kernel
theorem dL_agrees_250 : decode cL_agrees 250 = .ok (.iload 6, 2) := by decide +kernel
theorem dL_agrees_252 : decode cL_agrees 252 = .ok (.iconst 3, 1) := by decide +kernel
theorem dL_agrees_253 : decode cL_agrees 253 = .ok (.invokevirtual 57, 3) := by decide +kernel
theorem dL_agrees_256 : decode cL_agrees 256 = .ok (.ifCond .lt 19, 3) := by decide +kernel
theorem dL_agrees_259 : decode cL_agrees 259 = .ok (.aload_n 0, 1) := by decide +kernel
theorem dL_agrees_260 : decode cL_agrees 260 = .ok (.iload 8, 2) := by decide +kernel
theorem dL_agrees_262 : decode cL_agrees 262 = .ok (.iload 6, 2) := by decide +kernel
theorem dL_agrees_264 : decode cL_agrees 264 = .ok (.iconst 4, 1) := by decide +kernel
theorem dL_agrees_265 : decode cL_agrees 265 = .ok (.invokevirtual 57, 3) := by decide +kernel
theorem dL_agrees_268 : decode cL_agrees 268 = .ok (.ifCond .lt 7, 3) := by decide +kernel
theorem dL_agrees_271 : decode cL_agrees 271 = .ok (.iconst 1, 1) := by decide +kernel
theorem dL_agrees_272 : decode cL_agrees 272 = .ok (.goto 4, 3) := by decide +kernel
theorem dL_agrees_275 : decode cL_agrees 275 = .ok (.iconst 0, 1) := by decide +kernel
theorem dL_agrees_276 : decode cL_agrees 276 = .ok (.iand, 1) := by decide +kernel
theorem dL_agrees_277 : decode cL_agrees 277 = .ok (.istore_n 3, 1) := by decide +kernel
theorem dL_agrees_278 : decode cL_agrees 278 = .ok (.iinc 8 1, 3) := by decide +kernel
theorem dL_agrees_281 : decode cL_agrees 281 = .ok (.goto (-55), 3) := by decide +kernel
theorem dL_agrees_284 : decode cL_agrees 284 = .ok (.iload_n 3, 1) := by decide +kernel
theorem dL_agrees_285 : decode cL_agrees 285 = .ok (.iload 7, 2) := by decide +kernel
theorem dL_agrees_287 : decode cL_agrees 287 = .ok (.aload_n 0, 1) := by decide +kernel
theorem dL_agrees_288 : decode cL_agrees 288 = .ok (.iload 6, 2) := by decide +kernel
theorem dL_agrees_290 : decode cL_agrees 290 = .ok (.iconst 4, 1) := by decide +kernel
theorem dL_agrees_291 : decode cL_agrees 291 = .ok (.invokevirtual 60, 3) := by decide +kernel
theorem dL_agrees_294 : decode cL_agrees 294 = .ok (.if_icmp .ne 7, 3) := by decide +kernel
theorem dL_agrees_297 : decode cL_agrees 297 = .ok (.iconst 1, 1) := by decide +kernel
theorem dL_agrees_298 : decode cL_agrees 298 = .ok (.goto 4, 3) := by decide +kernel
theorem dL_agrees_301 : decode cL_agrees 301 = .ok (.iconst 0, 1) := by decide +kernel
theorem dL_agrees_302 : decode cL_agrees 302 = .ok (.iand, 1) := by decide +kernel
theorem dL_agrees_303 : decode cL_agrees 303 = .ok (.istore_n 3, 1) := by decide +kernel
theorem dL_agrees_304 : decode cL_agrees 304 = .ok (.iload 5, 2) := by decide +kernel
theorem dL_agrees_306 : decode cL_agrees 306 = .ok (.iload 7, 2) := by decide +kernel
theorem dL_agrees_308 : decode cL_agrees 308 = .ok (.iadd, 1) := by decide +kernel
theorem dL_agrees_309 : decode cL_agrees 309 = .ok (.istore 5, 2) := by decide +kernel
theorem dL_agrees_311 : decode cL_agrees 311 = .ok (.iinc 6 1, 3) := by decide +kernel
theorem dL_agrees_314 : decode cL_agrees 314 = .ok (.goto (-101), 3) := by decide +kernel
theorem dL_agrees_317 : decode cL_agrees 317 = .ok (.iload_n 3, 1) := by decide +kernel
theorem dL_agrees_318 : decode cL_agrees 318 = .ok (.ifCond .eq 28, 3) := by decide +kernel
theorem dL_agrees_321 : decode cL_agrees 321 = .ok (.iload 4, 2) := by decide +kernel
theorem dL_agrees_323 : decode cL_agrees 323 = .ok (.aload_n 0, 1) := by decide +kernel
theorem dL_agrees_324 : decode cL_agrees 324 = .ok (.bipush 7, 2) := by decide +kernel
theorem dL_agrees_326 : decode cL_agrees 326 = .ok (.invokevirtual 45, 3) := by decide +kernel
theorem dL_agrees_329 : decode cL_agrees 329 = .ok (.if_icmp .ne 17, 3) := by decide +kernel
theorem dL_agrees_332 : decode cL_agrees 332 = .ok (.iload 5, 2) := by decide +kernel
theorem dL_agrees_334 : decode cL_agrees 334 = .ok (.aload_n 0, 1) := by decide +kernel
theorem dL_agrees_335 : decode cL_agrees 335 = .ok (.iconst 3, 1) := by decide +kernel
theorem dL_agrees_336 : decode cL_agrees 336 = .ok (.invokevirtual 45, 3) := by decide +kernel
theorem dL_agrees_339 : decode cL_agrees 339 = .ok (.if_icmp .ne 7, 3) := by decide +kernel
theorem dL_agrees_342 : decode cL_agrees 342 = .ok (.iconst 1, 1) := by decide +kernel
theorem dL_agrees_343 : decode cL_agrees 343 = .ok (.goto 4, 3) := by decide +kernel
theorem dL_agrees_346 : decode cL_agrees 346 = .ok (.iconst 0, 1) := by decide +kernel
theorem dL_agrees_347 : decode cL_agrees 347 = .ok (.ireturn, 1) := by decide +kernel
def zb_L_agrees_347 : ZP := (z_ret 2)
set_option maxRecDepth 20000 in
theorem zk_L_agrees_347 {X : ZX} (C : zCx X cL_agrees RL (some .boolean) 8 137 1 6) (hn : X.nL = 9) : ZOK X 347 (zb_L_agrees_347) := by
  unfold zb_L_agrees_347
  exact z_zret_ok (pc := 347) C dL_agrees_347
def zb_L_agrees_346 : ZP := (z_push 0 zb_L_agrees_347)
set_option maxRecDepth 20000 in
theorem zk_L_agrees_346 {X : ZX} (C : zCx X cL_agrees RL (some .boolean) 8 137 1 6) (hn : X.nL = 9) : ZOK X 346 (zb_L_agrees_346) := by
  unfold zb_L_agrees_346
  refine z_iconst_ok (pc := 346) (v := 0) C.hx C.hb dL_agrees_346 (by decide) ?_
  exact zk_L_agrees_347 C hn 
def zb_L_agrees_339 : ZP := (z_cmp (fun x y => x = y) (z_push 1 zb_L_agrees_347) zb_L_agrees_346)
set_option maxRecDepth 20000 in
theorem zk_L_agrees_339 {X : ZX} (C : zCx X cL_agrees RL (some .boolean) 8 137 1 6) (hn : X.nL = 9) : ZOK X 339 (zb_L_agrees_339) := by
  unfold zb_L_agrees_339
  refine z_icmp_ne_ok (pc := 339) (tgt := 346) C.hx C.hb dL_agrees_339 (by decide) ?_ ?_
  · exact zk_L_agrees_346 C hn 
  · refine z_iconst_ok (pc := 342) (v := 1) C.hx C.hb dL_agrees_342 (by decide) ?_
    refine z_goto_ok (pc := 343) (tgt := 347) C.hx C.hb dL_agrees_343 (by decide) ?_
    exact zk_L_agrees_347 C hn 
def zb_L_agrees_329 : ZP := (z_cmp (fun x y => x = y) (z_ild 5 (z_ald 0 (z_push 3 (z_invVq 7 1 sp_X7_sum zb_L_agrees_339)))) zb_L_agrees_346)
set_option maxRecDepth 20000 in
theorem zk_L_agrees_329 {X : ZX} (C : zCx X cL_agrees RL (some .boolean) 8 137 1 6) (hn : X.nL = 9) : ZOK X 329 (zb_L_agrees_329) := by
  unfold zb_L_agrees_329
  refine z_icmp_ne_ok (pc := 329) (tgt := 346) C.hx C.hb dL_agrees_329 (by decide) ?_ ?_
  · exact zk_L_agrees_346 C hn 
  · refine z_iload_ok (pc := 332) (i := 5) C.hx C.hb dL_agrees_332 ?_
    refine z_aload_n_ok (pc := 334) (i := 0) C.hx C.hb dL_agrees_334 rfl ?_
    refine z_iconst_ok (pc := 335) (v := 3) C.hx C.hb dL_agrees_335 (by decide) ?_
    refine z_invVq_ok (pc := 336) C (zm_X7_sum X.l C.htr) ⟨rfl, rfl⟩ ⟨by decide, by decide⟩ (by decide) (by decide) zcl_L_45 zw_601 zw_602 zK7 dL_agrees_336 ?_
    exact zk_L_agrees_339 C hn 
def zb_L_agrees_302 (J213 : ZP) : ZP := (z_bin (fun x y => x &&& y) (z_ist 3 (z_ild 5 (z_ild 7 (z_bin (fun x y => x + y) (z_ist 5 (z_inc 6 (1) J213)))))))
set_option maxRecDepth 20000 in
theorem zk_L_agrees_302 {X : ZX} (C : zCx X cL_agrees RL (some .boolean) 8 137 1 6) (hn : X.nL = 9) {J213 : ZP} (hJ213 : ZOK X 213 J213) : ZOK X 302 (zb_L_agrees_302 J213) := by
  unfold zb_L_agrees_302
  refine z_iand_ok (pc := 302) C.hx C.hb dL_agrees_302 ?_
  refine z_istore_n_ok (pc := 303) (i := 3) C.hx C.hb dL_agrees_303 rfl (zlt hn (by decide)) ?_
  refine z_iload_ok (pc := 304) (i := 5) C.hx C.hb dL_agrees_304 ?_
  refine z_iload_ok (pc := 306) (i := 7) C.hx C.hb dL_agrees_306 ?_
  refine z_iadd_ok (pc := 308) C.hx C.hb dL_agrees_308 ?_
  refine z_istore_ok (pc := 309) (i := 5) C.hx C.hb dL_agrees_309 (zlt hn (by decide)) ?_
  refine z_iinc_ok (pc := 311) (i := 6) (v := 1) C.hx C.hb dL_agrees_311 (by decide) (zlt hn (by decide)) ?_
  refine z_goto_ok (pc := 314) (tgt := 213) C.hx C.hb dL_agrees_314 (by decide) ?_
  exact hJ213
def zb_L_agrees_294 (J213 : ZP) : ZP := (z_cmp (fun x y => x = y) (z_push 1 (zb_L_agrees_302 J213)) (z_push 0 (zb_L_agrees_302 J213)))
set_option maxRecDepth 20000 in
theorem zk_L_agrees_294 {X : ZX} (C : zCx X cL_agrees RL (some .boolean) 8 137 1 6) (hn : X.nL = 9) {J213 : ZP} (hJ213 : ZOK X 213 J213) : ZOK X 294 (zb_L_agrees_294 J213) := by
  unfold zb_L_agrees_294
  refine z_icmp_ne_ok (pc := 294) (tgt := 301) C.hx C.hb dL_agrees_294 (by decide) ?_ ?_
  · refine z_iconst_ok (pc := 301) (v := 0) C.hx C.hb dL_agrees_301 (by decide) ?_
    exact zk_L_agrees_302 C hn hJ213
  · refine z_iconst_ok (pc := 297) (v := 1) C.hx C.hb dL_agrees_297 (by decide) ?_
    refine z_goto_ok (pc := 298) (tgt := 302) C.hx C.hb dL_agrees_298 (by decide) ?_
    exact zk_L_agrees_302 C hn hJ213
def zb_L_agrees_276 (J213 : ZP) (J226 : ZP) : ZP := (z_bin (fun x y => x &&& y) (z_ist 3 (z_inc 8 (1) J226)))
set_option maxRecDepth 20000 in
theorem zk_L_agrees_276 {X : ZX} (C : zCx X cL_agrees RL (some .boolean) 8 137 1 6) (hn : X.nL = 9) {J213 : ZP} (hJ213 : ZOK X 213 J213) {J226 : ZP} (hJ226 : ZOK X 226 J226) : ZOK X 276 (zb_L_agrees_276 J213 J226) := by
  unfold zb_L_agrees_276
  refine z_iand_ok (pc := 276) C.hx C.hb dL_agrees_276 ?_
  refine z_istore_n_ok (pc := 277) (i := 3) C.hx C.hb dL_agrees_277 rfl (zlt hn (by decide)) ?_
  refine z_iinc_ok (pc := 278) (i := 8) (v := 1) C.hx C.hb dL_agrees_278 (by decide) (zlt hn (by decide)) ?_
  refine z_goto_ok (pc := 281) (tgt := 226) C.hx C.hb dL_agrees_281 (by decide) ?_
  exact hJ226
def zb_L_agrees_275 (J213 : ZP) (J226 : ZP) : ZP := (z_push 0 (zb_L_agrees_276 J213 J226))
set_option maxRecDepth 20000 in
theorem zk_L_agrees_275 {X : ZX} (C : zCx X cL_agrees RL (some .boolean) 8 137 1 6) (hn : X.nL = 9) {J213 : ZP} (hJ213 : ZOK X 213 J213) {J226 : ZP} (hJ226 : ZOK X 226 J226) : ZOK X 275 (zb_L_agrees_275 J213 J226) := by
  unfold zb_L_agrees_275
  refine z_iconst_ok (pc := 275) (v := 0) C.hx C.hb dL_agrees_275 (by decide) ?_
  exact zk_L_agrees_276 C hn hJ213 hJ226
def zb_L_agrees_268 (J213 : ZP) (J226 : ZP) : ZP := (z_if (fun x => x < 0) (zb_L_agrees_275 J213 J226) (z_push 1 (zb_L_agrees_276 J213 J226)))
set_option maxRecDepth 20000 in
theorem zk_L_agrees_268 {X : ZX} (C : zCx X cL_agrees RL (some .boolean) 8 137 1 6) (hn : X.nL = 9) {J213 : ZP} (hJ213 : ZOK X 213 J213) {J226 : ZP} (hJ226 : ZOK X 226 J226) : ZOK X 268 (zb_L_agrees_268 J213 J226) := by
  unfold zb_L_agrees_268
  refine z_if_lt_ok (pc := 268) (tgt := 275) C.hx C.hb dL_agrees_268 (by decide) ?_ ?_
  · exact zk_L_agrees_275 C hn hJ213 hJ226
  · refine z_iconst_ok (pc := 271) (v := 1) C.hx C.hb dL_agrees_271 (by decide) ?_
    refine z_goto_ok (pc := 272) (tgt := 276) C.hx C.hb dL_agrees_272 (by decide) ?_
    exact zk_L_agrees_276 C hn hJ213 hJ226
def zb_L_agrees_256 (J213 : ZP) (J226 : ZP) : ZP := (z_if (fun x => x < 0) (zb_L_agrees_275 J213 J226) (z_ald 0 (z_ild 8 (z_ild 6 (z_push 4 (z_invVq 7 3 sp_X7_shopIs (zb_L_agrees_268 J213 J226)))))))
set_option maxRecDepth 20000 in
theorem zk_L_agrees_256 {X : ZX} (C : zCx X cL_agrees RL (some .boolean) 8 137 1 6) (hn : X.nL = 9) {J213 : ZP} (hJ213 : ZOK X 213 J213) {J226 : ZP} (hJ226 : ZOK X 226 J226) : ZOK X 256 (zb_L_agrees_256 J213 J226) := by
  unfold zb_L_agrees_256
  refine z_if_lt_ok (pc := 256) (tgt := 275) C.hx C.hb dL_agrees_256 (by decide) ?_ ?_
  · exact zk_L_agrees_275 C hn hJ213 hJ226
  · refine z_aload_n_ok (pc := 259) (i := 0) C.hx C.hb dL_agrees_259 rfl ?_
    refine z_iload_ok (pc := 260) (i := 8) C.hx C.hb dL_agrees_260 ?_
    refine z_iload_ok (pc := 262) (i := 6) C.hx C.hb dL_agrees_262 ?_
    refine z_iconst_ok (pc := 264) (v := 4) C.hx C.hb dL_agrees_264 (by decide) ?_
    refine z_invVq_ok (pc := 265) C (zm_X7_shopIs X.l C.htr) ⟨rfl, rfl⟩ ⟨by decide, by decide⟩ (by decide) (by decide) zcl_L_57 zw_505 zw_506 zK7 dL_agrees_265 ?_
    exact zk_L_agrees_268 C hn hJ213 hJ226
def zb_L_agrees_243 (J213 : ZP) (J226 : ZP) : ZP := (z_bin (fun x y => x + y) (z_ist 7 (z_ild 3 (z_ald 0 (z_ild 8 (z_ild 6 (z_push 3 (z_invVq 7 3 sp_X7_shopIs (zb_L_agrees_256 J213 J226)))))))))
set_option maxRecDepth 20000 in
theorem zk_L_agrees_243 {X : ZX} (C : zCx X cL_agrees RL (some .boolean) 8 137 1 6) (hn : X.nL = 9) {J213 : ZP} (hJ213 : ZOK X 213 J213) {J226 : ZP} (hJ226 : ZOK X 226 J226) : ZOK X 243 (zb_L_agrees_243 J213 J226) := by
  unfold zb_L_agrees_243
  refine z_iadd_ok (pc := 243) C.hx C.hb dL_agrees_243 ?_
  refine z_istore_ok (pc := 244) (i := 7) C.hx C.hb dL_agrees_244 (zlt hn (by decide)) ?_
  refine z_iload_n_ok (pc := 246) (i := 3) C.hx C.hb dL_agrees_246 rfl ?_
  refine z_aload_n_ok (pc := 247) (i := 0) C.hx C.hb dL_agrees_247 rfl ?_
  refine z_iload_ok (pc := 248) (i := 8) C.hx C.hb dL_agrees_248 ?_
  refine z_iload_ok (pc := 250) (i := 6) C.hx C.hb dL_agrees_250 ?_
  refine z_iconst_ok (pc := 252) (v := 3) C.hx C.hb dL_agrees_252 (by decide) ?_
  refine z_invVq_ok (pc := 253) C (zm_X7_shopIs X.l C.htr) ⟨rfl, rfl⟩ ⟨by decide, by decide⟩ (by decide) (by decide) zcl_L_57 zw_505 zw_506 zK7 dL_agrees_253 ?_
  exact zk_L_agrees_256 C hn hJ213 hJ226
def zb_L_agrees_226 (J213 : ZP) (J226 : ZP) : ZP := (z_ild 8 (z_ild 2 (z_cmp (fun x y => y ≤ x) (z_ild 3 (z_ild 7 (z_ald 0 (z_ild 6 (z_push 4 (z_invVq 7 2 sp_X7_goodIs (zb_L_agrees_294 J213))))))) (z_ild 7 (z_ald 0 (z_ild 8 (z_ild 6 (z_push 0 (z_invVq 7 3 sp_X7_shopIs (zb_L_agrees_243 J213 J226))))))))))
set_option maxRecDepth 20000 in
theorem zk_L_agrees_226 {X : ZX} (C : zCx X cL_agrees RL (some .boolean) 8 137 1 6) (hn : X.nL = 9) {J213 : ZP} (hJ213 : ZOK X 213 J213) {J226 : ZP} (hJ226 : ZOK X 226 J226) : ZOK X 226 (zb_L_agrees_226 J213 J226) := by
  unfold zb_L_agrees_226
  refine z_iload_ok (pc := 226) (i := 8) C.hx C.hb dL_agrees_226 ?_
  refine z_iload_n_ok (pc := 228) (i := 2) C.hx C.hb dL_agrees_228 rfl ?_
  refine z_icmp_ge_ok (pc := 229) (tgt := 284) C.hx C.hb dL_agrees_229 (by decide) ?_ ?_
  · refine z_iload_n_ok (pc := 284) (i := 3) C.hx C.hb dL_agrees_284 rfl ?_
    refine z_iload_ok (pc := 285) (i := 7) C.hx C.hb dL_agrees_285 ?_
    refine z_aload_n_ok (pc := 287) (i := 0) C.hx C.hb dL_agrees_287 rfl ?_
    refine z_iload_ok (pc := 288) (i := 6) C.hx C.hb dL_agrees_288 ?_
    refine z_iconst_ok (pc := 290) (v := 4) C.hx C.hb dL_agrees_290 (by decide) ?_
    refine z_invVq_ok (pc := 291) C (zm_X7_goodIs X.l C.htr) ⟨rfl, rfl⟩ ⟨by decide, by decide⟩ (by decide) (by decide) zcl_L_60 zw_277 zw_278 zK7 dL_agrees_291 ?_
    exact zk_L_agrees_294 C hn hJ213
  · refine z_iload_ok (pc := 232) (i := 7) C.hx C.hb dL_agrees_232 ?_
    refine z_aload_n_ok (pc := 234) (i := 0) C.hx C.hb dL_agrees_234 rfl ?_
    refine z_iload_ok (pc := 235) (i := 8) C.hx C.hb dL_agrees_235 ?_
    refine z_iload_ok (pc := 237) (i := 6) C.hx C.hb dL_agrees_237 ?_
    refine z_iconst_ok (pc := 239) (v := 0) C.hx C.hb dL_agrees_239 (by decide) ?_
    refine z_invVq_ok (pc := 240) C (zm_X7_shopIs X.l C.htr) ⟨rfl, rfl⟩ ⟨by decide, by decide⟩ (by decide) (by decide) zcl_L_57 zw_505 zw_506 zK7 dL_agrees_240 ?_
    exact zk_L_agrees_243 C hn hJ213 hJ226
def zb_L_agrees_213 (J213 : ZP) : ZP := (z_ild 6 (z_push 6 (z_cmp (fun x y => y ≤ x) (z_ild 3 (z_if (fun x => x = 0) zb_L_agrees_346 (z_ild 4 (z_ald 0 (z_push 7 (z_invVq 7 1 sp_X7_sum zb_L_agrees_329)))))) (z_push 0 (z_ist 7 (z_push 0 (z_ist 8 (z_loop (fun J226 => zb_L_agrees_226 J213 J226)))))))))
set_option maxRecDepth 20000 in
theorem zk_L_agrees_213 {X : ZX} (C : zCx X cL_agrees RL (some .boolean) 8 137 1 6) (hn : X.nL = 9) {J213 : ZP} (hJ213 : ZOK X 213 J213) : ZOK X 213 (zb_L_agrees_213 J213) := by
  unfold zb_L_agrees_213
  refine z_iload_ok (pc := 213) (i := 6) C.hx C.hb dL_agrees_213 ?_
  refine z_bipush_ok (pc := 215) (v := 6) C.hx C.hb dL_agrees_215 (by decide) ?_
  refine z_icmp_ge_ok (pc := 217) (tgt := 317) C.hx C.hb dL_agrees_217 (by decide) ?_ ?_
  · refine z_iload_n_ok (pc := 317) (i := 3) C.hx C.hb dL_agrees_317 rfl ?_
    refine z_if_eq_ok (pc := 318) (tgt := 346) C.hx C.hb dL_agrees_318 (by decide) ?_ ?_
    · exact zk_L_agrees_346 C hn 
    · refine z_iload_ok (pc := 321) (i := 4) C.hx C.hb dL_agrees_321 ?_
      refine z_aload_n_ok (pc := 323) (i := 0) C.hx C.hb dL_agrees_323 rfl ?_
      refine z_bipush_ok (pc := 324) (v := 7) C.hx C.hb dL_agrees_324 (by decide) ?_
      refine z_invVq_ok (pc := 326) C (zm_X7_sum X.l C.htr) ⟨rfl, rfl⟩ ⟨by decide, by decide⟩ (by decide) (by decide) zcl_L_45 zw_601 zw_602 zK7 dL_agrees_326 ?_
      exact zk_L_agrees_329 C hn 
  · refine z_iconst_ok (pc := 220) (v := 0) C.hx C.hb dL_agrees_220 (by decide) ?_
    refine z_istore_ok (pc := 221) (i := 7) C.hx C.hb dL_agrees_221 (zlt hn (by decide)) ?_
    refine z_iconst_ok (pc := 223) (v := 0) C.hx C.hb dL_agrees_223 (by decide) ?_
    refine z_istore_ok (pc := 224) (i := 8) C.hx C.hb dL_agrees_224 (zlt hn (by decide)) ?_
    exact z_loop_ok (fun J226 hJ226 => zk_L_agrees_226 C hn hJ213 hJ226)
def zb_L_agrees_193 (J50 : ZP) (J139 : ZP) : ZP := (z_bin (fun x y => x &&& y) (z_ist 3 (z_inc 6 (1) J139)))
set_option maxRecDepth 20000 in
theorem zk_L_agrees_193 {X : ZX} (C : zCx X cL_agrees RL (some .boolean) 8 137 1 6) (hn : X.nL = 9) {J50 : ZP} (hJ50 : ZOK X 50 J50) {J139 : ZP} (hJ139 : ZOK X 139 J139) : ZOK X 193 (zb_L_agrees_193 J50 J139) := by
  unfold zb_L_agrees_193
  refine z_iand_ok (pc := 193) C.hx C.hb dL_agrees_193 ?_
  refine z_istore_n_ok (pc := 194) (i := 3) C.hx C.hb dL_agrees_194 rfl (zlt hn (by decide)) ?_
  refine z_iinc_ok (pc := 195) (i := 6) (v := 1) C.hx C.hb dL_agrees_195 (by decide) (zlt hn (by decide)) ?_
  refine z_goto_ok (pc := 198) (tgt := 139) C.hx C.hb dL_agrees_198 (by decide) ?_
  exact hJ139
def zb_L_agrees_192 (J50 : ZP) (J139 : ZP) : ZP := (z_push 0 (zb_L_agrees_193 J50 J139))
set_option maxRecDepth 20000 in
theorem zk_L_agrees_192 {X : ZX} (C : zCx X cL_agrees RL (some .boolean) 8 137 1 6) (hn : X.nL = 9) {J50 : ZP} (hJ50 : ZOK X 50 J50) {J139 : ZP} (hJ139 : ZOK X 139 J139) : ZOK X 192 (zb_L_agrees_192 J50 J139) := by
  unfold zb_L_agrees_192
  refine z_iconst_ok (pc := 192) (v := 0) C.hx C.hb dL_agrees_192 (by decide) ?_
  exact zk_L_agrees_193 C hn hJ50 hJ139
def zb_L_agrees_188 (J50 : ZP) (J139 : ZP) : ZP := (z_push 1 (zb_L_agrees_193 J50 J139))
set_option maxRecDepth 20000 in
theorem zk_L_agrees_188 {X : ZX} (C : zCx X cL_agrees RL (some .boolean) 8 137 1 6) (hn : X.nL = 9) {J50 : ZP} (hJ50 : ZOK X 50 J50) {J139 : ZP} (hJ139 : ZOK X 139 J139) : ZOK X 188 (zb_L_agrees_188 J50 J139) := by
  unfold zb_L_agrees_188
  refine z_iconst_ok (pc := 188) (v := 1) C.hx C.hb dL_agrees_188 (by decide) ?_
  refine z_goto_ok (pc := 189) (tgt := 193) C.hx C.hb dL_agrees_189 (by decide) ?_
  exact zk_L_agrees_193 C hn hJ50 hJ139
def zb_L_agrees_185 (J50 : ZP) (J139 : ZP) : ZP := (z_if (fun x => x = 0) (zb_L_agrees_188 J50 J139) (zb_L_agrees_192 J50 J139))
set_option maxRecDepth 20000 in
theorem zk_L_agrees_185 {X : ZX} (C : zCx X cL_agrees RL (some .boolean) 8 137 1 6) (hn : X.nL = 9) {J50 : ZP} (hJ50 : ZOK X 50 J50) {J139 : ZP} (hJ139 : ZOK X 139 J139) : ZOK X 185 (zb_L_agrees_185 J50 J139) := by
  unfold zb_L_agrees_185
  refine z_if_ne_ok (pc := 185) (tgt := 192) C.hx C.hb dL_agrees_185 (by decide) ?_ ?_
  · exact zk_L_agrees_192 C hn hJ50 hJ139
  · exact zk_L_agrees_188 C hn hJ50 hJ139
def zb_L_agrees_174 (J50 : ZP) (J139 : ZP) : ZP := (z_if (fun x => x = 0) (zb_L_agrees_188 J50 J139) (z_ald 0 (z_ild 5 (z_ild 6 (z_invVq 7 2 sp_X7_left (zb_L_agrees_185 J50 J139))))))
set_option maxRecDepth 20000 in
theorem zk_L_agrees_174 {X : ZX} (C : zCx X cL_agrees RL (some .boolean) 8 137 1 6) (hn : X.nL = 9) {J50 : ZP} (hJ50 : ZOK X 50 J50) {J139 : ZP} (hJ139 : ZOK X 139 J139) : ZOK X 174 (zb_L_agrees_174 J50 J139) := by
  unfold zb_L_agrees_174
  refine z_if_eq_ok (pc := 174) (tgt := 188) C.hx C.hb dL_agrees_174 (by decide) ?_ ?_
  · exact zk_L_agrees_188 C hn hJ50 hJ139
  · refine z_aload_n_ok (pc := 177) (i := 0) C.hx C.hb dL_agrees_177 rfl ?_
    refine z_iload_ok (pc := 178) (i := 5) C.hx C.hb dL_agrees_178 ?_
    refine z_iload_ok (pc := 180) (i := 6) C.hx C.hb dL_agrees_180 ?_
    refine z_invVq_ok (pc := 182) C (zm_X7_left X.l C.htr) ⟨rfl, rfl⟩ ⟨by decide, by decide⟩ (by decide) (by decide) zcl_L_51 zw_387 zw_388 zK7 dL_agrees_182 ?_
    exact zk_L_agrees_185 C hn hJ50 hJ139
def zb_L_agrees_163 (J50 : ZP) (J139 : ZP) : ZP := (z_cmp (fun x y => x = y) (z_ald 0 (z_ild 5 (z_push 6 (z_invVq 7 2 sp_X7_personIs (zb_L_agrees_174 J50 J139))))) (zb_L_agrees_192 J50 J139))
set_option maxRecDepth 20000 in
theorem zk_L_agrees_163 {X : ZX} (C : zCx X cL_agrees RL (some .boolean) 8 137 1 6) (hn : X.nL = 9) {J50 : ZP} (hJ50 : ZOK X 50 J50) {J139 : ZP} (hJ139 : ZOK X 139 J139) : ZOK X 163 (zb_L_agrees_163 J50 J139) := by
  unfold zb_L_agrees_163
  refine z_icmp_ne_ok (pc := 163) (tgt := 192) C.hx C.hb dL_agrees_163 (by decide) ?_ ?_
  · exact zk_L_agrees_192 C hn hJ50 hJ139
  · refine z_aload_n_ok (pc := 166) (i := 0) C.hx C.hb dL_agrees_166 rfl ?_
    refine z_iload_ok (pc := 167) (i := 5) C.hx C.hb dL_agrees_167 ?_
    refine z_bipush_ok (pc := 169) (v := 6) C.hx C.hb dL_agrees_169 (by decide) ?_
    refine z_invVq_ok (pc := 171) C (zm_X7_personIs X.l C.htr) ⟨rfl, rfl⟩ ⟨by decide, by decide⟩ (by decide) (by decide) zcl_L_48 zw_363 zw_364 zK7 dL_agrees_171 ?_
    exact zk_L_agrees_174 C hn hJ50 hJ139
def zb_L_agrees_155 (J50 : ZP) (J139 : ZP) : ZP := (z_ald 0 (z_ild 5 (z_ild 6 (z_invVq 7 2 sp_X7_leftAnew (zb_L_agrees_163 J50 J139)))))
set_option maxRecDepth 20000 in
theorem zk_L_agrees_155 {X : ZX} (C : zCx X cL_agrees RL (some .boolean) 8 137 1 6) (hn : X.nL = 9) {J50 : ZP} (hJ50 : ZOK X 50 J50) {J139 : ZP} (hJ139 : ZOK X 139 J139) : ZOK X 155 (zb_L_agrees_155 J50 J139) := by
  unfold zb_L_agrees_155
  refine z_aload_n_ok (pc := 155) (i := 0) C.hx C.hb dL_agrees_155 rfl ?_
  refine z_iload_ok (pc := 156) (i := 5) C.hx C.hb dL_agrees_156 ?_
  refine z_iload_ok (pc := 158) (i := 6) C.hx C.hb dL_agrees_158 ?_
  refine z_invVq_ok (pc := 160) C (zm_X7_leftAnew X.l C.htr) ⟨rfl, rfl⟩ ⟨by decide, by decide⟩ (by decide) (by decide) zcl_L_54 zw_721 zw_722 zK7 dL_agrees_160 ?_
  exact zk_L_agrees_163 C hn hJ50 hJ139
def zb_L_agrees_139 (J50 : ZP) (J139 : ZP) : ZP := (z_ild 6 (z_push 6 (z_cmp (fun x y => y ≤ x) (z_inc 5 (1) J50) (z_ild 3 (z_ald 0 (z_ild 5 (z_ild 6 (z_invVq 7 2 sp_X7_left (zb_L_agrees_155 J50 J139)))))))))
set_option maxRecDepth 20000 in
theorem zk_L_agrees_139 {X : ZX} (C : zCx X cL_agrees RL (some .boolean) 8 137 1 6) (hn : X.nL = 9) {J50 : ZP} (hJ50 : ZOK X 50 J50) {J139 : ZP} (hJ139 : ZOK X 139 J139) : ZOK X 139 (zb_L_agrees_139 J50 J139) := by
  unfold zb_L_agrees_139
  refine z_iload_ok (pc := 139) (i := 6) C.hx C.hb dL_agrees_139 ?_
  refine z_bipush_ok (pc := 141) (v := 6) C.hx C.hb dL_agrees_141 (by decide) ?_
  refine z_icmp_ge_ok (pc := 143) (tgt := 201) C.hx C.hb dL_agrees_143 (by decide) ?_ ?_
  · refine z_iinc_ok (pc := 201) (i := 5) (v := 1) C.hx C.hb dL_agrees_201 (by decide) (zlt hn (by decide)) ?_
    refine z_goto_ok (pc := 204) (tgt := 50) C.hx C.hb dL_agrees_204 (by decide) ?_
    exact hJ50
  · refine z_iload_n_ok (pc := 146) (i := 3) C.hx C.hb dL_agrees_146 rfl ?_
    refine z_aload_n_ok (pc := 147) (i := 0) C.hx C.hb dL_agrees_147 rfl ?_
    refine z_iload_ok (pc := 148) (i := 5) C.hx C.hb dL_agrees_148 ?_
    refine z_iload_ok (pc := 150) (i := 6) C.hx C.hb dL_agrees_150 ?_
    refine z_invVq_ok (pc := 152) C (zm_X7_left X.l C.htr) ⟨rfl, rfl⟩ ⟨by decide, by decide⟩ (by decide) (by decide) zcl_L_51 zw_387 zw_388 zK7 dL_agrees_152 ?_
    exact zk_L_agrees_155 C hn hJ50 hJ139
def zb_L_agrees_134 (J50 : ZP) : ZP := (z_bin (fun x y => x &&& y) (z_ist 3 (z_push 0 (z_ist 6 (z_loop (fun J139 => zb_L_agrees_139 J50 J139))))))
set_option maxRecDepth 20000 in
theorem zk_L_agrees_134 {X : ZX} (C : zCx X cL_agrees RL (some .boolean) 8 137 1 6) (hn : X.nL = 9) {J50 : ZP} (hJ50 : ZOK X 50 J50) : ZOK X 134 (zb_L_agrees_134 J50) := by
  unfold zb_L_agrees_134
  refine z_iand_ok (pc := 134) C.hx C.hb dL_agrees_134 ?_
  refine z_istore_n_ok (pc := 135) (i := 3) C.hx C.hb dL_agrees_135 rfl (zlt hn (by decide)) ?_
  refine z_iconst_ok (pc := 136) (v := 0) C.hx C.hb dL_agrees_136 (by decide) ?_
  refine z_istore_ok (pc := 137) (i := 6) C.hx C.hb dL_agrees_137 (zlt hn (by decide)) ?_
  exact z_loop_ok (fun J139 hJ139 => zk_L_agrees_139 C hn hJ50 hJ139)
def zb_L_agrees_133 (J50 : ZP) : ZP := (z_push 0 (zb_L_agrees_134 J50))
set_option maxRecDepth 20000 in
theorem zk_L_agrees_133 {X : ZX} (C : zCx X cL_agrees RL (some .boolean) 8 137 1 6) (hn : X.nL = 9) {J50 : ZP} (hJ50 : ZOK X 50 J50) : ZOK X 133 (zb_L_agrees_133 J50) := by
  unfold zb_L_agrees_133
  refine z_iconst_ok (pc := 133) (v := 0) C.hx C.hb dL_agrees_133 (by decide) ?_
  exact zk_L_agrees_134 C hn hJ50
def zb_L_agrees_126 (J50 : ZP) : ZP := (z_if (fun x => x < 0) (zb_L_agrees_133 J50) (z_push 1 (zb_L_agrees_134 J50)))
set_option maxRecDepth 20000 in
theorem zk_L_agrees_126 {X : ZX} (C : zCx X cL_agrees RL (some .boolean) 8 137 1 6) (hn : X.nL = 9) {J50 : ZP} (hJ50 : ZOK X 50 J50) : ZOK X 126 (zb_L_agrees_126 J50) := by
  unfold zb_L_agrees_126
  refine z_if_lt_ok (pc := 126) (tgt := 133) C.hx C.hb dL_agrees_126 (by decide) ?_ ?_
  · exact zk_L_agrees_133 C hn hJ50
  · refine z_iconst_ok (pc := 129) (v := 1) C.hx C.hb dL_agrees_129 (by decide) ?_
    refine z_goto_ok (pc := 130) (tgt := 134) C.hx C.hb dL_agrees_130 (by decide) ?_
    exact zk_L_agrees_134 C hn hJ50
def zb_L_agrees_116 (J50 : ZP) : ZP := (z_cmp (fun x y => x = y) (z_ald 0 (z_ild 5 (z_push 4 (z_invVq 7 2 sp_X7_personIs (zb_L_agrees_126 J50))))) (zb_L_agrees_133 J50))
set_option maxRecDepth 20000 in
theorem zk_L_agrees_116 {X : ZX} (C : zCx X cL_agrees RL (some .boolean) 8 137 1 6) (hn : X.nL = 9) {J50 : ZP} (hJ50 : ZOK X 50 J50) : ZOK X 116 (zb_L_agrees_116 J50) := by
  unfold zb_L_agrees_116
  refine z_icmp_ne_ok (pc := 116) (tgt := 133) C.hx C.hb dL_agrees_116 (by decide) ?_ ?_
  · exact zk_L_agrees_133 C hn hJ50
  · refine z_aload_n_ok (pc := 119) (i := 0) C.hx C.hb dL_agrees_119 rfl ?_
    refine z_iload_ok (pc := 120) (i := 5) C.hx C.hb dL_agrees_120 ?_
    refine z_iconst_ok (pc := 122) (v := 4) C.hx C.hb dL_agrees_122 (by decide) ?_
    refine z_invVq_ok (pc := 123) C (zm_X7_personIs X.l C.htr) ⟨rfl, rfl⟩ ⟨by decide, by decide⟩ (by decide) (by decide) zcl_L_48 zw_363 zw_364 zK7 dL_agrees_123 ?_
    exact zk_L_agrees_126 C hn hJ50
def zb_L_agrees_107 (J50 : ZP) : ZP := (z_push 1 (z_cmp (fun x y => x = y) (z_push 1 (zb_L_agrees_116 J50)) (z_push 0 (zb_L_agrees_116 J50))))
set_option maxRecDepth 20000 in
theorem zk_L_agrees_107 {X : ZX} (C : zCx X cL_agrees RL (some .boolean) 8 137 1 6) (hn : X.nL = 9) {J50 : ZP} (hJ50 : ZOK X 50 J50) : ZOK X 107 (zb_L_agrees_107 J50) := by
  unfold zb_L_agrees_107
  refine z_iconst_ok (pc := 107) (v := 1) C.hx C.hb dL_agrees_107 (by decide) ?_
  refine z_icmp_ne_ok (pc := 108) (tgt := 115) C.hx C.hb dL_agrees_108 (by decide) ?_ ?_
  · refine z_iconst_ok (pc := 115) (v := 0) C.hx C.hb dL_agrees_115 (by decide) ?_
    exact zk_L_agrees_116 C hn hJ50
  · refine z_iconst_ok (pc := 111) (v := 1) C.hx C.hb dL_agrees_111 (by decide) ?_
    refine z_goto_ok (pc := 112) (tgt := 116) C.hx C.hb dL_agrees_112 (by decide) ?_
    exact zk_L_agrees_116 C hn hJ50
def zb_L_agrees_99 (J50 : ZP) : ZP := (z_ald 0 (z_ild 5 (z_push 6 (z_invVq 7 2 sp_X7_personIs (zb_L_agrees_107 J50)))))
set_option maxRecDepth 20000 in
theorem zk_L_agrees_99 {X : ZX} (C : zCx X cL_agrees RL (some .boolean) 8 137 1 6) (hn : X.nL = 9) {J50 : ZP} (hJ50 : ZOK X 50 J50) : ZOK X 99 (zb_L_agrees_99 J50) := by
  unfold zb_L_agrees_99
  refine z_aload_n_ok (pc := 99) (i := 0) C.hx C.hb dL_agrees_99 rfl ?_
  refine z_iload_ok (pc := 100) (i := 5) C.hx C.hb dL_agrees_100 ?_
  refine z_bipush_ok (pc := 102) (v := 6) C.hx C.hb dL_agrees_102 (by decide) ?_
  refine z_invVq_ok (pc := 104) C (zm_X7_personIs X.l C.htr) ⟨rfl, rfl⟩ ⟨by decide, by decide⟩ (by decide) (by decide) zcl_L_48 zw_363 zw_364 zK7 dL_agrees_104 ?_
  exact zk_L_agrees_107 C hn hJ50
def zb_L_agrees_91 (J50 : ZP) : ZP := (z_if (fun x => x = 0) (z_push 1 (zb_L_agrees_99 J50)) (z_push 0 (zb_L_agrees_99 J50)))
set_option maxRecDepth 20000 in
theorem zk_L_agrees_91 {X : ZX} (C : zCx X cL_agrees RL (some .boolean) 8 137 1 6) (hn : X.nL = 9) {J50 : ZP} (hJ50 : ZOK X 50 J50) : ZOK X 91 (zb_L_agrees_91 J50) := by
  unfold zb_L_agrees_91
  refine z_if_ne_ok (pc := 91) (tgt := 98) C.hx C.hb dL_agrees_91 (by decide) ?_ ?_
  · refine z_iconst_ok (pc := 98) (v := 0) C.hx C.hb dL_agrees_98 (by decide) ?_
    exact zk_L_agrees_99 C hn hJ50
  · refine z_iconst_ok (pc := 94) (v := 1) C.hx C.hb dL_agrees_94 (by decide) ?_
    refine z_goto_ok (pc := 95) (tgt := 99) C.hx C.hb dL_agrees_95 (by decide) ?_
    exact zk_L_agrees_99 C hn hJ50
def zb_L_agrees_79 (J50 : ZP) : ZP := (z_push 100 (z_cmp (fun x y => y < x) (zb_L_agrees_133 J50) (z_ald 0 (z_ild 5 (z_push 2 (z_invVq 7 2 sp_X7_personIs (zb_L_agrees_91 J50)))))))
set_option maxRecDepth 20000 in
theorem zk_L_agrees_79 {X : ZX} (C : zCx X cL_agrees RL (some .boolean) 8 137 1 6) (hn : X.nL = 9) {J50 : ZP} (hJ50 : ZOK X 50 J50) : ZOK X 79 (zb_L_agrees_79 J50) := by
  unfold zb_L_agrees_79
  refine z_bipush_ok (pc := 79) (v := 100) C.hx C.hb dL_agrees_79 (by decide) ?_
  refine z_icmp_gt_ok (pc := 81) (tgt := 133) C.hx C.hb dL_agrees_81 (by decide) ?_ ?_
  · exact zk_L_agrees_133 C hn hJ50
  · refine z_aload_n_ok (pc := 84) (i := 0) C.hx C.hb dL_agrees_84 rfl ?_
    refine z_iload_ok (pc := 85) (i := 5) C.hx C.hb dL_agrees_85 ?_
    refine z_iconst_ok (pc := 87) (v := 2) C.hx C.hb dL_agrees_87 (by decide) ?_
    refine z_invVq_ok (pc := 88) C (zm_X7_personIs X.l C.htr) ⟨rfl, rfl⟩ ⟨by decide, by decide⟩ (by decide) (by decide) zcl_L_48 zw_363 zw_364 zK7 dL_agrees_88 ?_
    exact zk_L_agrees_91 C hn hJ50
def zb_L_agrees_67 (J50 : ZP) : ZP := (z_bin (fun x y => x - y) (z_bin (fun x y => x + y) (z_ist 4 (z_ild 3 (z_ald 0 (z_ild 5 (z_push 2 (z_invVq 7 2 sp_X7_personIs (zb_L_agrees_79 J50)))))))))
set_option maxRecDepth 20000 in
theorem zk_L_agrees_67 {X : ZX} (C : zCx X cL_agrees RL (some .boolean) 8 137 1 6) (hn : X.nL = 9) {J50 : ZP} (hJ50 : ZOK X 50 J50) : ZOK X 67 (zb_L_agrees_67 J50) := by
  unfold zb_L_agrees_67
  refine z_isub_ok (pc := 67) C.hx C.hb dL_agrees_67 ?_
  refine z_iadd_ok (pc := 68) C.hx C.hb dL_agrees_68 ?_
  refine z_istore_ok (pc := 69) (i := 4) C.hx C.hb dL_agrees_69 (zlt hn (by decide)) ?_
  refine z_iload_n_ok (pc := 71) (i := 3) C.hx C.hb dL_agrees_71 rfl ?_
  refine z_aload_n_ok (pc := 72) (i := 0) C.hx C.hb dL_agrees_72 rfl ?_
  refine z_iload_ok (pc := 73) (i := 5) C.hx C.hb dL_agrees_73 ?_
  refine z_iconst_ok (pc := 75) (v := 2) C.hx C.hb dL_agrees_75 (by decide) ?_
  refine z_invVq_ok (pc := 76) C (zm_X7_personIs X.l C.htr) ⟨rfl, rfl⟩ ⟨by decide, by decide⟩ (by decide) (by decide) zcl_L_48 zw_363 zw_364 zK7 dL_agrees_76 ?_
  exact zk_L_agrees_79 C hn hJ50
def zb_L_agrees_50 (J50 : ZP) : ZP := (z_ild 5 (z_ild 1 (z_cmp (fun x y => y ≤ x) (z_push 0 (z_ist 5 (z_push 0 (z_ist 6 (z_loop (fun J213 => zb_L_agrees_213 J213)))))) (z_ild 4 (z_push 1 (z_ald 0 (z_ild 5 (z_push 6 (z_invVq 7 2 sp_X7_personIs (zb_L_agrees_67 J50))))))))))
set_option maxRecDepth 20000 in
theorem zk_L_agrees_50 {X : ZX} (C : zCx X cL_agrees RL (some .boolean) 8 137 1 6) (hn : X.nL = 9) {J50 : ZP} (hJ50 : ZOK X 50 J50) : ZOK X 50 (zb_L_agrees_50 J50) := by
  unfold zb_L_agrees_50
  refine z_iload_ok (pc := 50) (i := 5) C.hx C.hb dL_agrees_50 ?_
  refine z_iload_n_ok (pc := 52) (i := 1) C.hx C.hb dL_agrees_52 rfl ?_
  refine z_icmp_ge_ok (pc := 53) (tgt := 207) C.hx C.hb dL_agrees_53 (by decide) ?_ ?_
  · refine z_iconst_ok (pc := 207) (v := 0) C.hx C.hb dL_agrees_207 (by decide) ?_
    refine z_istore_ok (pc := 208) (i := 5) C.hx C.hb dL_agrees_208 (zlt hn (by decide)) ?_
    refine z_iconst_ok (pc := 210) (v := 0) C.hx C.hb dL_agrees_210 (by decide) ?_
    refine z_istore_ok (pc := 211) (i := 6) C.hx C.hb dL_agrees_211 (zlt hn (by decide)) ?_
    exact z_loop_ok (fun J213 hJ213 => zk_L_agrees_213 C hn hJ213)
  · refine z_iload_ok (pc := 56) (i := 4) C.hx C.hb dL_agrees_56 ?_
    refine z_iconst_ok (pc := 58) (v := 1) C.hx C.hb dL_agrees_58 (by decide) ?_
    refine z_aload_n_ok (pc := 59) (i := 0) C.hx C.hb dL_agrees_59 rfl ?_
    refine z_iload_ok (pc := 60) (i := 5) C.hx C.hb dL_agrees_60 ?_
    refine z_bipush_ok (pc := 62) (v := 6) C.hx C.hb dL_agrees_62 (by decide) ?_
    refine z_invVq_ok (pc := 64) C (zm_X7_personIs X.l C.htr) ⟨rfl, rfl⟩ ⟨by decide, by decide⟩ (by decide) (by decide) zcl_L_48 zw_363 zw_364 zK7 dL_agrees_64 ?_
    exact zk_L_agrees_67 C hn hJ50
def zb_L_agrees_43 : ZP := (z_ist 3 (z_push 0 (z_ist 4 (z_push 0 (z_ist 5 (z_loop (fun J50 => zb_L_agrees_50 J50)))))))
set_option maxRecDepth 20000 in
theorem zk_L_agrees_43 {X : ZX} (C : zCx X cL_agrees RL (some .boolean) 8 137 1 6) (hn : X.nL = 9) : ZOK X 43 (zb_L_agrees_43) := by
  unfold zb_L_agrees_43
  refine z_istore_n_ok (pc := 43) (i := 3) C.hx C.hb dL_agrees_43 rfl (zlt hn (by decide)) ?_
  refine z_iconst_ok (pc := 44) (v := 0) C.hx C.hb dL_agrees_44 (by decide) ?_
  refine z_istore_ok (pc := 45) (i := 4) C.hx C.hb dL_agrees_45 (zlt hn (by decide)) ?_
  refine z_iconst_ok (pc := 47) (v := 0) C.hx C.hb dL_agrees_47 (by decide) ?_
  refine z_istore_ok (pc := 48) (i := 5) C.hx C.hb dL_agrees_48 (zlt hn (by decide)) ?_
  exact z_loop_ok (fun J50 hJ50 => zk_L_agrees_50 C hn hJ50)
def zb_L_agrees_34 : ZP := (z_bin (fun x y => x + y) (z_cmp (fun x y => x = y) (z_push 1 zb_L_agrees_43) (z_push 0 zb_L_agrees_43)))
set_option maxRecDepth 20000 in
theorem zk_L_agrees_34 {X : ZX} (C : zCx X cL_agrees RL (some .boolean) 8 137 1 6) (hn : X.nL = 9) : ZOK X 34 (zb_L_agrees_34) := by
  unfold zb_L_agrees_34
  refine z_iadd_ok (pc := 34) C.hx C.hb dL_agrees_34 ?_
  refine z_icmp_ne_ok (pc := 35) (tgt := 42) C.hx C.hb dL_agrees_35 (by decide) ?_ ?_
  · refine z_iconst_ok (pc := 42) (v := 0) C.hx C.hb dL_agrees_42 (by decide) ?_
    exact zk_L_agrees_43 C hn 
  · refine z_iconst_ok (pc := 38) (v := 1) C.hx C.hb dL_agrees_38 (by decide) ?_
    refine z_goto_ok (pc := 39) (tgt := 43) C.hx C.hb dL_agrees_39 (by decide) ?_
    exact zk_L_agrees_43 C hn 
def zb_L_agrees_27 : ZP := (z_bin (fun x y => x + y) (z_ald 0 (z_push 6 (z_invVq 7 1 sp_X7_sum zb_L_agrees_34))))
set_option maxRecDepth 20000 in
theorem zk_L_agrees_27 {X : ZX} (C : zCx X cL_agrees RL (some .boolean) 8 137 1 6) (hn : X.nL = 9) : ZOK X 27 (zb_L_agrees_27) := by
  unfold zb_L_agrees_27
  refine z_iadd_ok (pc := 27) C.hx C.hb dL_agrees_27 ?_
  refine z_aload_n_ok (pc := 28) (i := 0) C.hx C.hb dL_agrees_28 rfl ?_
  refine z_bipush_ok (pc := 29) (v := 6) C.hx C.hb dL_agrees_29 (by decide) ?_
  refine z_invVq_ok (pc := 31) C (zm_X7_sum X.l C.htr) ⟨rfl, rfl⟩ ⟨by decide, by decide⟩ (by decide) (by decide) zcl_L_45 zw_601 zw_602 zK7 dL_agrees_31 ?_
  exact zk_L_agrees_34 C hn 
def zb_L_agrees_21 : ZP := (z_bin (fun x y => x + y) (z_ald 0 (z_push 5 (z_invVq 7 1 sp_X7_sum zb_L_agrees_27))))
set_option maxRecDepth 20000 in
theorem zk_L_agrees_21 {X : ZX} (C : zCx X cL_agrees RL (some .boolean) 8 137 1 6) (hn : X.nL = 9) : ZOK X 21 (zb_L_agrees_21) := by
  unfold zb_L_agrees_21
  refine z_iadd_ok (pc := 21) C.hx C.hb dL_agrees_21 ?_
  refine z_aload_n_ok (pc := 22) (i := 0) C.hx C.hb dL_agrees_22 rfl ?_
  refine z_iconst_ok (pc := 23) (v := 5) C.hx C.hb dL_agrees_23 (by decide) ?_
  refine z_invVq_ok (pc := 24) C (zm_X7_sum X.l C.htr) ⟨rfl, rfl⟩ ⟨by decide, by decide⟩ (by decide) (by decide) zcl_L_45 zw_601 zw_602 zK7 dL_agrees_24 ?_
  exact zk_L_agrees_27 C hn 
def zb_L_agrees_15 : ZP := (z_bin (fun x y => x + y) (z_ald 0 (z_push 4 (z_invVq 7 1 sp_X7_sum zb_L_agrees_21))))
set_option maxRecDepth 20000 in
theorem zk_L_agrees_15 {X : ZX} (C : zCx X cL_agrees RL (some .boolean) 8 137 1 6) (hn : X.nL = 9) : ZOK X 15 (zb_L_agrees_15) := by
  unfold zb_L_agrees_15
  refine z_iadd_ok (pc := 15) C.hx C.hb dL_agrees_15 ?_
  refine z_aload_n_ok (pc := 16) (i := 0) C.hx C.hb dL_agrees_16 rfl ?_
  refine z_iconst_ok (pc := 17) (v := 4) C.hx C.hb dL_agrees_17 (by decide) ?_
  refine z_invVq_ok (pc := 18) C (zm_X7_sum X.l C.htr) ⟨rfl, rfl⟩ ⟨by decide, by decide⟩ (by decide) (by decide) zcl_L_45 zw_601 zw_602 zK7 dL_agrees_18 ?_
  exact zk_L_agrees_21 C hn 
def zb_L_agrees_10 : ZP := (z_ald 0 (z_push 3 (z_invVq 7 1 sp_X7_sum zb_L_agrees_15)))
set_option maxRecDepth 20000 in
theorem zk_L_agrees_10 {X : ZX} (C : zCx X cL_agrees RL (some .boolean) 8 137 1 6) (hn : X.nL = 9) : ZOK X 10 (zb_L_agrees_10) := by
  unfold zb_L_agrees_10
  refine z_aload_n_ok (pc := 10) (i := 0) C.hx C.hb dL_agrees_10 rfl ?_
  refine z_iconst_ok (pc := 11) (v := 3) C.hx C.hb dL_agrees_11 (by decide) ?_
  refine z_invVq_ok (pc := 12) C (zm_X7_sum X.l C.htr) ⟨rfl, rfl⟩ ⟨by decide, by decide⟩ (by decide) (by decide) zcl_L_45 zw_601 zw_602 zK7 dL_agrees_12 ?_
  exact zk_L_agrees_15 C hn 
def zb_L_agrees_5 : ZP := (z_ald 0 (z_push 2 (z_invVq 7 1 sp_X7_sum zb_L_agrees_10)))
set_option maxRecDepth 20000 in
theorem zk_L_agrees_5 {X : ZX} (C : zCx X cL_agrees RL (some .boolean) 8 137 1 6) (hn : X.nL = 9) : ZOK X 5 (zb_L_agrees_5) := by
  unfold zb_L_agrees_5
  refine z_aload_n_ok (pc := 5) (i := 0) C.hx C.hb dL_agrees_5 rfl ?_
  refine z_iconst_ok (pc := 6) (v := 2) C.hx C.hb dL_agrees_6 (by decide) ?_
  refine z_invVq_ok (pc := 7) C (zm_X7_sum X.l C.htr) ⟨rfl, rfl⟩ ⟨by decide, by decide⟩ (by decide) (by decide) zcl_L_45 zw_601 zw_602 zK7 dL_agrees_7 ?_
  exact zk_L_agrees_10 C hn 
def zb_L_agrees_0 : ZP := (z_ald 0 (z_push 1 (z_invVq 7 1 sp_X7_sum zb_L_agrees_5)))
set_option maxRecDepth 20000 in
theorem zk_L_agrees_0 {X : ZX} (C : zCx X cL_agrees RL (some .boolean) 8 137 1 6) (hn : X.nL = 9) : ZOK X 0 (zb_L_agrees_0) := by
  unfold zb_L_agrees_0
  refine z_aload_n_ok (pc := 0) (i := 0) C.hx C.hb dL_agrees_0 rfl ?_
  refine z_iconst_ok (pc := 1) (v := 1) C.hx C.hb dL_agrees_1 (by decide) ?_
  refine z_invVq_ok (pc := 2) C (zm_X7_sum X.l C.htr) ⟨rfl, rfl⟩ ⟨by decide, by decide⟩ (by decide) (by decide) zcl_L_45 zw_601 zw_602 zK7 dL_agrees_2 ?_
  exact zk_L_agrees_5 C hn 
def sp_L_agrees : ZSp := fun as S K => as.length ≤ 9 ∧ zsp 9 zb_L_agrees_0 as S K
theorem zm_L_agrees (l : Launch) (hl : l.stackTraces = false) : zMet l yL_agrees cL_agrees 9 (some .boolean) { frames := 8, cells := 1, slots := 6, locals := 137 } 0 0 sp_L_agrees := zMet_of hl (by decide +kernel) ⟨rfl, rfl⟩ (fun X C hn _ => zk_L_agrees_0 C hn)
theorem dL_tryBuy_0 : decode cL_tryBuy 0 = .ok (.aload_n 0, 1) := by decide +kernel
theorem dL_tryBuy_1 : decode cL_tryBuy 1 = .ok (.iload_n 1, 1) := by decide +kernel
theorem dL_tryBuy_2 : decode cL_tryBuy 2 = .ok (.iload_n 2, 1) := by decide +kernel
theorem dL_tryBuy_3 : decode cL_tryBuy 3 = .ok (.iload_n 3, 1) := by decide +kernel
theorem dL_tryBuy_4 : decode cL_tryBuy 4 = .ok (.iload 4, 2) := by decide +kernel
theorem dL_tryBuy_6 : decode cL_tryBuy 6 = .ok (.invokevirtual 9, 3) := by decide +kernel
theorem dL_tryBuy_9 : decode cL_tryBuy 9 = .ok (.ireturn, 1) := by decide +kernel
theorem dL_tryBuy_10 : decode cL_tryBuy 10 = .ok (.astore 5, 2) := by decide +kernel
theorem dL_tryBuy_12 : decode cL_tryBuy 12 = .ok (.sipush (-300), 3) := by decide +kernel
theorem dL_tryBuy_15 : decode cL_tryBuy 15 = .ok (.ireturn, 1) := by decide +kernel
theorem dL_tryBuy_16 : decode cL_tryBuy 16 = .ok (.astore 5, 2) := by decide +kernel
theorem dL_tryBuy_18 : decode cL_tryBuy 18 = .ok (.bipush (-100), 2) := by decide +kernel
theorem dL_tryBuy_20 : decode cL_tryBuy 20 = .ok (.ireturn, 1) := by decide +kernel
theorem dL_tryBuy_21 : decode cL_tryBuy 21 = .ok (.astore 5, 2) := by decide +kernel
theorem dL_tryBuy_23 : decode cL_tryBuy 23 = .ok (.sipush (-200), 3) := by decide +kernel
theorem dL_tryBuy_26 : decode cL_tryBuy 26 = .ok (.ireturn, 1) := by decide +kernel
def zb_L_tryBuy_0 : ZP := (z_ald 0 (z_ild 1 (z_ild 2 (z_ild 3 (z_ild 4 (z_invH 7 4 sp_X7_buy (fun n => match n with | 1 => some (-300) | 2 => some (-100) | 3 => some (-200) | _ => none) (z_ret 1)))))))
set_option maxRecDepth 20000 in
theorem zk_L_tryBuy_0 {X : ZX} (C : zCx X cL_tryBuy RL (some .int) 8 142 11 66) (hn : X.nL = 6) (h0 : X.ce = 0 ∧ X.sl = 0 ∧ X.Q = zEndP X.b X.g X.ad X.S0 X.K X.a X.s 10 60) (ht : X.c.exceptionTable.toList = tableOf [(0, 9, 10, 15), (0, 9, 16, 17), (0, 9, 21, 19)]) : ZOK X 0 (zb_L_tryBuy_0) := by
  unfold zb_L_tryBuy_0
  refine z_aload_n_ok (pc := 0) (i := 0) C.hx C.hb dL_tryBuy_0 rfl ?_
  refine z_iload_n_ok (pc := 1) (i := 1) C.hx C.hb dL_tryBuy_1 rfl ?_
  refine z_iload_n_ok (pc := 2) (i := 2) C.hx C.hb dL_tryBuy_2 rfl ?_
  refine z_iload_n_ok (pc := 3) (i := 3) C.hx C.hb dL_tryBuy_3 rfl ?_
  refine z_iload_ok (pc := 4) (i := 4) C.hx C.hb dL_tryBuy_4 ?_
  have hh : ∀ (n : Nat) (v : Int32), (fun n => match n with | 1 => some (-300) | 2 => some (-100) | 3 => some (-200) | _ => none) n = some v → zhnd X cL_tryBuy RL 6 n v := by
    intro n v h
    rcases n with _ | _ | _ | _ | n
    · cases h
    · have h : some (-300 : Int32) = some v := h
      cases h
      exact ⟨[], ⟨0, 9, 10, 15⟩, [⟨0, 9, 16, 17⟩, ⟨0, 9, 21, 19⟩], ht, fun _ h => (nomatch h), by decide, by decide, zw_631, List.mem_of_getElem? (i := 0) rfl, 5, 2, -300, zlt hn (by decide), Or.inl ⟨dL_tryBuy_10, rfl⟩, 3, Or.inr (Or.inr ⟨dL_tryBuy_12, by decide, rfl⟩), dL_tryBuy_15⟩
    · have h : some (-100 : Int32) = some v := h
      cases h
      exact ⟨[⟨0, 9, 10, 15⟩], ⟨0, 9, 16, 17⟩, [⟨0, 9, 21, 19⟩], ht, List.forall_mem_cons.mpr ⟨Or.inr ⟨by decide, _, zw_631, C.hE.2.2.2.2.2.2.1.1⟩, fun _ h => (nomatch h)⟩, by decide, by decide, zw_632, List.mem_of_getElem? (i := 1) rfl, 5, 2, -100, zlt hn (by decide), Or.inl ⟨dL_tryBuy_16, rfl⟩, 2, Or.inr (Or.inl ⟨dL_tryBuy_18, by decide, rfl⟩), dL_tryBuy_20⟩
    · have h : some (-200 : Int32) = some v := h
      cases h
      exact ⟨[⟨0, 9, 10, 15⟩, ⟨0, 9, 16, 17⟩], ⟨0, 9, 21, 19⟩, [], ht, List.forall_mem_cons.mpr ⟨Or.inr ⟨by decide, _, zw_631, C.hE.2.2.2.2.2.2.1.2.1⟩, List.forall_mem_cons.mpr ⟨Or.inr ⟨by decide, _, zw_632, C.hE.2.2.2.2.2.2.1.2.2⟩, fun _ h => (nomatch h)⟩⟩, by decide, by decide, zw_633, List.mem_of_getElem? (i := 2) rfl, 5, 2, -200, zlt hn (by decide), Or.inl ⟨dL_tryBuy_21, rfl⟩, 3, Or.inr (Or.inr ⟨dL_tryBuy_23, by decide, rfl⟩), dL_tryBuy_26⟩
    · cases h
  refine z_invH_ok (pc := 6) C (zQ_of h0.2.2 (by have := h0.1; omega) (by have := h0.2.1; omega)) (zm_X7_buy X.l C.htr) ⟨rfl, rfl⟩ ⟨by decide, by decide⟩ (by decide) (by decide) zcl_L_9 zw_635 zw_636 zK7 hh dL_tryBuy_6 ?_
  have C := C.c (cx' := 1) (sx' := 6) (zQ_of h0.2.2 (a := X.ce + 0) (b := X.sl + 0) (by have := h0.1; omega) (by have := h0.2.1; omega)) (by omega) (by omega)
  exact z_iret_ok (pc := 9) C dL_tryBuy_9
def sp_L_tryBuy : ZSp := fun as S K => as.length ≤ 6 ∧ zsp 6 zb_L_tryBuy_0 as S K
theorem zm_L_tryBuy (l : Launch) (hl : l.stackTraces = false) : zMetW l yL_tryBuy cL_tryBuy 6 (some .int) [(0, 9, 10, 15), (0, 9, 16, 17), (0, 9, 21, 19)] { frames := 8, cells := 11, slots := 66, locals := 142 } 10 60 sp_L_tryBuy := zMetW_of hl (by decide +kernel) rfl ⟨rfl, rfl⟩ (fun X C hn h0 ht => zk_L_tryBuy_0 C hn h0 ht)
theorem dL_tryOne_0 : decode cL_tryOne 0 = .ok (.iload_n 1, 1) := by decide +kernel
theorem dL_tryOne_1 : decode cL_tryOne 1 = .ok (.ifCond .ne 14, 3) := by decide +kernel
theorem dL_tryOne_4 : decode cL_tryOne 4 = .ok (.aload_n 0, 1) := by decide +kernel
theorem dL_tryOne_5 : decode cL_tryOne 5 = .ok (.iload_n 2, 1) := by decide +kernel
theorem dL_tryOne_6 : decode cL_tryOne 6 = .ok (.iload_n 3, 1) := by decide +kernel
theorem dL_tryOne_7 : decode cL_tryOne 7 = .ok (.iload 4, 2) := by decide +kernel
theorem dL_tryOne_9 : decode cL_tryOne 9 = .ok (.invokevirtual 31, 3) := by decide +kernel
theorem dL_tryOne_12 : decode cL_tryOne 12 = .ok (.goto 38, 3) := by decide +kernel
theorem dL_tryOne_15 : decode cL_tryOne 15 = .ok (.iload_n 1, 1) := by decide +kernel
theorem dL_tryOne_16 : decode cL_tryOne 16 = .ok (.iconst 1, 1) := by decide +kernel
theorem dL_tryOne_17 : decode cL_tryOne 17 = .ok (.if_icmp .ne 11, 3) := by decide +kernel
theorem dL_tryOne_20 : decode cL_tryOne 20 = .ok (.aload_n 0, 1) := by decide +kernel
theorem dL_tryOne_21 : decode cL_tryOne 21 = .ok (.iload_n 2, 1) := by decide +kernel
theorem dL_tryOne_22 : decode cL_tryOne 22 = .ok (.invokevirtual 34, 3) := by decide +kernel
theorem dL_tryOne_25 : decode cL_tryOne 25 = .ok (.goto 25, 3) := by decide +kernel
theorem dL_tryOne_28 : decode cL_tryOne 28 = .ok (.iload_n 1, 1) := by decide +kernel
theorem dL_tryOne_29 : decode cL_tryOne 29 = .ok (.iconst 2, 1) := by decide +kernel
theorem dL_tryOne_30 : decode cL_tryOne 30 = .ok (.if_icmp .ne 14, 3) := by decide +kernel
theorem dL_tryOne_33 : decode cL_tryOne 33 = .ok (.aload_n 0, 1) := by decide +kernel
theorem dL_tryOne_34 : decode cL_tryOne 34 = .ok (.iload_n 2, 1) := by decide +kernel
theorem dL_tryOne_35 : decode cL_tryOne 35 = .ok (.iload_n 3, 1) := by decide +kernel
theorem dL_tryOne_36 : decode cL_tryOne 36 = .ok (.iload 4, 2) := by decide +kernel
theorem dL_tryOne_38 : decode cL_tryOne 38 = .ok (.invokevirtual 38, 3) := by decide +kernel
theorem dL_tryOne_41 : decode cL_tryOne 41 = .ok (.goto 9, 3) := by decide +kernel
theorem dL_tryOne_44 : decode cL_tryOne 44 = .ok (.aload_n 0, 1) := by decide +kernel
theorem dL_tryOne_45 : decode cL_tryOne 45 = .ok (.iload_n 2, 1) := by decide +kernel
theorem dL_tryOne_46 : decode cL_tryOne 46 = .ok (.iload_n 3, 1) := by decide +kernel
theorem dL_tryOne_47 : decode cL_tryOne 47 = .ok (.invokevirtual 41, 3) := by decide +kernel
theorem dL_tryOne_50 : decode cL_tryOne 50 = .ok (.ireturn, 1) := by decide +kernel
theorem dL_tryOne_51 : decode cL_tryOne 51 = .ok (.astore 5, 2) := by decide +kernel
theorem dL_tryOne_53 : decode cL_tryOne 53 = .ok (.sipush (-300), 3) := by decide +kernel
theorem dL_tryOne_56 : decode cL_tryOne 56 = .ok (.ireturn, 1) := by decide +kernel
theorem dL_tryOne_57 : decode cL_tryOne 57 = .ok (.astore 5, 2) := by decide +kernel
theorem dL_tryOne_59 : decode cL_tryOne 59 = .ok (.bipush (-100), 2) := by decide +kernel
theorem dL_tryOne_61 : decode cL_tryOne 61 = .ok (.ireturn, 1) := by decide +kernel
theorem dL_tryOne_62 : decode cL_tryOne 62 = .ok (.astore 5, 2) := by decide +kernel
theorem dL_tryOne_64 : decode cL_tryOne 64 = .ok (.sipush (-200), 3) := by decide +kernel
theorem dL_tryOne_67 : decode cL_tryOne 67 = .ok (.ireturn, 1) := by decide +kernel
def zb_L_tryOne_0 : ZP := (z_ild 1 (z_if (fun x => x = 0) (z_ald 0 (z_ild 2 (z_ild 3 (z_ild 4 (z_invH 7 3 sp_X7_give (fun n => match n with | 1 => some (-300) | 2 => some (-100) | 3 => some (-200) | _ => none) (z_ret 1)))))) (z_ild 1 (z_push 1 (z_cmp (fun x y => x = y) (z_ald 0 (z_ild 2 (z_invH 7 1 sp_X7_stealBook (fun n => match n with | 1 => some (-300) | 2 => some (-100) | 3 => some (-200) | _ => none) (z_ret 1)))) (z_ild 1 (z_push 2 (z_cmp (fun x y => x = y) (z_ald 0 (z_ild 2 (z_ild 3 (z_ild 4 (z_invH 7 3 sp_X7_black (fun n => match n with | 1 => some (-300) | 2 => some (-100) | 3 => some (-200) | _ => none) (z_ret 1)))))) (z_ald 0 (z_ild 2 (z_ild 3 (z_invH 7 2 sp_X7_moves (fun n => match n with | 1 => some (-300) | 2 => some (-100) | 3 => some (-200) | _ => none) (z_ret 1)))))))))))))
set_option maxRecDepth 20000 in
theorem zk_L_tryOne_0 {X : ZX} (C : zCx X cL_tryOne RL (some .int) 8 138 11 66) (hn : X.nL = 6) (h0 : X.ce = 0 ∧ X.sl = 0 ∧ X.Q = zEndP X.b X.g X.ad X.S0 X.K X.a X.s 10 60) (ht : X.c.exceptionTable.toList = tableOf [(0, 50, 51, 15), (0, 50, 57, 17), (0, 50, 62, 19)]) : ZOK X 0 (zb_L_tryOne_0) := by
  unfold zb_L_tryOne_0
  refine z_iload_n_ok (pc := 0) (i := 1) C.hx C.hb dL_tryOne_0 rfl ?_
  refine z_if_ne_ok (pc := 1) (tgt := 15) C.hx C.hb dL_tryOne_1 (by decide) ?_ ?_
  · refine z_iload_n_ok (pc := 15) (i := 1) C.hx C.hb dL_tryOne_15 rfl ?_
    refine z_iconst_ok (pc := 16) (v := 1) C.hx C.hb dL_tryOne_16 (by decide) ?_
    refine z_icmp_ne_ok (pc := 17) (tgt := 28) C.hx C.hb dL_tryOne_17 (by decide) ?_ ?_
    · refine z_iload_n_ok (pc := 28) (i := 1) C.hx C.hb dL_tryOne_28 rfl ?_
      refine z_iconst_ok (pc := 29) (v := 2) C.hx C.hb dL_tryOne_29 (by decide) ?_
      refine z_icmp_ne_ok (pc := 30) (tgt := 44) C.hx C.hb dL_tryOne_30 (by decide) ?_ ?_
      · refine z_aload_n_ok (pc := 44) (i := 0) C.hx C.hb dL_tryOne_44 rfl ?_
        refine z_iload_n_ok (pc := 45) (i := 2) C.hx C.hb dL_tryOne_45 rfl ?_
        refine z_iload_n_ok (pc := 46) (i := 3) C.hx C.hb dL_tryOne_46 rfl ?_
        have hh : ∀ (n : Nat) (v : Int32), (fun n => match n with | 1 => some (-300) | 2 => some (-100) | 3 => some (-200) | _ => none) n = some v → zhnd X cL_tryOne RL 47 n v := by
          intro n v h
          rcases n with _ | _ | _ | _ | n
          · cases h
          · have h : some (-300 : Int32) = some v := h
            cases h
            exact ⟨[], ⟨0, 50, 51, 15⟩, [⟨0, 50, 57, 17⟩, ⟨0, 50, 62, 19⟩], ht, fun _ h => (nomatch h), by decide, by decide, zw_631, List.mem_of_getElem? (i := 0) rfl, 5, 2, -300, zlt hn (by decide), Or.inl ⟨dL_tryOne_51, rfl⟩, 3, Or.inr (Or.inr ⟨dL_tryOne_53, by decide, rfl⟩), dL_tryOne_56⟩
          · have h : some (-100 : Int32) = some v := h
            cases h
            exact ⟨[⟨0, 50, 51, 15⟩], ⟨0, 50, 57, 17⟩, [⟨0, 50, 62, 19⟩], ht, List.forall_mem_cons.mpr ⟨Or.inr ⟨by decide, _, zw_631, C.hE.2.2.2.2.2.2.1.1⟩, fun _ h => (nomatch h)⟩, by decide, by decide, zw_632, List.mem_of_getElem? (i := 1) rfl, 5, 2, -100, zlt hn (by decide), Or.inl ⟨dL_tryOne_57, rfl⟩, 2, Or.inr (Or.inl ⟨dL_tryOne_59, by decide, rfl⟩), dL_tryOne_61⟩
          · have h : some (-200 : Int32) = some v := h
            cases h
            exact ⟨[⟨0, 50, 51, 15⟩, ⟨0, 50, 57, 17⟩], ⟨0, 50, 62, 19⟩, [], ht, List.forall_mem_cons.mpr ⟨Or.inr ⟨by decide, _, zw_631, C.hE.2.2.2.2.2.2.1.2.1⟩, List.forall_mem_cons.mpr ⟨Or.inr ⟨by decide, _, zw_632, C.hE.2.2.2.2.2.2.1.2.2⟩, fun _ h => (nomatch h)⟩⟩, by decide, by decide, zw_633, List.mem_of_getElem? (i := 2) rfl, 5, 2, -200, zlt hn (by decide), Or.inl ⟨dL_tryOne_62, rfl⟩, 3, Or.inr (Or.inr ⟨dL_tryOne_64, by decide, rfl⟩), dL_tryOne_67⟩
          · cases h
        refine z_invH_ok (pc := 47) C (zQ_of h0.2.2 (by have := h0.1; omega) (by have := h0.2.1; omega)) (zm_X7_moves X.l C.htr) ⟨rfl, rfl⟩ ⟨by decide, by decide⟩ (by decide) (by decide) zcl_L_41 zw_714 zw_715 zK7 hh dL_tryOne_47 ?_
        have C := C.c (cx' := 1) (sx' := 6) (zQ_of h0.2.2 (a := X.ce + 0) (b := X.sl + 0) (by have := h0.1; omega) (by have := h0.2.1; omega)) (by omega) (by omega)
        exact z_iret_ok (pc := 50) C dL_tryOne_50
      · refine z_aload_n_ok (pc := 33) (i := 0) C.hx C.hb dL_tryOne_33 rfl ?_
        refine z_iload_n_ok (pc := 34) (i := 2) C.hx C.hb dL_tryOne_34 rfl ?_
        refine z_iload_n_ok (pc := 35) (i := 3) C.hx C.hb dL_tryOne_35 rfl ?_
        refine z_iload_ok (pc := 36) (i := 4) C.hx C.hb dL_tryOne_36 ?_
        have hh : ∀ (n : Nat) (v : Int32), (fun n => match n with | 1 => some (-300) | 2 => some (-100) | 3 => some (-200) | _ => none) n = some v → zhnd X cL_tryOne RL 38 n v := by
          intro n v h
          rcases n with _ | _ | _ | _ | n
          · cases h
          · have h : some (-300 : Int32) = some v := h
            cases h
            exact ⟨[], ⟨0, 50, 51, 15⟩, [⟨0, 50, 57, 17⟩, ⟨0, 50, 62, 19⟩], ht, fun _ h => (nomatch h), by decide, by decide, zw_631, List.mem_of_getElem? (i := 0) rfl, 5, 2, -300, zlt hn (by decide), Or.inl ⟨dL_tryOne_51, rfl⟩, 3, Or.inr (Or.inr ⟨dL_tryOne_53, by decide, rfl⟩), dL_tryOne_56⟩
          · have h : some (-100 : Int32) = some v := h
            cases h
            exact ⟨[⟨0, 50, 51, 15⟩], ⟨0, 50, 57, 17⟩, [⟨0, 50, 62, 19⟩], ht, List.forall_mem_cons.mpr ⟨Or.inr ⟨by decide, _, zw_631, C.hE.2.2.2.2.2.2.1.1⟩, fun _ h => (nomatch h)⟩, by decide, by decide, zw_632, List.mem_of_getElem? (i := 1) rfl, 5, 2, -100, zlt hn (by decide), Or.inl ⟨dL_tryOne_57, rfl⟩, 2, Or.inr (Or.inl ⟨dL_tryOne_59, by decide, rfl⟩), dL_tryOne_61⟩
          · have h : some (-200 : Int32) = some v := h
            cases h
            exact ⟨[⟨0, 50, 51, 15⟩, ⟨0, 50, 57, 17⟩], ⟨0, 50, 62, 19⟩, [], ht, List.forall_mem_cons.mpr ⟨Or.inr ⟨by decide, _, zw_631, C.hE.2.2.2.2.2.2.1.2.1⟩, List.forall_mem_cons.mpr ⟨Or.inr ⟨by decide, _, zw_632, C.hE.2.2.2.2.2.2.1.2.2⟩, fun _ h => (nomatch h)⟩⟩, by decide, by decide, zw_633, List.mem_of_getElem? (i := 2) rfl, 5, 2, -200, zlt hn (by decide), Or.inl ⟨dL_tryOne_62, rfl⟩, 3, Or.inr (Or.inr ⟨dL_tryOne_64, by decide, rfl⟩), dL_tryOne_67⟩
          · cases h
        refine z_invH_ok (pc := 38) C (zQ_of h0.2.2 (by have := h0.1; omega) (by have := h0.2.1; omega)) (zm_X7_black X.l C.htr) ⟨rfl, rfl⟩ ⟨by decide, by decide⟩ (by decide) (by decide) zcl_L_38 zw_710 zw_711 zK7 hh dL_tryOne_38 ?_
        have C := C.c (cx' := 1) (sx' := 6) (zQ_of h0.2.2 (a := X.ce + 0) (b := X.sl + 0) (by have := h0.1; omega) (by have := h0.2.1; omega)) (by omega) (by omega)
        refine z_goto_ok (pc := 41) (tgt := 50) C.hx C.hb dL_tryOne_41 (by decide) ?_
        exact z_iret_ok (pc := 50) C dL_tryOne_50
    · refine z_aload_n_ok (pc := 20) (i := 0) C.hx C.hb dL_tryOne_20 rfl ?_
      refine z_iload_n_ok (pc := 21) (i := 2) C.hx C.hb dL_tryOne_21 rfl ?_
      have hh : ∀ (n : Nat) (v : Int32), (fun n => match n with | 1 => some (-300) | 2 => some (-100) | 3 => some (-200) | _ => none) n = some v → zhnd X cL_tryOne RL 22 n v := by
        intro n v h
        rcases n with _ | _ | _ | _ | n
        · cases h
        · have h : some (-300 : Int32) = some v := h
          cases h
          exact ⟨[], ⟨0, 50, 51, 15⟩, [⟨0, 50, 57, 17⟩, ⟨0, 50, 62, 19⟩], ht, fun _ h => (nomatch h), by decide, by decide, zw_631, List.mem_of_getElem? (i := 0) rfl, 5, 2, -300, zlt hn (by decide), Or.inl ⟨dL_tryOne_51, rfl⟩, 3, Or.inr (Or.inr ⟨dL_tryOne_53, by decide, rfl⟩), dL_tryOne_56⟩
        · have h : some (-100 : Int32) = some v := h
          cases h
          exact ⟨[⟨0, 50, 51, 15⟩], ⟨0, 50, 57, 17⟩, [⟨0, 50, 62, 19⟩], ht, List.forall_mem_cons.mpr ⟨Or.inr ⟨by decide, _, zw_631, C.hE.2.2.2.2.2.2.1.1⟩, fun _ h => (nomatch h)⟩, by decide, by decide, zw_632, List.mem_of_getElem? (i := 1) rfl, 5, 2, -100, zlt hn (by decide), Or.inl ⟨dL_tryOne_57, rfl⟩, 2, Or.inr (Or.inl ⟨dL_tryOne_59, by decide, rfl⟩), dL_tryOne_61⟩
        · have h : some (-200 : Int32) = some v := h
          cases h
          exact ⟨[⟨0, 50, 51, 15⟩, ⟨0, 50, 57, 17⟩], ⟨0, 50, 62, 19⟩, [], ht, List.forall_mem_cons.mpr ⟨Or.inr ⟨by decide, _, zw_631, C.hE.2.2.2.2.2.2.1.2.1⟩, List.forall_mem_cons.mpr ⟨Or.inr ⟨by decide, _, zw_632, C.hE.2.2.2.2.2.2.1.2.2⟩, fun _ h => (nomatch h)⟩⟩, by decide, by decide, zw_633, List.mem_of_getElem? (i := 2) rfl, 5, 2, -200, zlt hn (by decide), Or.inl ⟨dL_tryOne_62, rfl⟩, 3, Or.inr (Or.inr ⟨dL_tryOne_64, by decide, rfl⟩), dL_tryOne_67⟩
        · cases h
      refine z_invH_ok (pc := 22) C (zQ_of h0.2.2 (by have := h0.1; omega) (by have := h0.2.1; omega)) (zm_X7_stealBook X.l C.htr) ⟨rfl, rfl⟩ ⟨by decide, by decide⟩ (by decide) (by decide) zcl_L_34 zw_706 zw_707 zK7 hh dL_tryOne_22 ?_
      have C := C.c (cx' := 1) (sx' := 6) (zQ_of h0.2.2 (a := X.ce + 0) (b := X.sl + 0) (by have := h0.1; omega) (by have := h0.2.1; omega)) (by omega) (by omega)
      refine z_goto_ok (pc := 25) (tgt := 50) C.hx C.hb dL_tryOne_25 (by decide) ?_
      exact z_iret_ok (pc := 50) C dL_tryOne_50
  · refine z_aload_n_ok (pc := 4) (i := 0) C.hx C.hb dL_tryOne_4 rfl ?_
    refine z_iload_n_ok (pc := 5) (i := 2) C.hx C.hb dL_tryOne_5 rfl ?_
    refine z_iload_n_ok (pc := 6) (i := 3) C.hx C.hb dL_tryOne_6 rfl ?_
    refine z_iload_ok (pc := 7) (i := 4) C.hx C.hb dL_tryOne_7 ?_
    have hh : ∀ (n : Nat) (v : Int32), (fun n => match n with | 1 => some (-300) | 2 => some (-100) | 3 => some (-200) | _ => none) n = some v → zhnd X cL_tryOne RL 9 n v := by
      intro n v h
      rcases n with _ | _ | _ | _ | n
      · cases h
      · have h : some (-300 : Int32) = some v := h
        cases h
        exact ⟨[], ⟨0, 50, 51, 15⟩, [⟨0, 50, 57, 17⟩, ⟨0, 50, 62, 19⟩], ht, fun _ h => (nomatch h), by decide, by decide, zw_631, List.mem_of_getElem? (i := 0) rfl, 5, 2, -300, zlt hn (by decide), Or.inl ⟨dL_tryOne_51, rfl⟩, 3, Or.inr (Or.inr ⟨dL_tryOne_53, by decide, rfl⟩), dL_tryOne_56⟩
      · have h : some (-100 : Int32) = some v := h
        cases h
        exact ⟨[⟨0, 50, 51, 15⟩], ⟨0, 50, 57, 17⟩, [⟨0, 50, 62, 19⟩], ht, List.forall_mem_cons.mpr ⟨Or.inr ⟨by decide, _, zw_631, C.hE.2.2.2.2.2.2.1.1⟩, fun _ h => (nomatch h)⟩, by decide, by decide, zw_632, List.mem_of_getElem? (i := 1) rfl, 5, 2, -100, zlt hn (by decide), Or.inl ⟨dL_tryOne_57, rfl⟩, 2, Or.inr (Or.inl ⟨dL_tryOne_59, by decide, rfl⟩), dL_tryOne_61⟩
      · have h : some (-200 : Int32) = some v := h
        cases h
        exact ⟨[⟨0, 50, 51, 15⟩, ⟨0, 50, 57, 17⟩], ⟨0, 50, 62, 19⟩, [], ht, List.forall_mem_cons.mpr ⟨Or.inr ⟨by decide, _, zw_631, C.hE.2.2.2.2.2.2.1.2.1⟩, List.forall_mem_cons.mpr ⟨Or.inr ⟨by decide, _, zw_632, C.hE.2.2.2.2.2.2.1.2.2⟩, fun _ h => (nomatch h)⟩⟩, by decide, by decide, zw_633, List.mem_of_getElem? (i := 2) rfl, 5, 2, -200, zlt hn (by decide), Or.inl ⟨dL_tryOne_62, rfl⟩, 3, Or.inr (Or.inr ⟨dL_tryOne_64, by decide, rfl⟩), dL_tryOne_67⟩
      · cases h
    refine z_invH_ok (pc := 9) C (zQ_of h0.2.2 (by have := h0.1; omega) (by have := h0.2.1; omega)) (zm_X7_give X.l C.htr) ⟨rfl, rfl⟩ ⟨by decide, by decide⟩ (by decide) (by decide) zcl_L_31 zw_697 zw_698 zK7 hh dL_tryOne_9 ?_
    have C := C.c (cx' := 1) (sx' := 6) (zQ_of h0.2.2 (a := X.ce + 0) (b := X.sl + 0) (by have := h0.1; omega) (by have := h0.2.1; omega)) (by omega) (by omega)
    refine z_goto_ok (pc := 12) (tgt := 50) C.hx C.hb dL_tryOne_12 (by decide) ?_
    exact z_iret_ok (pc := 50) C dL_tryOne_50
def sp_L_tryOne : ZSp := fun as S K => as.length ≤ 6 ∧ zsp 6 zb_L_tryOne_0 as S K
theorem zm_L_tryOne (l : Launch) (hl : l.stackTraces = false) : zMetW l yL_tryOne cL_tryOne 6 (some .int) [(0, 50, 51, 15), (0, 50, 57, 17), (0, 50, 62, 19)] { frames := 8, cells := 11, slots := 66, locals := 138 } 10 60 sp_L_tryOne := zMetW_of hl (by decide +kernel) rfl ⟨rfl, rfl⟩ (fun X C hn h0 ht => zk_L_tryOne_0 C hn h0 ht)
theorem dL_tryShop_0 : decode cL_tryShop 0 = .ok (.iload_n 1, 1) := by decide +kernel
theorem dL_tryShop_1 : decode cL_tryShop 1 = .ok (.ifCond .ne 14, 3) := by decide +kernel
theorem dL_tryShop_4 : decode cL_tryShop 4 = .ok (.aload_n 0, 1) := by decide +kernel
theorem dL_tryShop_5 : decode cL_tryShop 5 = .ok (.iload_n 2, 1) := by decide +kernel
theorem dL_tryShop_6 : decode cL_tryShop 6 = .ok (.iload_n 3, 1) := by decide +kernel
theorem dL_tryShop_7 : decode cL_tryShop 7 = .ok (.iload 4, 2) := by decide +kernel
theorem dL_tryShop_9 : decode cL_tryShop 9 = .ok (.invokevirtual 21, 3) := by decide +kernel
theorem dL_tryShop_12 : decode cL_tryShop 12 = .ok (.goto 27, 3) := by decide +kernel
theorem dL_tryShop_15 : decode cL_tryShop 15 = .ok (.iload_n 1, 1) := by decide +kernel
theorem dL_tryShop_16 : decode cL_tryShop 16 = .ok (.iconst 1, 1) := by decide +kernel
theorem dL_tryShop_17 : decode cL_tryShop 17 = .ok (.if_icmp .ne 14, 3) := by decide +kernel
theorem dL_tryShop_20 : decode cL_tryShop 20 = .ok (.aload_n 0, 1) := by decide +kernel
theorem dL_tryShop_21 : decode cL_tryShop 21 = .ok (.iload_n 2, 1) := by decide +kernel
theorem dL_tryShop_22 : decode cL_tryShop 22 = .ok (.iload_n 3, 1) := by decide +kernel
theorem dL_tryShop_23 : decode cL_tryShop 23 = .ok (.iload 4, 2) := by decide +kernel
theorem dL_tryShop_25 : decode cL_tryShop 25 = .ok (.invokevirtual 25, 3) := by decide +kernel
theorem dL_tryShop_28 : decode cL_tryShop 28 = .ok (.goto 11, 3) := by decide +kernel
theorem dL_tryShop_31 : decode cL_tryShop 31 = .ok (.aload_n 0, 1) := by decide +kernel
theorem dL_tryShop_32 : decode cL_tryShop 32 = .ok (.iload_n 2, 1) := by decide +kernel
theorem dL_tryShop_33 : decode cL_tryShop 33 = .ok (.iload_n 3, 1) := by decide +kernel
theorem dL_tryShop_34 : decode cL_tryShop 34 = .ok (.iload 4, 2) := by decide +kernel
theorem dL_tryShop_36 : decode cL_tryShop 36 = .ok (.invokevirtual 28, 3) := by decide +kernel
theorem dL_tryShop_39 : decode cL_tryShop 39 = .ok (.ireturn, 1) := by decide +kernel
theorem dL_tryShop_40 : decode cL_tryShop 40 = .ok (.astore 5, 2) := by decide +kernel
theorem dL_tryShop_42 : decode cL_tryShop 42 = .ok (.sipush (-300), 3) := by decide +kernel
theorem dL_tryShop_45 : decode cL_tryShop 45 = .ok (.ireturn, 1) := by decide +kernel
theorem dL_tryShop_46 : decode cL_tryShop 46 = .ok (.astore 5, 2) := by decide +kernel
theorem dL_tryShop_48 : decode cL_tryShop 48 = .ok (.bipush (-100), 2) := by decide +kernel
theorem dL_tryShop_50 : decode cL_tryShop 50 = .ok (.ireturn, 1) := by decide +kernel
theorem dL_tryShop_51 : decode cL_tryShop 51 = .ok (.astore 5, 2) := by decide +kernel
theorem dL_tryShop_53 : decode cL_tryShop 53 = .ok (.sipush (-200), 3) := by decide +kernel
theorem dL_tryShop_56 : decode cL_tryShop 56 = .ok (.ireturn, 1) := by decide +kernel
def zb_L_tryShop_0 : ZP := (z_ild 1 (z_if (fun x => x = 0) (z_ald 0 (z_ild 2 (z_ild 3 (z_ild 4 (z_invH 7 3 sp_X7_claim (fun n => match n with | 1 => some (-300) | 2 => some (-100) | 3 => some (-200) | _ => none) (z_ret 1)))))) (z_ild 1 (z_push 1 (z_cmp (fun x y => x = y) (z_ald 0 (z_ild 2 (z_ild 3 (z_ild 4 (z_invH 7 3 sp_X7_advance (fun n => match n with | 1 => some (-300) | 2 => some (-100) | 3 => some (-200) | _ => none) (z_ret 1)))))) (z_ald 0 (z_ild 2 (z_ild 3 (z_ild 4 (z_invH 7 3 sp_X7_steal (fun n => match n with | 1 => some (-300) | 2 => some (-100) | 3 => some (-200) | _ => none) (z_ret 1)))))))))))
set_option maxRecDepth 20000 in
theorem zk_L_tryShop_0 {X : ZX} (C : zCx X cL_tryShop RL (some .int) 8 139 11 66) (hn : X.nL = 6) (h0 : X.ce = 0 ∧ X.sl = 0 ∧ X.Q = zEndP X.b X.g X.ad X.S0 X.K X.a X.s 10 60) (ht : X.c.exceptionTable.toList = tableOf [(0, 39, 40, 15), (0, 39, 46, 17), (0, 39, 51, 19)]) : ZOK X 0 (zb_L_tryShop_0) := by
  unfold zb_L_tryShop_0
  refine z_iload_n_ok (pc := 0) (i := 1) C.hx C.hb dL_tryShop_0 rfl ?_
  refine z_if_ne_ok (pc := 1) (tgt := 15) C.hx C.hb dL_tryShop_1 (by decide) ?_ ?_
  · refine z_iload_n_ok (pc := 15) (i := 1) C.hx C.hb dL_tryShop_15 rfl ?_
    refine z_iconst_ok (pc := 16) (v := 1) C.hx C.hb dL_tryShop_16 (by decide) ?_
    refine z_icmp_ne_ok (pc := 17) (tgt := 31) C.hx C.hb dL_tryShop_17 (by decide) ?_ ?_
    · refine z_aload_n_ok (pc := 31) (i := 0) C.hx C.hb dL_tryShop_31 rfl ?_
      refine z_iload_n_ok (pc := 32) (i := 2) C.hx C.hb dL_tryShop_32 rfl ?_
      refine z_iload_n_ok (pc := 33) (i := 3) C.hx C.hb dL_tryShop_33 rfl ?_
      refine z_iload_ok (pc := 34) (i := 4) C.hx C.hb dL_tryShop_34 ?_
      have hh : ∀ (n : Nat) (v : Int32), (fun n => match n with | 1 => some (-300) | 2 => some (-100) | 3 => some (-200) | _ => none) n = some v → zhnd X cL_tryShop RL 36 n v := by
        intro n v h
        rcases n with _ | _ | _ | _ | n
        · cases h
        · have h : some (-300 : Int32) = some v := h
          cases h
          exact ⟨[], ⟨0, 39, 40, 15⟩, [⟨0, 39, 46, 17⟩, ⟨0, 39, 51, 19⟩], ht, fun _ h => (nomatch h), by decide, by decide, zw_631, List.mem_of_getElem? (i := 0) rfl, 5, 2, -300, zlt hn (by decide), Or.inl ⟨dL_tryShop_40, rfl⟩, 3, Or.inr (Or.inr ⟨dL_tryShop_42, by decide, rfl⟩), dL_tryShop_45⟩
        · have h : some (-100 : Int32) = some v := h
          cases h
          exact ⟨[⟨0, 39, 40, 15⟩], ⟨0, 39, 46, 17⟩, [⟨0, 39, 51, 19⟩], ht, List.forall_mem_cons.mpr ⟨Or.inr ⟨by decide, _, zw_631, C.hE.2.2.2.2.2.2.1.1⟩, fun _ h => (nomatch h)⟩, by decide, by decide, zw_632, List.mem_of_getElem? (i := 1) rfl, 5, 2, -100, zlt hn (by decide), Or.inl ⟨dL_tryShop_46, rfl⟩, 2, Or.inr (Or.inl ⟨dL_tryShop_48, by decide, rfl⟩), dL_tryShop_50⟩
        · have h : some (-200 : Int32) = some v := h
          cases h
          exact ⟨[⟨0, 39, 40, 15⟩, ⟨0, 39, 46, 17⟩], ⟨0, 39, 51, 19⟩, [], ht, List.forall_mem_cons.mpr ⟨Or.inr ⟨by decide, _, zw_631, C.hE.2.2.2.2.2.2.1.2.1⟩, List.forall_mem_cons.mpr ⟨Or.inr ⟨by decide, _, zw_632, C.hE.2.2.2.2.2.2.1.2.2⟩, fun _ h => (nomatch h)⟩⟩, by decide, by decide, zw_633, List.mem_of_getElem? (i := 2) rfl, 5, 2, -200, zlt hn (by decide), Or.inl ⟨dL_tryShop_51, rfl⟩, 3, Or.inr (Or.inr ⟨dL_tryShop_53, by decide, rfl⟩), dL_tryShop_56⟩
        · cases h
      refine z_invH_ok (pc := 36) C (zQ_of h0.2.2 (by have := h0.1; omega) (by have := h0.2.1; omega)) (zm_X7_steal X.l C.htr) ⟨rfl, rfl⟩ ⟨by decide, by decide⟩ (by decide) (by decide) zcl_L_28 zw_690 zw_691 zK7 hh dL_tryShop_36 ?_
      have C := C.c (cx' := 1) (sx' := 6) (zQ_of h0.2.2 (a := X.ce + 0) (b := X.sl + 0) (by have := h0.1; omega) (by have := h0.2.1; omega)) (by omega) (by omega)
      exact z_iret_ok (pc := 39) C dL_tryShop_39
    · refine z_aload_n_ok (pc := 20) (i := 0) C.hx C.hb dL_tryShop_20 rfl ?_
      refine z_iload_n_ok (pc := 21) (i := 2) C.hx C.hb dL_tryShop_21 rfl ?_
      refine z_iload_n_ok (pc := 22) (i := 3) C.hx C.hb dL_tryShop_22 rfl ?_
      refine z_iload_ok (pc := 23) (i := 4) C.hx C.hb dL_tryShop_23 ?_
      have hh : ∀ (n : Nat) (v : Int32), (fun n => match n with | 1 => some (-300) | 2 => some (-100) | 3 => some (-200) | _ => none) n = some v → zhnd X cL_tryShop RL 25 n v := by
        intro n v h
        rcases n with _ | _ | _ | _ | n
        · cases h
        · have h : some (-300 : Int32) = some v := h
          cases h
          exact ⟨[], ⟨0, 39, 40, 15⟩, [⟨0, 39, 46, 17⟩, ⟨0, 39, 51, 19⟩], ht, fun _ h => (nomatch h), by decide, by decide, zw_631, List.mem_of_getElem? (i := 0) rfl, 5, 2, -300, zlt hn (by decide), Or.inl ⟨dL_tryShop_40, rfl⟩, 3, Or.inr (Or.inr ⟨dL_tryShop_42, by decide, rfl⟩), dL_tryShop_45⟩
        · have h : some (-100 : Int32) = some v := h
          cases h
          exact ⟨[⟨0, 39, 40, 15⟩], ⟨0, 39, 46, 17⟩, [⟨0, 39, 51, 19⟩], ht, List.forall_mem_cons.mpr ⟨Or.inr ⟨by decide, _, zw_631, C.hE.2.2.2.2.2.2.1.1⟩, fun _ h => (nomatch h)⟩, by decide, by decide, zw_632, List.mem_of_getElem? (i := 1) rfl, 5, 2, -100, zlt hn (by decide), Or.inl ⟨dL_tryShop_46, rfl⟩, 2, Or.inr (Or.inl ⟨dL_tryShop_48, by decide, rfl⟩), dL_tryShop_50⟩
        · have h : some (-200 : Int32) = some v := h
          cases h
          exact ⟨[⟨0, 39, 40, 15⟩, ⟨0, 39, 46, 17⟩], ⟨0, 39, 51, 19⟩, [], ht, List.forall_mem_cons.mpr ⟨Or.inr ⟨by decide, _, zw_631, C.hE.2.2.2.2.2.2.1.2.1⟩, List.forall_mem_cons.mpr ⟨Or.inr ⟨by decide, _, zw_632, C.hE.2.2.2.2.2.2.1.2.2⟩, fun _ h => (nomatch h)⟩⟩, by decide, by decide, zw_633, List.mem_of_getElem? (i := 2) rfl, 5, 2, -200, zlt hn (by decide), Or.inl ⟨dL_tryShop_51, rfl⟩, 3, Or.inr (Or.inr ⟨dL_tryShop_53, by decide, rfl⟩), dL_tryShop_56⟩
        · cases h
      refine z_invH_ok (pc := 25) C (zQ_of h0.2.2 (by have := h0.1; omega) (by have := h0.2.1; omega)) (zm_X7_advance X.l C.htr) ⟨rfl, rfl⟩ ⟨by decide, by decide⟩ (by decide) (by decide) zcl_L_25 zw_686 zw_687 zK7 hh dL_tryShop_25 ?_
      have C := C.c (cx' := 1) (sx' := 6) (zQ_of h0.2.2 (a := X.ce + 0) (b := X.sl + 0) (by have := h0.1; omega) (by have := h0.2.1; omega)) (by omega) (by omega)
      refine z_goto_ok (pc := 28) (tgt := 39) C.hx C.hb dL_tryShop_28 (by decide) ?_
      exact z_iret_ok (pc := 39) C dL_tryShop_39
  · refine z_aload_n_ok (pc := 4) (i := 0) C.hx C.hb dL_tryShop_4 rfl ?_
    refine z_iload_n_ok (pc := 5) (i := 2) C.hx C.hb dL_tryShop_5 rfl ?_
    refine z_iload_n_ok (pc := 6) (i := 3) C.hx C.hb dL_tryShop_6 rfl ?_
    refine z_iload_ok (pc := 7) (i := 4) C.hx C.hb dL_tryShop_7 ?_
    have hh : ∀ (n : Nat) (v : Int32), (fun n => match n with | 1 => some (-300) | 2 => some (-100) | 3 => some (-200) | _ => none) n = some v → zhnd X cL_tryShop RL 9 n v := by
      intro n v h
      rcases n with _ | _ | _ | _ | n
      · cases h
      · have h : some (-300 : Int32) = some v := h
        cases h
        exact ⟨[], ⟨0, 39, 40, 15⟩, [⟨0, 39, 46, 17⟩, ⟨0, 39, 51, 19⟩], ht, fun _ h => (nomatch h), by decide, by decide, zw_631, List.mem_of_getElem? (i := 0) rfl, 5, 2, -300, zlt hn (by decide), Or.inl ⟨dL_tryShop_40, rfl⟩, 3, Or.inr (Or.inr ⟨dL_tryShop_42, by decide, rfl⟩), dL_tryShop_45⟩
      · have h : some (-100 : Int32) = some v := h
        cases h
        exact ⟨[⟨0, 39, 40, 15⟩], ⟨0, 39, 46, 17⟩, [⟨0, 39, 51, 19⟩], ht, List.forall_mem_cons.mpr ⟨Or.inr ⟨by decide, _, zw_631, C.hE.2.2.2.2.2.2.1.1⟩, fun _ h => (nomatch h)⟩, by decide, by decide, zw_632, List.mem_of_getElem? (i := 1) rfl, 5, 2, -100, zlt hn (by decide), Or.inl ⟨dL_tryShop_46, rfl⟩, 2, Or.inr (Or.inl ⟨dL_tryShop_48, by decide, rfl⟩), dL_tryShop_50⟩
      · have h : some (-200 : Int32) = some v := h
        cases h
        exact ⟨[⟨0, 39, 40, 15⟩, ⟨0, 39, 46, 17⟩], ⟨0, 39, 51, 19⟩, [], ht, List.forall_mem_cons.mpr ⟨Or.inr ⟨by decide, _, zw_631, C.hE.2.2.2.2.2.2.1.2.1⟩, List.forall_mem_cons.mpr ⟨Or.inr ⟨by decide, _, zw_632, C.hE.2.2.2.2.2.2.1.2.2⟩, fun _ h => (nomatch h)⟩⟩, by decide, by decide, zw_633, List.mem_of_getElem? (i := 2) rfl, 5, 2, -200, zlt hn (by decide), Or.inl ⟨dL_tryShop_51, rfl⟩, 3, Or.inr (Or.inr ⟨dL_tryShop_53, by decide, rfl⟩), dL_tryShop_56⟩
      · cases h
    refine z_invH_ok (pc := 9) C (zQ_of h0.2.2 (by have := h0.1; omega) (by have := h0.2.1; omega)) (zm_X7_claim X.l C.htr) ⟨rfl, rfl⟩ ⟨by decide, by decide⟩ (by decide) (by decide) zcl_L_21 zw_675 zw_676 zK7 hh dL_tryShop_9 ?_
    have C := C.c (cx' := 1) (sx' := 6) (zQ_of h0.2.2 (a := X.ce + 0) (b := X.sl + 0) (by have := h0.1; omega) (by have := h0.2.1; omega)) (by omega) (by omega)
    refine z_goto_ok (pc := 12) (tgt := 39) C.hx C.hb dL_tryShop_12 (by decide) ?_
    exact z_iret_ok (pc := 39) C dL_tryShop_39
def sp_L_tryShop : ZSp := fun as S K => as.length ≤ 6 ∧ zsp 6 zb_L_tryShop_0 as S K
theorem zm_L_tryShop (l : Launch) (hl : l.stackTraces = false) : zMetW l yL_tryShop cL_tryShop 6 (some .int) [(0, 39, 40, 15), (0, 39, 46, 17), (0, 39, 51, 19)] { frames := 8, cells := 11, slots := 66, locals := 139 } 10 60 sp_L_tryShop := zMetW_of hl (by decide +kernel) rfl ⟨rfl, rfl⟩ (fun X C hn h0 ht => zk_L_tryShop_0 C hn h0 ht)
