def zb_L_law_2620 (J : ZP) : ZP := z_inc 4 5 J
theorem zk_L_law_2620 {X : ZX} {cx sx : Nat} (C : zCx X cL_law RL ret 10 380 cx sx) (hn : X.nL = 7) {J : ZP} (hJ : ZOK X 23 J) : ZOK X 2620 (zb_L_law_2620 J) := by
  refine z_iinc_ok (pc := 2620) (i := 4) (v := 5) C.hx C.hb dL_law_2620 (by decide) (zlt hn (by decide)) ?_
  exact z_goto_ok (pc := 2623) (tgt := 23) C.hx C.hb dL_law_2623 (by decide) hJ
def zb_L_law_192 (xs : Nat → Int32) (Len : Nat) (J : ZP) : ZP := (z_ald 1 (z_ald 0 (z_ild 4 (z_push 1 (z_bin (fun x y => x + y) (z_sald xs Len (z_ald 0 (z_ild 4 (z_push 2 (z_bin (fun x y => x + y) (z_sald xs Len (z_ald 3 (z_invSm 4 sp_L_ration (z_ist 5 (z_ald 2 (z_ald 0 (z_ild 4 (z_push 1 (z_bin (fun x y => x + y) (z_sald xs Len (z_ald 0 (z_ild 4 (z_push 2 (z_bin (fun x y => x + y) (z_sald xs Len (z_invVm 8 2 sp_X8_ration (z_ist 6 (z_ald 2 (z_invV 8 0 sp_X8_thrown (z_ild 5 (z_cmp (fun x y => x = y) (z_ild 5 (z_if (fun x => x = 0) (z_ald 3 (z_push 0 (z_lald (z_ild 6 (z_i2l (z_lcmp (z_if (fun x => x = 0) (zb_L_law_2620 J) (fun _ _ _ _ => False)))))))) (zb_L_law_2620 J))) (fun _ _ _ _ => False))))))))))))))))))))))))))))))))
set_option maxRecDepth 20000 in
theorem zk_L_law_192 {X : ZX} (C : zCx X cL_law RL ret 10 380 11 66) (C2 : zCx (zXc X (X.ce + 10) (X.sl + 60)) cL_law RL ret 10 380 1 6) (hn : X.nL = 7) (hKF : ∀ n S, ¬ X.K (.inr n) S) {b Len : Nat} {xs : Nat → Int32} (hs : zscr X b Len xs) {J : ZP} (hJ : ZOK (zXc X (X.ce + 10) (X.sl + 60)) 23 J) : ZOK X 192 (zb_L_law_192 xs Len J) := by
  unfold zb_L_law_192
  refine z_aload_n_ok (pc := 192) (i := 1) C.hx C.hb dL_law_192 rfl ?_
  refine z_aload_n_ok (pc := 193) (i := 0) C.hx C.hb dL_law_193 rfl ?_
  refine z_iload_ok (pc := 194) (i := 4) C.hx C.hb dL_law_194 ?_
  refine z_iconst_ok (pc := 196) (v := 1) C.hx C.hb dL_law_196 (by decide) ?_
  refine z_iadd_ok (pc := 197) C.hx C.hb dL_law_197 ?_
  refine z_sald_ok (pc := 198) C hs dL_law_198 ?_
  refine z_aload_n_ok (pc := 199) (i := 0) C.hx C.hb dL_law_199 rfl ?_
  refine z_iload_ok (pc := 200) (i := 4) C.hx C.hb dL_law_200 ?_
  refine z_iconst_ok (pc := 202) (v := 2) C.hx C.hb dL_law_202 (by decide) ?_
  refine z_iadd_ok (pc := 203) C.hx C.hb dL_law_203 ?_
  refine z_sald_ok (pc := 204) C hs dL_law_204 ?_
  refine z_aload_n_ok (pc := 205) (i := 3) C.hx C.hb dL_law_205 rfl ?_
  refine z_invSWm_ok (pc := 206) C hKF (zm_L_ration X.l C.htr) ⟨rfl, rfl⟩ ⟨by decide, by decide⟩ (by decide) (by decide) zcl_L_129 zw_185 dL_law_206 ?_
  refine z_istore_ok (pc := 209) (i := 5) C2.hx C2.hb dL_law_209 (zlt hn (by decide)) ?_
  refine z_aload_n_ok (pc := 211) (i := 2) C2.hx C2.hb dL_law_211 rfl ?_
  refine z_aload_n_ok (pc := 212) (i := 0) C2.hx C2.hb dL_law_212 rfl ?_
  refine z_iload_ok (pc := 213) (i := 4) C2.hx C2.hb dL_law_213 ?_
  refine z_iconst_ok (pc := 215) (v := 1) C2.hx C2.hb dL_law_215 (by decide) ?_
  refine z_iadd_ok (pc := 216) C2.hx C2.hb dL_law_216 ?_
  refine z_sald_ok (pc := 217) C2 hs dL_law_217 ?_
  refine z_aload_n_ok (pc := 218) (i := 0) C2.hx C2.hb dL_law_218 rfl ?_
  refine z_iload_ok (pc := 219) (i := 4) C2.hx C2.hb dL_law_219 ?_
  refine z_iconst_ok (pc := 221) (v := 2) C2.hx C2.hb dL_law_221 (by decide) ?_
  refine z_iadd_ok (pc := 222) C2.hx C2.hb dL_law_222 ?_
  refine z_sald_ok (pc := 223) C2 hs dL_law_223 ?_
  refine z_invVLm_ok (pc := 224) C2 hKF (zm_X8_ration X.l C2.htr) ⟨rfl, rfl⟩ ⟨by decide, by decide⟩ (by decide) (by decide) zcl_L_134 zw_1005 zw_1006 zK8 dL_law_224 ?_
  refine z_istore_ok (pc := 227) (i := 6) C2.hx C2.hb dL_law_227 (zlt hn (by decide)) ?_
  refine z_aload_n_ok (pc := 229) (i := 2) C2.hx C2.hb dL_law_229 rfl ?_
  refine z_invVL_ok (pc := 230) C2 hKF (zm_X8_thrown X.l C2.htr) ⟨rfl, rfl⟩ ⟨by decide, by decide⟩ (by decide) (by decide) zcl_L_135 zw_1001 zw_1002 zK8 dL_law_230 ?_
  refine z_iload_ok (pc := 233) (i := 5) C2.hx C2.hb dL_law_233 ?_
  refine z_icmp_eq_ok (pc := 235) (tgt := 240) C2.hx C2.hb dL_law_235 (by decide) ?_ ?_
  · refine z_iload_ok (pc := 240) (i := 5) C2.hx C2.hb dL_law_240 ?_
    refine z_if_ne_ok (pc := 242) (tgt := 257) C2.hx C2.hb dL_law_242 (by decide) ?_ ?_
    · refine z_goto_ok (pc := 257) (tgt := 2620) C2.hx C2.hb dL_law_257 (by decide) ?_
      exact zk_L_law_2620 C2 hn hJ
    · refine z_aload_n_ok (pc := 245) (i := 3) C2.hx C2.hb dL_law_245 rfl ?_
      refine z_iconst_ok (pc := 246) (v := 0) C2.hx C2.hb dL_law_246 (by decide) ?_
      refine z_lald_ok (pc := 247) C2 dL_law_247 ?_
      refine z_iload_ok (pc := 248) (i := 6) C2.hx C2.hb dL_law_248 ?_
      refine z_i2l_ok (pc := 250) C2.hx C2.hb dL_law_250 ?_
      refine z_lcmp_ok (pc := 251) C2.hx C2.hb dL_law_251 ?_
      refine z_if_eq_ok (pc := 252) (tgt := 257) C2.hx C2.hb dL_law_252 (by decide) ?_ ?_
      · refine z_goto_ok (pc := 257) (tgt := 2620) C2.hx C2.hb dL_law_257 (by decide) ?_
        exact zk_L_law_2620 C2 hn hJ
      · exact fun _ _ _ _ _ _ _ h => False.elim h
  · exact fun _ _ _ _ _ _ _ h => False.elim h
def zb_L_law_260 (xs : Nat → Int32) (Len : Nat) (J : ZP) : ZP := (z_ald 1 (z_ald 0 (z_ild 4 (z_push 1 (z_bin (fun x y => x + y) (z_sald xs Len (z_ald 0 (z_ild 4 (z_push 2 (z_bin (fun x y => x + y) (z_sald xs Len (z_ald 3 (z_invSm 4 sp_L_onPoints (z_ist 5 (z_ald 2 (z_ald 0 (z_ild 4 (z_push 1 (z_bin (fun x y => x + y) (z_sald xs Len (z_ald 0 (z_ild 4 (z_push 2 (z_bin (fun x y => x + y) (z_sald xs Len (z_invVm 8 2 sp_X8_onPoints (z_ist 6 (z_ald 2 (z_invV 8 0 sp_X8_thrown (z_ild 5 (z_cmp (fun x y => x = y) (z_ild 5 (z_if (fun x => x = 0) (z_ald 3 (z_push 0 (z_lald (z_ild 6 (z_i2l (z_lcmp (z_if (fun x => x = 0) (zb_L_law_2620 J) (fun _ _ _ _ => False)))))))) (zb_L_law_2620 J))) (fun _ _ _ _ => False))))))))))))))))))))))))))))))))
set_option maxRecDepth 20000 in
theorem zk_L_law_260 {X : ZX} (C : zCx X cL_law RL ret 10 380 11 66) (C2 : zCx (zXc X (X.ce + 10) (X.sl + 60)) cL_law RL ret 10 380 1 6) (hn : X.nL = 7) (hKF : ∀ n S, ¬ X.K (.inr n) S) {b Len : Nat} {xs : Nat → Int32} (hs : zscr X b Len xs) {J : ZP} (hJ : ZOK (zXc X (X.ce + 10) (X.sl + 60)) 23 J) : ZOK X 260 (zb_L_law_260 xs Len J) := by
  unfold zb_L_law_260
  refine z_aload_n_ok (pc := 260) (i := 1) C.hx C.hb dL_law_260 rfl ?_
  refine z_aload_n_ok (pc := 261) (i := 0) C.hx C.hb dL_law_261 rfl ?_
  refine z_iload_ok (pc := 262) (i := 4) C.hx C.hb dL_law_262 ?_
  refine z_iconst_ok (pc := 264) (v := 1) C.hx C.hb dL_law_264 (by decide) ?_
  refine z_iadd_ok (pc := 265) C.hx C.hb dL_law_265 ?_
  refine z_sald_ok (pc := 266) C hs dL_law_266 ?_
  refine z_aload_n_ok (pc := 267) (i := 0) C.hx C.hb dL_law_267 rfl ?_
  refine z_iload_ok (pc := 268) (i := 4) C.hx C.hb dL_law_268 ?_
  refine z_iconst_ok (pc := 270) (v := 2) C.hx C.hb dL_law_270 (by decide) ?_
  refine z_iadd_ok (pc := 271) C.hx C.hb dL_law_271 ?_
  refine z_sald_ok (pc := 272) C hs dL_law_272 ?_
  refine z_aload_n_ok (pc := 273) (i := 3) C.hx C.hb dL_law_273 rfl ?_
  refine z_invSWm_ok (pc := 274) C hKF (zm_L_onPoints X.l C.htr) ⟨rfl, rfl⟩ ⟨by decide, by decide⟩ (by decide) (by decide) zcl_L_138 zw_288 dL_law_274 ?_
  refine z_istore_ok (pc := 277) (i := 5) C2.hx C2.hb dL_law_277 (zlt hn (by decide)) ?_
  refine z_aload_n_ok (pc := 279) (i := 2) C2.hx C2.hb dL_law_279 rfl ?_
  refine z_aload_n_ok (pc := 280) (i := 0) C2.hx C2.hb dL_law_280 rfl ?_
  refine z_iload_ok (pc := 281) (i := 4) C2.hx C2.hb dL_law_281 ?_
  refine z_iconst_ok (pc := 283) (v := 1) C2.hx C2.hb dL_law_283 (by decide) ?_
  refine z_iadd_ok (pc := 284) C2.hx C2.hb dL_law_284 ?_
  refine z_sald_ok (pc := 285) C2 hs dL_law_285 ?_
  refine z_aload_n_ok (pc := 286) (i := 0) C2.hx C2.hb dL_law_286 rfl ?_
  refine z_iload_ok (pc := 287) (i := 4) C2.hx C2.hb dL_law_287 ?_
  refine z_iconst_ok (pc := 289) (v := 2) C2.hx C2.hb dL_law_289 (by decide) ?_
  refine z_iadd_ok (pc := 290) C2.hx C2.hb dL_law_290 ?_
  refine z_sald_ok (pc := 291) C2 hs dL_law_291 ?_
  refine z_invVLm_ok (pc := 292) C2 hKF (zm_X8_onPoints X.l C2.htr) ⟨rfl, rfl⟩ ⟨by decide, by decide⟩ (by decide) (by decide) zcl_L_140 zw_1019 zw_1020 zK8 dL_law_292 ?_
  refine z_istore_ok (pc := 295) (i := 6) C2.hx C2.hb dL_law_295 (zlt hn (by decide)) ?_
  refine z_aload_n_ok (pc := 297) (i := 2) C2.hx C2.hb dL_law_297 rfl ?_
  refine z_invVL_ok (pc := 298) C2 hKF (zm_X8_thrown X.l C2.htr) ⟨rfl, rfl⟩ ⟨by decide, by decide⟩ (by decide) (by decide) zcl_L_135 zw_1001 zw_1002 zK8 dL_law_298 ?_
  refine z_iload_ok (pc := 301) (i := 5) C2.hx C2.hb dL_law_301 ?_
  refine z_icmp_eq_ok (pc := 303) (tgt := 308) C2.hx C2.hb dL_law_303 (by decide) ?_ ?_
  · refine z_iload_ok (pc := 308) (i := 5) C2.hx C2.hb dL_law_308 ?_
    refine z_if_ne_ok (pc := 310) (tgt := 325) C2.hx C2.hb dL_law_310 (by decide) ?_ ?_
    · refine z_goto_ok (pc := 325) (tgt := 2620) C2.hx C2.hb dL_law_325 (by decide) ?_
      exact zk_L_law_2620 C2 hn hJ
    · refine z_aload_n_ok (pc := 313) (i := 3) C2.hx C2.hb dL_law_313 rfl ?_
      refine z_iconst_ok (pc := 314) (v := 0) C2.hx C2.hb dL_law_314 (by decide) ?_
      refine z_lald_ok (pc := 315) C2 dL_law_315 ?_
      refine z_iload_ok (pc := 316) (i := 6) C2.hx C2.hb dL_law_316 ?_
      refine z_i2l_ok (pc := 318) C2.hx C2.hb dL_law_318 ?_
      refine z_lcmp_ok (pc := 319) C2.hx C2.hb dL_law_319 ?_
      refine z_if_eq_ok (pc := 320) (tgt := 325) C2.hx C2.hb dL_law_320 (by decide) ?_ ?_
      · refine z_goto_ok (pc := 325) (tgt := 2620) C2.hx C2.hb dL_law_325 (by decide) ?_
        exact zk_L_law_2620 C2 hn hJ
      · exact fun _ _ _ _ _ _ _ h => False.elim h
  · exact fun _ _ _ _ _ _ _ h => False.elim h
def zb_L_law_328 (xs : Nat → Int32) (Len : Nat) (J : ZP) : ZP := (z_ald 1 (z_ald 0 (z_ild 4 (z_push 1 (z_bin (fun x y => x + y) (z_sald xs Len (z_ald 3 (z_invSm 3 sp_L_free (z_ist 5 (z_ald 2 (z_ald 0 (z_ild 4 (z_push 1 (z_bin (fun x y => x + y) (z_sald xs Len (z_invVm 8 1 sp_X8_free (z_ist 6 (z_ald 2 (z_invV 8 0 sp_X8_thrown (z_ild 5 (z_cmp (fun x y => x = y) (z_ild 5 (z_if (fun x => x = 0) (z_ald 3 (z_push 0 (z_lald (z_ild 6 (z_i2l (z_lcmp (z_if (fun x => x = 0) (zb_L_law_2620 J) (fun _ _ _ _ => False)))))))) (zb_L_law_2620 J))) (fun _ _ _ _ => False))))))))))))))))))))))
set_option maxRecDepth 20000 in
theorem zk_L_law_328 {X : ZX} (C : zCx X cL_law RL ret 10 380 11 66) (C2 : zCx (zXc X (X.ce + 10) (X.sl + 60)) cL_law RL ret 10 380 1 6) (hn : X.nL = 7) (hKF : ∀ n S, ¬ X.K (.inr n) S) {b Len : Nat} {xs : Nat → Int32} (hs : zscr X b Len xs) {J : ZP} (hJ : ZOK (zXc X (X.ce + 10) (X.sl + 60)) 23 J) : ZOK X 328 (zb_L_law_328 xs Len J) := by
  unfold zb_L_law_328
  refine z_aload_n_ok (pc := 328) (i := 1) C.hx C.hb dL_law_328 rfl ?_
  refine z_aload_n_ok (pc := 329) (i := 0) C.hx C.hb dL_law_329 rfl ?_
  refine z_iload_ok (pc := 330) (i := 4) C.hx C.hb dL_law_330 ?_
  refine z_iconst_ok (pc := 332) (v := 1) C.hx C.hb dL_law_332 (by decide) ?_
  refine z_iadd_ok (pc := 333) C.hx C.hb dL_law_333 ?_
  refine z_sald_ok (pc := 334) C hs dL_law_334 ?_
  refine z_aload_n_ok (pc := 335) (i := 3) C.hx C.hb dL_law_335 rfl ?_
  refine z_invSWm_ok (pc := 336) C hKF (zm_L_free X.l C.htr) ⟨rfl, rfl⟩ ⟨by decide, by decide⟩ (by decide) (by decide) zcl_L_141 zw_295 dL_law_336 ?_
  refine z_istore_ok (pc := 339) (i := 5) C2.hx C2.hb dL_law_339 (zlt hn (by decide)) ?_
  refine z_aload_n_ok (pc := 341) (i := 2) C2.hx C2.hb dL_law_341 rfl ?_
  refine z_aload_n_ok (pc := 342) (i := 0) C2.hx C2.hb dL_law_342 rfl ?_
  refine z_iload_ok (pc := 343) (i := 4) C2.hx C2.hb dL_law_343 ?_
  refine z_iconst_ok (pc := 345) (v := 1) C2.hx C2.hb dL_law_345 (by decide) ?_
  refine z_iadd_ok (pc := 346) C2.hx C2.hb dL_law_346 ?_
  refine z_sald_ok (pc := 347) C2 hs dL_law_347 ?_
  refine z_invVLm_ok (pc := 348) C2 hKF (zm_X8_free X.l C2.htr) ⟨rfl, rfl⟩ ⟨by decide, by decide⟩ (by decide) (by decide) zcl_L_144 zw_1023 zw_1024 zK8 dL_law_348 ?_
  refine z_istore_ok (pc := 351) (i := 6) C2.hx C2.hb dL_law_351 (zlt hn (by decide)) ?_
  refine z_aload_n_ok (pc := 353) (i := 2) C2.hx C2.hb dL_law_353 rfl ?_
  refine z_invVL_ok (pc := 354) C2 hKF (zm_X8_thrown X.l C2.htr) ⟨rfl, rfl⟩ ⟨by decide, by decide⟩ (by decide) (by decide) zcl_L_135 zw_1001 zw_1002 zK8 dL_law_354 ?_
  refine z_iload_ok (pc := 357) (i := 5) C2.hx C2.hb dL_law_357 ?_
  refine z_icmp_eq_ok (pc := 359) (tgt := 364) C2.hx C2.hb dL_law_359 (by decide) ?_ ?_
  · refine z_iload_ok (pc := 364) (i := 5) C2.hx C2.hb dL_law_364 ?_
    refine z_if_ne_ok (pc := 366) (tgt := 381) C2.hx C2.hb dL_law_366 (by decide) ?_ ?_
    · refine z_goto_ok (pc := 381) (tgt := 2620) C2.hx C2.hb dL_law_381 (by decide) ?_
      exact zk_L_law_2620 C2 hn hJ
    · refine z_aload_n_ok (pc := 369) (i := 3) C2.hx C2.hb dL_law_369 rfl ?_
      refine z_iconst_ok (pc := 370) (v := 0) C2.hx C2.hb dL_law_370 (by decide) ?_
      refine z_lald_ok (pc := 371) C2 dL_law_371 ?_
      refine z_iload_ok (pc := 372) (i := 6) C2.hx C2.hb dL_law_372 ?_
      refine z_i2l_ok (pc := 374) C2.hx C2.hb dL_law_374 ?_
      refine z_lcmp_ok (pc := 375) C2.hx C2.hb dL_law_375 ?_
      refine z_if_eq_ok (pc := 376) (tgt := 381) C2.hx C2.hb dL_law_376 (by decide) ?_ ?_
      · refine z_goto_ok (pc := 381) (tgt := 2620) C2.hx C2.hb dL_law_381 (by decide) ?_
        exact zk_L_law_2620 C2 hn hJ
      · exact fun _ _ _ _ _ _ _ h => False.elim h
  · exact fun _ _ _ _ _ _ _ h => False.elim h
def zb_L_law_384 (xs : Nat → Int32) (Len : Nat) (J : ZP) : ZP := (z_ald 1 (z_ald 0 (z_ild 4 (z_push 1 (z_bin (fun x y => x + y) (z_sald xs Len (z_ald 0 (z_ild 4 (z_push 2 (z_bin (fun x y => x + y) (z_sald xs Len (z_ald 3 (z_invSm 4 sp_L_energy (z_ist 5 (z_ald 2 (z_ald 0 (z_ild 4 (z_push 1 (z_bin (fun x y => x + y) (z_sald xs Len (z_ald 0 (z_ild 4 (z_push 2 (z_bin (fun x y => x + y) (z_sald xs Len (z_invVm 8 2 sp_X8_energy (z_ist 6 (z_ald 2 (z_invV 8 0 sp_X8_thrown (z_ild 5 (z_cmp (fun x y => x = y) (z_ild 5 (z_if (fun x => x = 0) (z_ald 3 (z_push 0 (z_lald (z_ild 6 (z_i2l (z_lcmp (z_if (fun x => x = 0) (zb_L_law_2620 J) (fun _ _ _ _ => False)))))))) (zb_L_law_2620 J))) (fun _ _ _ _ => False))))))))))))))))))))))))))))))))
set_option maxRecDepth 20000 in
theorem zk_L_law_384 {X : ZX} (C : zCx X cL_law RL ret 10 380 11 66) (C2 : zCx (zXc X (X.ce + 10) (X.sl + 60)) cL_law RL ret 10 380 1 6) (hn : X.nL = 7) (hKF : ∀ n S, ¬ X.K (.inr n) S) {b Len : Nat} {xs : Nat → Int32} (hs : zscr X b Len xs) {J : ZP} (hJ : ZOK (zXc X (X.ce + 10) (X.sl + 60)) 23 J) : ZOK X 384 (zb_L_law_384 xs Len J) := by
  unfold zb_L_law_384
  refine z_aload_n_ok (pc := 384) (i := 1) C.hx C.hb dL_law_384 rfl ?_
  refine z_aload_n_ok (pc := 385) (i := 0) C.hx C.hb dL_law_385 rfl ?_
  refine z_iload_ok (pc := 386) (i := 4) C.hx C.hb dL_law_386 ?_
  refine z_iconst_ok (pc := 388) (v := 1) C.hx C.hb dL_law_388 (by decide) ?_
  refine z_iadd_ok (pc := 389) C.hx C.hb dL_law_389 ?_
  refine z_sald_ok (pc := 390) C hs dL_law_390 ?_
  refine z_aload_n_ok (pc := 391) (i := 0) C.hx C.hb dL_law_391 rfl ?_
  refine z_iload_ok (pc := 392) (i := 4) C.hx C.hb dL_law_392 ?_
  refine z_iconst_ok (pc := 394) (v := 2) C.hx C.hb dL_law_394 (by decide) ?_
  refine z_iadd_ok (pc := 395) C.hx C.hb dL_law_395 ?_
  refine z_sald_ok (pc := 396) C hs dL_law_396 ?_
  refine z_aload_n_ok (pc := 397) (i := 3) C.hx C.hb dL_law_397 rfl ?_
  refine z_invSWm_ok (pc := 398) C hKF (zm_L_energy X.l C.htr) ⟨rfl, rfl⟩ ⟨by decide, by decide⟩ (by decide) (by decide) zcl_L_145 zw_302 dL_law_398 ?_
  refine z_istore_ok (pc := 401) (i := 5) C2.hx C2.hb dL_law_401 (zlt hn (by decide)) ?_
  refine z_aload_n_ok (pc := 403) (i := 2) C2.hx C2.hb dL_law_403 rfl ?_
  refine z_aload_n_ok (pc := 404) (i := 0) C2.hx C2.hb dL_law_404 rfl ?_
  refine z_iload_ok (pc := 405) (i := 4) C2.hx C2.hb dL_law_405 ?_
  refine z_iconst_ok (pc := 407) (v := 1) C2.hx C2.hb dL_law_407 (by decide) ?_
  refine z_iadd_ok (pc := 408) C2.hx C2.hb dL_law_408 ?_
  refine z_sald_ok (pc := 409) C2 hs dL_law_409 ?_
  refine z_aload_n_ok (pc := 410) (i := 0) C2.hx C2.hb dL_law_410 rfl ?_
  refine z_iload_ok (pc := 411) (i := 4) C2.hx C2.hb dL_law_411 ?_
  refine z_iconst_ok (pc := 413) (v := 2) C2.hx C2.hb dL_law_413 (by decide) ?_
  refine z_iadd_ok (pc := 414) C2.hx C2.hb dL_law_414 ?_
  refine z_sald_ok (pc := 415) C2 hs dL_law_415 ?_
  refine z_invVLm_ok (pc := 416) C2 hKF (zm_X8_energy X.l C2.htr) ⟨rfl, rfl⟩ ⟨by decide, by decide⟩ (by decide) (by decide) zcl_L_147 zw_1027 zw_1028 zK8 dL_law_416 ?_
  refine z_istore_ok (pc := 419) (i := 6) C2.hx C2.hb dL_law_419 (zlt hn (by decide)) ?_
  refine z_aload_n_ok (pc := 421) (i := 2) C2.hx C2.hb dL_law_421 rfl ?_
  refine z_invVL_ok (pc := 422) C2 hKF (zm_X8_thrown X.l C2.htr) ⟨rfl, rfl⟩ ⟨by decide, by decide⟩ (by decide) (by decide) zcl_L_135 zw_1001 zw_1002 zK8 dL_law_422 ?_
  refine z_iload_ok (pc := 425) (i := 5) C2.hx C2.hb dL_law_425 ?_
  refine z_icmp_eq_ok (pc := 427) (tgt := 432) C2.hx C2.hb dL_law_427 (by decide) ?_ ?_
  · refine z_iload_ok (pc := 432) (i := 5) C2.hx C2.hb dL_law_432 ?_
    refine z_if_ne_ok (pc := 434) (tgt := 449) C2.hx C2.hb dL_law_434 (by decide) ?_ ?_
    · refine z_goto_ok (pc := 449) (tgt := 2620) C2.hx C2.hb dL_law_449 (by decide) ?_
      exact zk_L_law_2620 C2 hn hJ
    · refine z_aload_n_ok (pc := 437) (i := 3) C2.hx C2.hb dL_law_437 rfl ?_
      refine z_iconst_ok (pc := 438) (v := 0) C2.hx C2.hb dL_law_438 (by decide) ?_
      refine z_lald_ok (pc := 439) C2 dL_law_439 ?_
      refine z_iload_ok (pc := 440) (i := 6) C2.hx C2.hb dL_law_440 ?_
      refine z_i2l_ok (pc := 442) C2.hx C2.hb dL_law_442 ?_
      refine z_lcmp_ok (pc := 443) C2.hx C2.hb dL_law_443 ?_
      refine z_if_eq_ok (pc := 444) (tgt := 449) C2.hx C2.hb dL_law_444 (by decide) ?_ ?_
      · refine z_goto_ok (pc := 449) (tgt := 2620) C2.hx C2.hb dL_law_449 (by decide) ?_
        exact zk_L_law_2620 C2 hn hJ
      · exact fun _ _ _ _ _ _ _ h => False.elim h
  · exact fun _ _ _ _ _ _ _ h => False.elim h
def zb_L_law_452 (xs : Nat → Int32) (Len : Nat) (J : ZP) : ZP := (z_ald 1 (z_ald 0 (z_ild 4 (z_push 1 (z_bin (fun x y => x + y) (z_sald xs Len (z_ald 0 (z_ild 4 (z_push 2 (z_bin (fun x y => x + y) (z_sald xs Len (z_ald 3 (z_invSm 4 sp_L_points (z_ist 5 (z_ald 2 (z_ald 0 (z_ild 4 (z_push 1 (z_bin (fun x y => x + y) (z_sald xs Len (z_ald 0 (z_ild 4 (z_push 2 (z_bin (fun x y => x + y) (z_sald xs Len (z_invVm 8 2 sp_X8_points (z_ist 6 (z_ald 2 (z_invV 8 0 sp_X8_thrown (z_ild 5 (z_cmp (fun x y => x = y) (z_ild 5 (z_if (fun x => x = 0) (z_ald 3 (z_push 0 (z_lald (z_ild 6 (z_i2l (z_lcmp (z_if (fun x => x = 0) (zb_L_law_2620 J) (fun _ _ _ _ => False)))))))) (zb_L_law_2620 J))) (fun _ _ _ _ => False))))))))))))))))))))))))))))))))
set_option maxRecDepth 20000 in
theorem zk_L_law_452 {X : ZX} (C : zCx X cL_law RL ret 10 380 11 66) (C2 : zCx (zXc X (X.ce + 10) (X.sl + 60)) cL_law RL ret 10 380 1 6) (hn : X.nL = 7) (hKF : ∀ n S, ¬ X.K (.inr n) S) {b Len : Nat} {xs : Nat → Int32} (hs : zscr X b Len xs) {J : ZP} (hJ : ZOK (zXc X (X.ce + 10) (X.sl + 60)) 23 J) : ZOK X 452 (zb_L_law_452 xs Len J) := by
  unfold zb_L_law_452
  refine z_aload_n_ok (pc := 452) (i := 1) C.hx C.hb dL_law_452 rfl ?_
  refine z_aload_n_ok (pc := 453) (i := 0) C.hx C.hb dL_law_453 rfl ?_
  refine z_iload_ok (pc := 454) (i := 4) C.hx C.hb dL_law_454 ?_
  refine z_iconst_ok (pc := 456) (v := 1) C.hx C.hb dL_law_456 (by decide) ?_
  refine z_iadd_ok (pc := 457) C.hx C.hb dL_law_457 ?_
  refine z_sald_ok (pc := 458) C hs dL_law_458 ?_
  refine z_aload_n_ok (pc := 459) (i := 0) C.hx C.hb dL_law_459 rfl ?_
  refine z_iload_ok (pc := 460) (i := 4) C.hx C.hb dL_law_460 ?_
  refine z_iconst_ok (pc := 462) (v := 2) C.hx C.hb dL_law_462 (by decide) ?_
  refine z_iadd_ok (pc := 463) C.hx C.hb dL_law_463 ?_
  refine z_sald_ok (pc := 464) C hs dL_law_464 ?_
  refine z_aload_n_ok (pc := 465) (i := 3) C.hx C.hb dL_law_465 rfl ?_
  refine z_invSWm_ok (pc := 466) C hKF (zm_L_points X.l C.htr) ⟨rfl, rfl⟩ ⟨by decide, by decide⟩ (by decide) (by decide) zcl_L_148 zw_309 dL_law_466 ?_
  refine z_istore_ok (pc := 469) (i := 5) C2.hx C2.hb dL_law_469 (zlt hn (by decide)) ?_
  refine z_aload_n_ok (pc := 471) (i := 2) C2.hx C2.hb dL_law_471 rfl ?_
  refine z_aload_n_ok (pc := 472) (i := 0) C2.hx C2.hb dL_law_472 rfl ?_
  refine z_iload_ok (pc := 473) (i := 4) C2.hx C2.hb dL_law_473 ?_
  refine z_iconst_ok (pc := 475) (v := 1) C2.hx C2.hb dL_law_475 (by decide) ?_
  refine z_iadd_ok (pc := 476) C2.hx C2.hb dL_law_476 ?_
  refine z_sald_ok (pc := 477) C2 hs dL_law_477 ?_
  refine z_aload_n_ok (pc := 478) (i := 0) C2.hx C2.hb dL_law_478 rfl ?_
  refine z_iload_ok (pc := 479) (i := 4) C2.hx C2.hb dL_law_479 ?_
  refine z_iconst_ok (pc := 481) (v := 2) C2.hx C2.hb dL_law_481 (by decide) ?_
  refine z_iadd_ok (pc := 482) C2.hx C2.hb dL_law_482 ?_
  refine z_sald_ok (pc := 483) C2 hs dL_law_483 ?_
  refine z_invVLm_ok (pc := 484) C2 hKF (zm_X8_points X.l C2.htr) ⟨rfl, rfl⟩ ⟨by decide, by decide⟩ (by decide) (by decide) zcl_L_150 zw_1031 zw_1032 zK8 dL_law_484 ?_
  refine z_istore_ok (pc := 487) (i := 6) C2.hx C2.hb dL_law_487 (zlt hn (by decide)) ?_
  refine z_aload_n_ok (pc := 489) (i := 2) C2.hx C2.hb dL_law_489 rfl ?_
  refine z_invVL_ok (pc := 490) C2 hKF (zm_X8_thrown X.l C2.htr) ⟨rfl, rfl⟩ ⟨by decide, by decide⟩ (by decide) (by decide) zcl_L_135 zw_1001 zw_1002 zK8 dL_law_490 ?_
  refine z_iload_ok (pc := 493) (i := 5) C2.hx C2.hb dL_law_493 ?_
  refine z_icmp_eq_ok (pc := 495) (tgt := 500) C2.hx C2.hb dL_law_495 (by decide) ?_ ?_
  · refine z_iload_ok (pc := 500) (i := 5) C2.hx C2.hb dL_law_500 ?_
    refine z_if_ne_ok (pc := 502) (tgt := 517) C2.hx C2.hb dL_law_502 (by decide) ?_ ?_
    · refine z_goto_ok (pc := 517) (tgt := 2620) C2.hx C2.hb dL_law_517 (by decide) ?_
      exact zk_L_law_2620 C2 hn hJ
    · refine z_aload_n_ok (pc := 505) (i := 3) C2.hx C2.hb dL_law_505 rfl ?_
      refine z_iconst_ok (pc := 506) (v := 0) C2.hx C2.hb dL_law_506 (by decide) ?_
      refine z_lald_ok (pc := 507) C2 dL_law_507 ?_
      refine z_iload_ok (pc := 508) (i := 6) C2.hx C2.hb dL_law_508 ?_
      refine z_i2l_ok (pc := 510) C2.hx C2.hb dL_law_510 ?_
      refine z_lcmp_ok (pc := 511) C2.hx C2.hb dL_law_511 ?_
      refine z_if_eq_ok (pc := 512) (tgt := 517) C2.hx C2.hb dL_law_512 (by decide) ?_ ?_
      · refine z_goto_ok (pc := 517) (tgt := 2620) C2.hx C2.hb dL_law_517 (by decide) ?_
        exact zk_L_law_2620 C2 hn hJ
      · exact fun _ _ _ _ _ _ _ h => False.elim h
  · exact fun _ _ _ _ _ _ _ h => False.elim h
def zb_L_law_520 (xs : Nat → Int32) (Len : Nat) (J : ZP) : ZP := (z_ald 1 (z_ald 0 (z_ild 4 (z_push 1 (z_bin (fun x y => x + y) (z_sald xs Len (z_ald 0 (z_ild 4 (z_push 2 (z_bin (fun x y => x + y) (z_sald xs Len (z_ald 3 (z_invSm 4 sp_L_goodIs (z_ist 5 (z_ald 2 (z_ald 0 (z_ild 4 (z_push 1 (z_bin (fun x y => x + y) (z_sald xs Len (z_ald 0 (z_ild 4 (z_push 2 (z_bin (fun x y => x + y) (z_sald xs Len (z_invVm 8 2 sp_X8_goodIs (z_ist 6 (z_ald 2 (z_invV 8 0 sp_X8_thrown (z_ild 5 (z_cmp (fun x y => x = y) (z_ild 5 (z_if (fun x => x = 0) (z_ald 3 (z_push 0 (z_lald (z_ild 6 (z_i2l (z_lcmp (z_if (fun x => x = 0) (zb_L_law_2620 J) (fun _ _ _ _ => False)))))))) (zb_L_law_2620 J))) (fun _ _ _ _ => False))))))))))))))))))))))))))))))))
set_option maxRecDepth 20000 in
theorem zk_L_law_520 {X : ZX} (C : zCx X cL_law RL ret 10 380 11 66) (C2 : zCx (zXc X (X.ce + 10) (X.sl + 60)) cL_law RL ret 10 380 1 6) (hn : X.nL = 7) (hKF : ∀ n S, ¬ X.K (.inr n) S) {b Len : Nat} {xs : Nat → Int32} (hs : zscr X b Len xs) {J : ZP} (hJ : ZOK (zXc X (X.ce + 10) (X.sl + 60)) 23 J) : ZOK X 520 (zb_L_law_520 xs Len J) := by
  unfold zb_L_law_520
  refine z_aload_n_ok (pc := 520) (i := 1) C.hx C.hb dL_law_520 rfl ?_
  refine z_aload_n_ok (pc := 521) (i := 0) C.hx C.hb dL_law_521 rfl ?_
  refine z_iload_ok (pc := 522) (i := 4) C.hx C.hb dL_law_522 ?_
  refine z_iconst_ok (pc := 524) (v := 1) C.hx C.hb dL_law_524 (by decide) ?_
  refine z_iadd_ok (pc := 525) C.hx C.hb dL_law_525 ?_
  refine z_sald_ok (pc := 526) C hs dL_law_526 ?_
  refine z_aload_n_ok (pc := 527) (i := 0) C.hx C.hb dL_law_527 rfl ?_
  refine z_iload_ok (pc := 528) (i := 4) C.hx C.hb dL_law_528 ?_
  refine z_iconst_ok (pc := 530) (v := 2) C.hx C.hb dL_law_530 (by decide) ?_
  refine z_iadd_ok (pc := 531) C.hx C.hb dL_law_531 ?_
  refine z_sald_ok (pc := 532) C hs dL_law_532 ?_
  refine z_aload_n_ok (pc := 533) (i := 3) C.hx C.hb dL_law_533 rfl ?_
  refine z_invSWm_ok (pc := 534) C hKF (zm_L_goodIs X.l C.htr) ⟨rfl, rfl⟩ ⟨by decide, by decide⟩ (by decide) (by decide) zcl_L_151 zw_316 dL_law_534 ?_
  refine z_istore_ok (pc := 537) (i := 5) C2.hx C2.hb dL_law_537 (zlt hn (by decide)) ?_
  refine z_aload_n_ok (pc := 539) (i := 2) C2.hx C2.hb dL_law_539 rfl ?_
  refine z_aload_n_ok (pc := 540) (i := 0) C2.hx C2.hb dL_law_540 rfl ?_
  refine z_iload_ok (pc := 541) (i := 4) C2.hx C2.hb dL_law_541 ?_
  refine z_iconst_ok (pc := 543) (v := 1) C2.hx C2.hb dL_law_543 (by decide) ?_
  refine z_iadd_ok (pc := 544) C2.hx C2.hb dL_law_544 ?_
  refine z_sald_ok (pc := 545) C2 hs dL_law_545 ?_
  refine z_aload_n_ok (pc := 546) (i := 0) C2.hx C2.hb dL_law_546 rfl ?_
  refine z_iload_ok (pc := 547) (i := 4) C2.hx C2.hb dL_law_547 ?_
  refine z_iconst_ok (pc := 549) (v := 2) C2.hx C2.hb dL_law_549 (by decide) ?_
  refine z_iadd_ok (pc := 550) C2.hx C2.hb dL_law_550 ?_
  refine z_sald_ok (pc := 551) C2 hs dL_law_551 ?_
  refine z_invVLm_ok (pc := 552) C2 hKF (zm_X8_goodIs X.l C2.htr) ⟨rfl, rfl⟩ ⟨by decide, by decide⟩ (by decide) (by decide) zcl_L_153 zw_1035 zw_1036 zK8 dL_law_552 ?_
  refine z_istore_ok (pc := 555) (i := 6) C2.hx C2.hb dL_law_555 (zlt hn (by decide)) ?_
  refine z_aload_n_ok (pc := 557) (i := 2) C2.hx C2.hb dL_law_557 rfl ?_
  refine z_invVL_ok (pc := 558) C2 hKF (zm_X8_thrown X.l C2.htr) ⟨rfl, rfl⟩ ⟨by decide, by decide⟩ (by decide) (by decide) zcl_L_135 zw_1001 zw_1002 zK8 dL_law_558 ?_
  refine z_iload_ok (pc := 561) (i := 5) C2.hx C2.hb dL_law_561 ?_
  refine z_icmp_eq_ok (pc := 563) (tgt := 568) C2.hx C2.hb dL_law_563 (by decide) ?_ ?_
  · refine z_iload_ok (pc := 568) (i := 5) C2.hx C2.hb dL_law_568 ?_
    refine z_if_ne_ok (pc := 570) (tgt := 585) C2.hx C2.hb dL_law_570 (by decide) ?_ ?_
    · refine z_goto_ok (pc := 585) (tgt := 2620) C2.hx C2.hb dL_law_585 (by decide) ?_
      exact zk_L_law_2620 C2 hn hJ
    · refine z_aload_n_ok (pc := 573) (i := 3) C2.hx C2.hb dL_law_573 rfl ?_
      refine z_iconst_ok (pc := 574) (v := 0) C2.hx C2.hb dL_law_574 (by decide) ?_
      refine z_lald_ok (pc := 575) C2 dL_law_575 ?_
      refine z_iload_ok (pc := 576) (i := 6) C2.hx C2.hb dL_law_576 ?_
      refine z_i2l_ok (pc := 578) C2.hx C2.hb dL_law_578 ?_
      refine z_lcmp_ok (pc := 579) C2.hx C2.hb dL_law_579 ?_
      refine z_if_eq_ok (pc := 580) (tgt := 585) C2.hx C2.hb dL_law_580 (by decide) ?_ ?_
      · refine z_goto_ok (pc := 585) (tgt := 2620) C2.hx C2.hb dL_law_585 (by decide) ?_
        exact zk_L_law_2620 C2 hn hJ
      · exact fun _ _ _ _ _ _ _ h => False.elim h
  · exact fun _ _ _ _ _ _ _ h => False.elim h
def zb_L_law_588 (xs : Nat → Int32) (Len : Nat) (J : ZP) : ZP := (z_ald 1 (z_ald 0 (z_ild 4 (z_push 1 (z_bin (fun x y => x + y) (z_sald xs Len (z_ald 0 (z_ild 4 (z_push 2 (z_bin (fun x y => x + y) (z_sald xs Len (z_ald 3 (z_invSm 4 sp_L_person (z_ist 5 (z_ald 2 (z_ald 0 (z_ild 4 (z_push 1 (z_bin (fun x y => x + y) (z_sald xs Len (z_ald 0 (z_ild 4 (z_push 2 (z_bin (fun x y => x + y) (z_sald xs Len (z_invVm 8 2 sp_X8_person (z_ist 6 (z_ald 2 (z_invV 8 0 sp_X8_thrown (z_ild 5 (z_cmp (fun x y => x = y) (z_ild 5 (z_if (fun x => x = 0) (z_ald 3 (z_push 0 (z_lald (z_ild 6 (z_i2l (z_lcmp (z_if (fun x => x = 0) (zb_L_law_2620 J) (fun _ _ _ _ => False)))))))) (zb_L_law_2620 J))) (fun _ _ _ _ => False))))))))))))))))))))))))))))))))
set_option maxRecDepth 20000 in
theorem zk_L_law_588 {X : ZX} (C : zCx X cL_law RL ret 10 380 11 66) (C2 : zCx (zXc X (X.ce + 10) (X.sl + 60)) cL_law RL ret 10 380 1 6) (hn : X.nL = 7) (hKF : ∀ n S, ¬ X.K (.inr n) S) {b Len : Nat} {xs : Nat → Int32} (hs : zscr X b Len xs) {J : ZP} (hJ : ZOK (zXc X (X.ce + 10) (X.sl + 60)) 23 J) : ZOK X 588 (zb_L_law_588 xs Len J) := by
  unfold zb_L_law_588
  refine z_aload_n_ok (pc := 588) (i := 1) C.hx C.hb dL_law_588 rfl ?_
  refine z_aload_n_ok (pc := 589) (i := 0) C.hx C.hb dL_law_589 rfl ?_
  refine z_iload_ok (pc := 590) (i := 4) C.hx C.hb dL_law_590 ?_
  refine z_iconst_ok (pc := 592) (v := 1) C.hx C.hb dL_law_592 (by decide) ?_
  refine z_iadd_ok (pc := 593) C.hx C.hb dL_law_593 ?_
  refine z_sald_ok (pc := 594) C hs dL_law_594 ?_
  refine z_aload_n_ok (pc := 595) (i := 0) C.hx C.hb dL_law_595 rfl ?_
  refine z_iload_ok (pc := 596) (i := 4) C.hx C.hb dL_law_596 ?_
  refine z_iconst_ok (pc := 598) (v := 2) C.hx C.hb dL_law_598 (by decide) ?_
  refine z_iadd_ok (pc := 599) C.hx C.hb dL_law_599 ?_
  refine z_sald_ok (pc := 600) C hs dL_law_600 ?_
  refine z_aload_n_ok (pc := 601) (i := 3) C.hx C.hb dL_law_601 rfl ?_
  refine z_invSWm_ok (pc := 602) C hKF (zm_L_person X.l C.htr) ⟨rfl, rfl⟩ ⟨by decide, by decide⟩ (by decide) (by decide) zcl_L_154 zw_327 dL_law_602 ?_
  refine z_istore_ok (pc := 605) (i := 5) C2.hx C2.hb dL_law_605 (zlt hn (by decide)) ?_
  refine z_aload_n_ok (pc := 607) (i := 2) C2.hx C2.hb dL_law_607 rfl ?_
  refine z_aload_n_ok (pc := 608) (i := 0) C2.hx C2.hb dL_law_608 rfl ?_
  refine z_iload_ok (pc := 609) (i := 4) C2.hx C2.hb dL_law_609 ?_
  refine z_iconst_ok (pc := 611) (v := 1) C2.hx C2.hb dL_law_611 (by decide) ?_
  refine z_iadd_ok (pc := 612) C2.hx C2.hb dL_law_612 ?_
  refine z_sald_ok (pc := 613) C2 hs dL_law_613 ?_
  refine z_aload_n_ok (pc := 614) (i := 0) C2.hx C2.hb dL_law_614 rfl ?_
  refine z_iload_ok (pc := 615) (i := 4) C2.hx C2.hb dL_law_615 ?_
  refine z_iconst_ok (pc := 617) (v := 2) C2.hx C2.hb dL_law_617 (by decide) ?_
  refine z_iadd_ok (pc := 618) C2.hx C2.hb dL_law_618 ?_
  refine z_sald_ok (pc := 619) C2 hs dL_law_619 ?_
  refine z_invVLm_ok (pc := 620) C2 hKF (zm_X8_person X.l C2.htr) ⟨rfl, rfl⟩ ⟨by decide, by decide⟩ (by decide) (by decide) zcl_L_156 zw_1043 zw_1044 zK8 dL_law_620 ?_
  refine z_istore_ok (pc := 623) (i := 6) C2.hx C2.hb dL_law_623 (zlt hn (by decide)) ?_
  refine z_aload_n_ok (pc := 625) (i := 2) C2.hx C2.hb dL_law_625 rfl ?_
  refine z_invVL_ok (pc := 626) C2 hKF (zm_X8_thrown X.l C2.htr) ⟨rfl, rfl⟩ ⟨by decide, by decide⟩ (by decide) (by decide) zcl_L_135 zw_1001 zw_1002 zK8 dL_law_626 ?_
  refine z_iload_ok (pc := 629) (i := 5) C2.hx C2.hb dL_law_629 ?_
  refine z_icmp_eq_ok (pc := 631) (tgt := 636) C2.hx C2.hb dL_law_631 (by decide) ?_ ?_
  · refine z_iload_ok (pc := 636) (i := 5) C2.hx C2.hb dL_law_636 ?_
    refine z_if_ne_ok (pc := 638) (tgt := 653) C2.hx C2.hb dL_law_638 (by decide) ?_ ?_
    · refine z_goto_ok (pc := 653) (tgt := 2620) C2.hx C2.hb dL_law_653 (by decide) ?_
      exact zk_L_law_2620 C2 hn hJ
    · refine z_aload_n_ok (pc := 641) (i := 3) C2.hx C2.hb dL_law_641 rfl ?_
      refine z_iconst_ok (pc := 642) (v := 0) C2.hx C2.hb dL_law_642 (by decide) ?_
      refine z_lald_ok (pc := 643) C2 dL_law_643 ?_
      refine z_iload_ok (pc := 644) (i := 6) C2.hx C2.hb dL_law_644 ?_
      refine z_i2l_ok (pc := 646) C2.hx C2.hb dL_law_646 ?_
      refine z_lcmp_ok (pc := 647) C2.hx C2.hb dL_law_647 ?_
      refine z_if_eq_ok (pc := 648) (tgt := 653) C2.hx C2.hb dL_law_648 (by decide) ?_ ?_
      · refine z_goto_ok (pc := 653) (tgt := 2620) C2.hx C2.hb dL_law_653 (by decide) ?_
        exact zk_L_law_2620 C2 hn hJ
      · exact fun _ _ _ _ _ _ _ h => False.elim h
  · exact fun _ _ _ _ _ _ _ h => False.elim h
def zb_L_law_656 (xs : Nat → Int32) (Len : Nat) (J : ZP) : ZP := (z_ald 1 (z_ald 0 (z_ild 4 (z_push 1 (z_bin (fun x y => x + y) (z_sald xs Len (z_ald 0 (z_ild 4 (z_push 2 (z_bin (fun x y => x + y) (z_sald xs Len (z_ald 3 (z_invSm 4 sp_L_becomes (z_ist 5 (z_ald 2 (z_ald 0 (z_ild 4 (z_push 1 (z_bin (fun x y => x + y) (z_sald xs Len (z_ald 0 (z_ild 4 (z_push 2 (z_bin (fun x y => x + y) (z_sald xs Len (z_invVm 8 2 sp_X8_becomes (z_ist 6 (z_ald 2 (z_invV 8 0 sp_X8_thrown (z_ild 5 (z_cmp (fun x y => x = y) (z_ild 5 (z_if (fun x => x = 0) (z_ald 3 (z_push 0 (z_lald (z_ild 6 (z_i2l (z_lcmp (z_if (fun x => x = 0) (zb_L_law_2620 J) (fun _ _ _ _ => False)))))))) (zb_L_law_2620 J))) (fun _ _ _ _ => False))))))))))))))))))))))))))))))))
set_option maxRecDepth 20000 in
theorem zk_L_law_656 {X : ZX} (C : zCx X cL_law RL ret 10 380 11 66) (C2 : zCx (zXc X (X.ce + 10) (X.sl + 60)) cL_law RL ret 10 380 1 6) (hn : X.nL = 7) (hKF : ∀ n S, ¬ X.K (.inr n) S) {b Len : Nat} {xs : Nat → Int32} (hs : zscr X b Len xs) {J : ZP} (hJ : ZOK (zXc X (X.ce + 10) (X.sl + 60)) 23 J) : ZOK X 656 (zb_L_law_656 xs Len J) := by
  unfold zb_L_law_656
  refine z_aload_n_ok (pc := 656) (i := 1) C.hx C.hb dL_law_656 rfl ?_
  refine z_aload_n_ok (pc := 657) (i := 0) C.hx C.hb dL_law_657 rfl ?_
  refine z_iload_ok (pc := 658) (i := 4) C.hx C.hb dL_law_658 ?_
  refine z_iconst_ok (pc := 660) (v := 1) C.hx C.hb dL_law_660 (by decide) ?_
  refine z_iadd_ok (pc := 661) C.hx C.hb dL_law_661 ?_
  refine z_sald_ok (pc := 662) C hs dL_law_662 ?_
  refine z_aload_n_ok (pc := 663) (i := 0) C.hx C.hb dL_law_663 rfl ?_
  refine z_iload_ok (pc := 664) (i := 4) C.hx C.hb dL_law_664 ?_
  refine z_iconst_ok (pc := 666) (v := 2) C.hx C.hb dL_law_666 (by decide) ?_
  refine z_iadd_ok (pc := 667) C.hx C.hb dL_law_667 ?_
  refine z_sald_ok (pc := 668) C hs dL_law_668 ?_
  refine z_aload_n_ok (pc := 669) (i := 3) C.hx C.hb dL_law_669 rfl ?_
  refine z_invSWm_ok (pc := 670) C hKF (zm_L_becomes X.l C.htr) ⟨rfl, rfl⟩ ⟨by decide, by decide⟩ (by decide) (by decide) zcl_L_157 zw_409 dL_law_670 ?_
  refine z_istore_ok (pc := 673) (i := 5) C2.hx C2.hb dL_law_673 (zlt hn (by decide)) ?_
  refine z_aload_n_ok (pc := 675) (i := 2) C2.hx C2.hb dL_law_675 rfl ?_
  refine z_aload_n_ok (pc := 676) (i := 0) C2.hx C2.hb dL_law_676 rfl ?_
  refine z_iload_ok (pc := 677) (i := 4) C2.hx C2.hb dL_law_677 ?_
  refine z_iconst_ok (pc := 679) (v := 1) C2.hx C2.hb dL_law_679 (by decide) ?_
  refine z_iadd_ok (pc := 680) C2.hx C2.hb dL_law_680 ?_
  refine z_sald_ok (pc := 681) C2 hs dL_law_681 ?_
  refine z_aload_n_ok (pc := 682) (i := 0) C2.hx C2.hb dL_law_682 rfl ?_
  refine z_iload_ok (pc := 683) (i := 4) C2.hx C2.hb dL_law_683 ?_
  refine z_iconst_ok (pc := 685) (v := 2) C2.hx C2.hb dL_law_685 (by decide) ?_
  refine z_iadd_ok (pc := 686) C2.hx C2.hb dL_law_686 ?_
  refine z_sald_ok (pc := 687) C2 hs dL_law_687 ?_
  refine z_invVLm_ok (pc := 688) C2 hKF (zm_X8_becomes X.l C2.htr) ⟨rfl, rfl⟩ ⟨by decide, by decide⟩ (by decide) (by decide) zcl_L_159 zw_1051 zw_1052 zK8 dL_law_688 ?_
  refine z_istore_ok (pc := 691) (i := 6) C2.hx C2.hb dL_law_691 (zlt hn (by decide)) ?_
  refine z_aload_n_ok (pc := 693) (i := 2) C2.hx C2.hb dL_law_693 rfl ?_
  refine z_invVL_ok (pc := 694) C2 hKF (zm_X8_thrown X.l C2.htr) ⟨rfl, rfl⟩ ⟨by decide, by decide⟩ (by decide) (by decide) zcl_L_135 zw_1001 zw_1002 zK8 dL_law_694 ?_
  refine z_iload_ok (pc := 697) (i := 5) C2.hx C2.hb dL_law_697 ?_
  refine z_icmp_eq_ok (pc := 699) (tgt := 704) C2.hx C2.hb dL_law_699 (by decide) ?_ ?_
  · refine z_iload_ok (pc := 704) (i := 5) C2.hx C2.hb dL_law_704 ?_
    refine z_if_ne_ok (pc := 706) (tgt := 721) C2.hx C2.hb dL_law_706 (by decide) ?_ ?_
    · refine z_goto_ok (pc := 721) (tgt := 2620) C2.hx C2.hb dL_law_721 (by decide) ?_
      exact zk_L_law_2620 C2 hn hJ
    · refine z_aload_n_ok (pc := 709) (i := 3) C2.hx C2.hb dL_law_709 rfl ?_
      refine z_iconst_ok (pc := 710) (v := 0) C2.hx C2.hb dL_law_710 (by decide) ?_
      refine z_lald_ok (pc := 711) C2 dL_law_711 ?_
      refine z_iload_ok (pc := 712) (i := 6) C2.hx C2.hb dL_law_712 ?_
      refine z_i2l_ok (pc := 714) C2.hx C2.hb dL_law_714 ?_
      refine z_lcmp_ok (pc := 715) C2.hx C2.hb dL_law_715 ?_
      refine z_if_eq_ok (pc := 716) (tgt := 721) C2.hx C2.hb dL_law_716 (by decide) ?_ ?_
      · refine z_goto_ok (pc := 721) (tgt := 2620) C2.hx C2.hb dL_law_721 (by decide) ?_
        exact zk_L_law_2620 C2 hn hJ
      · exact fun _ _ _ _ _ _ _ h => False.elim h
  · exact fun _ _ _ _ _ _ _ h => False.elim h
def zb_L_law_724 (xs : Nat → Int32) (Len : Nat) (J : ZP) : ZP := (z_ald 1 (z_ald 0 (z_ild 4 (z_push 1 (z_bin (fun x y => x + y) (z_sald xs Len (z_ald 0 (z_ild 4 (z_push 2 (z_bin (fun x y => x + y) (z_sald xs Len (z_ald 3 (z_invSm 4 sp_L_moves (z_ist 5 (z_ald 2 (z_ald 0 (z_ild 4 (z_push 1 (z_bin (fun x y => x + y) (z_sald xs Len (z_ald 0 (z_ild 4 (z_push 2 (z_bin (fun x y => x + y) (z_sald xs Len (z_invVm 8 2 sp_X8_moves (z_ist 6 (z_ald 2 (z_invV 8 0 sp_X8_thrown (z_ild 5 (z_cmp (fun x y => x = y) (z_ild 5 (z_if (fun x => x = 0) (z_ald 3 (z_push 0 (z_lald (z_ild 6 (z_i2l (z_lcmp (z_if (fun x => x = 0) (zb_L_law_2620 J) (fun _ _ _ _ => False)))))))) (zb_L_law_2620 J))) (fun _ _ _ _ => False))))))))))))))))))))))))))))))))
set_option maxRecDepth 20000 in
theorem zk_L_law_724 {X : ZX} (C : zCx X cL_law RL ret 10 380 11 66) (C2 : zCx (zXc X (X.ce + 10) (X.sl + 60)) cL_law RL ret 10 380 1 6) (hn : X.nL = 7) (hKF : ∀ n S, ¬ X.K (.inr n) S) {b Len : Nat} {xs : Nat → Int32} (hs : zscr X b Len xs) {J : ZP} (hJ : ZOK (zXc X (X.ce + 10) (X.sl + 60)) 23 J) : ZOK X 724 (zb_L_law_724 xs Len J) := by
  unfold zb_L_law_724
  refine z_aload_n_ok (pc := 724) (i := 1) C.hx C.hb dL_law_724 rfl ?_
  refine z_aload_n_ok (pc := 725) (i := 0) C.hx C.hb dL_law_725 rfl ?_
  refine z_iload_ok (pc := 726) (i := 4) C.hx C.hb dL_law_726 ?_
  refine z_iconst_ok (pc := 728) (v := 1) C.hx C.hb dL_law_728 (by decide) ?_
  refine z_iadd_ok (pc := 729) C.hx C.hb dL_law_729 ?_
  refine z_sald_ok (pc := 730) C hs dL_law_730 ?_
  refine z_aload_n_ok (pc := 731) (i := 0) C.hx C.hb dL_law_731 rfl ?_
  refine z_iload_ok (pc := 732) (i := 4) C.hx C.hb dL_law_732 ?_
  refine z_iconst_ok (pc := 734) (v := 2) C.hx C.hb dL_law_734 (by decide) ?_
  refine z_iadd_ok (pc := 735) C.hx C.hb dL_law_735 ?_
  refine z_sald_ok (pc := 736) C hs dL_law_736 ?_
  refine z_aload_n_ok (pc := 737) (i := 3) C.hx C.hb dL_law_737 rfl ?_
  refine z_invSWm_ok (pc := 738) C hKF (zm_L_moves X.l C.htr) ⟨rfl, rfl⟩ ⟨by decide, by decide⟩ (by decide) (by decide) zcl_L_160 zw_429 dL_law_738 ?_
  refine z_istore_ok (pc := 741) (i := 5) C2.hx C2.hb dL_law_741 (zlt hn (by decide)) ?_
  refine z_aload_n_ok (pc := 743) (i := 2) C2.hx C2.hb dL_law_743 rfl ?_
  refine z_aload_n_ok (pc := 744) (i := 0) C2.hx C2.hb dL_law_744 rfl ?_
  refine z_iload_ok (pc := 745) (i := 4) C2.hx C2.hb dL_law_745 ?_
  refine z_iconst_ok (pc := 747) (v := 1) C2.hx C2.hb dL_law_747 (by decide) ?_
  refine z_iadd_ok (pc := 748) C2.hx C2.hb dL_law_748 ?_
  refine z_sald_ok (pc := 749) C2 hs dL_law_749 ?_
  refine z_aload_n_ok (pc := 750) (i := 0) C2.hx C2.hb dL_law_750 rfl ?_
  refine z_iload_ok (pc := 751) (i := 4) C2.hx C2.hb dL_law_751 ?_
  refine z_iconst_ok (pc := 753) (v := 2) C2.hx C2.hb dL_law_753 (by decide) ?_
  refine z_iadd_ok (pc := 754) C2.hx C2.hb dL_law_754 ?_
  refine z_sald_ok (pc := 755) C2 hs dL_law_755 ?_
  refine z_invVLm_ok (pc := 756) C2 hKF (zm_X8_moves X.l C2.htr) ⟨rfl, rfl⟩ ⟨by decide, by decide⟩ (by decide) (by decide) zcl_L_162 zw_1063 zw_1064 zK8 dL_law_756 ?_
  refine z_istore_ok (pc := 759) (i := 6) C2.hx C2.hb dL_law_759 (zlt hn (by decide)) ?_
  refine z_aload_n_ok (pc := 761) (i := 2) C2.hx C2.hb dL_law_761 rfl ?_
  refine z_invVL_ok (pc := 762) C2 hKF (zm_X8_thrown X.l C2.htr) ⟨rfl, rfl⟩ ⟨by decide, by decide⟩ (by decide) (by decide) zcl_L_135 zw_1001 zw_1002 zK8 dL_law_762 ?_
  refine z_iload_ok (pc := 765) (i := 5) C2.hx C2.hb dL_law_765 ?_
  refine z_icmp_eq_ok (pc := 767) (tgt := 772) C2.hx C2.hb dL_law_767 (by decide) ?_ ?_
  · refine z_iload_ok (pc := 772) (i := 5) C2.hx C2.hb dL_law_772 ?_
    refine z_if_ne_ok (pc := 774) (tgt := 789) C2.hx C2.hb dL_law_774 (by decide) ?_ ?_
    · refine z_goto_ok (pc := 789) (tgt := 2620) C2.hx C2.hb dL_law_789 (by decide) ?_
      exact zk_L_law_2620 C2 hn hJ
    · refine z_aload_n_ok (pc := 777) (i := 3) C2.hx C2.hb dL_law_777 rfl ?_
      refine z_iconst_ok (pc := 778) (v := 0) C2.hx C2.hb dL_law_778 (by decide) ?_
      refine z_lald_ok (pc := 779) C2 dL_law_779 ?_
      refine z_iload_ok (pc := 780) (i := 6) C2.hx C2.hb dL_law_780 ?_
      refine z_i2l_ok (pc := 782) C2.hx C2.hb dL_law_782 ?_
      refine z_lcmp_ok (pc := 783) C2.hx C2.hb dL_law_783 ?_
      refine z_if_eq_ok (pc := 784) (tgt := 789) C2.hx C2.hb dL_law_784 (by decide) ?_ ?_
      · refine z_goto_ok (pc := 789) (tgt := 2620) C2.hx C2.hb dL_law_789 (by decide) ?_
        exact zk_L_law_2620 C2 hn hJ
      · exact fun _ _ _ _ _ _ _ h => False.elim h
  · exact fun _ _ _ _ _ _ _ h => False.elim h
def zb_L_law_792 (xs : Nat → Int32) (Len : Nat) (J : ZP) : ZP := (z_ald 1 (z_ald 0 (z_ild 4 (z_push 1 (z_bin (fun x y => x + y) (z_sald xs Len (z_ald 0 (z_ild 4 (z_push 2 (z_bin (fun x y => x + y) (z_sald xs Len (z_ald 0 (z_ild 4 (z_push 3 (z_bin (fun x y => x + y) (z_sald xs Len (z_ald 3 (z_invSm 5 sp_L_give (z_ist 5 (z_ald 2 (z_ald 0 (z_ild 4 (z_push 1 (z_bin (fun x y => x + y) (z_sald xs Len (z_ald 0 (z_ild 4 (z_push 2 (z_bin (fun x y => x + y) (z_sald xs Len (z_ald 0 (z_ild 4 (z_push 3 (z_bin (fun x y => x + y) (z_sald xs Len (z_invVm 8 3 sp_X8_give (z_ist 6 (z_ald 2 (z_invV 8 0 sp_X8_thrown (z_ild 5 (z_cmp (fun x y => x = y) (z_ild 5 (z_if (fun x => x = 0) (z_ald 3 (z_push 0 (z_lald (z_ild 6 (z_i2l (z_lcmp (z_if (fun x => x = 0) (zb_L_law_2620 J) (fun _ _ _ _ => False)))))))) (zb_L_law_2620 J))) (fun _ _ _ _ => False))))))))))))))))))))))))))))))))))))))))))
set_option maxRecDepth 20000 in
theorem zk_L_law_792 {X : ZX} (C : zCx X cL_law RL ret 10 380 11 66) (C2 : zCx (zXc X (X.ce + 10) (X.sl + 60)) cL_law RL ret 10 380 1 6) (hn : X.nL = 7) (hKF : ∀ n S, ¬ X.K (.inr n) S) {b Len : Nat} {xs : Nat → Int32} (hs : zscr X b Len xs) {J : ZP} (hJ : ZOK (zXc X (X.ce + 10) (X.sl + 60)) 23 J) : ZOK X 792 (zb_L_law_792 xs Len J) := by
  unfold zb_L_law_792
  refine z_aload_n_ok (pc := 792) (i := 1) C.hx C.hb dL_law_792 rfl ?_
  refine z_aload_n_ok (pc := 793) (i := 0) C.hx C.hb dL_law_793 rfl ?_
  refine z_iload_ok (pc := 794) (i := 4) C.hx C.hb dL_law_794 ?_
  refine z_iconst_ok (pc := 796) (v := 1) C.hx C.hb dL_law_796 (by decide) ?_
  refine z_iadd_ok (pc := 797) C.hx C.hb dL_law_797 ?_
  refine z_sald_ok (pc := 798) C hs dL_law_798 ?_
  refine z_aload_n_ok (pc := 799) (i := 0) C.hx C.hb dL_law_799 rfl ?_
  refine z_iload_ok (pc := 800) (i := 4) C.hx C.hb dL_law_800 ?_
  refine z_iconst_ok (pc := 802) (v := 2) C.hx C.hb dL_law_802 (by decide) ?_
  refine z_iadd_ok (pc := 803) C.hx C.hb dL_law_803 ?_
  refine z_sald_ok (pc := 804) C hs dL_law_804 ?_
  refine z_aload_n_ok (pc := 805) (i := 0) C.hx C.hb dL_law_805 rfl ?_
  refine z_iload_ok (pc := 806) (i := 4) C.hx C.hb dL_law_806 ?_
  refine z_iconst_ok (pc := 808) (v := 3) C.hx C.hb dL_law_808 (by decide) ?_
  refine z_iadd_ok (pc := 809) C.hx C.hb dL_law_809 ?_
  refine z_sald_ok (pc := 810) C hs dL_law_810 ?_
  refine z_aload_n_ok (pc := 811) (i := 3) C.hx C.hb dL_law_811 rfl ?_
  refine z_invSWm_ok (pc := 812) C hKF (zm_L_give X.l C.htr) ⟨rfl, rfl⟩ ⟨by decide, by decide⟩ (by decide) (by decide) zcl_L_163 zw_436 dL_law_812 ?_
  refine z_istore_ok (pc := 815) (i := 5) C2.hx C2.hb dL_law_815 (zlt hn (by decide)) ?_
  refine z_aload_n_ok (pc := 817) (i := 2) C2.hx C2.hb dL_law_817 rfl ?_
  refine z_aload_n_ok (pc := 818) (i := 0) C2.hx C2.hb dL_law_818 rfl ?_
  refine z_iload_ok (pc := 819) (i := 4) C2.hx C2.hb dL_law_819 ?_
  refine z_iconst_ok (pc := 821) (v := 1) C2.hx C2.hb dL_law_821 (by decide) ?_
  refine z_iadd_ok (pc := 822) C2.hx C2.hb dL_law_822 ?_
  refine z_sald_ok (pc := 823) C2 hs dL_law_823 ?_
  refine z_aload_n_ok (pc := 824) (i := 0) C2.hx C2.hb dL_law_824 rfl ?_
  refine z_iload_ok (pc := 825) (i := 4) C2.hx C2.hb dL_law_825 ?_
  refine z_iconst_ok (pc := 827) (v := 2) C2.hx C2.hb dL_law_827 (by decide) ?_
  refine z_iadd_ok (pc := 828) C2.hx C2.hb dL_law_828 ?_
  refine z_sald_ok (pc := 829) C2 hs dL_law_829 ?_
  refine z_aload_n_ok (pc := 830) (i := 0) C2.hx C2.hb dL_law_830 rfl ?_
  refine z_iload_ok (pc := 831) (i := 4) C2.hx C2.hb dL_law_831 ?_
  refine z_iconst_ok (pc := 833) (v := 3) C2.hx C2.hb dL_law_833 (by decide) ?_
  refine z_iadd_ok (pc := 834) C2.hx C2.hb dL_law_834 ?_
  refine z_sald_ok (pc := 835) C2 hs dL_law_835 ?_
  refine z_invVLm_ok (pc := 836) C2 hKF (zm_X8_give X.l C2.htr) ⟨rfl, rfl⟩ ⟨by decide, by decide⟩ (by decide) (by decide) zcl_L_166 zw_1067 zw_1068 zK8 dL_law_836 ?_
  refine z_istore_ok (pc := 839) (i := 6) C2.hx C2.hb dL_law_839 (zlt hn (by decide)) ?_
  refine z_aload_n_ok (pc := 841) (i := 2) C2.hx C2.hb dL_law_841 rfl ?_
  refine z_invVL_ok (pc := 842) C2 hKF (zm_X8_thrown X.l C2.htr) ⟨rfl, rfl⟩ ⟨by decide, by decide⟩ (by decide) (by decide) zcl_L_135 zw_1001 zw_1002 zK8 dL_law_842 ?_
  refine z_iload_ok (pc := 845) (i := 5) C2.hx C2.hb dL_law_845 ?_
  refine z_icmp_eq_ok (pc := 847) (tgt := 852) C2.hx C2.hb dL_law_847 (by decide) ?_ ?_
  · refine z_iload_ok (pc := 852) (i := 5) C2.hx C2.hb dL_law_852 ?_
    refine z_if_ne_ok (pc := 854) (tgt := 869) C2.hx C2.hb dL_law_854 (by decide) ?_ ?_
    · refine z_goto_ok (pc := 869) (tgt := 2620) C2.hx C2.hb dL_law_869 (by decide) ?_
      exact zk_L_law_2620 C2 hn hJ
    · refine z_aload_n_ok (pc := 857) (i := 3) C2.hx C2.hb dL_law_857 rfl ?_
      refine z_iconst_ok (pc := 858) (v := 0) C2.hx C2.hb dL_law_858 (by decide) ?_
      refine z_lald_ok (pc := 859) C2 dL_law_859 ?_
      refine z_iload_ok (pc := 860) (i := 6) C2.hx C2.hb dL_law_860 ?_
      refine z_i2l_ok (pc := 862) C2.hx C2.hb dL_law_862 ?_
      refine z_lcmp_ok (pc := 863) C2.hx C2.hb dL_law_863 ?_
      refine z_if_eq_ok (pc := 864) (tgt := 869) C2.hx C2.hb dL_law_864 (by decide) ?_ ?_
      · refine z_goto_ok (pc := 869) (tgt := 2620) C2.hx C2.hb dL_law_869 (by decide) ?_
        exact zk_L_law_2620 C2 hn hJ
      · exact fun _ _ _ _ _ _ _ h => False.elim h
  · exact fun _ _ _ _ _ _ _ h => False.elim h
def zb_L_law_872 (xs : Nat → Int32) (Len : Nat) (J : ZP) : ZP := (z_ald 1 (z_ald 0 (z_ild 4 (z_push 1 (z_bin (fun x y => x + y) (z_sald xs Len (z_ald 3 (z_invSm 3 sp_L_stealBook (z_ist 5 (z_ald 2 (z_ald 0 (z_ild 4 (z_push 1 (z_bin (fun x y => x + y) (z_sald xs Len (z_invVm 8 1 sp_X8_stealBook (z_ist 6 (z_ald 2 (z_invV 8 0 sp_X8_thrown (z_ild 5 (z_cmp (fun x y => x = y) (z_ild 5 (z_if (fun x => x = 0) (z_ald 3 (z_push 0 (z_lald (z_ild 6 (z_i2l (z_lcmp (z_if (fun x => x = 0) (zb_L_law_2620 J) (fun _ _ _ _ => False)))))))) (zb_L_law_2620 J))) (fun _ _ _ _ => False))))))))))))))))))))))
set_option maxRecDepth 20000 in
theorem zk_L_law_872 {X : ZX} (C : zCx X cL_law RL ret 10 380 11 66) (C2 : zCx (zXc X (X.ce + 10) (X.sl + 60)) cL_law RL ret 10 380 1 6) (hn : X.nL = 7) (hKF : ∀ n S, ¬ X.K (.inr n) S) {b Len : Nat} {xs : Nat → Int32} (hs : zscr X b Len xs) {J : ZP} (hJ : ZOK (zXc X (X.ce + 10) (X.sl + 60)) 23 J) : ZOK X 872 (zb_L_law_872 xs Len J) := by
  unfold zb_L_law_872
  refine z_aload_n_ok (pc := 872) (i := 1) C.hx C.hb dL_law_872 rfl ?_
  refine z_aload_n_ok (pc := 873) (i := 0) C.hx C.hb dL_law_873 rfl ?_
  refine z_iload_ok (pc := 874) (i := 4) C.hx C.hb dL_law_874 ?_
  refine z_iconst_ok (pc := 876) (v := 1) C.hx C.hb dL_law_876 (by decide) ?_
  refine z_iadd_ok (pc := 877) C.hx C.hb dL_law_877 ?_
  refine z_sald_ok (pc := 878) C hs dL_law_878 ?_
  refine z_aload_n_ok (pc := 879) (i := 3) C.hx C.hb dL_law_879 rfl ?_
  refine z_invSWm_ok (pc := 880) C hKF (zm_L_stealBook X.l C.htr) ⟨rfl, rfl⟩ ⟨by decide, by decide⟩ (by decide) (by decide) zcl_L_167 zw_460 dL_law_880 ?_
  refine z_istore_ok (pc := 883) (i := 5) C2.hx C2.hb dL_law_883 (zlt hn (by decide)) ?_
  refine z_aload_n_ok (pc := 885) (i := 2) C2.hx C2.hb dL_law_885 rfl ?_
  refine z_aload_n_ok (pc := 886) (i := 0) C2.hx C2.hb dL_law_886 rfl ?_
  refine z_iload_ok (pc := 887) (i := 4) C2.hx C2.hb dL_law_887 ?_
  refine z_iconst_ok (pc := 889) (v := 1) C2.hx C2.hb dL_law_889 (by decide) ?_
  refine z_iadd_ok (pc := 890) C2.hx C2.hb dL_law_890 ?_
  refine z_sald_ok (pc := 891) C2 hs dL_law_891 ?_
  refine z_invVLm_ok (pc := 892) C2 hKF (zm_X8_stealBook X.l C2.htr) ⟨rfl, rfl⟩ ⟨by decide, by decide⟩ (by decide) (by decide) zcl_L_169 zw_1079 zw_1080 zK8 dL_law_892 ?_
  refine z_istore_ok (pc := 895) (i := 6) C2.hx C2.hb dL_law_895 (zlt hn (by decide)) ?_
  refine z_aload_n_ok (pc := 897) (i := 2) C2.hx C2.hb dL_law_897 rfl ?_
  refine z_invVL_ok (pc := 898) C2 hKF (zm_X8_thrown X.l C2.htr) ⟨rfl, rfl⟩ ⟨by decide, by decide⟩ (by decide) (by decide) zcl_L_135 zw_1001 zw_1002 zK8 dL_law_898 ?_
  refine z_iload_ok (pc := 901) (i := 5) C2.hx C2.hb dL_law_901 ?_
  refine z_icmp_eq_ok (pc := 903) (tgt := 908) C2.hx C2.hb dL_law_903 (by decide) ?_ ?_
  · refine z_iload_ok (pc := 908) (i := 5) C2.hx C2.hb dL_law_908 ?_
    refine z_if_ne_ok (pc := 910) (tgt := 925) C2.hx C2.hb dL_law_910 (by decide) ?_ ?_
    · refine z_goto_ok (pc := 925) (tgt := 2620) C2.hx C2.hb dL_law_925 (by decide) ?_
      exact zk_L_law_2620 C2 hn hJ
    · refine z_aload_n_ok (pc := 913) (i := 3) C2.hx C2.hb dL_law_913 rfl ?_
      refine z_iconst_ok (pc := 914) (v := 0) C2.hx C2.hb dL_law_914 (by decide) ?_
      refine z_lald_ok (pc := 915) C2 dL_law_915 ?_
      refine z_iload_ok (pc := 916) (i := 6) C2.hx C2.hb dL_law_916 ?_
      refine z_i2l_ok (pc := 918) C2.hx C2.hb dL_law_918 ?_
      refine z_lcmp_ok (pc := 919) C2.hx C2.hb dL_law_919 ?_
      refine z_if_eq_ok (pc := 920) (tgt := 925) C2.hx C2.hb dL_law_920 (by decide) ?_ ?_
      · refine z_goto_ok (pc := 925) (tgt := 2620) C2.hx C2.hb dL_law_925 (by decide) ?_
        exact zk_L_law_2620 C2 hn hJ
      · exact fun _ _ _ _ _ _ _ h => False.elim h
  · exact fun _ _ _ _ _ _ _ h => False.elim h
def zb_L_law_928 (xs : Nat → Int32) (Len : Nat) (J : ZP) : ZP := (z_ald 1 (z_ald 0 (z_ild 4 (z_push 1 (z_bin (fun x y => x + y) (z_sald xs Len (z_ald 0 (z_ild 4 (z_push 2 (z_bin (fun x y => x + y) (z_sald xs Len (z_ald 3 (z_invSm 4 sp_L_personIs (z_ist 5 (z_ald 2 (z_ald 0 (z_ild 4 (z_push 1 (z_bin (fun x y => x + y) (z_sald xs Len (z_ald 0 (z_ild 4 (z_push 2 (z_bin (fun x y => x + y) (z_sald xs Len (z_invVm 8 2 sp_X8_personIs (z_ist 6 (z_ald 2 (z_invV 8 0 sp_X8_thrown (z_ild 5 (z_cmp (fun x y => x = y) (z_ild 5 (z_if (fun x => x = 0) (z_ald 3 (z_push 0 (z_lald (z_ild 6 (z_i2l (z_lcmp (z_if (fun x => x = 0) (zb_L_law_2620 J) (fun _ _ _ _ => False)))))))) (zb_L_law_2620 J))) (fun _ _ _ _ => False))))))))))))))))))))))))))))))))
set_option maxRecDepth 20000 in
theorem zk_L_law_928 {X : ZX} (C : zCx X cL_law RL ret 10 380 11 66) (C2 : zCx (zXc X (X.ce + 10) (X.sl + 60)) cL_law RL ret 10 380 1 6) (hn : X.nL = 7) (hKF : ∀ n S, ¬ X.K (.inr n) S) {b Len : Nat} {xs : Nat → Int32} (hs : zscr X b Len xs) {J : ZP} (hJ : ZOK (zXc X (X.ce + 10) (X.sl + 60)) 23 J) : ZOK X 928 (zb_L_law_928 xs Len J) := by
  unfold zb_L_law_928
  refine z_aload_n_ok (pc := 928) (i := 1) C.hx C.hb dL_law_928 rfl ?_
  refine z_aload_n_ok (pc := 929) (i := 0) C.hx C.hb dL_law_929 rfl ?_
  refine z_iload_ok (pc := 930) (i := 4) C.hx C.hb dL_law_930 ?_
  refine z_iconst_ok (pc := 932) (v := 1) C.hx C.hb dL_law_932 (by decide) ?_
  refine z_iadd_ok (pc := 933) C.hx C.hb dL_law_933 ?_
  refine z_sald_ok (pc := 934) C hs dL_law_934 ?_
  refine z_aload_n_ok (pc := 935) (i := 0) C.hx C.hb dL_law_935 rfl ?_
  refine z_iload_ok (pc := 936) (i := 4) C.hx C.hb dL_law_936 ?_
  refine z_iconst_ok (pc := 938) (v := 2) C.hx C.hb dL_law_938 (by decide) ?_
  refine z_iadd_ok (pc := 939) C.hx C.hb dL_law_939 ?_
  refine z_sald_ok (pc := 940) C hs dL_law_940 ?_
  refine z_aload_n_ok (pc := 941) (i := 3) C.hx C.hb dL_law_941 rfl ?_
  refine z_invSWm_ok (pc := 942) C hKF (zm_L_personIs X.l C.htr) ⟨rfl, rfl⟩ ⟨by decide, by decide⟩ (by decide) (by decide) zcl_L_170 zw_467 dL_law_942 ?_
  refine z_istore_ok (pc := 945) (i := 5) C2.hx C2.hb dL_law_945 (zlt hn (by decide)) ?_
  refine z_aload_n_ok (pc := 947) (i := 2) C2.hx C2.hb dL_law_947 rfl ?_
  refine z_aload_n_ok (pc := 948) (i := 0) C2.hx C2.hb dL_law_948 rfl ?_
  refine z_iload_ok (pc := 949) (i := 4) C2.hx C2.hb dL_law_949 ?_
  refine z_iconst_ok (pc := 951) (v := 1) C2.hx C2.hb dL_law_951 (by decide) ?_
  refine z_iadd_ok (pc := 952) C2.hx C2.hb dL_law_952 ?_
  refine z_sald_ok (pc := 953) C2 hs dL_law_953 ?_
  refine z_aload_n_ok (pc := 954) (i := 0) C2.hx C2.hb dL_law_954 rfl ?_
  refine z_iload_ok (pc := 955) (i := 4) C2.hx C2.hb dL_law_955 ?_
  refine z_iconst_ok (pc := 957) (v := 2) C2.hx C2.hb dL_law_957 (by decide) ?_
  refine z_iadd_ok (pc := 958) C2.hx C2.hb dL_law_958 ?_
  refine z_sald_ok (pc := 959) C2 hs dL_law_959 ?_
  refine z_invVLm_ok (pc := 960) C2 hKF (zm_X8_personIs X.l C2.htr) ⟨rfl, rfl⟩ ⟨by decide, by decide⟩ (by decide) (by decide) zcl_L_172 zw_1083 zw_1084 zK8 dL_law_960 ?_
  refine z_istore_ok (pc := 963) (i := 6) C2.hx C2.hb dL_law_963 (zlt hn (by decide)) ?_
  refine z_aload_n_ok (pc := 965) (i := 2) C2.hx C2.hb dL_law_965 rfl ?_
  refine z_invVL_ok (pc := 966) C2 hKF (zm_X8_thrown X.l C2.htr) ⟨rfl, rfl⟩ ⟨by decide, by decide⟩ (by decide) (by decide) zcl_L_135 zw_1001 zw_1002 zK8 dL_law_966 ?_
  refine z_iload_ok (pc := 969) (i := 5) C2.hx C2.hb dL_law_969 ?_
  refine z_icmp_eq_ok (pc := 971) (tgt := 976) C2.hx C2.hb dL_law_971 (by decide) ?_ ?_
  · refine z_iload_ok (pc := 976) (i := 5) C2.hx C2.hb dL_law_976 ?_
    refine z_if_ne_ok (pc := 978) (tgt := 993) C2.hx C2.hb dL_law_978 (by decide) ?_ ?_
    · refine z_goto_ok (pc := 993) (tgt := 2620) C2.hx C2.hb dL_law_993 (by decide) ?_
      exact zk_L_law_2620 C2 hn hJ
    · refine z_aload_n_ok (pc := 981) (i := 3) C2.hx C2.hb dL_law_981 rfl ?_
      refine z_iconst_ok (pc := 982) (v := 0) C2.hx C2.hb dL_law_982 (by decide) ?_
      refine z_lald_ok (pc := 983) C2 dL_law_983 ?_
      refine z_iload_ok (pc := 984) (i := 6) C2.hx C2.hb dL_law_984 ?_
      refine z_i2l_ok (pc := 986) C2.hx C2.hb dL_law_986 ?_
      refine z_lcmp_ok (pc := 987) C2.hx C2.hb dL_law_987 ?_
      refine z_if_eq_ok (pc := 988) (tgt := 993) C2.hx C2.hb dL_law_988 (by decide) ?_ ?_
      · refine z_goto_ok (pc := 993) (tgt := 2620) C2.hx C2.hb dL_law_993 (by decide) ?_
        exact zk_L_law_2620 C2 hn hJ
      · exact fun _ _ _ _ _ _ _ h => False.elim h
  · exact fun _ _ _ _ _ _ _ h => False.elim h
def zb_L_law_996 (xs : Nat → Int32) (Len : Nat) (J : ZP) : ZP := (z_ald 1 (z_ald 0 (z_ild 4 (z_push 1 (z_bin (fun x y => x + y) (z_sald xs Len (z_ald 0 (z_ild 4 (z_push 2 (z_bin (fun x y => x + y) (z_sald xs Len (z_ald 3 (z_invSm 4 sp_L_left (z_ist 5 (z_ald 2 (z_ald 0 (z_ild 4 (z_push 1 (z_bin (fun x y => x + y) (z_sald xs Len (z_ald 0 (z_ild 4 (z_push 2 (z_bin (fun x y => x + y) (z_sald xs Len (z_invVm 8 2 sp_X8_left (z_ist 6 (z_ald 2 (z_invV 8 0 sp_X8_thrown (z_ild 5 (z_cmp (fun x y => x = y) (z_ild 5 (z_if (fun x => x = 0) (z_ald 3 (z_push 0 (z_lald (z_ild 6 (z_i2l (z_lcmp (z_if (fun x => x = 0) (zb_L_law_2620 J) (fun _ _ _ _ => False)))))))) (zb_L_law_2620 J))) (fun _ _ _ _ => False))))))))))))))))))))))))))))))))
set_option maxRecDepth 20000 in
theorem zk_L_law_996 {X : ZX} (C : zCx X cL_law RL ret 10 380 11 66) (C2 : zCx (zXc X (X.ce + 10) (X.sl + 60)) cL_law RL ret 10 380 1 6) (hn : X.nL = 7) (hKF : ∀ n S, ¬ X.K (.inr n) S) {b Len : Nat} {xs : Nat → Int32} (hs : zscr X b Len xs) {J : ZP} (hJ : ZOK (zXc X (X.ce + 10) (X.sl + 60)) 23 J) : ZOK X 996 (zb_L_law_996 xs Len J) := by
  unfold zb_L_law_996
  refine z_aload_n_ok (pc := 996) (i := 1) C.hx C.hb dL_law_996 rfl ?_
  refine z_aload_n_ok (pc := 997) (i := 0) C.hx C.hb dL_law_997 rfl ?_
  refine z_iload_ok (pc := 998) (i := 4) C.hx C.hb dL_law_998 ?_
  refine z_iconst_ok (pc := 1000) (v := 1) C.hx C.hb dL_law_1000 (by decide) ?_
  refine z_iadd_ok (pc := 1001) C.hx C.hb dL_law_1001 ?_
  refine z_sald_ok (pc := 1002) C hs dL_law_1002 ?_
  refine z_aload_n_ok (pc := 1003) (i := 0) C.hx C.hb dL_law_1003 rfl ?_
  refine z_iload_ok (pc := 1004) (i := 4) C.hx C.hb dL_law_1004 ?_
  refine z_iconst_ok (pc := 1006) (v := 2) C.hx C.hb dL_law_1006 (by decide) ?_
  refine z_iadd_ok (pc := 1007) C.hx C.hb dL_law_1007 ?_
  refine z_sald_ok (pc := 1008) C hs dL_law_1008 ?_
  refine z_aload_n_ok (pc := 1009) (i := 3) C.hx C.hb dL_law_1009 rfl ?_
  refine z_invSWm_ok (pc := 1010) C hKF (zm_L_left X.l C.htr) ⟨rfl, rfl⟩ ⟨by decide, by decide⟩ (by decide) (by decide) zcl_L_173 zw_474 dL_law_1010 ?_
  refine z_istore_ok (pc := 1013) (i := 5) C2.hx C2.hb dL_law_1013 (zlt hn (by decide)) ?_
  refine z_aload_n_ok (pc := 1015) (i := 2) C2.hx C2.hb dL_law_1015 rfl ?_
  refine z_aload_n_ok (pc := 1016) (i := 0) C2.hx C2.hb dL_law_1016 rfl ?_
  refine z_iload_ok (pc := 1017) (i := 4) C2.hx C2.hb dL_law_1017 ?_
  refine z_iconst_ok (pc := 1019) (v := 1) C2.hx C2.hb dL_law_1019 (by decide) ?_
  refine z_iadd_ok (pc := 1020) C2.hx C2.hb dL_law_1020 ?_
  refine z_sald_ok (pc := 1021) C2 hs dL_law_1021 ?_
  refine z_aload_n_ok (pc := 1022) (i := 0) C2.hx C2.hb dL_law_1022 rfl ?_
  refine z_iload_ok (pc := 1023) (i := 4) C2.hx C2.hb dL_law_1023 ?_
  refine z_iconst_ok (pc := 1025) (v := 2) C2.hx C2.hb dL_law_1025 (by decide) ?_
  refine z_iadd_ok (pc := 1026) C2.hx C2.hb dL_law_1026 ?_
  refine z_sald_ok (pc := 1027) C2 hs dL_law_1027 ?_
  refine z_invVLm_ok (pc := 1028) C2 hKF (zm_X8_left X.l C2.htr) ⟨rfl, rfl⟩ ⟨by decide, by decide⟩ (by decide) (by decide) zcl_L_175 zw_1087 zw_1088 zK8 dL_law_1028 ?_
  refine z_istore_ok (pc := 1031) (i := 6) C2.hx C2.hb dL_law_1031 (zlt hn (by decide)) ?_
  refine z_aload_n_ok (pc := 1033) (i := 2) C2.hx C2.hb dL_law_1033 rfl ?_
  refine z_invVL_ok (pc := 1034) C2 hKF (zm_X8_thrown X.l C2.htr) ⟨rfl, rfl⟩ ⟨by decide, by decide⟩ (by decide) (by decide) zcl_L_135 zw_1001 zw_1002 zK8 dL_law_1034 ?_
  refine z_iload_ok (pc := 1037) (i := 5) C2.hx C2.hb dL_law_1037 ?_
  refine z_icmp_eq_ok (pc := 1039) (tgt := 1044) C2.hx C2.hb dL_law_1039 (by decide) ?_ ?_
  · refine z_iload_ok (pc := 1044) (i := 5) C2.hx C2.hb dL_law_1044 ?_
    refine z_if_ne_ok (pc := 1046) (tgt := 1061) C2.hx C2.hb dL_law_1046 (by decide) ?_ ?_
    · refine z_goto_ok (pc := 1061) (tgt := 2620) C2.hx C2.hb dL_law_1061 (by decide) ?_
      exact zk_L_law_2620 C2 hn hJ
    · refine z_aload_n_ok (pc := 1049) (i := 3) C2.hx C2.hb dL_law_1049 rfl ?_
      refine z_iconst_ok (pc := 1050) (v := 0) C2.hx C2.hb dL_law_1050 (by decide) ?_
      refine z_lald_ok (pc := 1051) C2 dL_law_1051 ?_
      refine z_iload_ok (pc := 1052) (i := 6) C2.hx C2.hb dL_law_1052 ?_
      refine z_i2l_ok (pc := 1054) C2.hx C2.hb dL_law_1054 ?_
      refine z_lcmp_ok (pc := 1055) C2.hx C2.hb dL_law_1055 ?_
      refine z_if_eq_ok (pc := 1056) (tgt := 1061) C2.hx C2.hb dL_law_1056 (by decide) ?_ ?_
      · refine z_goto_ok (pc := 1061) (tgt := 2620) C2.hx C2.hb dL_law_1061 (by decide) ?_
        exact zk_L_law_2620 C2 hn hJ
      · exact fun _ _ _ _ _ _ _ h => False.elim h
  · exact fun _ _ _ _ _ _ _ h => False.elim h
def zb_L_law_1064 (xs : Nat → Int32) (Len : Nat) (J : ZP) : ZP := (z_ald 1 (z_ald 0 (z_ild 4 (z_push 1 (z_bin (fun x y => x + y) (z_sald xs Len (z_ald 0 (z_ild 4 (z_push 2 (z_bin (fun x y => x + y) (z_sald xs Len (z_ald 3 (z_invSm 4 sp_L_leftAnew (z_ist 5 (z_ald 2 (z_ald 0 (z_ild 4 (z_push 1 (z_bin (fun x y => x + y) (z_sald xs Len (z_ald 0 (z_ild 4 (z_push 2 (z_bin (fun x y => x + y) (z_sald xs Len (z_invVm 8 2 sp_X8_leftAnew (z_ist 6 (z_ald 2 (z_invV 8 0 sp_X8_thrown (z_ild 5 (z_cmp (fun x y => x = y) (z_ild 5 (z_if (fun x => x = 0) (z_ald 3 (z_push 0 (z_lald (z_ild 6 (z_i2l (z_lcmp (z_if (fun x => x = 0) (zb_L_law_2620 J) (fun _ _ _ _ => False)))))))) (zb_L_law_2620 J))) (fun _ _ _ _ => False))))))))))))))))))))))))))))))))
set_option maxRecDepth 20000 in
theorem zk_L_law_1064 {X : ZX} (C : zCx X cL_law RL ret 10 380 11 66) (C2 : zCx (zXc X (X.ce + 10) (X.sl + 60)) cL_law RL ret 10 380 1 6) (hn : X.nL = 7) (hKF : ∀ n S, ¬ X.K (.inr n) S) {b Len : Nat} {xs : Nat → Int32} (hs : zscr X b Len xs) {J : ZP} (hJ : ZOK (zXc X (X.ce + 10) (X.sl + 60)) 23 J) : ZOK X 1064 (zb_L_law_1064 xs Len J) := by
  unfold zb_L_law_1064
  refine z_aload_n_ok (pc := 1064) (i := 1) C.hx C.hb dL_law_1064 rfl ?_
  refine z_aload_n_ok (pc := 1065) (i := 0) C.hx C.hb dL_law_1065 rfl ?_
  refine z_iload_ok (pc := 1066) (i := 4) C.hx C.hb dL_law_1066 ?_
  refine z_iconst_ok (pc := 1068) (v := 1) C.hx C.hb dL_law_1068 (by decide) ?_
  refine z_iadd_ok (pc := 1069) C.hx C.hb dL_law_1069 ?_
  refine z_sald_ok (pc := 1070) C hs dL_law_1070 ?_
  refine z_aload_n_ok (pc := 1071) (i := 0) C.hx C.hb dL_law_1071 rfl ?_
  refine z_iload_ok (pc := 1072) (i := 4) C.hx C.hb dL_law_1072 ?_
  refine z_iconst_ok (pc := 1074) (v := 2) C.hx C.hb dL_law_1074 (by decide) ?_
  refine z_iadd_ok (pc := 1075) C.hx C.hb dL_law_1075 ?_
  refine z_sald_ok (pc := 1076) C hs dL_law_1076 ?_
  refine z_aload_n_ok (pc := 1077) (i := 3) C.hx C.hb dL_law_1077 rfl ?_
  refine z_invSWm_ok (pc := 1078) C hKF (zm_L_leftAnew X.l C.htr) ⟨rfl, rfl⟩ ⟨by decide, by decide⟩ (by decide) (by decide) zcl_L_176 zw_494 dL_law_1078 ?_
  refine z_istore_ok (pc := 1081) (i := 5) C2.hx C2.hb dL_law_1081 (zlt hn (by decide)) ?_
  refine z_aload_n_ok (pc := 1083) (i := 2) C2.hx C2.hb dL_law_1083 rfl ?_
  refine z_aload_n_ok (pc := 1084) (i := 0) C2.hx C2.hb dL_law_1084 rfl ?_
  refine z_iload_ok (pc := 1085) (i := 4) C2.hx C2.hb dL_law_1085 ?_
  refine z_iconst_ok (pc := 1087) (v := 1) C2.hx C2.hb dL_law_1087 (by decide) ?_
  refine z_iadd_ok (pc := 1088) C2.hx C2.hb dL_law_1088 ?_
  refine z_sald_ok (pc := 1089) C2 hs dL_law_1089 ?_
  refine z_aload_n_ok (pc := 1090) (i := 0) C2.hx C2.hb dL_law_1090 rfl ?_
  refine z_iload_ok (pc := 1091) (i := 4) C2.hx C2.hb dL_law_1091 ?_
  refine z_iconst_ok (pc := 1093) (v := 2) C2.hx C2.hb dL_law_1093 (by decide) ?_
  refine z_iadd_ok (pc := 1094) C2.hx C2.hb dL_law_1094 ?_
  refine z_sald_ok (pc := 1095) C2 hs dL_law_1095 ?_
  refine z_invVLm_ok (pc := 1096) C2 hKF (zm_X8_leftAnew X.l C2.htr) ⟨rfl, rfl⟩ ⟨by decide, by decide⟩ (by decide) (by decide) zcl_L_178 zw_1102 zw_1103 zK8 dL_law_1096 ?_
  refine z_istore_ok (pc := 1099) (i := 6) C2.hx C2.hb dL_law_1099 (zlt hn (by decide)) ?_
  refine z_aload_n_ok (pc := 1101) (i := 2) C2.hx C2.hb dL_law_1101 rfl ?_
  refine z_invVL_ok (pc := 1102) C2 hKF (zm_X8_thrown X.l C2.htr) ⟨rfl, rfl⟩ ⟨by decide, by decide⟩ (by decide) (by decide) zcl_L_135 zw_1001 zw_1002 zK8 dL_law_1102 ?_
  refine z_iload_ok (pc := 1105) (i := 5) C2.hx C2.hb dL_law_1105 ?_
  refine z_icmp_eq_ok (pc := 1107) (tgt := 1112) C2.hx C2.hb dL_law_1107 (by decide) ?_ ?_
  · refine z_iload_ok (pc := 1112) (i := 5) C2.hx C2.hb dL_law_1112 ?_
    refine z_if_ne_ok (pc := 1114) (tgt := 1129) C2.hx C2.hb dL_law_1114 (by decide) ?_ ?_
    · refine z_goto_ok (pc := 1129) (tgt := 2620) C2.hx C2.hb dL_law_1129 (by decide) ?_
      exact zk_L_law_2620 C2 hn hJ
    · refine z_aload_n_ok (pc := 1117) (i := 3) C2.hx C2.hb dL_law_1117 rfl ?_
      refine z_iconst_ok (pc := 1118) (v := 0) C2.hx C2.hb dL_law_1118 (by decide) ?_
      refine z_lald_ok (pc := 1119) C2 dL_law_1119 ?_
      refine z_iload_ok (pc := 1120) (i := 6) C2.hx C2.hb dL_law_1120 ?_
      refine z_i2l_ok (pc := 1122) C2.hx C2.hb dL_law_1122 ?_
      refine z_lcmp_ok (pc := 1123) C2.hx C2.hb dL_law_1123 ?_
      refine z_if_eq_ok (pc := 1124) (tgt := 1129) C2.hx C2.hb dL_law_1124 (by decide) ?_ ?_
      · refine z_goto_ok (pc := 1129) (tgt := 2620) C2.hx C2.hb dL_law_1129 (by decide) ?_
        exact zk_L_law_2620 C2 hn hJ
      · exact fun _ _ _ _ _ _ _ h => False.elim h
  · exact fun _ _ _ _ _ _ _ h => False.elim h
def zb_L_law_1132 (xs : Nat → Int32) (Len : Nat) (J : ZP) : ZP := (z_ald 1 (z_ald 0 (z_ild 4 (z_push 1 (z_bin (fun x y => x + y) (z_sald xs Len (z_ald 3 (z_invSm 3 sp_L_depot (z_ist 5 (z_ald 2 (z_ald 0 (z_ild 4 (z_push 1 (z_bin (fun x y => x + y) (z_sald xs Len (z_invVm 8 1 sp_X8_depot (z_ist 6 (z_ald 2 (z_invV 8 0 sp_X8_thrown (z_ild 5 (z_cmp (fun x y => x = y) (z_ild 5 (z_if (fun x => x = 0) (z_ald 3 (z_push 0 (z_lald (z_ild 6 (z_i2l (z_lcmp (z_if (fun x => x = 0) (zb_L_law_2620 J) (fun _ _ _ _ => False)))))))) (zb_L_law_2620 J))) (fun _ _ _ _ => False))))))))))))))))))))))
set_option maxRecDepth 20000 in
theorem zk_L_law_1132 {X : ZX} (C : zCx X cL_law RL ret 10 380 11 66) (C2 : zCx (zXc X (X.ce + 10) (X.sl + 60)) cL_law RL ret 10 380 1 6) (hn : X.nL = 7) (hKF : ∀ n S, ¬ X.K (.inr n) S) {b Len : Nat} {xs : Nat → Int32} (hs : zscr X b Len xs) {J : ZP} (hJ : ZOK (zXc X (X.ce + 10) (X.sl + 60)) 23 J) : ZOK X 1132 (zb_L_law_1132 xs Len J) := by
  unfold zb_L_law_1132
  refine z_aload_n_ok (pc := 1132) (i := 1) C.hx C.hb dL_law_1132 rfl ?_
  refine z_aload_n_ok (pc := 1133) (i := 0) C.hx C.hb dL_law_1133 rfl ?_
  refine z_iload_ok (pc := 1134) (i := 4) C.hx C.hb dL_law_1134 ?_
  refine z_iconst_ok (pc := 1136) (v := 1) C.hx C.hb dL_law_1136 (by decide) ?_
  refine z_iadd_ok (pc := 1137) C.hx C.hb dL_law_1137 ?_
  refine z_sald_ok (pc := 1138) C hs dL_law_1138 ?_
  refine z_aload_n_ok (pc := 1139) (i := 3) C.hx C.hb dL_law_1139 rfl ?_
  refine z_invSWm_ok (pc := 1140) C hKF (zm_L_depot X.l C.htr) ⟨rfl, rfl⟩ ⟨by decide, by decide⟩ (by decide) (by decide) zcl_L_179 zw_505 dL_law_1140 ?_
  refine z_istore_ok (pc := 1143) (i := 5) C2.hx C2.hb dL_law_1143 (zlt hn (by decide)) ?_
  refine z_aload_n_ok (pc := 1145) (i := 2) C2.hx C2.hb dL_law_1145 rfl ?_
  refine z_aload_n_ok (pc := 1146) (i := 0) C2.hx C2.hb dL_law_1146 rfl ?_
  refine z_iload_ok (pc := 1147) (i := 4) C2.hx C2.hb dL_law_1147 ?_
  refine z_iconst_ok (pc := 1149) (v := 1) C2.hx C2.hb dL_law_1149 (by decide) ?_
  refine z_iadd_ok (pc := 1150) C2.hx C2.hb dL_law_1150 ?_
  refine z_sald_ok (pc := 1151) C2 hs dL_law_1151 ?_
  refine z_invVLm_ok (pc := 1152) C2 hKF (zm_X8_depot X.l C2.htr) ⟨rfl, rfl⟩ ⟨by decide, by decide⟩ (by decide) (by decide) zcl_L_181 zw_1106 zw_1107 zK8 dL_law_1152 ?_
  refine z_istore_ok (pc := 1155) (i := 6) C2.hx C2.hb dL_law_1155 (zlt hn (by decide)) ?_
  refine z_aload_n_ok (pc := 1157) (i := 2) C2.hx C2.hb dL_law_1157 rfl ?_
  refine z_invVL_ok (pc := 1158) C2 hKF (zm_X8_thrown X.l C2.htr) ⟨rfl, rfl⟩ ⟨by decide, by decide⟩ (by decide) (by decide) zcl_L_135 zw_1001 zw_1002 zK8 dL_law_1158 ?_
  refine z_iload_ok (pc := 1161) (i := 5) C2.hx C2.hb dL_law_1161 ?_
  refine z_icmp_eq_ok (pc := 1163) (tgt := 1168) C2.hx C2.hb dL_law_1163 (by decide) ?_ ?_
  · refine z_iload_ok (pc := 1168) (i := 5) C2.hx C2.hb dL_law_1168 ?_
    refine z_if_ne_ok (pc := 1170) (tgt := 1185) C2.hx C2.hb dL_law_1170 (by decide) ?_ ?_
    · refine z_goto_ok (pc := 1185) (tgt := 2620) C2.hx C2.hb dL_law_1185 (by decide) ?_
      exact zk_L_law_2620 C2 hn hJ
    · refine z_aload_n_ok (pc := 1173) (i := 3) C2.hx C2.hb dL_law_1173 rfl ?_
      refine z_iconst_ok (pc := 1174) (v := 0) C2.hx C2.hb dL_law_1174 (by decide) ?_
      refine z_lald_ok (pc := 1175) C2 dL_law_1175 ?_
      refine z_iload_ok (pc := 1176) (i := 6) C2.hx C2.hb dL_law_1176 ?_
      refine z_i2l_ok (pc := 1178) C2.hx C2.hb dL_law_1178 ?_
      refine z_lcmp_ok (pc := 1179) C2.hx C2.hb dL_law_1179 ?_
      refine z_if_eq_ok (pc := 1180) (tgt := 1185) C2.hx C2.hb dL_law_1180 (by decide) ?_ ?_
      · refine z_goto_ok (pc := 1185) (tgt := 2620) C2.hx C2.hb dL_law_1185 (by decide) ?_
        exact zk_L_law_2620 C2 hn hJ
      · exact fun _ _ _ _ _ _ _ h => False.elim h
  · exact fun _ _ _ _ _ _ _ h => False.elim h
def zb_L_law_1188 (xs : Nat → Int32) (Len : Nat) (J : ZP) : ZP := (z_ald 1 (z_ald 0 (z_ild 4 (z_push 1 (z_bin (fun x y => x + y) (z_sald xs Len (z_ald 3 (z_invSm 3 sp_L_shop (z_ist 5 (z_ald 2 (z_ald 0 (z_ild 4 (z_push 1 (z_bin (fun x y => x + y) (z_sald xs Len (z_invVm 8 1 sp_X8_shop (z_ist 6 (z_ald 2 (z_invV 8 0 sp_X8_thrown (z_ild 5 (z_cmp (fun x y => x = y) (z_ild 5 (z_if (fun x => x = 0) (z_ald 3 (z_push 0 (z_lald (z_ild 6 (z_i2l (z_lcmp (z_if (fun x => x = 0) (zb_L_law_2620 J) (fun _ _ _ _ => False)))))))) (zb_L_law_2620 J))) (fun _ _ _ _ => False))))))))))))))))))))))
set_option maxRecDepth 20000 in
theorem zk_L_law_1188 {X : ZX} (C : zCx X cL_law RL ret 10 380 11 66) (C2 : zCx (zXc X (X.ce + 10) (X.sl + 60)) cL_law RL ret 10 380 1 6) (hn : X.nL = 7) (hKF : ∀ n S, ¬ X.K (.inr n) S) {b Len : Nat} {xs : Nat → Int32} (hs : zscr X b Len xs) {J : ZP} (hJ : ZOK (zXc X (X.ce + 10) (X.sl + 60)) 23 J) : ZOK X 1188 (zb_L_law_1188 xs Len J) := by
  unfold zb_L_law_1188
  refine z_aload_n_ok (pc := 1188) (i := 1) C.hx C.hb dL_law_1188 rfl ?_
  refine z_aload_n_ok (pc := 1189) (i := 0) C.hx C.hb dL_law_1189 rfl ?_
  refine z_iload_ok (pc := 1190) (i := 4) C.hx C.hb dL_law_1190 ?_
  refine z_iconst_ok (pc := 1192) (v := 1) C.hx C.hb dL_law_1192 (by decide) ?_
  refine z_iadd_ok (pc := 1193) C.hx C.hb dL_law_1193 ?_
  refine z_sald_ok (pc := 1194) C hs dL_law_1194 ?_
  refine z_aload_n_ok (pc := 1195) (i := 3) C.hx C.hb dL_law_1195 rfl ?_
  refine z_invSWm_ok (pc := 1196) C hKF (zm_L_shop X.l C.htr) ⟨rfl, rfl⟩ ⟨by decide, by decide⟩ (by decide) (by decide) zcl_L_182 zw_535 dL_law_1196 ?_
  refine z_istore_ok (pc := 1199) (i := 5) C2.hx C2.hb dL_law_1199 (zlt hn (by decide)) ?_
  refine z_aload_n_ok (pc := 1201) (i := 2) C2.hx C2.hb dL_law_1201 rfl ?_
  refine z_aload_n_ok (pc := 1202) (i := 0) C2.hx C2.hb dL_law_1202 rfl ?_
  refine z_iload_ok (pc := 1203) (i := 4) C2.hx C2.hb dL_law_1203 ?_
  refine z_iconst_ok (pc := 1205) (v := 1) C2.hx C2.hb dL_law_1205 (by decide) ?_
  refine z_iadd_ok (pc := 1206) C2.hx C2.hb dL_law_1206 ?_
  refine z_sald_ok (pc := 1207) C2 hs dL_law_1207 ?_
  refine z_invVLm_ok (pc := 1208) C2 hKF (zm_X8_shop X.l C2.htr) ⟨rfl, rfl⟩ ⟨by decide, by decide⟩ (by decide) (by decide) zcl_L_184 zw_1114 zw_1115 zK8 dL_law_1208 ?_
  refine z_istore_ok (pc := 1211) (i := 6) C2.hx C2.hb dL_law_1211 (zlt hn (by decide)) ?_
  refine z_aload_n_ok (pc := 1213) (i := 2) C2.hx C2.hb dL_law_1213 rfl ?_
  refine z_invVL_ok (pc := 1214) C2 hKF (zm_X8_thrown X.l C2.htr) ⟨rfl, rfl⟩ ⟨by decide, by decide⟩ (by decide) (by decide) zcl_L_135 zw_1001 zw_1002 zK8 dL_law_1214 ?_
  refine z_iload_ok (pc := 1217) (i := 5) C2.hx C2.hb dL_law_1217 ?_
  refine z_icmp_eq_ok (pc := 1219) (tgt := 1224) C2.hx C2.hb dL_law_1219 (by decide) ?_ ?_
  · refine z_iload_ok (pc := 1224) (i := 5) C2.hx C2.hb dL_law_1224 ?_
    refine z_if_ne_ok (pc := 1226) (tgt := 1241) C2.hx C2.hb dL_law_1226 (by decide) ?_ ?_
    · refine z_goto_ok (pc := 1241) (tgt := 2620) C2.hx C2.hb dL_law_1241 (by decide) ?_
      exact zk_L_law_2620 C2 hn hJ
    · refine z_aload_n_ok (pc := 1229) (i := 3) C2.hx C2.hb dL_law_1229 rfl ?_
      refine z_iconst_ok (pc := 1230) (v := 0) C2.hx C2.hb dL_law_1230 (by decide) ?_
      refine z_lald_ok (pc := 1231) C2 dL_law_1231 ?_
      refine z_iload_ok (pc := 1232) (i := 6) C2.hx C2.hb dL_law_1232 ?_
      refine z_i2l_ok (pc := 1234) C2.hx C2.hb dL_law_1234 ?_
      refine z_lcmp_ok (pc := 1235) C2.hx C2.hb dL_law_1235 ?_
      refine z_if_eq_ok (pc := 1236) (tgt := 1241) C2.hx C2.hb dL_law_1236 (by decide) ?_ ?_
      · refine z_goto_ok (pc := 1241) (tgt := 2620) C2.hx C2.hb dL_law_1241 (by decide) ?_
        exact zk_L_law_2620 C2 hn hJ
      · exact fun _ _ _ _ _ _ _ h => False.elim h
  · exact fun _ _ _ _ _ _ _ h => False.elim h
def zb_L_law_1244 (xs : Nat → Int32) (Len : Nat) (J : ZP) : ZP := (z_ald 1 (z_ald 0 (z_ild 4 (z_push 1 (z_bin (fun x y => x + y) (z_sald xs Len (z_ald 0 (z_ild 4 (z_push 2 (z_bin (fun x y => x + y) (z_sald xs Len (z_ald 0 (z_ild 4 (z_push 3 (z_bin (fun x y => x + y) (z_sald xs Len (z_ald 3 (z_invSm 5 sp_L_ship (z_ist 5 (z_ald 2 (z_ald 0 (z_ild 4 (z_push 1 (z_bin (fun x y => x + y) (z_sald xs Len (z_ald 0 (z_ild 4 (z_push 2 (z_bin (fun x y => x + y) (z_sald xs Len (z_ald 0 (z_ild 4 (z_push 3 (z_bin (fun x y => x + y) (z_sald xs Len (z_invVm 8 3 sp_X8_ship (z_ist 6 (z_ald 2 (z_invV 8 0 sp_X8_thrown (z_ild 5 (z_cmp (fun x y => x = y) (z_ild 5 (z_if (fun x => x = 0) (z_ald 3 (z_push 0 (z_lald (z_ild 6 (z_i2l (z_lcmp (z_if (fun x => x = 0) (zb_L_law_2620 J) (fun _ _ _ _ => False)))))))) (zb_L_law_2620 J))) (fun _ _ _ _ => False))))))))))))))))))))))))))))))))))))))))))
set_option maxRecDepth 20000 in
theorem zk_L_law_1244 {X : ZX} (C : zCx X cL_law RL ret 10 380 11 66) (C2 : zCx (zXc X (X.ce + 10) (X.sl + 60)) cL_law RL ret 10 380 1 6) (hn : X.nL = 7) (hKF : ∀ n S, ¬ X.K (.inr n) S) {b Len : Nat} {xs : Nat → Int32} (hs : zscr X b Len xs) {J : ZP} (hJ : ZOK (zXc X (X.ce + 10) (X.sl + 60)) 23 J) : ZOK X 1244 (zb_L_law_1244 xs Len J) := by
  unfold zb_L_law_1244
  refine z_aload_n_ok (pc := 1244) (i := 1) C.hx C.hb dL_law_1244 rfl ?_
  refine z_aload_n_ok (pc := 1245) (i := 0) C.hx C.hb dL_law_1245 rfl ?_
  refine z_iload_ok (pc := 1246) (i := 4) C.hx C.hb dL_law_1246 ?_
  refine z_iconst_ok (pc := 1248) (v := 1) C.hx C.hb dL_law_1248 (by decide) ?_
  refine z_iadd_ok (pc := 1249) C.hx C.hb dL_law_1249 ?_
  refine z_sald_ok (pc := 1250) C hs dL_law_1250 ?_
  refine z_aload_n_ok (pc := 1251) (i := 0) C.hx C.hb dL_law_1251 rfl ?_
  refine z_iload_ok (pc := 1252) (i := 4) C.hx C.hb dL_law_1252 ?_
  refine z_iconst_ok (pc := 1254) (v := 2) C.hx C.hb dL_law_1254 (by decide) ?_
  refine z_iadd_ok (pc := 1255) C.hx C.hb dL_law_1255 ?_
  refine z_sald_ok (pc := 1256) C hs dL_law_1256 ?_
  refine z_aload_n_ok (pc := 1257) (i := 0) C.hx C.hb dL_law_1257 rfl ?_
  refine z_iload_ok (pc := 1258) (i := 4) C.hx C.hb dL_law_1258 ?_
  refine z_iconst_ok (pc := 1260) (v := 3) C.hx C.hb dL_law_1260 (by decide) ?_
  refine z_iadd_ok (pc := 1261) C.hx C.hb dL_law_1261 ?_
  refine z_sald_ok (pc := 1262) C hs dL_law_1262 ?_
  refine z_aload_n_ok (pc := 1263) (i := 3) C.hx C.hb dL_law_1263 rfl ?_
  refine z_invSWm_ok (pc := 1264) C hKF (zm_L_ship X.l C.htr) ⟨rfl, rfl⟩ ⟨by decide, by decide⟩ (by decide) (by decide) zcl_L_185 zw_592 dL_law_1264 ?_
  refine z_istore_ok (pc := 1267) (i := 5) C2.hx C2.hb dL_law_1267 (zlt hn (by decide)) ?_
  refine z_aload_n_ok (pc := 1269) (i := 2) C2.hx C2.hb dL_law_1269 rfl ?_
  refine z_aload_n_ok (pc := 1270) (i := 0) C2.hx C2.hb dL_law_1270 rfl ?_
  refine z_iload_ok (pc := 1271) (i := 4) C2.hx C2.hb dL_law_1271 ?_
  refine z_iconst_ok (pc := 1273) (v := 1) C2.hx C2.hb dL_law_1273 (by decide) ?_
  refine z_iadd_ok (pc := 1274) C2.hx C2.hb dL_law_1274 ?_
  refine z_sald_ok (pc := 1275) C2 hs dL_law_1275 ?_
  refine z_aload_n_ok (pc := 1276) (i := 0) C2.hx C2.hb dL_law_1276 rfl ?_
  refine z_iload_ok (pc := 1277) (i := 4) C2.hx C2.hb dL_law_1277 ?_
  refine z_iconst_ok (pc := 1279) (v := 2) C2.hx C2.hb dL_law_1279 (by decide) ?_
  refine z_iadd_ok (pc := 1280) C2.hx C2.hb dL_law_1280 ?_
  refine z_sald_ok (pc := 1281) C2 hs dL_law_1281 ?_
  refine z_aload_n_ok (pc := 1282) (i := 0) C2.hx C2.hb dL_law_1282 rfl ?_
  refine z_iload_ok (pc := 1283) (i := 4) C2.hx C2.hb dL_law_1283 ?_
  refine z_iconst_ok (pc := 1285) (v := 3) C2.hx C2.hb dL_law_1285 (by decide) ?_
  refine z_iadd_ok (pc := 1286) C2.hx C2.hb dL_law_1286 ?_
  refine z_sald_ok (pc := 1287) C2 hs dL_law_1287 ?_
  refine z_invVLm_ok (pc := 1288) C2 hKF (zm_X8_ship X.l C2.htr) ⟨rfl, rfl⟩ ⟨by decide, by decide⟩ (by decide) (by decide) zcl_L_187 zw_1118 zw_1119 zK8 dL_law_1288 ?_
  refine z_istore_ok (pc := 1291) (i := 6) C2.hx C2.hb dL_law_1291 (zlt hn (by decide)) ?_
  refine z_aload_n_ok (pc := 1293) (i := 2) C2.hx C2.hb dL_law_1293 rfl ?_
  refine z_invVL_ok (pc := 1294) C2 hKF (zm_X8_thrown X.l C2.htr) ⟨rfl, rfl⟩ ⟨by decide, by decide⟩ (by decide) (by decide) zcl_L_135 zw_1001 zw_1002 zK8 dL_law_1294 ?_
  refine z_iload_ok (pc := 1297) (i := 5) C2.hx C2.hb dL_law_1297 ?_
  refine z_icmp_eq_ok (pc := 1299) (tgt := 1304) C2.hx C2.hb dL_law_1299 (by decide) ?_ ?_
  · refine z_iload_ok (pc := 1304) (i := 5) C2.hx C2.hb dL_law_1304 ?_
    refine z_if_ne_ok (pc := 1306) (tgt := 1321) C2.hx C2.hb dL_law_1306 (by decide) ?_ ?_
    · refine z_goto_ok (pc := 1321) (tgt := 2620) C2.hx C2.hb dL_law_1321 (by decide) ?_
      exact zk_L_law_2620 C2 hn hJ
    · refine z_aload_n_ok (pc := 1309) (i := 3) C2.hx C2.hb dL_law_1309 rfl ?_
      refine z_iconst_ok (pc := 1310) (v := 0) C2.hx C2.hb dL_law_1310 (by decide) ?_
      refine z_lald_ok (pc := 1311) C2 dL_law_1311 ?_
      refine z_iload_ok (pc := 1312) (i := 6) C2.hx C2.hb dL_law_1312 ?_
      refine z_i2l_ok (pc := 1314) C2.hx C2.hb dL_law_1314 ?_
      refine z_lcmp_ok (pc := 1315) C2.hx C2.hb dL_law_1315 ?_
      refine z_if_eq_ok (pc := 1316) (tgt := 1321) C2.hx C2.hb dL_law_1316 (by decide) ?_ ?_
      · refine z_goto_ok (pc := 1321) (tgt := 2620) C2.hx C2.hb dL_law_1321 (by decide) ?_
        exact zk_L_law_2620 C2 hn hJ
      · exact fun _ _ _ _ _ _ _ h => False.elim h
  · exact fun _ _ _ _ _ _ _ h => False.elim h
def zb_L_law_1324 (xs : Nat → Int32) (Len : Nat) (J : ZP) : ZP := (z_ald 1 (z_ald 0 (z_ild 4 (z_push 1 (z_bin (fun x y => x + y) (z_sald xs Len (z_ald 0 (z_ild 4 (z_push 2 (z_bin (fun x y => x + y) (z_sald xs Len (z_ald 0 (z_ild 4 (z_push 3 (z_bin (fun x y => x + y) (z_sald xs Len (z_ald 3 (z_invSm 5 sp_L_lose (z_ist 5 (z_ald 2 (z_ald 0 (z_ild 4 (z_push 1 (z_bin (fun x y => x + y) (z_sald xs Len (z_ald 0 (z_ild 4 (z_push 2 (z_bin (fun x y => x + y) (z_sald xs Len (z_ald 0 (z_ild 4 (z_push 3 (z_bin (fun x y => x + y) (z_sald xs Len (z_invVm 8 3 sp_X8_lose (z_ist 6 (z_ald 2 (z_invV 8 0 sp_X8_thrown (z_ild 5 (z_cmp (fun x y => x = y) (z_ild 5 (z_if (fun x => x = 0) (z_ald 3 (z_push 0 (z_lald (z_ild 6 (z_i2l (z_lcmp (z_if (fun x => x = 0) (zb_L_law_2620 J) (fun _ _ _ _ => False)))))))) (zb_L_law_2620 J))) (fun _ _ _ _ => False))))))))))))))))))))))))))))))))))))))))))
set_option maxRecDepth 20000 in
theorem zk_L_law_1324 {X : ZX} (C : zCx X cL_law RL ret 10 380 11 66) (C2 : zCx (zXc X (X.ce + 10) (X.sl + 60)) cL_law RL ret 10 380 1 6) (hn : X.nL = 7) (hKF : ∀ n S, ¬ X.K (.inr n) S) {b Len : Nat} {xs : Nat → Int32} (hs : zscr X b Len xs) {J : ZP} (hJ : ZOK (zXc X (X.ce + 10) (X.sl + 60)) 23 J) : ZOK X 1324 (zb_L_law_1324 xs Len J) := by
  unfold zb_L_law_1324
  refine z_aload_n_ok (pc := 1324) (i := 1) C.hx C.hb dL_law_1324 rfl ?_
  refine z_aload_n_ok (pc := 1325) (i := 0) C.hx C.hb dL_law_1325 rfl ?_
  refine z_iload_ok (pc := 1326) (i := 4) C.hx C.hb dL_law_1326 ?_
  refine z_iconst_ok (pc := 1328) (v := 1) C.hx C.hb dL_law_1328 (by decide) ?_
  refine z_iadd_ok (pc := 1329) C.hx C.hb dL_law_1329 ?_
  refine z_sald_ok (pc := 1330) C hs dL_law_1330 ?_
  refine z_aload_n_ok (pc := 1331) (i := 0) C.hx C.hb dL_law_1331 rfl ?_
  refine z_iload_ok (pc := 1332) (i := 4) C.hx C.hb dL_law_1332 ?_
  refine z_iconst_ok (pc := 1334) (v := 2) C.hx C.hb dL_law_1334 (by decide) ?_
  refine z_iadd_ok (pc := 1335) C.hx C.hb dL_law_1335 ?_
  refine z_sald_ok (pc := 1336) C hs dL_law_1336 ?_
  refine z_aload_n_ok (pc := 1337) (i := 0) C.hx C.hb dL_law_1337 rfl ?_
  refine z_iload_ok (pc := 1338) (i := 4) C.hx C.hb dL_law_1338 ?_
  refine z_iconst_ok (pc := 1340) (v := 3) C.hx C.hb dL_law_1340 (by decide) ?_
  refine z_iadd_ok (pc := 1341) C.hx C.hb dL_law_1341 ?_
  refine z_sald_ok (pc := 1342) C hs dL_law_1342 ?_
  refine z_aload_n_ok (pc := 1343) (i := 3) C.hx C.hb dL_law_1343 rfl ?_
  refine z_invSWm_ok (pc := 1344) C hKF (zm_L_lose X.l C.htr) ⟨rfl, rfl⟩ ⟨by decide, by decide⟩ (by decide) (by decide) zcl_L_188 zw_604 dL_law_1344 ?_
  refine z_istore_ok (pc := 1347) (i := 5) C2.hx C2.hb dL_law_1347 (zlt hn (by decide)) ?_
  refine z_aload_n_ok (pc := 1349) (i := 2) C2.hx C2.hb dL_law_1349 rfl ?_
  refine z_aload_n_ok (pc := 1350) (i := 0) C2.hx C2.hb dL_law_1350 rfl ?_
  refine z_iload_ok (pc := 1351) (i := 4) C2.hx C2.hb dL_law_1351 ?_
  refine z_iconst_ok (pc := 1353) (v := 1) C2.hx C2.hb dL_law_1353 (by decide) ?_
  refine z_iadd_ok (pc := 1354) C2.hx C2.hb dL_law_1354 ?_
  refine z_sald_ok (pc := 1355) C2 hs dL_law_1355 ?_
  refine z_aload_n_ok (pc := 1356) (i := 0) C2.hx C2.hb dL_law_1356 rfl ?_
  refine z_iload_ok (pc := 1357) (i := 4) C2.hx C2.hb dL_law_1357 ?_
  refine z_iconst_ok (pc := 1359) (v := 2) C2.hx C2.hb dL_law_1359 (by decide) ?_
  refine z_iadd_ok (pc := 1360) C2.hx C2.hb dL_law_1360 ?_
  refine z_sald_ok (pc := 1361) C2 hs dL_law_1361 ?_
  refine z_aload_n_ok (pc := 1362) (i := 0) C2.hx C2.hb dL_law_1362 rfl ?_
  refine z_iload_ok (pc := 1363) (i := 4) C2.hx C2.hb dL_law_1363 ?_
  refine z_iconst_ok (pc := 1365) (v := 3) C2.hx C2.hb dL_law_1365 (by decide) ?_
  refine z_iadd_ok (pc := 1366) C2.hx C2.hb dL_law_1366 ?_
  refine z_sald_ok (pc := 1367) C2 hs dL_law_1367 ?_
  refine z_invVLm_ok (pc := 1368) C2 hKF (zm_X8_lose X.l C2.htr) ⟨rfl, rfl⟩ ⟨by decide, by decide⟩ (by decide) (by decide) zcl_L_190 zw_1123 zw_1124 zK8 dL_law_1368 ?_
  refine z_istore_ok (pc := 1371) (i := 6) C2.hx C2.hb dL_law_1371 (zlt hn (by decide)) ?_
  refine z_aload_n_ok (pc := 1373) (i := 2) C2.hx C2.hb dL_law_1373 rfl ?_
  refine z_invVL_ok (pc := 1374) C2 hKF (zm_X8_thrown X.l C2.htr) ⟨rfl, rfl⟩ ⟨by decide, by decide⟩ (by decide) (by decide) zcl_L_135 zw_1001 zw_1002 zK8 dL_law_1374 ?_
  refine z_iload_ok (pc := 1377) (i := 5) C2.hx C2.hb dL_law_1377 ?_
  refine z_icmp_eq_ok (pc := 1379) (tgt := 1384) C2.hx C2.hb dL_law_1379 (by decide) ?_ ?_
  · refine z_iload_ok (pc := 1384) (i := 5) C2.hx C2.hb dL_law_1384 ?_
    refine z_if_ne_ok (pc := 1386) (tgt := 1401) C2.hx C2.hb dL_law_1386 (by decide) ?_ ?_
    · refine z_goto_ok (pc := 1401) (tgt := 2620) C2.hx C2.hb dL_law_1401 (by decide) ?_
      exact zk_L_law_2620 C2 hn hJ
    · refine z_aload_n_ok (pc := 1389) (i := 3) C2.hx C2.hb dL_law_1389 rfl ?_
      refine z_iconst_ok (pc := 1390) (v := 0) C2.hx C2.hb dL_law_1390 (by decide) ?_
      refine z_lald_ok (pc := 1391) C2 dL_law_1391 ?_
      refine z_iload_ok (pc := 1392) (i := 6) C2.hx C2.hb dL_law_1392 ?_
      refine z_i2l_ok (pc := 1394) C2.hx C2.hb dL_law_1394 ?_
      refine z_lcmp_ok (pc := 1395) C2.hx C2.hb dL_law_1395 ?_
      refine z_if_eq_ok (pc := 1396) (tgt := 1401) C2.hx C2.hb dL_law_1396 (by decide) ?_ ?_
      · refine z_goto_ok (pc := 1401) (tgt := 2620) C2.hx C2.hb dL_law_1401 (by decide) ?_
        exact zk_L_law_2620 C2 hn hJ
      · exact fun _ _ _ _ _ _ _ h => False.elim h
  · exact fun _ _ _ _ _ _ _ h => False.elim h
def zb_L_law_1404 (xs : Nat → Int32) (Len : Nat) (J : ZP) : ZP := (z_ald 1 (z_ald 0 (z_ild 4 (z_push 1 (z_bin (fun x y => x + y) (z_sald xs Len (z_ald 0 (z_ild 4 (z_push 2 (z_bin (fun x y => x + y) (z_sald xs Len (z_ald 3 (z_invSm 4 sp_L_depotHas (z_ist 5 (z_ald 2 (z_ald 0 (z_ild 4 (z_push 1 (z_bin (fun x y => x + y) (z_sald xs Len (z_ald 0 (z_ild 4 (z_push 2 (z_bin (fun x y => x + y) (z_sald xs Len (z_invVm 8 2 sp_X8_depotHas (z_ist 6 (z_ald 2 (z_invV 8 0 sp_X8_thrown (z_ild 5 (z_cmp (fun x y => x = y) (z_ild 5 (z_if (fun x => x = 0) (z_ald 3 (z_push 0 (z_lald (z_ild 6 (z_i2l (z_lcmp (z_if (fun x => x = 0) (zb_L_law_2620 J) (fun _ _ _ _ => False)))))))) (zb_L_law_2620 J))) (fun _ _ _ _ => False))))))))))))))))))))))))))))))))
set_option maxRecDepth 20000 in
theorem zk_L_law_1404 {X : ZX} (C : zCx X cL_law RL ret 10 380 11 66) (C2 : zCx (zXc X (X.ce + 10) (X.sl + 60)) cL_law RL ret 10 380 1 6) (hn : X.nL = 7) (hKF : ∀ n S, ¬ X.K (.inr n) S) {b Len : Nat} {xs : Nat → Int32} (hs : zscr X b Len xs) {J : ZP} (hJ : ZOK (zXc X (X.ce + 10) (X.sl + 60)) 23 J) : ZOK X 1404 (zb_L_law_1404 xs Len J) := by
  unfold zb_L_law_1404
  refine z_aload_n_ok (pc := 1404) (i := 1) C.hx C.hb dL_law_1404 rfl ?_
  refine z_aload_n_ok (pc := 1405) (i := 0) C.hx C.hb dL_law_1405 rfl ?_
  refine z_iload_ok (pc := 1406) (i := 4) C.hx C.hb dL_law_1406 ?_
  refine z_iconst_ok (pc := 1408) (v := 1) C.hx C.hb dL_law_1408 (by decide) ?_
  refine z_iadd_ok (pc := 1409) C.hx C.hb dL_law_1409 ?_
  refine z_sald_ok (pc := 1410) C hs dL_law_1410 ?_
  refine z_aload_n_ok (pc := 1411) (i := 0) C.hx C.hb dL_law_1411 rfl ?_
  refine z_iload_ok (pc := 1412) (i := 4) C.hx C.hb dL_law_1412 ?_
  refine z_iconst_ok (pc := 1414) (v := 2) C.hx C.hb dL_law_1414 (by decide) ?_
  refine z_iadd_ok (pc := 1415) C.hx C.hb dL_law_1415 ?_
  refine z_sald_ok (pc := 1416) C hs dL_law_1416 ?_
  refine z_aload_n_ok (pc := 1417) (i := 3) C.hx C.hb dL_law_1417 rfl ?_
  refine z_invSWm_ok (pc := 1418) C hKF (zm_L_depotHas X.l C.htr) ⟨rfl, rfl⟩ ⟨by decide, by decide⟩ (by decide) (by decide) zcl_L_191 zw_615 dL_law_1418 ?_
  refine z_istore_ok (pc := 1421) (i := 5) C2.hx C2.hb dL_law_1421 (zlt hn (by decide)) ?_
  refine z_aload_n_ok (pc := 1423) (i := 2) C2.hx C2.hb dL_law_1423 rfl ?_
  refine z_aload_n_ok (pc := 1424) (i := 0) C2.hx C2.hb dL_law_1424 rfl ?_
  refine z_iload_ok (pc := 1425) (i := 4) C2.hx C2.hb dL_law_1425 ?_
  refine z_iconst_ok (pc := 1427) (v := 1) C2.hx C2.hb dL_law_1427 (by decide) ?_
  refine z_iadd_ok (pc := 1428) C2.hx C2.hb dL_law_1428 ?_
  refine z_sald_ok (pc := 1429) C2 hs dL_law_1429 ?_
  refine z_aload_n_ok (pc := 1430) (i := 0) C2.hx C2.hb dL_law_1430 rfl ?_
  refine z_iload_ok (pc := 1431) (i := 4) C2.hx C2.hb dL_law_1431 ?_
  refine z_iconst_ok (pc := 1433) (v := 2) C2.hx C2.hb dL_law_1433 (by decide) ?_
  refine z_iadd_ok (pc := 1434) C2.hx C2.hb dL_law_1434 ?_
  refine z_sald_ok (pc := 1435) C2 hs dL_law_1435 ?_
  refine z_invVLm_ok (pc := 1436) C2 hKF (zm_X8_depotHas X.l C2.htr) ⟨rfl, rfl⟩ ⟨by decide, by decide⟩ (by decide) (by decide) zcl_L_193 zw_1127 zw_1128 zK8 dL_law_1436 ?_
  refine z_istore_ok (pc := 1439) (i := 6) C2.hx C2.hb dL_law_1439 (zlt hn (by decide)) ?_
  refine z_aload_n_ok (pc := 1441) (i := 2) C2.hx C2.hb dL_law_1441 rfl ?_
  refine z_invVL_ok (pc := 1442) C2 hKF (zm_X8_thrown X.l C2.htr) ⟨rfl, rfl⟩ ⟨by decide, by decide⟩ (by decide) (by decide) zcl_L_135 zw_1001 zw_1002 zK8 dL_law_1442 ?_
  refine z_iload_ok (pc := 1445) (i := 5) C2.hx C2.hb dL_law_1445 ?_
  refine z_icmp_eq_ok (pc := 1447) (tgt := 1452) C2.hx C2.hb dL_law_1447 (by decide) ?_ ?_
  · refine z_iload_ok (pc := 1452) (i := 5) C2.hx C2.hb dL_law_1452 ?_
    refine z_if_ne_ok (pc := 1454) (tgt := 1469) C2.hx C2.hb dL_law_1454 (by decide) ?_ ?_
    · refine z_goto_ok (pc := 1469) (tgt := 2620) C2.hx C2.hb dL_law_1469 (by decide) ?_
      exact zk_L_law_2620 C2 hn hJ
    · refine z_aload_n_ok (pc := 1457) (i := 3) C2.hx C2.hb dL_law_1457 rfl ?_
      refine z_iconst_ok (pc := 1458) (v := 0) C2.hx C2.hb dL_law_1458 (by decide) ?_
      refine z_lald_ok (pc := 1459) C2 dL_law_1459 ?_
      refine z_iload_ok (pc := 1460) (i := 6) C2.hx C2.hb dL_law_1460 ?_
      refine z_i2l_ok (pc := 1462) C2.hx C2.hb dL_law_1462 ?_
      refine z_lcmp_ok (pc := 1463) C2.hx C2.hb dL_law_1463 ?_
      refine z_if_eq_ok (pc := 1464) (tgt := 1469) C2.hx C2.hb dL_law_1464 (by decide) ?_ ?_
      · refine z_goto_ok (pc := 1469) (tgt := 2620) C2.hx C2.hb dL_law_1469 (by decide) ?_
        exact zk_L_law_2620 C2 hn hJ
      · exact fun _ _ _ _ _ _ _ h => False.elim h
  · exact fun _ _ _ _ _ _ _ h => False.elim h
def zb_L_law_1472 (xs : Nat → Int32) (Len : Nat) (J : ZP) : ZP := (z_ald 1 (z_ald 0 (z_ild 4 (z_push 1 (z_bin (fun x y => x + y) (z_sald xs Len (z_ald 0 (z_ild 4 (z_push 2 (z_bin (fun x y => x + y) (z_sald xs Len (z_ald 0 (z_ild 4 (z_push 3 (z_bin (fun x y => x + y) (z_sald xs Len (z_ald 0 (z_ild 4 (z_push 4 (z_bin (fun x y => x + y) (z_sald xs Len (z_ald 3 (z_invSm 6 sp_L_buy (z_ist 5 (z_ald 2 (z_ald 0 (z_ild 4 (z_push 1 (z_bin (fun x y => x + y) (z_sald xs Len (z_ald 0 (z_ild 4 (z_push 2 (z_bin (fun x y => x + y) (z_sald xs Len (z_ald 0 (z_ild 4 (z_push 3 (z_bin (fun x y => x + y) (z_sald xs Len (z_ald 0 (z_ild 4 (z_push 4 (z_bin (fun x y => x + y) (z_sald xs Len (z_invVm 8 4 sp_X8_buy (z_ist 6 (z_ald 2 (z_invV 8 0 sp_X8_thrown (z_ild 5 (z_cmp (fun x y => x = y) (z_ild 5 (z_if (fun x => x = 0) (z_ald 3 (z_push 0 (z_lald (z_ild 6 (z_i2l (z_lcmp (z_if (fun x => x = 0) (zb_L_law_2620 J) (fun _ _ _ _ => False)))))))) (zb_L_law_2620 J))) (fun _ _ _ _ => False))))))))))))))))))))))))))))))))))))))))))))))))))))
set_option maxRecDepth 20000 in
theorem zk_L_law_1472 {X : ZX} (C : zCx X cL_law RL ret 10 380 11 66) (C2 : zCx (zXc X (X.ce + 10) (X.sl + 60)) cL_law RL ret 10 380 1 6) (hn : X.nL = 7) (hKF : ∀ n S, ¬ X.K (.inr n) S) {b Len : Nat} {xs : Nat → Int32} (hs : zscr X b Len xs) {J : ZP} (hJ : ZOK (zXc X (X.ce + 10) (X.sl + 60)) 23 J) : ZOK X 1472 (zb_L_law_1472 xs Len J) := by
  unfold zb_L_law_1472
  refine z_aload_n_ok (pc := 1472) (i := 1) C.hx C.hb dL_law_1472 rfl ?_
  refine z_aload_n_ok (pc := 1473) (i := 0) C.hx C.hb dL_law_1473 rfl ?_
  refine z_iload_ok (pc := 1474) (i := 4) C.hx C.hb dL_law_1474 ?_
  refine z_iconst_ok (pc := 1476) (v := 1) C.hx C.hb dL_law_1476 (by decide) ?_
  refine z_iadd_ok (pc := 1477) C.hx C.hb dL_law_1477 ?_
  refine z_sald_ok (pc := 1478) C hs dL_law_1478 ?_
  refine z_aload_n_ok (pc := 1479) (i := 0) C.hx C.hb dL_law_1479 rfl ?_
  refine z_iload_ok (pc := 1480) (i := 4) C.hx C.hb dL_law_1480 ?_
  refine z_iconst_ok (pc := 1482) (v := 2) C.hx C.hb dL_law_1482 (by decide) ?_
  refine z_iadd_ok (pc := 1483) C.hx C.hb dL_law_1483 ?_
  refine z_sald_ok (pc := 1484) C hs dL_law_1484 ?_
  refine z_aload_n_ok (pc := 1485) (i := 0) C.hx C.hb dL_law_1485 rfl ?_
  refine z_iload_ok (pc := 1486) (i := 4) C.hx C.hb dL_law_1486 ?_
  refine z_iconst_ok (pc := 1488) (v := 3) C.hx C.hb dL_law_1488 (by decide) ?_
  refine z_iadd_ok (pc := 1489) C.hx C.hb dL_law_1489 ?_
  refine z_sald_ok (pc := 1490) C hs dL_law_1490 ?_
  refine z_aload_n_ok (pc := 1491) (i := 0) C.hx C.hb dL_law_1491 rfl ?_
  refine z_iload_ok (pc := 1492) (i := 4) C.hx C.hb dL_law_1492 ?_
  refine z_iconst_ok (pc := 1494) (v := 4) C.hx C.hb dL_law_1494 (by decide) ?_
  refine z_iadd_ok (pc := 1495) C.hx C.hb dL_law_1495 ?_
  refine z_sald_ok (pc := 1496) C hs dL_law_1496 ?_
  refine z_aload_n_ok (pc := 1497) (i := 3) C.hx C.hb dL_law_1497 rfl ?_
  refine z_invSWm_ok (pc := 1498) C hKF (zm_L_buy X.l C.htr) ⟨rfl, rfl⟩ ⟨by decide, by decide⟩ (by decide) (by decide) zcl_L_194 zw_622 dL_law_1498 ?_
  refine z_istore_ok (pc := 1501) (i := 5) C2.hx C2.hb dL_law_1501 (zlt hn (by decide)) ?_
  refine z_aload_n_ok (pc := 1503) (i := 2) C2.hx C2.hb dL_law_1503 rfl ?_
  refine z_aload_n_ok (pc := 1504) (i := 0) C2.hx C2.hb dL_law_1504 rfl ?_
  refine z_iload_ok (pc := 1505) (i := 4) C2.hx C2.hb dL_law_1505 ?_
  refine z_iconst_ok (pc := 1507) (v := 1) C2.hx C2.hb dL_law_1507 (by decide) ?_
  refine z_iadd_ok (pc := 1508) C2.hx C2.hb dL_law_1508 ?_
  refine z_sald_ok (pc := 1509) C2 hs dL_law_1509 ?_
  refine z_aload_n_ok (pc := 1510) (i := 0) C2.hx C2.hb dL_law_1510 rfl ?_
  refine z_iload_ok (pc := 1511) (i := 4) C2.hx C2.hb dL_law_1511 ?_
  refine z_iconst_ok (pc := 1513) (v := 2) C2.hx C2.hb dL_law_1513 (by decide) ?_
  refine z_iadd_ok (pc := 1514) C2.hx C2.hb dL_law_1514 ?_
  refine z_sald_ok (pc := 1515) C2 hs dL_law_1515 ?_
  refine z_aload_n_ok (pc := 1516) (i := 0) C2.hx C2.hb dL_law_1516 rfl ?_
  refine z_iload_ok (pc := 1517) (i := 4) C2.hx C2.hb dL_law_1517 ?_
  refine z_iconst_ok (pc := 1519) (v := 3) C2.hx C2.hb dL_law_1519 (by decide) ?_
  refine z_iadd_ok (pc := 1520) C2.hx C2.hb dL_law_1520 ?_
  refine z_sald_ok (pc := 1521) C2 hs dL_law_1521 ?_
  refine z_aload_n_ok (pc := 1522) (i := 0) C2.hx C2.hb dL_law_1522 rfl ?_
  refine z_iload_ok (pc := 1523) (i := 4) C2.hx C2.hb dL_law_1523 ?_
  refine z_iconst_ok (pc := 1525) (v := 4) C2.hx C2.hb dL_law_1525 (by decide) ?_
  refine z_iadd_ok (pc := 1526) C2.hx C2.hb dL_law_1526 ?_
  refine z_sald_ok (pc := 1527) C2 hs dL_law_1527 ?_
  refine z_invVLm_ok (pc := 1528) C2 hKF (zm_X8_buy X.l C2.htr) ⟨rfl, rfl⟩ ⟨by decide, by decide⟩ (by decide) (by decide) zcl_L_197 zw_1131 zw_1132 zK8 dL_law_1528 ?_
  refine z_istore_ok (pc := 1531) (i := 6) C2.hx C2.hb dL_law_1531 (zlt hn (by decide)) ?_
  refine z_aload_n_ok (pc := 1533) (i := 2) C2.hx C2.hb dL_law_1533 rfl ?_
  refine z_invVL_ok (pc := 1534) C2 hKF (zm_X8_thrown X.l C2.htr) ⟨rfl, rfl⟩ ⟨by decide, by decide⟩ (by decide) (by decide) zcl_L_135 zw_1001 zw_1002 zK8 dL_law_1534 ?_
  refine z_iload_ok (pc := 1537) (i := 5) C2.hx C2.hb dL_law_1537 ?_
  refine z_icmp_eq_ok (pc := 1539) (tgt := 1544) C2.hx C2.hb dL_law_1539 (by decide) ?_ ?_
  · refine z_iload_ok (pc := 1544) (i := 5) C2.hx C2.hb dL_law_1544 ?_
    refine z_if_ne_ok (pc := 1546) (tgt := 1561) C2.hx C2.hb dL_law_1546 (by decide) ?_ ?_
    · refine z_goto_ok (pc := 1561) (tgt := 2620) C2.hx C2.hb dL_law_1561 (by decide) ?_
      exact zk_L_law_2620 C2 hn hJ
    · refine z_aload_n_ok (pc := 1549) (i := 3) C2.hx C2.hb dL_law_1549 rfl ?_
      refine z_iconst_ok (pc := 1550) (v := 0) C2.hx C2.hb dL_law_1550 (by decide) ?_
      refine z_lald_ok (pc := 1551) C2 dL_law_1551 ?_
      refine z_iload_ok (pc := 1552) (i := 6) C2.hx C2.hb dL_law_1552 ?_
      refine z_i2l_ok (pc := 1554) C2.hx C2.hb dL_law_1554 ?_
      refine z_lcmp_ok (pc := 1555) C2.hx C2.hb dL_law_1555 ?_
      refine z_if_eq_ok (pc := 1556) (tgt := 1561) C2.hx C2.hb dL_law_1556 (by decide) ?_ ?_
      · refine z_goto_ok (pc := 1561) (tgt := 2620) C2.hx C2.hb dL_law_1561 (by decide) ?_
        exact zk_L_law_2620 C2 hn hJ
      · exact fun _ _ _ _ _ _ _ h => False.elim h
  · exact fun _ _ _ _ _ _ _ h => False.elim h
def zb_L_law_1564 (xs : Nat → Int32) (Len : Nat) (J : ZP) : ZP := (z_ald 1 (z_ald 0 (z_ild 4 (z_push 1 (z_bin (fun x y => x + y) (z_sald xs Len (z_ald 0 (z_ild 4 (z_push 2 (z_bin (fun x y => x + y) (z_sald xs Len (z_ald 0 (z_ild 4 (z_push 3 (z_bin (fun x y => x + y) (z_sald xs Len (z_ald 3 (z_invSm 5 sp_L_claim (z_ist 5 (z_ald 2 (z_ald 0 (z_ild 4 (z_push 1 (z_bin (fun x y => x + y) (z_sald xs Len (z_ald 0 (z_ild 4 (z_push 2 (z_bin (fun x y => x + y) (z_sald xs Len (z_ald 0 (z_ild 4 (z_push 3 (z_bin (fun x y => x + y) (z_sald xs Len (z_invVm 8 3 sp_X8_claim (z_ist 6 (z_ald 2 (z_invV 8 0 sp_X8_thrown (z_ild 5 (z_cmp (fun x y => x = y) (z_ild 5 (z_if (fun x => x = 0) (z_ald 3 (z_push 0 (z_lald (z_ild 6 (z_i2l (z_lcmp (z_if (fun x => x = 0) (zb_L_law_2620 J) (fun _ _ _ _ => False)))))))) (zb_L_law_2620 J))) (fun _ _ _ _ => False))))))))))))))))))))))))))))))))))))))))))
set_option maxRecDepth 20000 in
theorem zk_L_law_1564 {X : ZX} (C : zCx X cL_law RL ret 10 380 11 66) (C2 : zCx (zXc X (X.ce + 10) (X.sl + 60)) cL_law RL ret 10 380 1 6) (hn : X.nL = 7) (hKF : ∀ n S, ¬ X.K (.inr n) S) {b Len : Nat} {xs : Nat → Int32} (hs : zscr X b Len xs) {J : ZP} (hJ : ZOK (zXc X (X.ce + 10) (X.sl + 60)) 23 J) : ZOK X 1564 (zb_L_law_1564 xs Len J) := by
  unfold zb_L_law_1564
  refine z_aload_n_ok (pc := 1564) (i := 1) C.hx C.hb dL_law_1564 rfl ?_
  refine z_aload_n_ok (pc := 1565) (i := 0) C.hx C.hb dL_law_1565 rfl ?_
  refine z_iload_ok (pc := 1566) (i := 4) C.hx C.hb dL_law_1566 ?_
  refine z_iconst_ok (pc := 1568) (v := 1) C.hx C.hb dL_law_1568 (by decide) ?_
  refine z_iadd_ok (pc := 1569) C.hx C.hb dL_law_1569 ?_
  refine z_sald_ok (pc := 1570) C hs dL_law_1570 ?_
  refine z_aload_n_ok (pc := 1571) (i := 0) C.hx C.hb dL_law_1571 rfl ?_
  refine z_iload_ok (pc := 1572) (i := 4) C.hx C.hb dL_law_1572 ?_
  refine z_iconst_ok (pc := 1574) (v := 2) C.hx C.hb dL_law_1574 (by decide) ?_
  refine z_iadd_ok (pc := 1575) C.hx C.hb dL_law_1575 ?_
  refine z_sald_ok (pc := 1576) C hs dL_law_1576 ?_
  refine z_aload_n_ok (pc := 1577) (i := 0) C.hx C.hb dL_law_1577 rfl ?_
  refine z_iload_ok (pc := 1578) (i := 4) C.hx C.hb dL_law_1578 ?_
  refine z_iconst_ok (pc := 1580) (v := 3) C.hx C.hb dL_law_1580 (by decide) ?_
  refine z_iadd_ok (pc := 1581) C.hx C.hb dL_law_1581 ?_
  refine z_sald_ok (pc := 1582) C hs dL_law_1582 ?_
  refine z_aload_n_ok (pc := 1583) (i := 3) C.hx C.hb dL_law_1583 rfl ?_
  refine z_invSWm_ok (pc := 1584) C hKF (zm_L_claim X.l C.htr) ⟨rfl, rfl⟩ ⟨by decide, by decide⟩ (by decide) (by decide) zcl_L_198 zw_653 dL_law_1584 ?_
  refine z_istore_ok (pc := 1587) (i := 5) C2.hx C2.hb dL_law_1587 (zlt hn (by decide)) ?_
  refine z_aload_n_ok (pc := 1589) (i := 2) C2.hx C2.hb dL_law_1589 rfl ?_
  refine z_aload_n_ok (pc := 1590) (i := 0) C2.hx C2.hb dL_law_1590 rfl ?_
  refine z_iload_ok (pc := 1591) (i := 4) C2.hx C2.hb dL_law_1591 ?_
  refine z_iconst_ok (pc := 1593) (v := 1) C2.hx C2.hb dL_law_1593 (by decide) ?_
  refine z_iadd_ok (pc := 1594) C2.hx C2.hb dL_law_1594 ?_
  refine z_sald_ok (pc := 1595) C2 hs dL_law_1595 ?_
  refine z_aload_n_ok (pc := 1596) (i := 0) C2.hx C2.hb dL_law_1596 rfl ?_
  refine z_iload_ok (pc := 1597) (i := 4) C2.hx C2.hb dL_law_1597 ?_
  refine z_iconst_ok (pc := 1599) (v := 2) C2.hx C2.hb dL_law_1599 (by decide) ?_
  refine z_iadd_ok (pc := 1600) C2.hx C2.hb dL_law_1600 ?_
  refine z_sald_ok (pc := 1601) C2 hs dL_law_1601 ?_
  refine z_aload_n_ok (pc := 1602) (i := 0) C2.hx C2.hb dL_law_1602 rfl ?_
  refine z_iload_ok (pc := 1603) (i := 4) C2.hx C2.hb dL_law_1603 ?_
  refine z_iconst_ok (pc := 1605) (v := 3) C2.hx C2.hb dL_law_1605 (by decide) ?_
  refine z_iadd_ok (pc := 1606) C2.hx C2.hb dL_law_1606 ?_
  refine z_sald_ok (pc := 1607) C2 hs dL_law_1607 ?_
  refine z_invVLm_ok (pc := 1608) C2 hKF (zm_X8_claim X.l C2.htr) ⟨rfl, rfl⟩ ⟨by decide, by decide⟩ (by decide) (by decide) zcl_L_200 zw_1139 zw_1140 zK8 dL_law_1608 ?_
  refine z_istore_ok (pc := 1611) (i := 6) C2.hx C2.hb dL_law_1611 (zlt hn (by decide)) ?_
  refine z_aload_n_ok (pc := 1613) (i := 2) C2.hx C2.hb dL_law_1613 rfl ?_
  refine z_invVL_ok (pc := 1614) C2 hKF (zm_X8_thrown X.l C2.htr) ⟨rfl, rfl⟩ ⟨by decide, by decide⟩ (by decide) (by decide) zcl_L_135 zw_1001 zw_1002 zK8 dL_law_1614 ?_
  refine z_iload_ok (pc := 1617) (i := 5) C2.hx C2.hb dL_law_1617 ?_
  refine z_icmp_eq_ok (pc := 1619) (tgt := 1624) C2.hx C2.hb dL_law_1619 (by decide) ?_ ?_
  · refine z_iload_ok (pc := 1624) (i := 5) C2.hx C2.hb dL_law_1624 ?_
    refine z_if_ne_ok (pc := 1626) (tgt := 1641) C2.hx C2.hb dL_law_1626 (by decide) ?_ ?_
    · refine z_goto_ok (pc := 1641) (tgt := 2620) C2.hx C2.hb dL_law_1641 (by decide) ?_
      exact zk_L_law_2620 C2 hn hJ
    · refine z_aload_n_ok (pc := 1629) (i := 3) C2.hx C2.hb dL_law_1629 rfl ?_
      refine z_iconst_ok (pc := 1630) (v := 0) C2.hx C2.hb dL_law_1630 (by decide) ?_
      refine z_lald_ok (pc := 1631) C2 dL_law_1631 ?_
      refine z_iload_ok (pc := 1632) (i := 6) C2.hx C2.hb dL_law_1632 ?_
      refine z_i2l_ok (pc := 1634) C2.hx C2.hb dL_law_1634 ?_
      refine z_lcmp_ok (pc := 1635) C2.hx C2.hb dL_law_1635 ?_
      refine z_if_eq_ok (pc := 1636) (tgt := 1641) C2.hx C2.hb dL_law_1636 (by decide) ?_ ?_
      · refine z_goto_ok (pc := 1641) (tgt := 2620) C2.hx C2.hb dL_law_1641 (by decide) ?_
        exact zk_L_law_2620 C2 hn hJ
      · exact fun _ _ _ _ _ _ _ h => False.elim h
  · exact fun _ _ _ _ _ _ _ h => False.elim h
def zb_L_law_1644 (xs : Nat → Int32) (Len : Nat) (J : ZP) : ZP := (z_ald 1 (z_ald 0 (z_ild 4 (z_push 1 (z_bin (fun x y => x + y) (z_sald xs Len (z_ald 0 (z_ild 4 (z_push 2 (z_bin (fun x y => x + y) (z_sald xs Len (z_ald 0 (z_ild 4 (z_push 3 (z_bin (fun x y => x + y) (z_sald xs Len (z_ald 3 (z_invSm 5 sp_L_advance (z_ist 5 (z_ald 2 (z_ald 0 (z_ild 4 (z_push 1 (z_bin (fun x y => x + y) (z_sald xs Len (z_ald 0 (z_ild 4 (z_push 2 (z_bin (fun x y => x + y) (z_sald xs Len (z_ald 0 (z_ild 4 (z_push 3 (z_bin (fun x y => x + y) (z_sald xs Len (z_invVm 8 3 sp_X8_advance (z_ist 6 (z_ald 2 (z_invV 8 0 sp_X8_thrown (z_ild 5 (z_cmp (fun x y => x = y) (z_ild 5 (z_if (fun x => x = 0) (z_ald 3 (z_push 0 (z_lald (z_ild 6 (z_i2l (z_lcmp (z_if (fun x => x = 0) (zb_L_law_2620 J) (fun _ _ _ _ => False)))))))) (zb_L_law_2620 J))) (fun _ _ _ _ => False))))))))))))))))))))))))))))))))))))))))))
set_option maxRecDepth 20000 in
theorem zk_L_law_1644 {X : ZX} (C : zCx X cL_law RL ret 10 380 11 66) (C2 : zCx (zXc X (X.ce + 10) (X.sl + 60)) cL_law RL ret 10 380 1 6) (hn : X.nL = 7) (hKF : ∀ n S, ¬ X.K (.inr n) S) {b Len : Nat} {xs : Nat → Int32} (hs : zscr X b Len xs) {J : ZP} (hJ : ZOK (zXc X (X.ce + 10) (X.sl + 60)) 23 J) : ZOK X 1644 (zb_L_law_1644 xs Len J) := by
  unfold zb_L_law_1644
  refine z_aload_n_ok (pc := 1644) (i := 1) C.hx C.hb dL_law_1644 rfl ?_
  refine z_aload_n_ok (pc := 1645) (i := 0) C.hx C.hb dL_law_1645 rfl ?_
  refine z_iload_ok (pc := 1646) (i := 4) C.hx C.hb dL_law_1646 ?_
  refine z_iconst_ok (pc := 1648) (v := 1) C.hx C.hb dL_law_1648 (by decide) ?_
  refine z_iadd_ok (pc := 1649) C.hx C.hb dL_law_1649 ?_
  refine z_sald_ok (pc := 1650) C hs dL_law_1650 ?_
  refine z_aload_n_ok (pc := 1651) (i := 0) C.hx C.hb dL_law_1651 rfl ?_
  refine z_iload_ok (pc := 1652) (i := 4) C.hx C.hb dL_law_1652 ?_
  refine z_iconst_ok (pc := 1654) (v := 2) C.hx C.hb dL_law_1654 (by decide) ?_
  refine z_iadd_ok (pc := 1655) C.hx C.hb dL_law_1655 ?_
  refine z_sald_ok (pc := 1656) C hs dL_law_1656 ?_
  refine z_aload_n_ok (pc := 1657) (i := 0) C.hx C.hb dL_law_1657 rfl ?_
  refine z_iload_ok (pc := 1658) (i := 4) C.hx C.hb dL_law_1658 ?_
  refine z_iconst_ok (pc := 1660) (v := 3) C.hx C.hb dL_law_1660 (by decide) ?_
  refine z_iadd_ok (pc := 1661) C.hx C.hb dL_law_1661 ?_
  refine z_sald_ok (pc := 1662) C hs dL_law_1662 ?_
  refine z_aload_n_ok (pc := 1663) (i := 3) C.hx C.hb dL_law_1663 rfl ?_
  refine z_invSWm_ok (pc := 1664) C hKF (zm_L_advance X.l C.htr) ⟨rfl, rfl⟩ ⟨by decide, by decide⟩ (by decide) (by decide) zcl_L_201 zw_670 dL_law_1664 ?_
  refine z_istore_ok (pc := 1667) (i := 5) C2.hx C2.hb dL_law_1667 (zlt hn (by decide)) ?_
  refine z_aload_n_ok (pc := 1669) (i := 2) C2.hx C2.hb dL_law_1669 rfl ?_
  refine z_aload_n_ok (pc := 1670) (i := 0) C2.hx C2.hb dL_law_1670 rfl ?_
  refine z_iload_ok (pc := 1671) (i := 4) C2.hx C2.hb dL_law_1671 ?_
  refine z_iconst_ok (pc := 1673) (v := 1) C2.hx C2.hb dL_law_1673 (by decide) ?_
  refine z_iadd_ok (pc := 1674) C2.hx C2.hb dL_law_1674 ?_
  refine z_sald_ok (pc := 1675) C2 hs dL_law_1675 ?_
  refine z_aload_n_ok (pc := 1676) (i := 0) C2.hx C2.hb dL_law_1676 rfl ?_
  refine z_iload_ok (pc := 1677) (i := 4) C2.hx C2.hb dL_law_1677 ?_
  refine z_iconst_ok (pc := 1679) (v := 2) C2.hx C2.hb dL_law_1679 (by decide) ?_
  refine z_iadd_ok (pc := 1680) C2.hx C2.hb dL_law_1680 ?_
  refine z_sald_ok (pc := 1681) C2 hs dL_law_1681 ?_
  refine z_aload_n_ok (pc := 1682) (i := 0) C2.hx C2.hb dL_law_1682 rfl ?_
  refine z_iload_ok (pc := 1683) (i := 4) C2.hx C2.hb dL_law_1683 ?_
  refine z_iconst_ok (pc := 1685) (v := 3) C2.hx C2.hb dL_law_1685 (by decide) ?_
  refine z_iadd_ok (pc := 1686) C2.hx C2.hb dL_law_1686 ?_
  refine z_sald_ok (pc := 1687) C2 hs dL_law_1687 ?_
  refine z_invVLm_ok (pc := 1688) C2 hKF (zm_X8_advance X.l C2.htr) ⟨rfl, rfl⟩ ⟨by decide, by decide⟩ (by decide) (by decide) zcl_L_203 zw_1154 zw_1155 zK8 dL_law_1688 ?_
  refine z_istore_ok (pc := 1691) (i := 6) C2.hx C2.hb dL_law_1691 (zlt hn (by decide)) ?_
  refine z_aload_n_ok (pc := 1693) (i := 2) C2.hx C2.hb dL_law_1693 rfl ?_
  refine z_invVL_ok (pc := 1694) C2 hKF (zm_X8_thrown X.l C2.htr) ⟨rfl, rfl⟩ ⟨by decide, by decide⟩ (by decide) (by decide) zcl_L_135 zw_1001 zw_1002 zK8 dL_law_1694 ?_
  refine z_iload_ok (pc := 1697) (i := 5) C2.hx C2.hb dL_law_1697 ?_
  refine z_icmp_eq_ok (pc := 1699) (tgt := 1704) C2.hx C2.hb dL_law_1699 (by decide) ?_ ?_
  · refine z_iload_ok (pc := 1704) (i := 5) C2.hx C2.hb dL_law_1704 ?_
    refine z_if_ne_ok (pc := 1706) (tgt := 1721) C2.hx C2.hb dL_law_1706 (by decide) ?_ ?_
    · refine z_goto_ok (pc := 1721) (tgt := 2620) C2.hx C2.hb dL_law_1721 (by decide) ?_
      exact zk_L_law_2620 C2 hn hJ
    · refine z_aload_n_ok (pc := 1709) (i := 3) C2.hx C2.hb dL_law_1709 rfl ?_
      refine z_iconst_ok (pc := 1710) (v := 0) C2.hx C2.hb dL_law_1710 (by decide) ?_
      refine z_lald_ok (pc := 1711) C2 dL_law_1711 ?_
      refine z_iload_ok (pc := 1712) (i := 6) C2.hx C2.hb dL_law_1712 ?_
      refine z_i2l_ok (pc := 1714) C2.hx C2.hb dL_law_1714 ?_
      refine z_lcmp_ok (pc := 1715) C2.hx C2.hb dL_law_1715 ?_
      refine z_if_eq_ok (pc := 1716) (tgt := 1721) C2.hx C2.hb dL_law_1716 (by decide) ?_ ?_
      · refine z_goto_ok (pc := 1721) (tgt := 2620) C2.hx C2.hb dL_law_1721 (by decide) ?_
        exact zk_L_law_2620 C2 hn hJ
      · exact fun _ _ _ _ _ _ _ h => False.elim h
  · exact fun _ _ _ _ _ _ _ h => False.elim h
def zb_L_law_1724 (xs : Nat → Int32) (Len : Nat) (J : ZP) : ZP := (z_ald 1 (z_ald 0 (z_ild 4 (z_push 1 (z_bin (fun x y => x + y) (z_sald xs Len (z_ald 0 (z_ild 4 (z_push 2 (z_bin (fun x y => x + y) (z_sald xs Len (z_ald 3 (z_invSm 4 sp_L_settle (z_ist 5 (z_ald 2 (z_ald 0 (z_ild 4 (z_push 1 (z_bin (fun x y => x + y) (z_sald xs Len (z_ald 0 (z_ild 4 (z_push 2 (z_bin (fun x y => x + y) (z_sald xs Len (z_invVm 8 2 sp_X8_settle (z_ist 6 (z_ald 2 (z_invV 8 0 sp_X8_thrown (z_ild 5 (z_cmp (fun x y => x = y) (z_ild 5 (z_if (fun x => x = 0) (z_ald 3 (z_push 0 (z_lald (z_ild 6 (z_i2l (z_lcmp (z_if (fun x => x = 0) (zb_L_law_2620 J) (fun _ _ _ _ => False)))))))) (zb_L_law_2620 J))) (fun _ _ _ _ => False))))))))))))))))))))))))))))))))
set_option maxRecDepth 20000 in
theorem zk_L_law_1724 {X : ZX} (C : zCx X cL_law RL ret 10 380 11 66) (C2 : zCx (zXc X (X.ce + 10) (X.sl + 60)) cL_law RL ret 10 380 1 6) (hn : X.nL = 7) (hKF : ∀ n S, ¬ X.K (.inr n) S) {b Len : Nat} {xs : Nat → Int32} (hs : zscr X b Len xs) {J : ZP} (hJ : ZOK (zXc X (X.ce + 10) (X.sl + 60)) 23 J) : ZOK X 1724 (zb_L_law_1724 xs Len J) := by
  unfold zb_L_law_1724
  refine z_aload_n_ok (pc := 1724) (i := 1) C.hx C.hb dL_law_1724 rfl ?_
  refine z_aload_n_ok (pc := 1725) (i := 0) C.hx C.hb dL_law_1725 rfl ?_
  refine z_iload_ok (pc := 1726) (i := 4) C.hx C.hb dL_law_1726 ?_
  refine z_iconst_ok (pc := 1728) (v := 1) C.hx C.hb dL_law_1728 (by decide) ?_
  refine z_iadd_ok (pc := 1729) C.hx C.hb dL_law_1729 ?_
  refine z_sald_ok (pc := 1730) C hs dL_law_1730 ?_
  refine z_aload_n_ok (pc := 1731) (i := 0) C.hx C.hb dL_law_1731 rfl ?_
  refine z_iload_ok (pc := 1732) (i := 4) C.hx C.hb dL_law_1732 ?_
  refine z_iconst_ok (pc := 1734) (v := 2) C.hx C.hb dL_law_1734 (by decide) ?_
  refine z_iadd_ok (pc := 1735) C.hx C.hb dL_law_1735 ?_
  refine z_sald_ok (pc := 1736) C hs dL_law_1736 ?_
  refine z_aload_n_ok (pc := 1737) (i := 3) C.hx C.hb dL_law_1737 rfl ?_
  refine z_invSWm_ok (pc := 1738) C hKF (zm_L_settle X.l C.htr) ⟨rfl, rfl⟩ ⟨by decide, by decide⟩ (by decide) (by decide) zcl_L_204 zw_677 dL_law_1738 ?_
  refine z_istore_ok (pc := 1741) (i := 5) C2.hx C2.hb dL_law_1741 (zlt hn (by decide)) ?_
  refine z_aload_n_ok (pc := 1743) (i := 2) C2.hx C2.hb dL_law_1743 rfl ?_
  refine z_aload_n_ok (pc := 1744) (i := 0) C2.hx C2.hb dL_law_1744 rfl ?_
  refine z_iload_ok (pc := 1745) (i := 4) C2.hx C2.hb dL_law_1745 ?_
  refine z_iconst_ok (pc := 1747) (v := 1) C2.hx C2.hb dL_law_1747 (by decide) ?_
  refine z_iadd_ok (pc := 1748) C2.hx C2.hb dL_law_1748 ?_
  refine z_sald_ok (pc := 1749) C2 hs dL_law_1749 ?_
  refine z_aload_n_ok (pc := 1750) (i := 0) C2.hx C2.hb dL_law_1750 rfl ?_
  refine z_iload_ok (pc := 1751) (i := 4) C2.hx C2.hb dL_law_1751 ?_
  refine z_iconst_ok (pc := 1753) (v := 2) C2.hx C2.hb dL_law_1753 (by decide) ?_
  refine z_iadd_ok (pc := 1754) C2.hx C2.hb dL_law_1754 ?_
  refine z_sald_ok (pc := 1755) C2 hs dL_law_1755 ?_
  refine z_invVLm_ok (pc := 1756) C2 hKF (zm_X8_settle X.l C2.htr) ⟨rfl, rfl⟩ ⟨by decide, by decide⟩ (by decide) (by decide) zcl_L_206 zw_1158 zw_1159 zK8 dL_law_1756 ?_
  refine z_istore_ok (pc := 1759) (i := 6) C2.hx C2.hb dL_law_1759 (zlt hn (by decide)) ?_
  refine z_aload_n_ok (pc := 1761) (i := 2) C2.hx C2.hb dL_law_1761 rfl ?_
  refine z_invVL_ok (pc := 1762) C2 hKF (zm_X8_thrown X.l C2.htr) ⟨rfl, rfl⟩ ⟨by decide, by decide⟩ (by decide) (by decide) zcl_L_135 zw_1001 zw_1002 zK8 dL_law_1762 ?_
  refine z_iload_ok (pc := 1765) (i := 5) C2.hx C2.hb dL_law_1765 ?_
  refine z_icmp_eq_ok (pc := 1767) (tgt := 1772) C2.hx C2.hb dL_law_1767 (by decide) ?_ ?_
  · refine z_iload_ok (pc := 1772) (i := 5) C2.hx C2.hb dL_law_1772 ?_
    refine z_if_ne_ok (pc := 1774) (tgt := 1789) C2.hx C2.hb dL_law_1774 (by decide) ?_ ?_
    · refine z_goto_ok (pc := 1789) (tgt := 2620) C2.hx C2.hb dL_law_1789 (by decide) ?_
      exact zk_L_law_2620 C2 hn hJ
    · refine z_aload_n_ok (pc := 1777) (i := 3) C2.hx C2.hb dL_law_1777 rfl ?_
      refine z_iconst_ok (pc := 1778) (v := 0) C2.hx C2.hb dL_law_1778 (by decide) ?_
      refine z_lald_ok (pc := 1779) C2 dL_law_1779 ?_
      refine z_iload_ok (pc := 1780) (i := 6) C2.hx C2.hb dL_law_1780 ?_
      refine z_i2l_ok (pc := 1782) C2.hx C2.hb dL_law_1782 ?_
      refine z_lcmp_ok (pc := 1783) C2.hx C2.hb dL_law_1783 ?_
      refine z_if_eq_ok (pc := 1784) (tgt := 1789) C2.hx C2.hb dL_law_1784 (by decide) ?_ ?_
      · refine z_goto_ok (pc := 1789) (tgt := 2620) C2.hx C2.hb dL_law_1789 (by decide) ?_
        exact zk_L_law_2620 C2 hn hJ
      · exact fun _ _ _ _ _ _ _ h => False.elim h
  · exact fun _ _ _ _ _ _ _ h => False.elim h
def zb_L_law_1792 (xs : Nat → Int32) (Len : Nat) (J : ZP) : ZP := (z_ald 1 (z_ald 0 (z_ild 4 (z_push 1 (z_bin (fun x y => x + y) (z_sald xs Len (z_ald 0 (z_ild 4 (z_push 2 (z_bin (fun x y => x + y) (z_sald xs Len (z_ald 0 (z_ild 4 (z_push 3 (z_bin (fun x y => x + y) (z_sald xs Len (z_ald 0 (z_ild 4 (z_push 4 (z_bin (fun x y => x + y) (z_sald xs Len (z_ald 3 (z_invSm 6 sp_L_lacks (z_ist 5 (z_ald 2 (z_ald 0 (z_ild 4 (z_push 1 (z_bin (fun x y => x + y) (z_sald xs Len (z_ald 0 (z_ild 4 (z_push 2 (z_bin (fun x y => x + y) (z_sald xs Len (z_ald 0 (z_ild 4 (z_push 3 (z_bin (fun x y => x + y) (z_sald xs Len (z_ald 0 (z_ild 4 (z_push 4 (z_bin (fun x y => x + y) (z_sald xs Len (z_invVm 8 4 sp_X8_lacks (z_ist 6 (z_ald 2 (z_invV 8 0 sp_X8_thrown (z_ild 5 (z_cmp (fun x y => x = y) (z_ild 5 (z_if (fun x => x = 0) (z_ald 3 (z_push 0 (z_lald (z_ild 6 (z_i2l (z_lcmp (z_if (fun x => x = 0) (zb_L_law_2620 J) (fun _ _ _ _ => False)))))))) (zb_L_law_2620 J))) (fun _ _ _ _ => False))))))))))))))))))))))))))))))))))))))))))))))))))))
set_option maxRecDepth 20000 in
theorem zk_L_law_1792 {X : ZX} (C : zCx X cL_law RL ret 10 380 11 66) (C2 : zCx (zXc X (X.ce + 10) (X.sl + 60)) cL_law RL ret 10 380 1 6) (hn : X.nL = 7) (hKF : ∀ n S, ¬ X.K (.inr n) S) {b Len : Nat} {xs : Nat → Int32} (hs : zscr X b Len xs) {J : ZP} (hJ : ZOK (zXc X (X.ce + 10) (X.sl + 60)) 23 J) : ZOK X 1792 (zb_L_law_1792 xs Len J) := by
  unfold zb_L_law_1792
  refine z_aload_n_ok (pc := 1792) (i := 1) C.hx C.hb dL_law_1792 rfl ?_
  refine z_aload_n_ok (pc := 1793) (i := 0) C.hx C.hb dL_law_1793 rfl ?_
  refine z_iload_ok (pc := 1794) (i := 4) C.hx C.hb dL_law_1794 ?_
  refine z_iconst_ok (pc := 1796) (v := 1) C.hx C.hb dL_law_1796 (by decide) ?_
  refine z_iadd_ok (pc := 1797) C.hx C.hb dL_law_1797 ?_
  refine z_sald_ok (pc := 1798) C hs dL_law_1798 ?_
  refine z_aload_n_ok (pc := 1799) (i := 0) C.hx C.hb dL_law_1799 rfl ?_
  refine z_iload_ok (pc := 1800) (i := 4) C.hx C.hb dL_law_1800 ?_
  refine z_iconst_ok (pc := 1802) (v := 2) C.hx C.hb dL_law_1802 (by decide) ?_
  refine z_iadd_ok (pc := 1803) C.hx C.hb dL_law_1803 ?_
  refine z_sald_ok (pc := 1804) C hs dL_law_1804 ?_
  refine z_aload_n_ok (pc := 1805) (i := 0) C.hx C.hb dL_law_1805 rfl ?_
  refine z_iload_ok (pc := 1806) (i := 4) C.hx C.hb dL_law_1806 ?_
  refine z_iconst_ok (pc := 1808) (v := 3) C.hx C.hb dL_law_1808 (by decide) ?_
  refine z_iadd_ok (pc := 1809) C.hx C.hb dL_law_1809 ?_
  refine z_sald_ok (pc := 1810) C hs dL_law_1810 ?_
  refine z_aload_n_ok (pc := 1811) (i := 0) C.hx C.hb dL_law_1811 rfl ?_
  refine z_iload_ok (pc := 1812) (i := 4) C.hx C.hb dL_law_1812 ?_
  refine z_iconst_ok (pc := 1814) (v := 4) C.hx C.hb dL_law_1814 (by decide) ?_
  refine z_iadd_ok (pc := 1815) C.hx C.hb dL_law_1815 ?_
  refine z_sald_ok (pc := 1816) C hs dL_law_1816 ?_
  refine z_aload_n_ok (pc := 1817) (i := 3) C.hx C.hb dL_law_1817 rfl ?_
  refine z_invSWm_ok (pc := 1818) C hKF (zm_L_lacks X.l C.htr) ⟨rfl, rfl⟩ ⟨by decide, by decide⟩ (by decide) (by decide) zcl_L_207 zw_684 dL_law_1818 ?_
  refine z_istore_ok (pc := 1821) (i := 5) C2.hx C2.hb dL_law_1821 (zlt hn (by decide)) ?_
  refine z_aload_n_ok (pc := 1823) (i := 2) C2.hx C2.hb dL_law_1823 rfl ?_
  refine z_aload_n_ok (pc := 1824) (i := 0) C2.hx C2.hb dL_law_1824 rfl ?_
  refine z_iload_ok (pc := 1825) (i := 4) C2.hx C2.hb dL_law_1825 ?_
  refine z_iconst_ok (pc := 1827) (v := 1) C2.hx C2.hb dL_law_1827 (by decide) ?_
  refine z_iadd_ok (pc := 1828) C2.hx C2.hb dL_law_1828 ?_
  refine z_sald_ok (pc := 1829) C2 hs dL_law_1829 ?_
  refine z_aload_n_ok (pc := 1830) (i := 0) C2.hx C2.hb dL_law_1830 rfl ?_
  refine z_iload_ok (pc := 1831) (i := 4) C2.hx C2.hb dL_law_1831 ?_
  refine z_iconst_ok (pc := 1833) (v := 2) C2.hx C2.hb dL_law_1833 (by decide) ?_
  refine z_iadd_ok (pc := 1834) C2.hx C2.hb dL_law_1834 ?_
  refine z_sald_ok (pc := 1835) C2 hs dL_law_1835 ?_
  refine z_aload_n_ok (pc := 1836) (i := 0) C2.hx C2.hb dL_law_1836 rfl ?_
  refine z_iload_ok (pc := 1837) (i := 4) C2.hx C2.hb dL_law_1837 ?_
  refine z_iconst_ok (pc := 1839) (v := 3) C2.hx C2.hb dL_law_1839 (by decide) ?_
  refine z_iadd_ok (pc := 1840) C2.hx C2.hb dL_law_1840 ?_
  refine z_sald_ok (pc := 1841) C2 hs dL_law_1841 ?_
  refine z_aload_n_ok (pc := 1842) (i := 0) C2.hx C2.hb dL_law_1842 rfl ?_
  refine z_iload_ok (pc := 1843) (i := 4) C2.hx C2.hb dL_law_1843 ?_
  refine z_iconst_ok (pc := 1845) (v := 4) C2.hx C2.hb dL_law_1845 (by decide) ?_
  refine z_iadd_ok (pc := 1846) C2.hx C2.hb dL_law_1846 ?_
  refine z_sald_ok (pc := 1847) C2 hs dL_law_1847 ?_
  refine z_invVLm_ok (pc := 1848) C2 hKF (zm_X8_lacks X.l C2.htr) ⟨rfl, rfl⟩ ⟨by decide, by decide⟩ (by decide) (by decide) zcl_L_209 zw_1162 zw_1163 zK8 dL_law_1848 ?_
  refine z_istore_ok (pc := 1851) (i := 6) C2.hx C2.hb dL_law_1851 (zlt hn (by decide)) ?_
  refine z_aload_n_ok (pc := 1853) (i := 2) C2.hx C2.hb dL_law_1853 rfl ?_
  refine z_invVL_ok (pc := 1854) C2 hKF (zm_X8_thrown X.l C2.htr) ⟨rfl, rfl⟩ ⟨by decide, by decide⟩ (by decide) (by decide) zcl_L_135 zw_1001 zw_1002 zK8 dL_law_1854 ?_
  refine z_iload_ok (pc := 1857) (i := 5) C2.hx C2.hb dL_law_1857 ?_
  refine z_icmp_eq_ok (pc := 1859) (tgt := 1864) C2.hx C2.hb dL_law_1859 (by decide) ?_ ?_
  · refine z_iload_ok (pc := 1864) (i := 5) C2.hx C2.hb dL_law_1864 ?_
    refine z_if_ne_ok (pc := 1866) (tgt := 1881) C2.hx C2.hb dL_law_1866 (by decide) ?_ ?_
    · refine z_goto_ok (pc := 1881) (tgt := 2620) C2.hx C2.hb dL_law_1881 (by decide) ?_
      exact zk_L_law_2620 C2 hn hJ
    · refine z_aload_n_ok (pc := 1869) (i := 3) C2.hx C2.hb dL_law_1869 rfl ?_
      refine z_iconst_ok (pc := 1870) (v := 0) C2.hx C2.hb dL_law_1870 (by decide) ?_
      refine z_lald_ok (pc := 1871) C2 dL_law_1871 ?_
      refine z_iload_ok (pc := 1872) (i := 6) C2.hx C2.hb dL_law_1872 ?_
      refine z_i2l_ok (pc := 1874) C2.hx C2.hb dL_law_1874 ?_
      refine z_lcmp_ok (pc := 1875) C2.hx C2.hb dL_law_1875 ?_
      refine z_if_eq_ok (pc := 1876) (tgt := 1881) C2.hx C2.hb dL_law_1876 (by decide) ?_ ?_
      · refine z_goto_ok (pc := 1881) (tgt := 2620) C2.hx C2.hb dL_law_1881 (by decide) ?_
        exact zk_L_law_2620 C2 hn hJ
      · exact fun _ _ _ _ _ _ _ h => False.elim h
  · exact fun _ _ _ _ _ _ _ h => False.elim h
def zb_L_law_1884 (xs : Nat → Int32) (Len : Nat) (J : ZP) : ZP := (z_ald 1 (z_ald 0 (z_ild 4 (z_push 1 (z_bin (fun x y => x + y) (z_sald xs Len (z_ald 0 (z_ild 4 (z_push 2 (z_bin (fun x y => x + y) (z_sald xs Len (z_ald 0 (z_ild 4 (z_push 3 (z_bin (fun x y => x + y) (z_sald xs Len (z_ald 3 (z_invSm 5 sp_L_shopIs (z_ist 5 (z_ald 2 (z_ald 0 (z_ild 4 (z_push 1 (z_bin (fun x y => x + y) (z_sald xs Len (z_ald 0 (z_ild 4 (z_push 2 (z_bin (fun x y => x + y) (z_sald xs Len (z_ald 0 (z_ild 4 (z_push 3 (z_bin (fun x y => x + y) (z_sald xs Len (z_invVm 8 3 sp_X8_shopIs (z_ist 6 (z_ald 2 (z_invV 8 0 sp_X8_thrown (z_ild 5 (z_cmp (fun x y => x = y) (z_ild 5 (z_if (fun x => x = 0) (z_ald 3 (z_push 0 (z_lald (z_ild 6 (z_i2l (z_lcmp (z_if (fun x => x = 0) (zb_L_law_2620 J) (fun _ _ _ _ => False)))))))) (zb_L_law_2620 J))) (fun _ _ _ _ => False))))))))))))))))))))))))))))))))))))))))))
set_option maxRecDepth 20000 in
theorem zk_L_law_1884 {X : ZX} (C : zCx X cL_law RL ret 10 380 11 66) (C2 : zCx (zXc X (X.ce + 10) (X.sl + 60)) cL_law RL ret 10 380 1 6) (hn : X.nL = 7) (hKF : ∀ n S, ¬ X.K (.inr n) S) {b Len : Nat} {xs : Nat → Int32} (hs : zscr X b Len xs) {J : ZP} (hJ : ZOK (zXc X (X.ce + 10) (X.sl + 60)) 23 J) : ZOK X 1884 (zb_L_law_1884 xs Len J) := by
  unfold zb_L_law_1884
  refine z_aload_n_ok (pc := 1884) (i := 1) C.hx C.hb dL_law_1884 rfl ?_
  refine z_aload_n_ok (pc := 1885) (i := 0) C.hx C.hb dL_law_1885 rfl ?_
  refine z_iload_ok (pc := 1886) (i := 4) C.hx C.hb dL_law_1886 ?_
  refine z_iconst_ok (pc := 1888) (v := 1) C.hx C.hb dL_law_1888 (by decide) ?_
  refine z_iadd_ok (pc := 1889) C.hx C.hb dL_law_1889 ?_
  refine z_sald_ok (pc := 1890) C hs dL_law_1890 ?_
  refine z_aload_n_ok (pc := 1891) (i := 0) C.hx C.hb dL_law_1891 rfl ?_
  refine z_iload_ok (pc := 1892) (i := 4) C.hx C.hb dL_law_1892 ?_
  refine z_iconst_ok (pc := 1894) (v := 2) C.hx C.hb dL_law_1894 (by decide) ?_
  refine z_iadd_ok (pc := 1895) C.hx C.hb dL_law_1895 ?_
  refine z_sald_ok (pc := 1896) C hs dL_law_1896 ?_
  refine z_aload_n_ok (pc := 1897) (i := 0) C.hx C.hb dL_law_1897 rfl ?_
  refine z_iload_ok (pc := 1898) (i := 4) C.hx C.hb dL_law_1898 ?_
  refine z_iconst_ok (pc := 1900) (v := 3) C.hx C.hb dL_law_1900 (by decide) ?_
  refine z_iadd_ok (pc := 1901) C.hx C.hb dL_law_1901 ?_
  refine z_sald_ok (pc := 1902) C hs dL_law_1902 ?_
  refine z_aload_n_ok (pc := 1903) (i := 3) C.hx C.hb dL_law_1903 rfl ?_
  refine z_invSWm_ok (pc := 1904) C hKF (zm_L_shopIs X.l C.htr) ⟨rfl, rfl⟩ ⟨by decide, by decide⟩ (by decide) (by decide) zcl_L_210 zw_691 dL_law_1904 ?_
  refine z_istore_ok (pc := 1907) (i := 5) C2.hx C2.hb dL_law_1907 (zlt hn (by decide)) ?_
  refine z_aload_n_ok (pc := 1909) (i := 2) C2.hx C2.hb dL_law_1909 rfl ?_
  refine z_aload_n_ok (pc := 1910) (i := 0) C2.hx C2.hb dL_law_1910 rfl ?_
  refine z_iload_ok (pc := 1911) (i := 4) C2.hx C2.hb dL_law_1911 ?_
  refine z_iconst_ok (pc := 1913) (v := 1) C2.hx C2.hb dL_law_1913 (by decide) ?_
  refine z_iadd_ok (pc := 1914) C2.hx C2.hb dL_law_1914 ?_
  refine z_sald_ok (pc := 1915) C2 hs dL_law_1915 ?_
  refine z_aload_n_ok (pc := 1916) (i := 0) C2.hx C2.hb dL_law_1916 rfl ?_
  refine z_iload_ok (pc := 1917) (i := 4) C2.hx C2.hb dL_law_1917 ?_
  refine z_iconst_ok (pc := 1919) (v := 2) C2.hx C2.hb dL_law_1919 (by decide) ?_
  refine z_iadd_ok (pc := 1920) C2.hx C2.hb dL_law_1920 ?_
  refine z_sald_ok (pc := 1921) C2 hs dL_law_1921 ?_
  refine z_aload_n_ok (pc := 1922) (i := 0) C2.hx C2.hb dL_law_1922 rfl ?_
  refine z_iload_ok (pc := 1923) (i := 4) C2.hx C2.hb dL_law_1923 ?_
  refine z_iconst_ok (pc := 1925) (v := 3) C2.hx C2.hb dL_law_1925 (by decide) ?_
  refine z_iadd_ok (pc := 1926) C2.hx C2.hb dL_law_1926 ?_
  refine z_sald_ok (pc := 1927) C2 hs dL_law_1927 ?_
  refine z_invVLm_ok (pc := 1928) C2 hKF (zm_X8_shopIs X.l C2.htr) ⟨rfl, rfl⟩ ⟨by decide, by decide⟩ (by decide) (by decide) zcl_L_212 zw_1166 zw_1167 zK8 dL_law_1928 ?_
  refine z_istore_ok (pc := 1931) (i := 6) C2.hx C2.hb dL_law_1931 (zlt hn (by decide)) ?_
  refine z_aload_n_ok (pc := 1933) (i := 2) C2.hx C2.hb dL_law_1933 rfl ?_
  refine z_invVL_ok (pc := 1934) C2 hKF (zm_X8_thrown X.l C2.htr) ⟨rfl, rfl⟩ ⟨by decide, by decide⟩ (by decide) (by decide) zcl_L_135 zw_1001 zw_1002 zK8 dL_law_1934 ?_
  refine z_iload_ok (pc := 1937) (i := 5) C2.hx C2.hb dL_law_1937 ?_
  refine z_icmp_eq_ok (pc := 1939) (tgt := 1944) C2.hx C2.hb dL_law_1939 (by decide) ?_ ?_
  · refine z_iload_ok (pc := 1944) (i := 5) C2.hx C2.hb dL_law_1944 ?_
    refine z_if_ne_ok (pc := 1946) (tgt := 1961) C2.hx C2.hb dL_law_1946 (by decide) ?_ ?_
    · refine z_goto_ok (pc := 1961) (tgt := 2620) C2.hx C2.hb dL_law_1961 (by decide) ?_
      exact zk_L_law_2620 C2 hn hJ
    · refine z_aload_n_ok (pc := 1949) (i := 3) C2.hx C2.hb dL_law_1949 rfl ?_
      refine z_iconst_ok (pc := 1950) (v := 0) C2.hx C2.hb dL_law_1950 (by decide) ?_
      refine z_lald_ok (pc := 1951) C2 dL_law_1951 ?_
      refine z_iload_ok (pc := 1952) (i := 6) C2.hx C2.hb dL_law_1952 ?_
      refine z_i2l_ok (pc := 1954) C2.hx C2.hb dL_law_1954 ?_
      refine z_lcmp_ok (pc := 1955) C2.hx C2.hb dL_law_1955 ?_
      refine z_if_eq_ok (pc := 1956) (tgt := 1961) C2.hx C2.hb dL_law_1956 (by decide) ?_ ?_
      · refine z_goto_ok (pc := 1961) (tgt := 2620) C2.hx C2.hb dL_law_1961 (by decide) ?_
        exact zk_L_law_2620 C2 hn hJ
      · exact fun _ _ _ _ _ _ _ h => False.elim h
  · exact fun _ _ _ _ _ _ _ h => False.elim h
def zb_L_law_1964 (xs : Nat → Int32) (Len : Nat) (J : ZP) : ZP := (z_ald 1 (z_ald 0 (z_ild 4 (z_push 1 (z_bin (fun x y => x + y) (z_sald xs Len (z_ald 0 (z_ild 4 (z_push 2 (z_bin (fun x y => x + y) (z_sald xs Len (z_ald 0 (z_ild 4 (z_push 3 (z_bin (fun x y => x + y) (z_sald xs Len (z_ald 3 (z_invSm 5 sp_L_forge (z_ist 5 (z_ald 2 (z_ald 0 (z_ild 4 (z_push 1 (z_bin (fun x y => x + y) (z_sald xs Len (z_ald 0 (z_ild 4 (z_push 2 (z_bin (fun x y => x + y) (z_sald xs Len (z_ald 0 (z_ild 4 (z_push 3 (z_bin (fun x y => x + y) (z_sald xs Len (z_invVm 8 3 sp_X8_forge (z_ist 6 (z_ald 2 (z_invV 8 0 sp_X8_thrown (z_ild 5 (z_cmp (fun x y => x = y) (z_ild 5 (z_if (fun x => x = 0) (z_ald 3 (z_push 0 (z_lald (z_ild 6 (z_i2l (z_lcmp (z_if (fun x => x = 0) (zb_L_law_2620 J) (fun _ _ _ _ => False)))))))) (zb_L_law_2620 J))) (fun _ _ _ _ => False))))))))))))))))))))))))))))))))))))))))))
set_option maxRecDepth 20000 in
theorem zk_L_law_1964 {X : ZX} (C : zCx X cL_law RL ret 10 380 11 66) (C2 : zCx (zXc X (X.ce + 10) (X.sl + 60)) cL_law RL ret 10 380 1 6) (hn : X.nL = 7) (hKF : ∀ n S, ¬ X.K (.inr n) S) {b Len : Nat} {xs : Nat → Int32} (hs : zscr X b Len xs) {J : ZP} (hJ : ZOK (zXc X (X.ce + 10) (X.sl + 60)) 23 J) : ZOK X 1964 (zb_L_law_1964 xs Len J) := by
  unfold zb_L_law_1964
  refine z_aload_n_ok (pc := 1964) (i := 1) C.hx C.hb dL_law_1964 rfl ?_
  refine z_aload_n_ok (pc := 1965) (i := 0) C.hx C.hb dL_law_1965 rfl ?_
  refine z_iload_ok (pc := 1966) (i := 4) C.hx C.hb dL_law_1966 ?_
  refine z_iconst_ok (pc := 1968) (v := 1) C.hx C.hb dL_law_1968 (by decide) ?_
  refine z_iadd_ok (pc := 1969) C.hx C.hb dL_law_1969 ?_
  refine z_sald_ok (pc := 1970) C hs dL_law_1970 ?_
  refine z_aload_n_ok (pc := 1971) (i := 0) C.hx C.hb dL_law_1971 rfl ?_
  refine z_iload_ok (pc := 1972) (i := 4) C.hx C.hb dL_law_1972 ?_
  refine z_iconst_ok (pc := 1974) (v := 2) C.hx C.hb dL_law_1974 (by decide) ?_
  refine z_iadd_ok (pc := 1975) C.hx C.hb dL_law_1975 ?_
  refine z_sald_ok (pc := 1976) C hs dL_law_1976 ?_
  refine z_aload_n_ok (pc := 1977) (i := 0) C.hx C.hb dL_law_1977 rfl ?_
  refine z_iload_ok (pc := 1978) (i := 4) C.hx C.hb dL_law_1978 ?_
  refine z_iconst_ok (pc := 1980) (v := 3) C.hx C.hb dL_law_1980 (by decide) ?_
  refine z_iadd_ok (pc := 1981) C.hx C.hb dL_law_1981 ?_
  refine z_sald_ok (pc := 1982) C hs dL_law_1982 ?_
  refine z_aload_n_ok (pc := 1983) (i := 3) C.hx C.hb dL_law_1983 rfl ?_
  refine z_invSWm_ok (pc := 1984) C hKF (zm_L_forge X.l C.htr) ⟨rfl, rfl⟩ ⟨by decide, by decide⟩ (by decide) (by decide) zcl_L_213 zw_698 dL_law_1984 ?_
  refine z_istore_ok (pc := 1987) (i := 5) C2.hx C2.hb dL_law_1987 (zlt hn (by decide)) ?_
  refine z_aload_n_ok (pc := 1989) (i := 2) C2.hx C2.hb dL_law_1989 rfl ?_
  refine z_aload_n_ok (pc := 1990) (i := 0) C2.hx C2.hb dL_law_1990 rfl ?_
  refine z_iload_ok (pc := 1991) (i := 4) C2.hx C2.hb dL_law_1991 ?_
  refine z_iconst_ok (pc := 1993) (v := 1) C2.hx C2.hb dL_law_1993 (by decide) ?_
  refine z_iadd_ok (pc := 1994) C2.hx C2.hb dL_law_1994 ?_
  refine z_sald_ok (pc := 1995) C2 hs dL_law_1995 ?_
  refine z_aload_n_ok (pc := 1996) (i := 0) C2.hx C2.hb dL_law_1996 rfl ?_
  refine z_iload_ok (pc := 1997) (i := 4) C2.hx C2.hb dL_law_1997 ?_
  refine z_iconst_ok (pc := 1999) (v := 2) C2.hx C2.hb dL_law_1999 (by decide) ?_
  refine z_iadd_ok (pc := 2000) C2.hx C2.hb dL_law_2000 ?_
  refine z_sald_ok (pc := 2001) C2 hs dL_law_2001 ?_
  refine z_aload_n_ok (pc := 2002) (i := 0) C2.hx C2.hb dL_law_2002 rfl ?_
  refine z_iload_ok (pc := 2003) (i := 4) C2.hx C2.hb dL_law_2003 ?_
  refine z_iconst_ok (pc := 2005) (v := 3) C2.hx C2.hb dL_law_2005 (by decide) ?_
  refine z_iadd_ok (pc := 2006) C2.hx C2.hb dL_law_2006 ?_
  refine z_sald_ok (pc := 2007) C2 hs dL_law_2007 ?_
  refine z_invVLm_ok (pc := 2008) C2 hKF (zm_X8_forge X.l C2.htr) ⟨rfl, rfl⟩ ⟨by decide, by decide⟩ (by decide) (by decide) zcl_L_215 zw_1170 zw_1171 zK8 dL_law_2008 ?_
  refine z_istore_ok (pc := 2011) (i := 6) C2.hx C2.hb dL_law_2011 (zlt hn (by decide)) ?_
  refine z_aload_n_ok (pc := 2013) (i := 2) C2.hx C2.hb dL_law_2013 rfl ?_
  refine z_invVL_ok (pc := 2014) C2 hKF (zm_X8_thrown X.l C2.htr) ⟨rfl, rfl⟩ ⟨by decide, by decide⟩ (by decide) (by decide) zcl_L_135 zw_1001 zw_1002 zK8 dL_law_2014 ?_
  refine z_iload_ok (pc := 2017) (i := 5) C2.hx C2.hb dL_law_2017 ?_
  refine z_icmp_eq_ok (pc := 2019) (tgt := 2024) C2.hx C2.hb dL_law_2019 (by decide) ?_ ?_
  · refine z_iload_ok (pc := 2024) (i := 5) C2.hx C2.hb dL_law_2024 ?_
    refine z_if_ne_ok (pc := 2026) (tgt := 2041) C2.hx C2.hb dL_law_2026 (by decide) ?_ ?_
    · refine z_goto_ok (pc := 2041) (tgt := 2620) C2.hx C2.hb dL_law_2041 (by decide) ?_
      exact zk_L_law_2620 C2 hn hJ
    · refine z_aload_n_ok (pc := 2029) (i := 3) C2.hx C2.hb dL_law_2029 rfl ?_
      refine z_iconst_ok (pc := 2030) (v := 0) C2.hx C2.hb dL_law_2030 (by decide) ?_
      refine z_lald_ok (pc := 2031) C2 dL_law_2031 ?_
      refine z_iload_ok (pc := 2032) (i := 6) C2.hx C2.hb dL_law_2032 ?_
      refine z_i2l_ok (pc := 2034) C2.hx C2.hb dL_law_2034 ?_
      refine z_lcmp_ok (pc := 2035) C2.hx C2.hb dL_law_2035 ?_
      refine z_if_eq_ok (pc := 2036) (tgt := 2041) C2.hx C2.hb dL_law_2036 (by decide) ?_ ?_
      · refine z_goto_ok (pc := 2041) (tgt := 2620) C2.hx C2.hb dL_law_2041 (by decide) ?_
        exact zk_L_law_2620 C2 hn hJ
      · exact fun _ _ _ _ _ _ _ h => False.elim h
  · exact fun _ _ _ _ _ _ _ h => False.elim h
def zb_L_law_2044 (xs : Nat → Int32) (Len : Nat) (J : ZP) : ZP := (z_ald 1 (z_ald 0 (z_ild 4 (z_push 1 (z_bin (fun x y => x + y) (z_sald xs Len (z_ald 0 (z_ild 4 (z_push 2 (z_bin (fun x y => x + y) (z_sald xs Len (z_ald 0 (z_ild 4 (z_push 3 (z_bin (fun x y => x + y) (z_sald xs Len (z_ald 3 (z_invSm 5 sp_L_steal (z_ist 5 (z_ald 2 (z_ald 0 (z_ild 4 (z_push 1 (z_bin (fun x y => x + y) (z_sald xs Len (z_ald 0 (z_ild 4 (z_push 2 (z_bin (fun x y => x + y) (z_sald xs Len (z_ald 0 (z_ild 4 (z_push 3 (z_bin (fun x y => x + y) (z_sald xs Len (z_invVm 8 3 sp_X8_steal (z_ist 6 (z_ald 2 (z_invV 8 0 sp_X8_thrown (z_ild 5 (z_cmp (fun x y => x = y) (z_ild 5 (z_if (fun x => x = 0) (z_ald 3 (z_push 0 (z_lald (z_ild 6 (z_i2l (z_lcmp (z_if (fun x => x = 0) (zb_L_law_2620 J) (fun _ _ _ _ => False)))))))) (zb_L_law_2620 J))) (fun _ _ _ _ => False))))))))))))))))))))))))))))))))))))))))))
set_option maxRecDepth 20000 in
theorem zk_L_law_2044 {X : ZX} (C : zCx X cL_law RL ret 10 380 11 66) (C2 : zCx (zXc X (X.ce + 10) (X.sl + 60)) cL_law RL ret 10 380 1 6) (hn : X.nL = 7) (hKF : ∀ n S, ¬ X.K (.inr n) S) {b Len : Nat} {xs : Nat → Int32} (hs : zscr X b Len xs) {J : ZP} (hJ : ZOK (zXc X (X.ce + 10) (X.sl + 60)) 23 J) : ZOK X 2044 (zb_L_law_2044 xs Len J) := by
  unfold zb_L_law_2044
  refine z_aload_n_ok (pc := 2044) (i := 1) C.hx C.hb dL_law_2044 rfl ?_
  refine z_aload_n_ok (pc := 2045) (i := 0) C.hx C.hb dL_law_2045 rfl ?_
  refine z_iload_ok (pc := 2046) (i := 4) C.hx C.hb dL_law_2046 ?_
  refine z_iconst_ok (pc := 2048) (v := 1) C.hx C.hb dL_law_2048 (by decide) ?_
  refine z_iadd_ok (pc := 2049) C.hx C.hb dL_law_2049 ?_
  refine z_sald_ok (pc := 2050) C hs dL_law_2050 ?_
  refine z_aload_n_ok (pc := 2051) (i := 0) C.hx C.hb dL_law_2051 rfl ?_
  refine z_iload_ok (pc := 2052) (i := 4) C.hx C.hb dL_law_2052 ?_
  refine z_iconst_ok (pc := 2054) (v := 2) C.hx C.hb dL_law_2054 (by decide) ?_
  refine z_iadd_ok (pc := 2055) C.hx C.hb dL_law_2055 ?_
  refine z_sald_ok (pc := 2056) C hs dL_law_2056 ?_
  refine z_aload_n_ok (pc := 2057) (i := 0) C.hx C.hb dL_law_2057 rfl ?_
  refine z_iload_ok (pc := 2058) (i := 4) C.hx C.hb dL_law_2058 ?_
  refine z_iconst_ok (pc := 2060) (v := 3) C.hx C.hb dL_law_2060 (by decide) ?_
  refine z_iadd_ok (pc := 2061) C.hx C.hb dL_law_2061 ?_
  refine z_sald_ok (pc := 2062) C hs dL_law_2062 ?_
  refine z_aload_n_ok (pc := 2063) (i := 3) C.hx C.hb dL_law_2063 rfl ?_
  refine z_invSWm_ok (pc := 2064) C hKF (zm_L_steal X.l C.htr) ⟨rfl, rfl⟩ ⟨by decide, by decide⟩ (by decide) (by decide) zcl_L_216 zw_705 dL_law_2064 ?_
  refine z_istore_ok (pc := 2067) (i := 5) C2.hx C2.hb dL_law_2067 (zlt hn (by decide)) ?_
  refine z_aload_n_ok (pc := 2069) (i := 2) C2.hx C2.hb dL_law_2069 rfl ?_
  refine z_aload_n_ok (pc := 2070) (i := 0) C2.hx C2.hb dL_law_2070 rfl ?_
  refine z_iload_ok (pc := 2071) (i := 4) C2.hx C2.hb dL_law_2071 ?_
  refine z_iconst_ok (pc := 2073) (v := 1) C2.hx C2.hb dL_law_2073 (by decide) ?_
  refine z_iadd_ok (pc := 2074) C2.hx C2.hb dL_law_2074 ?_
  refine z_sald_ok (pc := 2075) C2 hs dL_law_2075 ?_
  refine z_aload_n_ok (pc := 2076) (i := 0) C2.hx C2.hb dL_law_2076 rfl ?_
  refine z_iload_ok (pc := 2077) (i := 4) C2.hx C2.hb dL_law_2077 ?_
  refine z_iconst_ok (pc := 2079) (v := 2) C2.hx C2.hb dL_law_2079 (by decide) ?_
  refine z_iadd_ok (pc := 2080) C2.hx C2.hb dL_law_2080 ?_
  refine z_sald_ok (pc := 2081) C2 hs dL_law_2081 ?_
  refine z_aload_n_ok (pc := 2082) (i := 0) C2.hx C2.hb dL_law_2082 rfl ?_
  refine z_iload_ok (pc := 2083) (i := 4) C2.hx C2.hb dL_law_2083 ?_
  refine z_iconst_ok (pc := 2085) (v := 3) C2.hx C2.hb dL_law_2085 (by decide) ?_
  refine z_iadd_ok (pc := 2086) C2.hx C2.hb dL_law_2086 ?_
  refine z_sald_ok (pc := 2087) C2 hs dL_law_2087 ?_
  refine z_invVLm_ok (pc := 2088) C2 hKF (zm_X8_steal X.l C2.htr) ⟨rfl, rfl⟩ ⟨by decide, by decide⟩ (by decide) (by decide) zcl_L_218 zw_1174 zw_1175 zK8 dL_law_2088 ?_
  refine z_istore_ok (pc := 2091) (i := 6) C2.hx C2.hb dL_law_2091 (zlt hn (by decide)) ?_
  refine z_aload_n_ok (pc := 2093) (i := 2) C2.hx C2.hb dL_law_2093 rfl ?_
  refine z_invVL_ok (pc := 2094) C2 hKF (zm_X8_thrown X.l C2.htr) ⟨rfl, rfl⟩ ⟨by decide, by decide⟩ (by decide) (by decide) zcl_L_135 zw_1001 zw_1002 zK8 dL_law_2094 ?_
  refine z_iload_ok (pc := 2097) (i := 5) C2.hx C2.hb dL_law_2097 ?_
  refine z_icmp_eq_ok (pc := 2099) (tgt := 2104) C2.hx C2.hb dL_law_2099 (by decide) ?_ ?_
  · refine z_iload_ok (pc := 2104) (i := 5) C2.hx C2.hb dL_law_2104 ?_
    refine z_if_ne_ok (pc := 2106) (tgt := 2121) C2.hx C2.hb dL_law_2106 (by decide) ?_ ?_
    · refine z_goto_ok (pc := 2121) (tgt := 2620) C2.hx C2.hb dL_law_2121 (by decide) ?_
      exact zk_L_law_2620 C2 hn hJ
    · refine z_aload_n_ok (pc := 2109) (i := 3) C2.hx C2.hb dL_law_2109 rfl ?_
      refine z_iconst_ok (pc := 2110) (v := 0) C2.hx C2.hb dL_law_2110 (by decide) ?_
      refine z_lald_ok (pc := 2111) C2 dL_law_2111 ?_
      refine z_iload_ok (pc := 2112) (i := 6) C2.hx C2.hb dL_law_2112 ?_
      refine z_i2l_ok (pc := 2114) C2.hx C2.hb dL_law_2114 ?_
      refine z_lcmp_ok (pc := 2115) C2.hx C2.hb dL_law_2115 ?_
      refine z_if_eq_ok (pc := 2116) (tgt := 2121) C2.hx C2.hb dL_law_2116 (by decide) ?_ ?_
      · refine z_goto_ok (pc := 2121) (tgt := 2620) C2.hx C2.hb dL_law_2121 (by decide) ?_
        exact zk_L_law_2620 C2 hn hJ
      · exact fun _ _ _ _ _ _ _ h => False.elim h
  · exact fun _ _ _ _ _ _ _ h => False.elim h
def zb_L_law_2124 (xs : Nat → Int32) (Len : Nat) (J : ZP) : ZP := (z_ald 1 (z_ald 0 (z_ild 4 (z_push 1 (z_bin (fun x y => x + y) (z_sald xs Len (z_ald 3 (z_invSm 3 sp_L_inspect (z_ist 5 (z_ald 2 (z_ald 0 (z_ild 4 (z_push 1 (z_bin (fun x y => x + y) (z_sald xs Len (z_invVm 8 1 sp_X8_inspect (z_ist 6 (z_ald 2 (z_invV 8 0 sp_X8_thrown (z_ild 5 (z_cmp (fun x y => x = y) (z_ild 5 (z_if (fun x => x = 0) (z_ald 3 (z_push 0 (z_lald (z_ild 6 (z_i2l (z_lcmp (z_if (fun x => x = 0) (zb_L_law_2620 J) (fun _ _ _ _ => False)))))))) (zb_L_law_2620 J))) (fun _ _ _ _ => False))))))))))))))))))))))
set_option maxRecDepth 20000 in
theorem zk_L_law_2124 {X : ZX} (C : zCx X cL_law RL ret 10 380 11 66) (C2 : zCx (zXc X (X.ce + 10) (X.sl + 60)) cL_law RL ret 10 380 1 6) (hn : X.nL = 7) (hKF : ∀ n S, ¬ X.K (.inr n) S) {b Len : Nat} {xs : Nat → Int32} (hs : zscr X b Len xs) {J : ZP} (hJ : ZOK (zXc X (X.ce + 10) (X.sl + 60)) 23 J) : ZOK X 2124 (zb_L_law_2124 xs Len J) := by
  unfold zb_L_law_2124
  refine z_aload_n_ok (pc := 2124) (i := 1) C.hx C.hb dL_law_2124 rfl ?_
  refine z_aload_n_ok (pc := 2125) (i := 0) C.hx C.hb dL_law_2125 rfl ?_
  refine z_iload_ok (pc := 2126) (i := 4) C.hx C.hb dL_law_2126 ?_
  refine z_iconst_ok (pc := 2128) (v := 1) C.hx C.hb dL_law_2128 (by decide) ?_
  refine z_iadd_ok (pc := 2129) C.hx C.hb dL_law_2129 ?_
  refine z_sald_ok (pc := 2130) C hs dL_law_2130 ?_
  refine z_aload_n_ok (pc := 2131) (i := 3) C.hx C.hb dL_law_2131 rfl ?_
  refine z_invSWm_ok (pc := 2132) C hKF (zm_L_inspect X.l C.htr) ⟨rfl, rfl⟩ ⟨by decide, by decide⟩ (by decide) (by decide) zcl_L_219 zw_712 dL_law_2132 ?_
  refine z_istore_ok (pc := 2135) (i := 5) C2.hx C2.hb dL_law_2135 (zlt hn (by decide)) ?_
  refine z_aload_n_ok (pc := 2137) (i := 2) C2.hx C2.hb dL_law_2137 rfl ?_
  refine z_aload_n_ok (pc := 2138) (i := 0) C2.hx C2.hb dL_law_2138 rfl ?_
  refine z_iload_ok (pc := 2139) (i := 4) C2.hx C2.hb dL_law_2139 ?_
  refine z_iconst_ok (pc := 2141) (v := 1) C2.hx C2.hb dL_law_2141 (by decide) ?_
  refine z_iadd_ok (pc := 2142) C2.hx C2.hb dL_law_2142 ?_
  refine z_sald_ok (pc := 2143) C2 hs dL_law_2143 ?_
  refine z_invVLm_ok (pc := 2144) C2 hKF (zm_X8_inspect X.l C2.htr) ⟨rfl, rfl⟩ ⟨by decide, by decide⟩ (by decide) (by decide) zcl_L_221 zw_1178 zw_1179 zK8 dL_law_2144 ?_
  refine z_istore_ok (pc := 2147) (i := 6) C2.hx C2.hb dL_law_2147 (zlt hn (by decide)) ?_
  refine z_aload_n_ok (pc := 2149) (i := 2) C2.hx C2.hb dL_law_2149 rfl ?_
  refine z_invVL_ok (pc := 2150) C2 hKF (zm_X8_thrown X.l C2.htr) ⟨rfl, rfl⟩ ⟨by decide, by decide⟩ (by decide) (by decide) zcl_L_135 zw_1001 zw_1002 zK8 dL_law_2150 ?_
  refine z_iload_ok (pc := 2153) (i := 5) C2.hx C2.hb dL_law_2153 ?_
  refine z_icmp_eq_ok (pc := 2155) (tgt := 2160) C2.hx C2.hb dL_law_2155 (by decide) ?_ ?_
  · refine z_iload_ok (pc := 2160) (i := 5) C2.hx C2.hb dL_law_2160 ?_
    refine z_if_ne_ok (pc := 2162) (tgt := 2177) C2.hx C2.hb dL_law_2162 (by decide) ?_ ?_
    · refine z_goto_ok (pc := 2177) (tgt := 2620) C2.hx C2.hb dL_law_2177 (by decide) ?_
      exact zk_L_law_2620 C2 hn hJ
    · refine z_aload_n_ok (pc := 2165) (i := 3) C2.hx C2.hb dL_law_2165 rfl ?_
      refine z_iconst_ok (pc := 2166) (v := 0) C2.hx C2.hb dL_law_2166 (by decide) ?_
      refine z_lald_ok (pc := 2167) C2 dL_law_2167 ?_
      refine z_iload_ok (pc := 2168) (i := 6) C2.hx C2.hb dL_law_2168 ?_
      refine z_i2l_ok (pc := 2170) C2.hx C2.hb dL_law_2170 ?_
      refine z_lcmp_ok (pc := 2171) C2.hx C2.hb dL_law_2171 ?_
      refine z_if_eq_ok (pc := 2172) (tgt := 2177) C2.hx C2.hb dL_law_2172 (by decide) ?_ ?_
      · refine z_goto_ok (pc := 2177) (tgt := 2620) C2.hx C2.hb dL_law_2177 (by decide) ?_
        exact zk_L_law_2620 C2 hn hJ
      · exact fun _ _ _ _ _ _ _ h => False.elim h
  · exact fun _ _ _ _ _ _ _ h => False.elim h
def zb_L_law_2180 (xs : Nat → Int32) (Len : Nat) (J : ZP) : ZP := (z_ald 1 (z_ald 0 (z_ild 4 (z_push 1 (z_bin (fun x y => x + y) (z_sald xs Len (z_ald 0 (z_ild 4 (z_push 2 (z_bin (fun x y => x + y) (z_sald xs Len (z_ald 0 (z_ild 4 (z_push 3 (z_bin (fun x y => x + y) (z_sald xs Len (z_ald 3 (z_invSm 5 sp_L_black (z_ist 5 (z_ald 2 (z_ald 0 (z_ild 4 (z_push 1 (z_bin (fun x y => x + y) (z_sald xs Len (z_ald 0 (z_ild 4 (z_push 2 (z_bin (fun x y => x + y) (z_sald xs Len (z_ald 0 (z_ild 4 (z_push 3 (z_bin (fun x y => x + y) (z_sald xs Len (z_invVm 8 3 sp_X8_black (z_ist 6 (z_ald 2 (z_invV 8 0 sp_X8_thrown (z_ild 5 (z_cmp (fun x y => x = y) (z_ild 5 (z_if (fun x => x = 0) (z_ald 3 (z_push 0 (z_lald (z_ild 6 (z_i2l (z_lcmp (z_if (fun x => x = 0) (zb_L_law_2620 J) (fun _ _ _ _ => False)))))))) (zb_L_law_2620 J))) (fun _ _ _ _ => False))))))))))))))))))))))))))))))))))))))))))
set_option maxRecDepth 20000 in
theorem zk_L_law_2180 {X : ZX} (C : zCx X cL_law RL ret 10 380 11 66) (C2 : zCx (zXc X (X.ce + 10) (X.sl + 60)) cL_law RL ret 10 380 1 6) (hn : X.nL = 7) (hKF : ∀ n S, ¬ X.K (.inr n) S) {b Len : Nat} {xs : Nat → Int32} (hs : zscr X b Len xs) {J : ZP} (hJ : ZOK (zXc X (X.ce + 10) (X.sl + 60)) 23 J) : ZOK X 2180 (zb_L_law_2180 xs Len J) := by
  unfold zb_L_law_2180
  refine z_aload_n_ok (pc := 2180) (i := 1) C.hx C.hb dL_law_2180 rfl ?_
  refine z_aload_n_ok (pc := 2181) (i := 0) C.hx C.hb dL_law_2181 rfl ?_
  refine z_iload_ok (pc := 2182) (i := 4) C.hx C.hb dL_law_2182 ?_
  refine z_iconst_ok (pc := 2184) (v := 1) C.hx C.hb dL_law_2184 (by decide) ?_
  refine z_iadd_ok (pc := 2185) C.hx C.hb dL_law_2185 ?_
  refine z_sald_ok (pc := 2186) C hs dL_law_2186 ?_
  refine z_aload_n_ok (pc := 2187) (i := 0) C.hx C.hb dL_law_2187 rfl ?_
  refine z_iload_ok (pc := 2188) (i := 4) C.hx C.hb dL_law_2188 ?_
  refine z_iconst_ok (pc := 2190) (v := 2) C.hx C.hb dL_law_2190 (by decide) ?_
  refine z_iadd_ok (pc := 2191) C.hx C.hb dL_law_2191 ?_
  refine z_sald_ok (pc := 2192) C hs dL_law_2192 ?_
  refine z_aload_n_ok (pc := 2193) (i := 0) C.hx C.hb dL_law_2193 rfl ?_
  refine z_iload_ok (pc := 2194) (i := 4) C.hx C.hb dL_law_2194 ?_
  refine z_iconst_ok (pc := 2196) (v := 3) C.hx C.hb dL_law_2196 (by decide) ?_
  refine z_iadd_ok (pc := 2197) C.hx C.hb dL_law_2197 ?_
  refine z_sald_ok (pc := 2198) C hs dL_law_2198 ?_
  refine z_aload_n_ok (pc := 2199) (i := 3) C.hx C.hb dL_law_2199 rfl ?_
  refine z_invSWm_ok (pc := 2200) C hKF (zm_L_black X.l C.htr) ⟨rfl, rfl⟩ ⟨by decide, by decide⟩ (by decide) (by decide) zcl_L_222 zw_719 dL_law_2200 ?_
  refine z_istore_ok (pc := 2203) (i := 5) C2.hx C2.hb dL_law_2203 (zlt hn (by decide)) ?_
  refine z_aload_n_ok (pc := 2205) (i := 2) C2.hx C2.hb dL_law_2205 rfl ?_
  refine z_aload_n_ok (pc := 2206) (i := 0) C2.hx C2.hb dL_law_2206 rfl ?_
  refine z_iload_ok (pc := 2207) (i := 4) C2.hx C2.hb dL_law_2207 ?_
  refine z_iconst_ok (pc := 2209) (v := 1) C2.hx C2.hb dL_law_2209 (by decide) ?_
  refine z_iadd_ok (pc := 2210) C2.hx C2.hb dL_law_2210 ?_
  refine z_sald_ok (pc := 2211) C2 hs dL_law_2211 ?_
  refine z_aload_n_ok (pc := 2212) (i := 0) C2.hx C2.hb dL_law_2212 rfl ?_
  refine z_iload_ok (pc := 2213) (i := 4) C2.hx C2.hb dL_law_2213 ?_
  refine z_iconst_ok (pc := 2215) (v := 2) C2.hx C2.hb dL_law_2215 (by decide) ?_
  refine z_iadd_ok (pc := 2216) C2.hx C2.hb dL_law_2216 ?_
  refine z_sald_ok (pc := 2217) C2 hs dL_law_2217 ?_
  refine z_aload_n_ok (pc := 2218) (i := 0) C2.hx C2.hb dL_law_2218 rfl ?_
  refine z_iload_ok (pc := 2219) (i := 4) C2.hx C2.hb dL_law_2219 ?_
  refine z_iconst_ok (pc := 2221) (v := 3) C2.hx C2.hb dL_law_2221 (by decide) ?_
  refine z_iadd_ok (pc := 2222) C2.hx C2.hb dL_law_2222 ?_
  refine z_sald_ok (pc := 2223) C2 hs dL_law_2223 ?_
  refine z_invVLm_ok (pc := 2224) C2 hKF (zm_X8_black X.l C2.htr) ⟨rfl, rfl⟩ ⟨by decide, by decide⟩ (by decide) (by decide) zcl_L_224 zw_1182 zw_1183 zK8 dL_law_2224 ?_
  refine z_istore_ok (pc := 2227) (i := 6) C2.hx C2.hb dL_law_2227 (zlt hn (by decide)) ?_
  refine z_aload_n_ok (pc := 2229) (i := 2) C2.hx C2.hb dL_law_2229 rfl ?_
  refine z_invVL_ok (pc := 2230) C2 hKF (zm_X8_thrown X.l C2.htr) ⟨rfl, rfl⟩ ⟨by decide, by decide⟩ (by decide) (by decide) zcl_L_135 zw_1001 zw_1002 zK8 dL_law_2230 ?_
  refine z_iload_ok (pc := 2233) (i := 5) C2.hx C2.hb dL_law_2233 ?_
  refine z_icmp_eq_ok (pc := 2235) (tgt := 2240) C2.hx C2.hb dL_law_2235 (by decide) ?_ ?_
  · refine z_iload_ok (pc := 2240) (i := 5) C2.hx C2.hb dL_law_2240 ?_
    refine z_if_ne_ok (pc := 2242) (tgt := 2257) C2.hx C2.hb dL_law_2242 (by decide) ?_ ?_
    · refine z_goto_ok (pc := 2257) (tgt := 2620) C2.hx C2.hb dL_law_2257 (by decide) ?_
      exact zk_L_law_2620 C2 hn hJ
    · refine z_aload_n_ok (pc := 2245) (i := 3) C2.hx C2.hb dL_law_2245 rfl ?_
      refine z_iconst_ok (pc := 2246) (v := 0) C2.hx C2.hb dL_law_2246 (by decide) ?_
      refine z_lald_ok (pc := 2247) C2 dL_law_2247 ?_
      refine z_iload_ok (pc := 2248) (i := 6) C2.hx C2.hb dL_law_2248 ?_
      refine z_i2l_ok (pc := 2250) C2.hx C2.hb dL_law_2250 ?_
      refine z_lcmp_ok (pc := 2251) C2.hx C2.hb dL_law_2251 ?_
      refine z_if_eq_ok (pc := 2252) (tgt := 2257) C2.hx C2.hb dL_law_2252 (by decide) ?_ ?_
      · refine z_goto_ok (pc := 2257) (tgt := 2620) C2.hx C2.hb dL_law_2257 (by decide) ?_
        exact zk_L_law_2620 C2 hn hJ
      · exact fun _ _ _ _ _ _ _ h => False.elim h
  · exact fun _ _ _ _ _ _ _ h => False.elim h
def zb_L_law_2260 (xs : Nat → Int32) (Len : Nat) (J : ZP) : ZP := (z_ald 1 (z_ald 0 (z_ild 4 (z_push 1 (z_bin (fun x y => x + y) (z_sald xs Len (z_ald 0 (z_ild 4 (z_push 2 (z_bin (fun x y => x + y) (z_sald xs Len (z_ald 0 (z_ild 4 (z_push 3 (z_bin (fun x y => x + y) (z_sald xs Len (z_ald 3 (z_invSm 5 sp_L_farm (z_ist 5 (z_ald 2 (z_ald 0 (z_ild 4 (z_push 1 (z_bin (fun x y => x + y) (z_sald xs Len (z_ald 0 (z_ild 4 (z_push 2 (z_bin (fun x y => x + y) (z_sald xs Len (z_ald 0 (z_ild 4 (z_push 3 (z_bin (fun x y => x + y) (z_sald xs Len (z_invVm 8 3 sp_X8_farm (z_ist 6 (z_ald 2 (z_invV 8 0 sp_X8_thrown (z_ild 5 (z_cmp (fun x y => x = y) (z_ild 5 (z_if (fun x => x = 0) (z_ald 3 (z_push 0 (z_lald (z_ild 6 (z_i2l (z_lcmp (z_if (fun x => x = 0) (zb_L_law_2620 J) (fun _ _ _ _ => False)))))))) (zb_L_law_2620 J))) (fun _ _ _ _ => False))))))))))))))))))))))))))))))))))))))))))
set_option maxRecDepth 20000 in
theorem zk_L_law_2260 {X : ZX} (C : zCx X cL_law RL ret 10 380 11 66) (C2 : zCx (zXc X (X.ce + 10) (X.sl + 60)) cL_law RL ret 10 380 1 6) (hn : X.nL = 7) (hKF : ∀ n S, ¬ X.K (.inr n) S) {b Len : Nat} {xs : Nat → Int32} (hs : zscr X b Len xs) {J : ZP} (hJ : ZOK (zXc X (X.ce + 10) (X.sl + 60)) 23 J) : ZOK X 2260 (zb_L_law_2260 xs Len J) := by
  unfold zb_L_law_2260
  refine z_aload_n_ok (pc := 2260) (i := 1) C.hx C.hb dL_law_2260 rfl ?_
  refine z_aload_n_ok (pc := 2261) (i := 0) C.hx C.hb dL_law_2261 rfl ?_
  refine z_iload_ok (pc := 2262) (i := 4) C.hx C.hb dL_law_2262 ?_
  refine z_iconst_ok (pc := 2264) (v := 1) C.hx C.hb dL_law_2264 (by decide) ?_
  refine z_iadd_ok (pc := 2265) C.hx C.hb dL_law_2265 ?_
  refine z_sald_ok (pc := 2266) C hs dL_law_2266 ?_
  refine z_aload_n_ok (pc := 2267) (i := 0) C.hx C.hb dL_law_2267 rfl ?_
  refine z_iload_ok (pc := 2268) (i := 4) C.hx C.hb dL_law_2268 ?_
  refine z_iconst_ok (pc := 2270) (v := 2) C.hx C.hb dL_law_2270 (by decide) ?_
  refine z_iadd_ok (pc := 2271) C.hx C.hb dL_law_2271 ?_
  refine z_sald_ok (pc := 2272) C hs dL_law_2272 ?_
  refine z_aload_n_ok (pc := 2273) (i := 0) C.hx C.hb dL_law_2273 rfl ?_
  refine z_iload_ok (pc := 2274) (i := 4) C.hx C.hb dL_law_2274 ?_
  refine z_iconst_ok (pc := 2276) (v := 3) C.hx C.hb dL_law_2276 (by decide) ?_
  refine z_iadd_ok (pc := 2277) C.hx C.hb dL_law_2277 ?_
  refine z_sald_ok (pc := 2278) C hs dL_law_2278 ?_
  refine z_aload_n_ok (pc := 2279) (i := 3) C.hx C.hb dL_law_2279 rfl ?_
  refine z_invSWm_ok (pc := 2280) C hKF (zm_L_farm X.l C.htr) ⟨rfl, rfl⟩ ⟨by decide, by decide⟩ (by decide) (by decide) zcl_L_225 zw_726 dL_law_2280 ?_
  refine z_istore_ok (pc := 2283) (i := 5) C2.hx C2.hb dL_law_2283 (zlt hn (by decide)) ?_
  refine z_aload_n_ok (pc := 2285) (i := 2) C2.hx C2.hb dL_law_2285 rfl ?_
  refine z_aload_n_ok (pc := 2286) (i := 0) C2.hx C2.hb dL_law_2286 rfl ?_
  refine z_iload_ok (pc := 2287) (i := 4) C2.hx C2.hb dL_law_2287 ?_
  refine z_iconst_ok (pc := 2289) (v := 1) C2.hx C2.hb dL_law_2289 (by decide) ?_
  refine z_iadd_ok (pc := 2290) C2.hx C2.hb dL_law_2290 ?_
  refine z_sald_ok (pc := 2291) C2 hs dL_law_2291 ?_
  refine z_aload_n_ok (pc := 2292) (i := 0) C2.hx C2.hb dL_law_2292 rfl ?_
  refine z_iload_ok (pc := 2293) (i := 4) C2.hx C2.hb dL_law_2293 ?_
  refine z_iconst_ok (pc := 2295) (v := 2) C2.hx C2.hb dL_law_2295 (by decide) ?_
  refine z_iadd_ok (pc := 2296) C2.hx C2.hb dL_law_2296 ?_
  refine z_sald_ok (pc := 2297) C2 hs dL_law_2297 ?_
  refine z_aload_n_ok (pc := 2298) (i := 0) C2.hx C2.hb dL_law_2298 rfl ?_
  refine z_iload_ok (pc := 2299) (i := 4) C2.hx C2.hb dL_law_2299 ?_
  refine z_iconst_ok (pc := 2301) (v := 3) C2.hx C2.hb dL_law_2301 (by decide) ?_
  refine z_iadd_ok (pc := 2302) C2.hx C2.hb dL_law_2302 ?_
  refine z_sald_ok (pc := 2303) C2 hs dL_law_2303 ?_
  refine z_invVLm_ok (pc := 2304) C2 hKF (zm_X8_farm X.l C2.htr) ⟨rfl, rfl⟩ ⟨by decide, by decide⟩ (by decide) (by decide) zcl_L_227 zw_1186 zw_1187 zK8 dL_law_2304 ?_
  refine z_istore_ok (pc := 2307) (i := 6) C2.hx C2.hb dL_law_2307 (zlt hn (by decide)) ?_
  refine z_aload_n_ok (pc := 2309) (i := 2) C2.hx C2.hb dL_law_2309 rfl ?_
  refine z_invVL_ok (pc := 2310) C2 hKF (zm_X8_thrown X.l C2.htr) ⟨rfl, rfl⟩ ⟨by decide, by decide⟩ (by decide) (by decide) zcl_L_135 zw_1001 zw_1002 zK8 dL_law_2310 ?_
  refine z_iload_ok (pc := 2313) (i := 5) C2.hx C2.hb dL_law_2313 ?_
  refine z_icmp_eq_ok (pc := 2315) (tgt := 2320) C2.hx C2.hb dL_law_2315 (by decide) ?_ ?_
  · refine z_iload_ok (pc := 2320) (i := 5) C2.hx C2.hb dL_law_2320 ?_
    refine z_if_ne_ok (pc := 2322) (tgt := 2337) C2.hx C2.hb dL_law_2322 (by decide) ?_ ?_
    · refine z_goto_ok (pc := 2337) (tgt := 2620) C2.hx C2.hb dL_law_2337 (by decide) ?_
      exact zk_L_law_2620 C2 hn hJ
    · refine z_aload_n_ok (pc := 2325) (i := 3) C2.hx C2.hb dL_law_2325 rfl ?_
      refine z_iconst_ok (pc := 2326) (v := 0) C2.hx C2.hb dL_law_2326 (by decide) ?_
      refine z_lald_ok (pc := 2327) C2 dL_law_2327 ?_
      refine z_iload_ok (pc := 2328) (i := 6) C2.hx C2.hb dL_law_2328 ?_
      refine z_i2l_ok (pc := 2330) C2.hx C2.hb dL_law_2330 ?_
      refine z_lcmp_ok (pc := 2331) C2.hx C2.hb dL_law_2331 ?_
      refine z_if_eq_ok (pc := 2332) (tgt := 2337) C2.hx C2.hb dL_law_2332 (by decide) ?_ ?_
      · refine z_goto_ok (pc := 2337) (tgt := 2620) C2.hx C2.hb dL_law_2337 (by decide) ?_
        exact zk_L_law_2620 C2 hn hJ
      · exact fun _ _ _ _ _ _ _ h => False.elim h
  · exact fun _ _ _ _ _ _ _ h => False.elim h
def zb_L_law_2340 (xs : Nat → Int32) (Len : Nat) (J : ZP) : ZP := (z_ald 1 (z_ald 0 (z_ild 4 (z_push 1 (z_bin (fun x y => x + y) (z_sald xs Len (z_ald 0 (z_ild 4 (z_push 2 (z_bin (fun x y => x + y) (z_sald xs Len (z_ald 3 (z_invSm 4 sp_L_deliver (z_ist 5 (z_ald 2 (z_ald 0 (z_ild 4 (z_push 1 (z_bin (fun x y => x + y) (z_sald xs Len (z_ald 0 (z_ild 4 (z_push 2 (z_bin (fun x y => x + y) (z_sald xs Len (z_invVm 8 2 sp_X8_deliver (z_ist 6 (z_ald 2 (z_invV 8 0 sp_X8_thrown (z_ild 5 (z_cmp (fun x y => x = y) (z_ild 5 (z_if (fun x => x = 0) (z_ald 3 (z_push 0 (z_lald (z_ild 6 (z_i2l (z_lcmp (z_if (fun x => x = 0) (zb_L_law_2620 J) (fun _ _ _ _ => False)))))))) (zb_L_law_2620 J))) (fun _ _ _ _ => False))))))))))))))))))))))))))))))))
set_option maxRecDepth 20000 in
theorem zk_L_law_2340 {X : ZX} (C : zCx X cL_law RL ret 10 380 11 66) (C2 : zCx (zXc X (X.ce + 10) (X.sl + 60)) cL_law RL ret 10 380 1 6) (hn : X.nL = 7) (hKF : ∀ n S, ¬ X.K (.inr n) S) {b Len : Nat} {xs : Nat → Int32} (hs : zscr X b Len xs) {J : ZP} (hJ : ZOK (zXc X (X.ce + 10) (X.sl + 60)) 23 J) : ZOK X 2340 (zb_L_law_2340 xs Len J) := by
  unfold zb_L_law_2340
  refine z_aload_n_ok (pc := 2340) (i := 1) C.hx C.hb dL_law_2340 rfl ?_
  refine z_aload_n_ok (pc := 2341) (i := 0) C.hx C.hb dL_law_2341 rfl ?_
  refine z_iload_ok (pc := 2342) (i := 4) C.hx C.hb dL_law_2342 ?_
  refine z_iconst_ok (pc := 2344) (v := 1) C.hx C.hb dL_law_2344 (by decide) ?_
  refine z_iadd_ok (pc := 2345) C.hx C.hb dL_law_2345 ?_
  refine z_sald_ok (pc := 2346) C hs dL_law_2346 ?_
  refine z_aload_n_ok (pc := 2347) (i := 0) C.hx C.hb dL_law_2347 rfl ?_
  refine z_iload_ok (pc := 2348) (i := 4) C.hx C.hb dL_law_2348 ?_
  refine z_iconst_ok (pc := 2350) (v := 2) C.hx C.hb dL_law_2350 (by decide) ?_
  refine z_iadd_ok (pc := 2351) C.hx C.hb dL_law_2351 ?_
  refine z_sald_ok (pc := 2352) C hs dL_law_2352 ?_
  refine z_aload_n_ok (pc := 2353) (i := 3) C.hx C.hb dL_law_2353 rfl ?_
  refine z_invSWm_ok (pc := 2354) C hKF (zm_L_deliver X.l C.htr) ⟨rfl, rfl⟩ ⟨by decide, by decide⟩ (by decide) (by decide) zcl_L_228 zw_759 dL_law_2354 ?_
  refine z_istore_ok (pc := 2357) (i := 5) C2.hx C2.hb dL_law_2357 (zlt hn (by decide)) ?_
  refine z_aload_n_ok (pc := 2359) (i := 2) C2.hx C2.hb dL_law_2359 rfl ?_
  refine z_aload_n_ok (pc := 2360) (i := 0) C2.hx C2.hb dL_law_2360 rfl ?_
  refine z_iload_ok (pc := 2361) (i := 4) C2.hx C2.hb dL_law_2361 ?_
  refine z_iconst_ok (pc := 2363) (v := 1) C2.hx C2.hb dL_law_2363 (by decide) ?_
  refine z_iadd_ok (pc := 2364) C2.hx C2.hb dL_law_2364 ?_
  refine z_sald_ok (pc := 2365) C2 hs dL_law_2365 ?_
  refine z_aload_n_ok (pc := 2366) (i := 0) C2.hx C2.hb dL_law_2366 rfl ?_
  refine z_iload_ok (pc := 2367) (i := 4) C2.hx C2.hb dL_law_2367 ?_
  refine z_iconst_ok (pc := 2369) (v := 2) C2.hx C2.hb dL_law_2369 (by decide) ?_
  refine z_iadd_ok (pc := 2370) C2.hx C2.hb dL_law_2370 ?_
  refine z_sald_ok (pc := 2371) C2 hs dL_law_2371 ?_
  refine z_invVLm_ok (pc := 2372) C2 hKF (zm_X8_deliver X.l C2.htr) ⟨rfl, rfl⟩ ⟨by decide, by decide⟩ (by decide) (by decide) zcl_L_230 zw_1190 zw_1191 zK8 dL_law_2372 ?_
  refine z_istore_ok (pc := 2375) (i := 6) C2.hx C2.hb dL_law_2375 (zlt hn (by decide)) ?_
  refine z_aload_n_ok (pc := 2377) (i := 2) C2.hx C2.hb dL_law_2377 rfl ?_
  refine z_invVL_ok (pc := 2378) C2 hKF (zm_X8_thrown X.l C2.htr) ⟨rfl, rfl⟩ ⟨by decide, by decide⟩ (by decide) (by decide) zcl_L_135 zw_1001 zw_1002 zK8 dL_law_2378 ?_
  refine z_iload_ok (pc := 2381) (i := 5) C2.hx C2.hb dL_law_2381 ?_
  refine z_icmp_eq_ok (pc := 2383) (tgt := 2388) C2.hx C2.hb dL_law_2383 (by decide) ?_ ?_
  · refine z_iload_ok (pc := 2388) (i := 5) C2.hx C2.hb dL_law_2388 ?_
    refine z_if_ne_ok (pc := 2390) (tgt := 2405) C2.hx C2.hb dL_law_2390 (by decide) ?_ ?_
    · refine z_goto_ok (pc := 2405) (tgt := 2620) C2.hx C2.hb dL_law_2405 (by decide) ?_
      exact zk_L_law_2620 C2 hn hJ
    · refine z_aload_n_ok (pc := 2393) (i := 3) C2.hx C2.hb dL_law_2393 rfl ?_
      refine z_iconst_ok (pc := 2394) (v := 0) C2.hx C2.hb dL_law_2394 (by decide) ?_
      refine z_lald_ok (pc := 2395) C2 dL_law_2395 ?_
      refine z_iload_ok (pc := 2396) (i := 6) C2.hx C2.hb dL_law_2396 ?_
      refine z_i2l_ok (pc := 2398) C2.hx C2.hb dL_law_2398 ?_
      refine z_lcmp_ok (pc := 2399) C2.hx C2.hb dL_law_2399 ?_
      refine z_if_eq_ok (pc := 2400) (tgt := 2405) C2.hx C2.hb dL_law_2400 (by decide) ?_ ?_
      · refine z_goto_ok (pc := 2405) (tgt := 2620) C2.hx C2.hb dL_law_2405 (by decide) ?_
        exact zk_L_law_2620 C2 hn hJ
      · exact fun _ _ _ _ _ _ _ h => False.elim h
  · exact fun _ _ _ _ _ _ _ h => False.elim h
def zb_L_law_2408 (xs : Nat → Int32) (Len : Nat) (J : ZP) : ZP := (z_ald 1 (z_ald 0 (z_ild 4 (z_push 1 (z_bin (fun x y => x + y) (z_sald xs Len (z_ald 3 (z_invSm 3 sp_L_failed (z_ist 5 (z_ald 2 (z_ald 0 (z_ild 4 (z_push 1 (z_bin (fun x y => x + y) (z_sald xs Len (z_invVm 8 1 sp_X8_failed (z_ist 6 (z_ald 2 (z_invV 8 0 sp_X8_thrown (z_ild 5 (z_cmp (fun x y => x = y) (z_ild 5 (z_if (fun x => x = 0) (z_ald 3 (z_push 0 (z_lald (z_ild 6 (z_i2l (z_lcmp (z_if (fun x => x = 0) (zb_L_law_2620 J) (fun _ _ _ _ => False)))))))) (zb_L_law_2620 J))) (fun _ _ _ _ => False))))))))))))))))))))))
set_option maxRecDepth 20000 in
theorem zk_L_law_2408 {X : ZX} (C : zCx X cL_law RL ret 10 380 11 66) (C2 : zCx (zXc X (X.ce + 10) (X.sl + 60)) cL_law RL ret 10 380 1 6) (hn : X.nL = 7) (hKF : ∀ n S, ¬ X.K (.inr n) S) {b Len : Nat} {xs : Nat → Int32} (hs : zscr X b Len xs) {J : ZP} (hJ : ZOK (zXc X (X.ce + 10) (X.sl + 60)) 23 J) : ZOK X 2408 (zb_L_law_2408 xs Len J) := by
  unfold zb_L_law_2408
  refine z_aload_n_ok (pc := 2408) (i := 1) C.hx C.hb dL_law_2408 rfl ?_
  refine z_aload_n_ok (pc := 2409) (i := 0) C.hx C.hb dL_law_2409 rfl ?_
  refine z_iload_ok (pc := 2410) (i := 4) C.hx C.hb dL_law_2410 ?_
  refine z_iconst_ok (pc := 2412) (v := 1) C.hx C.hb dL_law_2412 (by decide) ?_
  refine z_iadd_ok (pc := 2413) C.hx C.hb dL_law_2413 ?_
  refine z_sald_ok (pc := 2414) C hs dL_law_2414 ?_
  refine z_aload_n_ok (pc := 2415) (i := 3) C.hx C.hb dL_law_2415 rfl ?_
  refine z_invSWm_ok (pc := 2416) C hKF (zm_L_failed X.l C.htr) ⟨rfl, rfl⟩ ⟨by decide, by decide⟩ (by decide) (by decide) zcl_L_231 zw_771 dL_law_2416 ?_
  refine z_istore_ok (pc := 2419) (i := 5) C2.hx C2.hb dL_law_2419 (zlt hn (by decide)) ?_
  refine z_aload_n_ok (pc := 2421) (i := 2) C2.hx C2.hb dL_law_2421 rfl ?_
  refine z_aload_n_ok (pc := 2422) (i := 0) C2.hx C2.hb dL_law_2422 rfl ?_
  refine z_iload_ok (pc := 2423) (i := 4) C2.hx C2.hb dL_law_2423 ?_
  refine z_iconst_ok (pc := 2425) (v := 1) C2.hx C2.hb dL_law_2425 (by decide) ?_
  refine z_iadd_ok (pc := 2426) C2.hx C2.hb dL_law_2426 ?_
  refine z_sald_ok (pc := 2427) C2 hs dL_law_2427 ?_
  refine z_invVLm_ok (pc := 2428) C2 hKF (zm_X8_failed X.l C2.htr) ⟨rfl, rfl⟩ ⟨by decide, by decide⟩ (by decide) (by decide) zcl_L_233 zw_1194 zw_1195 zK8 dL_law_2428 ?_
  refine z_istore_ok (pc := 2431) (i := 6) C2.hx C2.hb dL_law_2431 (zlt hn (by decide)) ?_
  refine z_aload_n_ok (pc := 2433) (i := 2) C2.hx C2.hb dL_law_2433 rfl ?_
  refine z_invVL_ok (pc := 2434) C2 hKF (zm_X8_thrown X.l C2.htr) ⟨rfl, rfl⟩ ⟨by decide, by decide⟩ (by decide) (by decide) zcl_L_135 zw_1001 zw_1002 zK8 dL_law_2434 ?_
  refine z_iload_ok (pc := 2437) (i := 5) C2.hx C2.hb dL_law_2437 ?_
  refine z_icmp_eq_ok (pc := 2439) (tgt := 2444) C2.hx C2.hb dL_law_2439 (by decide) ?_ ?_
  · refine z_iload_ok (pc := 2444) (i := 5) C2.hx C2.hb dL_law_2444 ?_
    refine z_if_ne_ok (pc := 2446) (tgt := 2461) C2.hx C2.hb dL_law_2446 (by decide) ?_ ?_
    · refine z_goto_ok (pc := 2461) (tgt := 2620) C2.hx C2.hb dL_law_2461 (by decide) ?_
      exact zk_L_law_2620 C2 hn hJ
    · refine z_aload_n_ok (pc := 2449) (i := 3) C2.hx C2.hb dL_law_2449 rfl ?_
      refine z_iconst_ok (pc := 2450) (v := 0) C2.hx C2.hb dL_law_2450 (by decide) ?_
      refine z_lald_ok (pc := 2451) C2 dL_law_2451 ?_
      refine z_iload_ok (pc := 2452) (i := 6) C2.hx C2.hb dL_law_2452 ?_
      refine z_i2l_ok (pc := 2454) C2.hx C2.hb dL_law_2454 ?_
      refine z_lcmp_ok (pc := 2455) C2.hx C2.hb dL_law_2455 ?_
      refine z_if_eq_ok (pc := 2456) (tgt := 2461) C2.hx C2.hb dL_law_2456 (by decide) ?_ ?_
      · refine z_goto_ok (pc := 2461) (tgt := 2620) C2.hx C2.hb dL_law_2461 (by decide) ?_
        exact zk_L_law_2620 C2 hn hJ
      · exact fun _ _ _ _ _ _ _ h => False.elim h
  · exact fun _ _ _ _ _ _ _ h => False.elim h
def zb_L_law_2464 (xs : Nat → Int32) (Len : Nat) (J : ZP) : ZP := (z_ald 1 (z_ald 3 (z_invSm 2 sp_L_month (z_ist 5 (z_ald 2 (z_invVm 8 0 sp_X8_month (z_ist 6 (z_ald 2 (z_invV 8 0 sp_X8_thrown (z_ild 5 (z_cmp (fun x y => x = y) (z_ild 5 (z_if (fun x => x = 0) (z_ald 3 (z_push 0 (z_lald (z_ild 6 (z_i2l (z_lcmp (z_if (fun x => x = 0) (zb_L_law_2620 J) (fun _ _ _ _ => False)))))))) (zb_L_law_2620 J))) (fun _ _ _ _ => False))))))))))))
set_option maxRecDepth 20000 in
theorem zk_L_law_2464 {X : ZX} (C : zCx X cL_law RL ret 10 380 11 66) (C2 : zCx (zXc X (X.ce + 10) (X.sl + 60)) cL_law RL ret 10 380 1 6) (hn : X.nL = 7) (hKF : ∀ n S, ¬ X.K (.inr n) S) {b Len : Nat} {xs : Nat → Int32} (hs : zscr X b Len xs) {J : ZP} (hJ : ZOK (zXc X (X.ce + 10) (X.sl + 60)) 23 J) : ZOK X 2464 (zb_L_law_2464 xs Len J) := by
  unfold zb_L_law_2464
  refine z_aload_n_ok (pc := 2464) (i := 1) C.hx C.hb dL_law_2464 rfl ?_
  refine z_aload_n_ok (pc := 2465) (i := 3) C.hx C.hb dL_law_2465 rfl ?_
  refine z_invSWm_ok (pc := 2466) C hKF (zm_L_month X.l C.htr) ⟨rfl, rfl⟩ ⟨by decide, by decide⟩ (by decide) (by decide) zcl_L_234 zw_778 dL_law_2466 ?_
  refine z_istore_ok (pc := 2469) (i := 5) C2.hx C2.hb dL_law_2469 (zlt hn (by decide)) ?_
  refine z_aload_n_ok (pc := 2471) (i := 2) C2.hx C2.hb dL_law_2471 rfl ?_
  refine z_invVLm_ok (pc := 2472) C2 hKF (zm_X8_month X.l C2.htr) ⟨rfl, rfl⟩ ⟨by decide, by decide⟩ (by decide) (by decide) zcl_L_237 zw_1198 zw_1199 zK8 dL_law_2472 ?_
  refine z_istore_ok (pc := 2475) (i := 6) C2.hx C2.hb dL_law_2475 (zlt hn (by decide)) ?_
  refine z_aload_n_ok (pc := 2477) (i := 2) C2.hx C2.hb dL_law_2477 rfl ?_
  refine z_invVL_ok (pc := 2478) C2 hKF (zm_X8_thrown X.l C2.htr) ⟨rfl, rfl⟩ ⟨by decide, by decide⟩ (by decide) (by decide) zcl_L_135 zw_1001 zw_1002 zK8 dL_law_2478 ?_
  refine z_iload_ok (pc := 2481) (i := 5) C2.hx C2.hb dL_law_2481 ?_
  refine z_icmp_eq_ok (pc := 2483) (tgt := 2488) C2.hx C2.hb dL_law_2483 (by decide) ?_ ?_
  · refine z_iload_ok (pc := 2488) (i := 5) C2.hx C2.hb dL_law_2488 ?_
    refine z_if_ne_ok (pc := 2490) (tgt := 2505) C2.hx C2.hb dL_law_2490 (by decide) ?_ ?_
    · refine z_goto_ok (pc := 2505) (tgt := 2620) C2.hx C2.hb dL_law_2505 (by decide) ?_
      exact zk_L_law_2620 C2 hn hJ
    · refine z_aload_n_ok (pc := 2493) (i := 3) C2.hx C2.hb dL_law_2493 rfl ?_
      refine z_iconst_ok (pc := 2494) (v := 0) C2.hx C2.hb dL_law_2494 (by decide) ?_
      refine z_lald_ok (pc := 2495) C2 dL_law_2495 ?_
      refine z_iload_ok (pc := 2496) (i := 6) C2.hx C2.hb dL_law_2496 ?_
      refine z_i2l_ok (pc := 2498) C2.hx C2.hb dL_law_2498 ?_
      refine z_lcmp_ok (pc := 2499) C2.hx C2.hb dL_law_2499 ?_
      refine z_if_eq_ok (pc := 2500) (tgt := 2505) C2.hx C2.hb dL_law_2500 (by decide) ?_ ?_
      · refine z_goto_ok (pc := 2505) (tgt := 2620) C2.hx C2.hb dL_law_2505 (by decide) ?_
        exact zk_L_law_2620 C2 hn hJ
      · exact fun _ _ _ _ _ _ _ h => False.elim h
  · exact fun _ _ _ _ _ _ _ h => False.elim h
def zb_L_law_2508 (xs : Nat → Int32) (Len : Nat) (J : ZP) : ZP := (z_ald 1 (z_ald 0 (z_ild 4 (z_push 1 (z_bin (fun x y => x + y) (z_sald xs Len (z_ald 3 (z_invSm 3 sp_L_diet (z_ist 5 (z_ald 2 (z_ald 0 (z_ild 4 (z_push 1 (z_bin (fun x y => x + y) (z_sald xs Len (z_invVm 8 1 sp_X8_diet (z_ist 6 (z_ald 2 (z_invV 8 0 sp_X8_thrown (z_ild 5 (z_cmp (fun x y => x = y) (z_ild 5 (z_if (fun x => x = 0) (z_ald 3 (z_push 0 (z_lald (z_ild 6 (z_i2l (z_lcmp (z_if (fun x => x = 0) (zb_L_law_2620 J) (fun _ _ _ _ => False)))))))) (zb_L_law_2620 J))) (fun _ _ _ _ => False))))))))))))))))))))))
set_option maxRecDepth 20000 in
theorem zk_L_law_2508 {X : ZX} (C : zCx X cL_law RL ret 10 380 11 66) (C2 : zCx (zXc X (X.ce + 10) (X.sl + 60)) cL_law RL ret 10 380 1 6) (hn : X.nL = 7) (hKF : ∀ n S, ¬ X.K (.inr n) S) {b Len : Nat} {xs : Nat → Int32} (hs : zscr X b Len xs) {J : ZP} (hJ : ZOK (zXc X (X.ce + 10) (X.sl + 60)) 23 J) : ZOK X 2508 (zb_L_law_2508 xs Len J) := by
  unfold zb_L_law_2508
  refine z_aload_n_ok (pc := 2508) (i := 1) C.hx C.hb dL_law_2508 rfl ?_
  refine z_aload_n_ok (pc := 2509) (i := 0) C.hx C.hb dL_law_2509 rfl ?_
  refine z_iload_ok (pc := 2510) (i := 4) C.hx C.hb dL_law_2510 ?_
  refine z_iconst_ok (pc := 2512) (v := 1) C.hx C.hb dL_law_2512 (by decide) ?_
  refine z_iadd_ok (pc := 2513) C.hx C.hb dL_law_2513 ?_
  refine z_sald_ok (pc := 2514) C hs dL_law_2514 ?_
  refine z_aload_n_ok (pc := 2515) (i := 3) C.hx C.hb dL_law_2515 rfl ?_
  refine z_invSWm_ok (pc := 2516) C hKF (zm_L_diet X.l C.htr) ⟨rfl, rfl⟩ ⟨by decide, by decide⟩ (by decide) (by decide) zcl_L_238 zw_818 dL_law_2516 ?_
  refine z_istore_ok (pc := 2519) (i := 5) C2.hx C2.hb dL_law_2519 (zlt hn (by decide)) ?_
  refine z_aload_n_ok (pc := 2521) (i := 2) C2.hx C2.hb dL_law_2521 rfl ?_
  refine z_aload_n_ok (pc := 2522) (i := 0) C2.hx C2.hb dL_law_2522 rfl ?_
  refine z_iload_ok (pc := 2523) (i := 4) C2.hx C2.hb dL_law_2523 ?_
  refine z_iconst_ok (pc := 2525) (v := 1) C2.hx C2.hb dL_law_2525 (by decide) ?_
  refine z_iadd_ok (pc := 2526) C2.hx C2.hb dL_law_2526 ?_
  refine z_sald_ok (pc := 2527) C2 hs dL_law_2527 ?_
  refine z_invVLm_ok (pc := 2528) C2 hKF (zm_X8_diet X.l C2.htr) ⟨rfl, rfl⟩ ⟨by decide, by decide⟩ (by decide) (by decide) zcl_L_240 zw_1215 zw_1216 zK8 dL_law_2528 ?_
  refine z_istore_ok (pc := 2531) (i := 6) C2.hx C2.hb dL_law_2531 (zlt hn (by decide)) ?_
  refine z_aload_n_ok (pc := 2533) (i := 2) C2.hx C2.hb dL_law_2533 rfl ?_
  refine z_invVL_ok (pc := 2534) C2 hKF (zm_X8_thrown X.l C2.htr) ⟨rfl, rfl⟩ ⟨by decide, by decide⟩ (by decide) (by decide) zcl_L_135 zw_1001 zw_1002 zK8 dL_law_2534 ?_
  refine z_iload_ok (pc := 2537) (i := 5) C2.hx C2.hb dL_law_2537 ?_
  refine z_icmp_eq_ok (pc := 2539) (tgt := 2544) C2.hx C2.hb dL_law_2539 (by decide) ?_ ?_
  · refine z_iload_ok (pc := 2544) (i := 5) C2.hx C2.hb dL_law_2544 ?_
    refine z_if_ne_ok (pc := 2546) (tgt := 2561) C2.hx C2.hb dL_law_2546 (by decide) ?_ ?_
    · refine z_goto_ok (pc := 2561) (tgt := 2620) C2.hx C2.hb dL_law_2561 (by decide) ?_
      exact zk_L_law_2620 C2 hn hJ
    · refine z_aload_n_ok (pc := 2549) (i := 3) C2.hx C2.hb dL_law_2549 rfl ?_
      refine z_iconst_ok (pc := 2550) (v := 0) C2.hx C2.hb dL_law_2550 (by decide) ?_
      refine z_lald_ok (pc := 2551) C2 dL_law_2551 ?_
      refine z_iload_ok (pc := 2552) (i := 6) C2.hx C2.hb dL_law_2552 ?_
      refine z_i2l_ok (pc := 2554) C2.hx C2.hb dL_law_2554 ?_
      refine z_lcmp_ok (pc := 2555) C2.hx C2.hb dL_law_2555 ?_
      refine z_if_eq_ok (pc := 2556) (tgt := 2561) C2.hx C2.hb dL_law_2556 (by decide) ?_ ?_
      · refine z_goto_ok (pc := 2561) (tgt := 2620) C2.hx C2.hb dL_law_2561 (by decide) ?_
        exact zk_L_law_2620 C2 hn hJ
      · exact fun _ _ _ _ _ _ _ h => False.elim h
  · exact fun _ _ _ _ _ _ _ h => False.elim h
def zb_L_law_2564 (xs : Nat → Int32) (Len : Nat) (J : ZP) : ZP := (z_ald 1 (z_ald 0 (z_ild 4 (z_push 1 (z_bin (fun x y => x + y) (z_sald xs Len (z_ald 3 (z_invSm 3 sp_L_sum (z_ist 5 (z_ald 2 (z_ald 0 (z_ild 4 (z_push 1 (z_bin (fun x y => x + y) (z_sald xs Len (z_invVm 8 1 sp_X8_sum (z_ist 6 (z_ald 2 (z_invV 8 0 sp_X8_thrown (z_ild 5 (z_cmp (fun x y => x = y) (z_ild 5 (z_if (fun x => x = 0) (z_ald 3 (z_push 0 (z_lald (z_ild 6 (z_i2l (z_lcmp (z_if (fun x => x = 0) (zb_L_law_2620 J) (fun _ _ _ _ => False)))))))) (zb_L_law_2620 J))) (fun _ _ _ _ => False))))))))))))))))))))))
set_option maxRecDepth 20000 in
theorem zk_L_law_2564 {X : ZX} (C : zCx X cL_law RL ret 10 380 11 66) (C2 : zCx (zXc X (X.ce + 10) (X.sl + 60)) cL_law RL ret 10 380 1 6) (hn : X.nL = 7) (hKF : ∀ n S, ¬ X.K (.inr n) S) {b Len : Nat} {xs : Nat → Int32} (hs : zscr X b Len xs) {J : ZP} (hJ : ZOK (zXc X (X.ce + 10) (X.sl + 60)) 23 J) : ZOK X 2564 (zb_L_law_2564 xs Len J) := by
  unfold zb_L_law_2564
  refine z_aload_n_ok (pc := 2564) (i := 1) C.hx C.hb dL_law_2564 rfl ?_
  refine z_aload_n_ok (pc := 2565) (i := 0) C.hx C.hb dL_law_2565 rfl ?_
  refine z_iload_ok (pc := 2566) (i := 4) C.hx C.hb dL_law_2566 ?_
  refine z_iconst_ok (pc := 2568) (v := 1) C.hx C.hb dL_law_2568 (by decide) ?_
  refine z_iadd_ok (pc := 2569) C.hx C.hb dL_law_2569 ?_
  refine z_sald_ok (pc := 2570) C hs dL_law_2570 ?_
  refine z_aload_n_ok (pc := 2571) (i := 3) C.hx C.hb dL_law_2571 rfl ?_
  refine z_invSWm_ok (pc := 2572) C hKF (zm_L_sum X.l C.htr) ⟨rfl, rfl⟩ ⟨by decide, by decide⟩ (by decide) (by decide) zcl_L_241 zw_829 dL_law_2572 ?_
  refine z_istore_ok (pc := 2575) (i := 5) C2.hx C2.hb dL_law_2575 (zlt hn (by decide)) ?_
  refine z_aload_n_ok (pc := 2577) (i := 2) C2.hx C2.hb dL_law_2577 rfl ?_
  refine z_aload_n_ok (pc := 2578) (i := 0) C2.hx C2.hb dL_law_2578 rfl ?_
  refine z_iload_ok (pc := 2579) (i := 4) C2.hx C2.hb dL_law_2579 ?_
  refine z_iconst_ok (pc := 2581) (v := 1) C2.hx C2.hb dL_law_2581 (by decide) ?_
  refine z_iadd_ok (pc := 2582) C2.hx C2.hb dL_law_2582 ?_
  refine z_sald_ok (pc := 2583) C2 hs dL_law_2583 ?_
  refine z_invVLm_ok (pc := 2584) C2 hKF (zm_X8_sum X.l C2.htr) ⟨rfl, rfl⟩ ⟨by decide, by decide⟩ (by decide) (by decide) zcl_L_243 zw_1219 zw_1220 zK8 dL_law_2584 ?_
  refine z_istore_ok (pc := 2587) (i := 6) C2.hx C2.hb dL_law_2587 (zlt hn (by decide)) ?_
  refine z_aload_n_ok (pc := 2589) (i := 2) C2.hx C2.hb dL_law_2589 rfl ?_
  refine z_invVL_ok (pc := 2590) C2 hKF (zm_X8_thrown X.l C2.htr) ⟨rfl, rfl⟩ ⟨by decide, by decide⟩ (by decide) (by decide) zcl_L_135 zw_1001 zw_1002 zK8 dL_law_2590 ?_
  refine z_iload_ok (pc := 2593) (i := 5) C2.hx C2.hb dL_law_2593 ?_
  refine z_icmp_eq_ok (pc := 2595) (tgt := 2600) C2.hx C2.hb dL_law_2595 (by decide) ?_ ?_
  · refine z_iload_ok (pc := 2600) (i := 5) C2.hx C2.hb dL_law_2600 ?_
    refine z_if_ne_ok (pc := 2602) (tgt := 2617) C2.hx C2.hb dL_law_2602 (by decide) ?_ ?_
    · refine z_goto_ok (pc := 2617) (tgt := 2620) C2.hx C2.hb dL_law_2617 (by decide) ?_
      exact zk_L_law_2620 C2 hn hJ
    · refine z_aload_n_ok (pc := 2605) (i := 3) C2.hx C2.hb dL_law_2605 rfl ?_
      refine z_iconst_ok (pc := 2606) (v := 0) C2.hx C2.hb dL_law_2606 (by decide) ?_
      refine z_lald_ok (pc := 2607) C2 dL_law_2607 ?_
      refine z_iload_ok (pc := 2608) (i := 6) C2.hx C2.hb dL_law_2608 ?_
      refine z_i2l_ok (pc := 2610) C2.hx C2.hb dL_law_2610 ?_
      refine z_lcmp_ok (pc := 2611) C2.hx C2.hb dL_law_2611 ?_
      refine z_if_eq_ok (pc := 2612) (tgt := 2617) C2.hx C2.hb dL_law_2612 (by decide) ?_ ?_
      · refine z_goto_ok (pc := 2617) (tgt := 2620) C2.hx C2.hb dL_law_2617 (by decide) ?_
        exact zk_L_law_2620 C2 hn hJ
      · exact fun _ _ _ _ _ _ _ h => False.elim h
  · exact fun _ _ _ _ _ _ _ h => False.elim h
def zb_L_law_23 (xs : Nat → Int32) (Len : Nat) (J : ZP) : ZP := (z_ild 4 (z_ald 0 (z_slen Len (z_push 5 (z_bin (fun x y => x - y) (z_cmp (fun x y => y < x) (fun _ st _ _ => st = []) (z_ald 0 (z_ild 4 (z_sald xs Len (z_push 63 (z_bin (fun x y => x &&& y) (z_sw [(0, zb_L_law_192 xs Len J), (1, zb_L_law_260 xs Len J), (2, zb_L_law_328 xs Len J), (3, zb_L_law_384 xs Len J), (4, zb_L_law_452 xs Len J), (5, zb_L_law_520 xs Len J), (6, zb_L_law_588 xs Len J), (7, zb_L_law_656 xs Len J), (8, zb_L_law_724 xs Len J), (9, zb_L_law_792 xs Len J), (10, zb_L_law_872 xs Len J), (11, zb_L_law_928 xs Len J), (12, zb_L_law_996 xs Len J), (13, zb_L_law_1064 xs Len J), (14, zb_L_law_1132 xs Len J), (15, zb_L_law_1188 xs Len J), (16, zb_L_law_1244 xs Len J), (17, zb_L_law_1324 xs Len J), (18, zb_L_law_1404 xs Len J), (19, zb_L_law_1472 xs Len J), (20, zb_L_law_1564 xs Len J), (21, zb_L_law_1644 xs Len J), (22, zb_L_law_1724 xs Len J), (23, zb_L_law_1792 xs Len J), (24, zb_L_law_1884 xs Len J), (25, zb_L_law_1964 xs Len J), (26, zb_L_law_2044 xs Len J), (27, zb_L_law_2124 xs Len J), (28, zb_L_law_2180 xs Len J), (29, zb_L_law_2260 xs Len J), (30, zb_L_law_2340 xs Len J), (31, zb_L_law_2408 xs Len J), (32, zb_L_law_2464 xs Len J), (33, zb_L_law_2508 xs Len J), (34, zb_L_law_2564 xs Len J)] (zb_L_law_2620 J)))))))))))))
set_option maxRecDepth 20000 in
theorem zk_L_law_23 {X : ZX} (C : zCx X cL_law RL ret 10 380 11 66) (C2 : zCx (zXc X (X.ce + 10) (X.sl + 60)) cL_law RL ret 10 380 1 6) (hn : X.nL = 7) (hKF : ∀ n S, ¬ X.K (.inr n) S) {b Len : Nat} {xs : Nat → Int32} (hs : zscr X b Len xs) {J : ZP} (hJ : ZOK (zXc X (X.ce + 10) (X.sl + 60)) 23 J) (hEnd : ZOK X 2626 (fun _ st _ _ => st = [])) : ZOK X 23 (zb_L_law_23 xs Len J) := by
  unfold zb_L_law_23
  refine z_iload_ok (pc := 23) (i := 4) C.hx C.hb dL_law_23 ?_
  refine z_aload_n_ok (pc := 25) (i := 0) C.hx C.hb dL_law_25 rfl ?_
  refine z_slen_ok (pc := 26) C hs dL_law_26 ?_
  refine z_iconst_ok (pc := 27) (v := 5) C.hx C.hb dL_law_27 (by decide) ?_
  refine z_isub_ok (pc := 28) C.hx C.hb dL_law_28 ?_
  refine z_icmp_gt_ok (pc := 29) (tgt := 2626) C.hx C.hb dL_law_29 (by decide) ?_ ?_
  · exact hEnd
  · refine z_aload_n_ok (pc := 32) (i := 0) C.hx C.hb dL_law_32 rfl ?_
    refine z_iload_ok (pc := 33) (i := 4) C.hx C.hb dL_law_33 ?_
    refine z_sald_ok (pc := 35) C hs dL_law_35 ?_
    refine z_bipush_ok (pc := 36) (v := 63) C.hx C.hb dL_law_36 (by decide) ?_
    refine z_iand_ok (pc := 38) C.hx C.hb dL_law_38 ?_
    refine z_sw_ok (pc := 39) (tgt := 2620) C.hx C.hb dL_law_39 (by decide) ?_ ⟨⟨show (0 : Int32).toInt = (0 : Int) + ((0 : Nat) : Int) by decide, 153, 192, by decide, by decide, zk_L_law_192 C C2 hn hKF hs hJ⟩, ⟨⟨show (1 : Int32).toInt = (0 : Int) + ((1 : Nat) : Int) by decide, 221, 260, by decide, by decide, zk_L_law_260 C C2 hn hKF hs hJ⟩, ⟨⟨show (2 : Int32).toInt = (0 : Int) + ((2 : Nat) : Int) by decide, 289, 328, by decide, by decide, zk_L_law_328 C C2 hn hKF hs hJ⟩, ⟨⟨show (3 : Int32).toInt = (0 : Int) + ((3 : Nat) : Int) by decide, 345, 384, by decide, by decide, zk_L_law_384 C C2 hn hKF hs hJ⟩, ⟨⟨show (4 : Int32).toInt = (0 : Int) + ((4 : Nat) : Int) by decide, 413, 452, by decide, by decide, zk_L_law_452 C C2 hn hKF hs hJ⟩, ⟨⟨show (5 : Int32).toInt = (0 : Int) + ((5 : Nat) : Int) by decide, 481, 520, by decide, by decide, zk_L_law_520 C C2 hn hKF hs hJ⟩, ⟨⟨show (6 : Int32).toInt = (0 : Int) + ((6 : Nat) : Int) by decide, 549, 588, by decide, by decide, zk_L_law_588 C C2 hn hKF hs hJ⟩, ⟨⟨show (7 : Int32).toInt = (0 : Int) + ((7 : Nat) : Int) by decide, 617, 656, by decide, by decide, zk_L_law_656 C C2 hn hKF hs hJ⟩, ⟨⟨show (8 : Int32).toInt = (0 : Int) + ((8 : Nat) : Int) by decide, 685, 724, by decide, by decide, zk_L_law_724 C C2 hn hKF hs hJ⟩, ⟨⟨show (9 : Int32).toInt = (0 : Int) + ((9 : Nat) : Int) by decide, 753, 792, by decide, by decide, zk_L_law_792 C C2 hn hKF hs hJ⟩, ⟨⟨show (10 : Int32).toInt = (0 : Int) + ((10 : Nat) : Int) by decide, 833, 872, by decide, by decide, zk_L_law_872 C C2 hn hKF hs hJ⟩, ⟨⟨show (11 : Int32).toInt = (0 : Int) + ((11 : Nat) : Int) by decide, 889, 928, by decide, by decide, zk_L_law_928 C C2 hn hKF hs hJ⟩, ⟨⟨show (12 : Int32).toInt = (0 : Int) + ((12 : Nat) : Int) by decide, 957, 996, by decide, by decide, zk_L_law_996 C C2 hn hKF hs hJ⟩, ⟨⟨show (13 : Int32).toInt = (0 : Int) + ((13 : Nat) : Int) by decide, 1025, 1064, by decide, by decide, zk_L_law_1064 C C2 hn hKF hs hJ⟩, ⟨⟨show (14 : Int32).toInt = (0 : Int) + ((14 : Nat) : Int) by decide, 1093, 1132, by decide, by decide, zk_L_law_1132 C C2 hn hKF hs hJ⟩, ⟨⟨show (15 : Int32).toInt = (0 : Int) + ((15 : Nat) : Int) by decide, 1149, 1188, by decide, by decide, zk_L_law_1188 C C2 hn hKF hs hJ⟩, ⟨⟨show (16 : Int32).toInt = (0 : Int) + ((16 : Nat) : Int) by decide, 1205, 1244, by decide, by decide, zk_L_law_1244 C C2 hn hKF hs hJ⟩, ⟨⟨show (17 : Int32).toInt = (0 : Int) + ((17 : Nat) : Int) by decide, 1285, 1324, by decide, by decide, zk_L_law_1324 C C2 hn hKF hs hJ⟩, ⟨⟨show (18 : Int32).toInt = (0 : Int) + ((18 : Nat) : Int) by decide, 1365, 1404, by decide, by decide, zk_L_law_1404 C C2 hn hKF hs hJ⟩, ⟨⟨show (19 : Int32).toInt = (0 : Int) + ((19 : Nat) : Int) by decide, 1433, 1472, by decide, by decide, zk_L_law_1472 C C2 hn hKF hs hJ⟩, ⟨⟨show (20 : Int32).toInt = (0 : Int) + ((20 : Nat) : Int) by decide, 1525, 1564, by decide, by decide, zk_L_law_1564 C C2 hn hKF hs hJ⟩, ⟨⟨show (21 : Int32).toInt = (0 : Int) + ((21 : Nat) : Int) by decide, 1605, 1644, by decide, by decide, zk_L_law_1644 C C2 hn hKF hs hJ⟩, ⟨⟨show (22 : Int32).toInt = (0 : Int) + ((22 : Nat) : Int) by decide, 1685, 1724, by decide, by decide, zk_L_law_1724 C C2 hn hKF hs hJ⟩, ⟨⟨show (23 : Int32).toInt = (0 : Int) + ((23 : Nat) : Int) by decide, 1753, 1792, by decide, by decide, zk_L_law_1792 C C2 hn hKF hs hJ⟩, ⟨⟨show (24 : Int32).toInt = (0 : Int) + ((24 : Nat) : Int) by decide, 1845, 1884, by decide, by decide, zk_L_law_1884 C C2 hn hKF hs hJ⟩, ⟨⟨show (25 : Int32).toInt = (0 : Int) + ((25 : Nat) : Int) by decide, 1925, 1964, by decide, by decide, zk_L_law_1964 C C2 hn hKF hs hJ⟩, ⟨⟨show (26 : Int32).toInt = (0 : Int) + ((26 : Nat) : Int) by decide, 2005, 2044, by decide, by decide, zk_L_law_2044 C C2 hn hKF hs hJ⟩, ⟨⟨show (27 : Int32).toInt = (0 : Int) + ((27 : Nat) : Int) by decide, 2085, 2124, by decide, by decide, zk_L_law_2124 C C2 hn hKF hs hJ⟩, ⟨⟨show (28 : Int32).toInt = (0 : Int) + ((28 : Nat) : Int) by decide, 2141, 2180, by decide, by decide, zk_L_law_2180 C C2 hn hKF hs hJ⟩, ⟨⟨show (29 : Int32).toInt = (0 : Int) + ((29 : Nat) : Int) by decide, 2221, 2260, by decide, by decide, zk_L_law_2260 C C2 hn hKF hs hJ⟩, ⟨⟨show (30 : Int32).toInt = (0 : Int) + ((30 : Nat) : Int) by decide, 2301, 2340, by decide, by decide, zk_L_law_2340 C C2 hn hKF hs hJ⟩, ⟨⟨show (31 : Int32).toInt = (0 : Int) + ((31 : Nat) : Int) by decide, 2369, 2408, by decide, by decide, zk_L_law_2408 C C2 hn hKF hs hJ⟩, ⟨⟨show (32 : Int32).toInt = (0 : Int) + ((32 : Nat) : Int) by decide, 2425, 2464, by decide, by decide, zk_L_law_2464 C C2 hn hKF hs hJ⟩, ⟨⟨show (33 : Int32).toInt = (0 : Int) + ((33 : Nat) : Int) by decide, 2469, 2508, by decide, by decide, zk_L_law_2508 C C2 hn hKF hs hJ⟩, ⟨⟨show (34 : Int32).toInt = (0 : Int) + ((34 : Nat) : Int) by decide, 2525, 2564, by decide, by decide, zk_L_law_2564 C C2 hn hKF hs hJ⟩, trivial⟩⟩⟩⟩⟩⟩⟩⟩⟩⟩⟩⟩⟩⟩⟩⟩⟩⟩⟩⟩⟩⟩⟩⟩⟩⟩⟩⟩⟩⟩⟩⟩⟩⟩⟩ (show (34 : Int) + 1 = 0 + ((35 : Nat) : Int) by decide)
    exact zOK_widen (Nat.le_add_right _ _) (Nat.le_add_right _ _) (zk_L_law_2620 C2 hn hJ)
