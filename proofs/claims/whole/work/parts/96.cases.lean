/-! 96: the law: its cases -/
theorem sx {j c LL : Nat} (h : 5 * j + 5 ≤ LL) (hL : LL ≤ 2560) (hc : c ≤ 4) : vp_in (nI (5 * j) + nI c) LL ∧ (nI (5 * j) + nI c).toNatClampNeg = 5 * j + c := by
  rw [nI_ad]
  exact ⟨vpi (by omega) (by omega), nI_clamp (by omega)⟩
theorem LI_ce {M U N : Mem} (h : LI M) (ce : CE U M) (rp : RP M U N) : LI N := LI_n (CE_wf ce h.1) ⟨IV_ce ce rp.1, rp.2⟩
theorem case_0 {b LL j : Nat} {xs : Nat → Int32} {G : GD} {M : Mem} (hj : 5 * j + 5 ≤ LL) (hL : LL ≤ 2560) (h : LI M) (k : ∀ (G : GD) (N : Mem), LI N → Bl b LL xs G SH 1374 [some (.ref 140), some (.ref 0), some (.ref 58), some (.int (nI (5 * j)))] [] N) : Bl b LL xs G SH 208 [some (.ref 140), some (.ref 0), some (.ref 58), some (.int (nI (5 * j)))] [] M := by
  refine Bl_aload_1 (pc := 208) dL_law_208 ?_
  refine Bl_aload_0 (pc := 209) dL_law_209 ?_
  refine Bl_iload_3 (pc := 210) dL_law_210 ?_
  refine Bl_iconst (v := 1) (pc := 211) dL_law_211 (by decide) ?_
  refine Bl_iadd (pc := 212) dL_law_212 ?_
  refine Bl_sld (j := 5 * j + 1) (pc := 213) dL_law_213 (sx (c := 1) hj hL (by decide)).1 (sx (c := 1) hj hL (by decide)).2 ?_
  refine Bl_i2l (pc := 214) dL_law_214 ?_
  refine Bl_bipush (v := 32) (pc := 215) dL_law_215 (by decide) ?_
  refine Bl_lshl (pc := 217) dL_law_217 ?_
  refine Bl_aload_0 (pc := 218) dL_law_218 ?_
  refine Bl_iload_3 (pc := 219) dL_law_219 ?_
  refine Bl_iconst (v := 2) (pc := 220) dL_law_220 (by decide) ?_
  refine Bl_iadd (pc := 221) dL_law_221 ?_
  refine Bl_sld (j := 5 * j + 2) (pc := 222) dL_law_222 (sx (c := 2) hj hL (by decide)).1 (sx (c := 2) hj hL (by decide)).2 ?_
  refine Bl_i2l (pc := 223) dL_law_223 ?_
  refine Bl_ldc2 k_1236 (pc := 224) dL_law_224 ?_
  refine Bl_land (pc := 227) dL_law_227 ?_
  refine Bl_lor (pc := 228) dL_law_228 ?_
  refine Bl_call1 (cd := mX7_feed) (pc := 229) dL_law_229 k_272 v_X7_feed ⟨(Nat.le_of_ble_eq_true rfl), (Nat.le_of_ble_eq_true rfl)⟩ rfl rfl (sem_X7_feed h.1) (Nat.le_of_ble_eq_true rfl) (fun v sh1 U hU => ?_)
  obtain ⟨rfl, rfl, rfl⟩ := hU
  refine Bl_aload_2 (pc := 232) dL_law_232 ?_
  refine Bl_aload_0 (pc := 233) dL_law_233 ?_
  refine Bl_iload_3 (pc := 234) dL_law_234 ?_
  refine Bl_iconst (v := 1) (pc := 235) dL_law_235 (by decide) ?_
  refine Bl_iadd (pc := 236) dL_law_236 ?_
  refine Bl_sld (j := 5 * j + 1) (pc := 237) dL_law_237 (sx (c := 1) hj hL (by decide)).1 (sx (c := 1) hj hL (by decide)).2 ?_
  refine Bl_i2l (pc := 238) dL_law_238 ?_
  refine Bl_bipush (v := 32) (pc := 239) dL_law_239 (by decide) ?_
  refine Bl_lshl (pc := 241) dL_law_241 ?_
  refine Bl_aload_0 (pc := 242) dL_law_242 ?_
  refine Bl_iload_3 (pc := 243) dL_law_243 ?_
  refine Bl_iconst (v := 2) (pc := 244) dL_law_244 (by decide) ?_
  refine Bl_iadd (pc := 245) dL_law_245 ?_
  refine Bl_sld (j := 5 * j + 2) (pc := 246) dL_law_246 (sx (c := 2) hj hL (by decide)).1 (sx (c := 2) hj hL (by decide)).2 ?_
  refine Bl_i2l (pc := 247) dL_law_247 ?_
  refine Bl_ldc2 k_1236 (pc := 248) dL_law_248 ?_
  refine Bl_land (pc := 251) dL_law_251 ?_
  refine Bl_lor (pc := 252) dL_law_252 ?_
  refine Bl_call1 (cd := mX8_feed) (pc := 253) dL_law_253 k_902 v_X8_feed ⟨(Nat.le_of_ble_eq_true rfl), (Nat.le_of_ble_eq_true rfl)⟩ rfl rfl (sem_X8_feed (h.rf Hi_feed)) (Nat.le_of_ble_eq_true rfl) (fun v sh2 N hN => ?_)
  obtain ⟨r2, rfl, rfl, e2, rp⟩ := hN
  exact Bl_icmp_eq (t := 1374) (pc := 256) dL_law_256 (by decide) (fun _ => k _ _ (LI_n (WF_feed h.1) rp)) (fun b => absurd (e2.symm) b)
theorem case_1 {b LL j : Nat} {xs : Nat → Int32} {G : GD} {M : Mem} (hj : 5 * j + 5 ≤ LL) (hL : LL ≤ 2560) (h : LI M) (k : ∀ (G : GD) (N : Mem), LI N → Bl b LL xs G SH 1374 [some (.ref 140), some (.ref 0), some (.ref 58), some (.int (nI (5 * j)))] [] N) : Bl b LL xs G SH 261 [some (.ref 140), some (.ref 0), some (.ref 58), some (.int (nI (5 * j)))] [] M := by
  refine Bl_aload_1 (pc := 261) dL_law_261 ?_
  refine Bl_aload_0 (pc := 262) dL_law_262 ?_
  refine Bl_iload_3 (pc := 263) dL_law_263 ?_
  refine Bl_iconst (v := 1) (pc := 264) dL_law_264 (by decide) ?_
  refine Bl_iadd (pc := 265) dL_law_265 ?_
  refine Bl_sld (j := 5 * j + 1) (pc := 266) dL_law_266 (sx (c := 1) hj hL (by decide)).1 (sx (c := 1) hj hL (by decide)).2 ?_
  refine Bl_call1 (cd := mX7_end) (pc := 267) dL_law_267 k_280 v_X7_end ⟨(Nat.le_of_ble_eq_true rfl), (Nat.le_of_ble_eq_true rfl)⟩ rfl rfl sem_X7_end (Nat.le_of_ble_eq_true rfl) (fun v sh1 U hU => ?_)
  obtain ⟨rfl, rfl, rfl⟩ := hU
  refine Bl_aload_2 (pc := 270) dL_law_270 ?_
  refine Bl_aload_0 (pc := 271) dL_law_271 ?_
  refine Bl_iload_3 (pc := 272) dL_law_272 ?_
  refine Bl_iconst (v := 1) (pc := 273) dL_law_273 (by decide) ?_
  refine Bl_iadd (pc := 274) dL_law_274 ?_
  refine Bl_sld (j := 5 * j + 1) (pc := 275) dL_law_275 (sx (c := 1) hj hL (by decide)).1 (sx (c := 1) hj hL (by decide)).2 ?_
  refine Bl_call1 (cd := mX8_end) (pc := 276) dL_law_276 k_906 v_X8_end ⟨(Nat.le_of_ble_eq_true rfl), (Nat.le_of_ble_eq_true rfl)⟩ rfl rfl (sem_X8_end (h.rf Hi_end)) (Nat.le_of_ble_eq_true rfl) (fun v sh2 N hN => ?_)
  obtain ⟨r2, rfl, rfl, e2, rp⟩ := hN
  exact Bl_icmp_eq (t := 1374) (pc := 279) dL_law_279 (by decide) (fun _ => k _ _ (LI_n (WF_end h.1) rp)) (fun b => absurd (e2.symm) b)
theorem case_2 {b LL j : Nat} {xs : Nat → Int32} {G : GD} {M : Mem} (hj : 5 * j + 5 ≤ LL) (hL : LL ≤ 2560) (h : LI M) (k : ∀ (G : GD) (N : Mem), LI N → Bl b LL xs G SH 1374 [some (.ref 140), some (.ref 0), some (.ref 58), some (.int (nI (5 * j)))] [] N) : Bl b LL xs G SH 284 [some (.ref 140), some (.ref 0), some (.ref 58), some (.int (nI (5 * j)))] [] M := by
  refine Bl_aload_1 (pc := 284) dL_law_284 ?_
  refine Bl_call0 (cd := mX7_land) (pc := 285) dL_law_285 k_284 v_X7_land ⟨(Nat.le_of_ble_eq_true rfl), (Nat.le_of_ble_eq_true rfl)⟩ rfl rfl (sem_X7_land (WF.tl h.1) (WF.tl320 h.1)) (Nat.le_of_ble_eq_true rfl) (fun v sh1 U hU => ?_)
  obtain ⟨rfl, hU⟩ := hU
  rcases hU with ⟨f0, rfl, rfl⟩ | ⟨f0, rfl, rfl⟩
  · rw [show laM M = landU M from by unfold landU; rw [if_neg f0]]
    refine Bl_aload_2 (pc := 288) dL_law_288 ?_
    refine Bl_call0 (cd := mX8_land) (pc := 289) dL_law_289 k_913 v_X8_land ⟨(Nat.le_of_ble_eq_true rfl), (Nat.le_of_ble_eq_true rfl)⟩ rfl rfl (sem_X8_land (h.rf Hi_land)) (Nat.le_of_ble_eq_true rfl) (fun v sh2 N hN => ?_)
    obtain ⟨r2, rfl, rfl, e2, rp, wf⟩ := hN
    exact Bl_icmp_eq (t := 1374) (pc := 292) dL_law_292 (by decide) (fun _ => k _ _ (LI_n wf rp)) (fun b => absurd (e2.symm) b)
  · refine Bl_sw ?_
    rw [show swM (laN M) = landU M from by unfold landU; rw [if_pos f0]]
    refine Bl_aload_2 (pc := 288) dL_law_288 ?_
    refine Bl_call0 (cd := mX8_land) (pc := 289) dL_law_289 k_913 v_X8_land ⟨(Nat.le_of_ble_eq_true rfl), (Nat.le_of_ble_eq_true rfl)⟩ rfl rfl (sem_X8_land (h.rf Hi_land)) (Nat.le_of_ble_eq_true rfl) (fun v sh2 N hN => ?_)
    obtain ⟨r2, rfl, rfl, e2, rp, wf⟩ := hN
    exact Bl_icmp_eq (t := 1374) (pc := 292) dL_law_292 (by decide) (fun _ => k _ _ (LI_n wf rp)) (fun b => absurd (e2.symm) b)
theorem case_3 {b LL j : Nat} {xs : Nat → Int32} {G : GD} {M : Mem} (hj : 5 * j + 5 ≤ LL) (hL : LL ≤ 2560) (h : LI M) (k : ∀ (G : GD) (N : Mem), LI N → Bl b LL xs G SH 1374 [some (.ref 140), some (.ref 0), some (.ref 58), some (.int (nI (5 * j)))] [] N) : Bl b LL xs G SH 297 [some (.ref 140), some (.ref 0), some (.ref 58), some (.int (nI (5 * j)))] [] M := by
  refine Bl_aload_1 (pc := 297) dL_law_297 ?_
  refine Bl_call0 (cd := mX7_fault) (pc := 298) dL_law_298 k_440 v_X7_fault ⟨(Nat.le_of_ble_eq_true rfl), (Nat.le_of_ble_eq_true rfl)⟩ rfl rfl sem_X7_fault (Nat.le_of_ble_eq_true rfl) (fun v sh1 U hU => ?_)
  obtain ⟨rfl, rfl, rfl⟩ := hU
  refine Bl_aload_2 (pc := 301) dL_law_301 ?_
  refine Bl_call0 (cd := mX8_fault) (pc := 302) dL_law_302 k_957 v_X8_fault ⟨(Nat.le_of_ble_eq_true rfl), (Nat.le_of_ble_eq_true rfl)⟩ rfl rfl (sem_X8_fault (h.rf (Hi.rf))) (Nat.le_of_ble_eq_true rfl) (fun v sh2 N hN => ?_)
  obtain ⟨r2, rfl, rfl, e2, rp⟩ := hN
  exact Bl_icmp_eq (t := 1374) (pc := 305) dL_law_305 (by decide) (fun _ => k _ _ (LI_n h.1 rp)) (fun b => absurd (e2.symm) b)
theorem case_4 {b LL j : Nat} {xs : Nat → Int32} {G : GD} {M : Mem} (hj : 5 * j + 5 ≤ LL) (hL : LL ≤ 2560) (h : LI M) (k : ∀ (G : GD) (N : Mem), LI N → Bl b LL xs G SH 1374 [some (.ref 140), some (.ref 0), some (.ref 58), some (.int (nI (5 * j)))] [] N) : Bl b LL xs G SH 310 [some (.ref 140), some (.ref 0), some (.ref 58), some (.int (nI (5 * j)))] [] M := by
  refine Bl_aload_1 (pc := 310) dL_law_310 ?_
  refine Bl_aload_0 (pc := 311) dL_law_311 ?_
  refine Bl_iload_3 (pc := 312) dL_law_312 ?_
  refine Bl_iconst (v := 1) (pc := 313) dL_law_313 (by decide) ?_
  refine Bl_iadd (pc := 314) dL_law_314 ?_
  refine Bl_sld (j := 5 * j + 1) (pc := 315) dL_law_315 (sx (c := 1) hj hL (by decide)).1 (sx (c := 1) hj hL (by decide)).2 ?_
  refine Bl_call1 (cd := mX7_rule) (pc := 316) dL_law_316 k_444 v_X7_rule ⟨(Nat.le_of_ble_eq_true rfl), (Nat.le_of_ble_eq_true rfl)⟩ rfl rfl sem_X7_rule (Nat.le_of_ble_eq_true rfl) (fun v sh1 U hU => ?_)
  obtain ⟨rfl, rfl, rfl⟩ := hU
  refine Bl_aload_2 (pc := 319) dL_law_319 ?_
  refine Bl_aload_0 (pc := 320) dL_law_320 ?_
  refine Bl_iload_3 (pc := 321) dL_law_321 ?_
  refine Bl_iconst (v := 1) (pc := 322) dL_law_322 (by decide) ?_
  refine Bl_iadd (pc := 323) dL_law_323 ?_
  refine Bl_sld (j := 5 * j + 1) (pc := 324) dL_law_324 (sx (c := 1) hj hL (by decide)).1 (sx (c := 1) hj hL (by decide)).2 ?_
  refine Bl_call1 (cd := mX8_rule) (pc := 325) dL_law_325 k_961 v_X8_rule ⟨(Nat.le_of_ble_eq_true rfl), (Nat.le_of_ble_eq_true rfl)⟩ rfl rfl (sem_X8_rule (h.rf (Hi.rf))) (Nat.le_of_ble_eq_true rfl) (fun v sh2 N hN => ?_)
  obtain ⟨r2, rfl, rfl, e2, rp⟩ := hN
  exact Bl_icmp_eq (t := 1374) (pc := 328) dL_law_328 (by decide) (fun _ => k _ _ (LI_n h.1 rp)) (fun b => absurd (e2.symm) b)
theorem case_5 {b LL j : Nat} {xs : Nat → Int32} {G : GD} {M : Mem} (hj : 5 * j + 5 ≤ LL) (hL : LL ≤ 2560) (h : LI M) (k : ∀ (G : GD) (N : Mem), LI N → Bl b LL xs G SH 1374 [some (.ref 140), some (.ref 0), some (.ref 58), some (.int (nI (5 * j)))] [] N) : Bl b LL xs G SH 333 [some (.ref 140), some (.ref 0), some (.ref 58), some (.int (nI (5 * j)))] [] M := by
  refine Bl_aload_1 (pc := 333) dL_law_333 ?_
  refine Bl_aload_0 (pc := 334) dL_law_334 ?_
  refine Bl_iload_3 (pc := 335) dL_law_335 ?_
  refine Bl_iconst (v := 1) (pc := 336) dL_law_336 (by decide) ?_
  refine Bl_iadd (pc := 337) dL_law_337 ?_
  refine Bl_sld (j := 5 * j + 1) (pc := 338) dL_law_338 (sx (c := 1) hj hL (by decide)).1 (sx (c := 1) hj hL (by decide)).2 ?_
  refine Bl_aload_0 (pc := 339) dL_law_339 ?_
  refine Bl_iload_3 (pc := 340) dL_law_340 ?_
  refine Bl_iconst (v := 2) (pc := 341) dL_law_341 (by decide) ?_
  refine Bl_iadd (pc := 342) dL_law_342 ?_
  refine Bl_sld (j := 5 * j + 2) (pc := 343) dL_law_343 (sx (c := 2) hj hL (by decide)).1 (sx (c := 2) hj hL (by decide)).2 ?_
  refine Bl_call2 (cd := mX7_tower) (pc := 344) dL_law_344 k_449 v_X7_tower ⟨(Nat.le_of_ble_eq_true rfl), (Nat.le_of_ble_eq_true rfl)⟩ rfl rfl (sem_X7_tower h.1) (Nat.le_of_ble_eq_true rfl) (fun v sh1 U hU => ?_)
  obtain ⟨rfl, rfl, rfl⟩ := hU
  refine Bl_aload_2 (pc := 347) dL_law_347 ?_
  refine Bl_aload_0 (pc := 348) dL_law_348 ?_
  refine Bl_iload_3 (pc := 349) dL_law_349 ?_
  refine Bl_iconst (v := 1) (pc := 350) dL_law_350 (by decide) ?_
  refine Bl_iadd (pc := 351) dL_law_351 ?_
  refine Bl_sld (j := 5 * j + 1) (pc := 352) dL_law_352 (sx (c := 1) hj hL (by decide)).1 (sx (c := 1) hj hL (by decide)).2 ?_
  refine Bl_aload_0 (pc := 353) dL_law_353 ?_
  refine Bl_iload_3 (pc := 354) dL_law_354 ?_
  refine Bl_iconst (v := 2) (pc := 355) dL_law_355 (by decide) ?_
  refine Bl_iadd (pc := 356) dL_law_356 ?_
  refine Bl_sld (j := 5 * j + 2) (pc := 357) dL_law_357 (sx (c := 2) hj hL (by decide)).1 (sx (c := 2) hj hL (by decide)).2 ?_
  refine Bl_call2 (cd := mX8_tower) (pc := 358) dL_law_358 k_970 v_X8_tower ⟨(Nat.le_of_ble_eq_true rfl), (Nat.le_of_ble_eq_true rfl)⟩ rfl rfl (sem_X8_tower (h.rf (Hi.rf))) (Nat.le_of_ble_eq_true rfl) (fun v sh2 N hN => ?_)
  obtain ⟨r2, rfl, rfl, e2, rp⟩ := hN
  exact Bl_icmp_eq (t := 1374) (pc := 361) dL_law_361 (by decide) (fun _ => k _ _ (LI_n h.1 rp)) (fun b => absurd (e2.symm) b)
theorem case_6 {b LL j : Nat} {xs : Nat → Int32} {G : GD} {M : Mem} (hj : 5 * j + 5 ≤ LL) (hL : LL ≤ 2560) (h : LI M) (k : ∀ (G : GD) (N : Mem), LI N → Bl b LL xs G SH 1374 [some (.ref 140), some (.ref 0), some (.ref 58), some (.int (nI (5 * j)))] [] N) : Bl b LL xs G SH 366 [some (.ref 140), some (.ref 0), some (.ref 58), some (.int (nI (5 * j)))] [] M := by
  refine Bl_aload_1 (pc := 366) dL_law_366 ?_
  refine Bl_aload_0 (pc := 367) dL_law_367 ?_
  refine Bl_iload_3 (pc := 368) dL_law_368 ?_
  refine Bl_iconst (v := 1) (pc := 369) dL_law_369 (by decide) ?_
  refine Bl_iadd (pc := 370) dL_law_370 ?_
  refine Bl_sld (j := 5 * j + 1) (pc := 371) dL_law_371 (sx (c := 1) hj hL (by decide)).1 (sx (c := 1) hj hL (by decide)).2 ?_
  refine Bl_call1 (cd := mX7_hill) (pc := 372) dL_law_372 k_457 v_X7_hill ⟨(Nat.le_of_ble_eq_true rfl), (Nat.le_of_ble_eq_true rfl)⟩ rfl rfl (sem_X7_hill h.1) (Nat.le_of_ble_eq_true rfl) (fun v sh1 U hU => ?_)
  obtain ⟨rfl, rfl, rfl⟩ := hU
  refine Bl_aload_2 (pc := 375) dL_law_375 ?_
  refine Bl_aload_0 (pc := 376) dL_law_376 ?_
  refine Bl_iload_3 (pc := 377) dL_law_377 ?_
  refine Bl_iconst (v := 1) (pc := 378) dL_law_378 (by decide) ?_
  refine Bl_iadd (pc := 379) dL_law_379 ?_
  refine Bl_sld (j := 5 * j + 1) (pc := 380) dL_law_380 (sx (c := 1) hj hL (by decide)).1 (sx (c := 1) hj hL (by decide)).2 ?_
  refine Bl_call1 (cd := mX8_hill) (pc := 381) dL_law_381 k_978 v_X8_hill ⟨(Nat.le_of_ble_eq_true rfl), (Nat.le_of_ble_eq_true rfl)⟩ rfl rfl (sem_X8_hill (h.rf (Hi.rf))) (Nat.le_of_ble_eq_true rfl) (fun v sh2 N hN => ?_)
  obtain ⟨r2, rfl, rfl, e2, rp⟩ := hN
  exact Bl_icmp_eq (t := 1374) (pc := 384) dL_law_384 (by decide) (fun _ => k _ _ (LI_n h.1 rp)) (fun b => absurd (e2.symm) b)
theorem case_7 {b LL j : Nat} {xs : Nat → Int32} {G : GD} {M : Mem} (hj : 5 * j + 5 ≤ LL) (hL : LL ≤ 2560) (h : LI M) (k : ∀ (G : GD) (N : Mem), LI N → Bl b LL xs G SH 1374 [some (.ref 140), some (.ref 0), some (.ref 58), some (.int (nI (5 * j)))] [] N) : Bl b LL xs G SH 389 [some (.ref 140), some (.ref 0), some (.ref 58), some (.int (nI (5 * j)))] [] M := by
  refine Bl_aload_1 (pc := 389) dL_law_389 ?_
  refine Bl_aload_0 (pc := 390) dL_law_390 ?_
  refine Bl_iload_3 (pc := 391) dL_law_391 ?_
  refine Bl_iconst (v := 1) (pc := 392) dL_law_392 (by decide) ?_
  refine Bl_iadd (pc := 393) dL_law_393 ?_
  refine Bl_sld (j := 5 * j + 1) (pc := 394) dL_law_394 (sx (c := 1) hj hL (by decide)).1 (sx (c := 1) hj hL (by decide)).2 ?_
  refine Bl_aload_0 (pc := 395) dL_law_395 ?_
  refine Bl_iload_3 (pc := 396) dL_law_396 ?_
  refine Bl_iconst (v := 2) (pc := 397) dL_law_397 (by decide) ?_
  refine Bl_iadd (pc := 398) dL_law_398 ?_
  refine Bl_sld (j := 5 * j + 2) (pc := 399) dL_law_399 (sx (c := 2) hj hL (by decide)).1 (sx (c := 2) hj hL (by decide)).2 ?_
  refine Bl_call2 (cd := mX7_note) (pc := 400) dL_law_400 k_461 v_X7_note ⟨(Nat.le_of_ble_eq_true rfl), (Nat.le_of_ble_eq_true rfl)⟩ rfl rfl (sem_X7_note h.1) (Nat.le_of_ble_eq_true rfl) (fun v sh1 U hU => ?_)
  obtain ⟨rfl, rfl, rfl⟩ := hU
  refine Bl_aload_2 (pc := 403) dL_law_403 ?_
  refine Bl_aload_0 (pc := 404) dL_law_404 ?_
  refine Bl_iload_3 (pc := 405) dL_law_405 ?_
  refine Bl_iconst (v := 1) (pc := 406) dL_law_406 (by decide) ?_
  refine Bl_iadd (pc := 407) dL_law_407 ?_
  refine Bl_sld (j := 5 * j + 1) (pc := 408) dL_law_408 (sx (c := 1) hj hL (by decide)).1 (sx (c := 1) hj hL (by decide)).2 ?_
  refine Bl_aload_0 (pc := 409) dL_law_409 ?_
  refine Bl_iload_3 (pc := 410) dL_law_410 ?_
  refine Bl_iconst (v := 2) (pc := 411) dL_law_411 (by decide) ?_
  refine Bl_iadd (pc := 412) dL_law_412 ?_
  refine Bl_sld (j := 5 * j + 2) (pc := 413) dL_law_413 (sx (c := 2) hj hL (by decide)).1 (sx (c := 2) hj hL (by decide)).2 ?_
  refine Bl_call2 (cd := mX8_note) (pc := 414) dL_law_414 k_982 v_X8_note ⟨(Nat.le_of_ble_eq_true rfl), (Nat.le_of_ble_eq_true rfl)⟩ rfl rfl (sem_X8_note (h.rf (Hi.rf))) (Nat.le_of_ble_eq_true rfl) (fun v sh2 N hN => ?_)
  obtain ⟨r2, rfl, rfl, e2, rp⟩ := hN
  exact Bl_icmp_eq (t := 1374) (pc := 417) dL_law_417 (by decide) (fun _ => k _ _ (LI_n h.1 rp)) (fun b => absurd (e2.symm) b)
theorem case_8 {b LL j : Nat} {xs : Nat → Int32} {G : GD} {M : Mem} (hj : 5 * j + 5 ≤ LL) (hL : LL ≤ 2560) (h : LI M) (k : ∀ (G : GD) (N : Mem), LI N → Bl b LL xs G SH 1374 [some (.ref 140), some (.ref 0), some (.ref 58), some (.int (nI (5 * j)))] [] N) : Bl b LL xs G SH 422 [some (.ref 140), some (.ref 0), some (.ref 58), some (.int (nI (5 * j)))] [] M := by
  refine Bl_aload_1 (pc := 422) dL_law_422 ?_
  refine Bl_aload_0 (pc := 423) dL_law_423 ?_
  refine Bl_iload_3 (pc := 424) dL_law_424 ?_
  refine Bl_iconst (v := 1) (pc := 425) dL_law_425 (by decide) ?_
  refine Bl_iadd (pc := 426) dL_law_426 ?_
  refine Bl_sld (j := 5 * j + 1) (pc := 427) dL_law_427 (sx (c := 1) hj hL (by decide)).1 (sx (c := 1) hj hL (by decide)).2 ?_
  refine Bl_aload_0 (pc := 428) dL_law_428 ?_
  refine Bl_iload_3 (pc := 429) dL_law_429 ?_
  refine Bl_iconst (v := 2) (pc := 430) dL_law_430 (by decide) ?_
  refine Bl_iadd (pc := 431) dL_law_431 ?_
  refine Bl_sld (j := 5 * j + 2) (pc := 432) dL_law_432 (sx (c := 2) hj hL (by decide)).1 (sx (c := 2) hj hL (by decide)).2 ?_
  refine Bl_call2 (cd := mX7_wind) (pc := 433) dL_law_433 k_465 v_X7_wind ⟨(Nat.le_of_ble_eq_true rfl), (Nat.le_of_ble_eq_true rfl)⟩ rfl rfl sem_X7_wind (Nat.le_of_ble_eq_true rfl) (fun v sh1 U hU => ?_)
  obtain ⟨rfl, rfl, rfl⟩ := hU
  refine Bl_aload_2 (pc := 436) dL_law_436 ?_
  refine Bl_aload_0 (pc := 437) dL_law_437 ?_
  refine Bl_iload_3 (pc := 438) dL_law_438 ?_
  refine Bl_iconst (v := 1) (pc := 439) dL_law_439 (by decide) ?_
  refine Bl_iadd (pc := 440) dL_law_440 ?_
  refine Bl_sld (j := 5 * j + 1) (pc := 441) dL_law_441 (sx (c := 1) hj hL (by decide)).1 (sx (c := 1) hj hL (by decide)).2 ?_
  refine Bl_aload_0 (pc := 442) dL_law_442 ?_
  refine Bl_iload_3 (pc := 443) dL_law_443 ?_
  refine Bl_iconst (v := 2) (pc := 444) dL_law_444 (by decide) ?_
  refine Bl_iadd (pc := 445) dL_law_445 ?_
  refine Bl_sld (j := 5 * j + 2) (pc := 446) dL_law_446 (sx (c := 2) hj hL (by decide)).1 (sx (c := 2) hj hL (by decide)).2 ?_
  refine Bl_call2 (cd := mX8_wind) (pc := 447) dL_law_447 k_986 v_X8_wind ⟨(Nat.le_of_ble_eq_true rfl), (Nat.le_of_ble_eq_true rfl)⟩ rfl rfl (sem_X8_wind (h.rf Hi_wind)) (Nat.le_of_ble_eq_true rfl) (fun v sh2 N hN => ?_)
  obtain ⟨r2, rfl, rfl, e2, rp⟩ := hN
  exact Bl_icmp_eq (t := 1374) (pc := 450) dL_law_450 (by decide) (fun _ => k _ _ (LI_n (WF_wind h.1) rp)) (fun b => absurd (e2.symm) b)
theorem case_9 {b LL j : Nat} {xs : Nat → Int32} {G : GD} {M : Mem} (hj : 5 * j + 5 ≤ LL) (hL : LL ≤ 2560) (h : LI M) (k : ∀ (G : GD) (N : Mem), LI N → Bl b LL xs G SH 1374 [some (.ref 140), some (.ref 0), some (.ref 58), some (.int (nI (5 * j)))] [] N) : Bl b LL xs G SH 455 [some (.ref 140), some (.ref 0), some (.ref 58), some (.int (nI (5 * j)))] [] M := by
  refine Bl_aload_1 (pc := 455) dL_law_455 ?_
  refine Bl_aload_0 (pc := 456) dL_law_456 ?_
  refine Bl_iload_3 (pc := 457) dL_law_457 ?_
  refine Bl_iconst (v := 1) (pc := 458) dL_law_458 (by decide) ?_
  refine Bl_iadd (pc := 459) dL_law_459 ?_
  refine Bl_sld (j := 5 * j + 1) (pc := 460) dL_law_460 (sx (c := 1) hj hL (by decide)).1 (sx (c := 1) hj hL (by decide)).2 ?_
  refine Bl_aload_0 (pc := 461) dL_law_461 ?_
  refine Bl_iload_3 (pc := 462) dL_law_462 ?_
  refine Bl_iconst (v := 2) (pc := 463) dL_law_463 (by decide) ?_
  refine Bl_iadd (pc := 464) dL_law_464 ?_
  refine Bl_sld (j := 5 * j + 2) (pc := 465) dL_law_465 (sx (c := 2) hj hL (by decide)).1 (sx (c := 2) hj hL (by decide)).2 ?_
  refine Bl_call2 (cd := mX7_carry) (pc := 466) dL_law_466 k_469 v_X7_carry ⟨(Nat.le_of_ble_eq_true rfl), (Nat.le_of_ble_eq_true rfl)⟩ rfl rfl (sem_X7_carry h.1) (Nat.le_of_ble_eq_true rfl) (fun v sh1 U hU => ?_)
  obtain ⟨rfl, rfl, rfl⟩ := hU
  refine Bl_aload_2 (pc := 469) dL_law_469 ?_
  refine Bl_aload_0 (pc := 470) dL_law_470 ?_
  refine Bl_iload_3 (pc := 471) dL_law_471 ?_
  refine Bl_iconst (v := 1) (pc := 472) dL_law_472 (by decide) ?_
  refine Bl_iadd (pc := 473) dL_law_473 ?_
  refine Bl_sld (j := 5 * j + 1) (pc := 474) dL_law_474 (sx (c := 1) hj hL (by decide)).1 (sx (c := 1) hj hL (by decide)).2 ?_
  refine Bl_aload_0 (pc := 475) dL_law_475 ?_
  refine Bl_iload_3 (pc := 476) dL_law_476 ?_
  refine Bl_iconst (v := 2) (pc := 477) dL_law_477 (by decide) ?_
  refine Bl_iadd (pc := 478) dL_law_478 ?_
  refine Bl_sld (j := 5 * j + 2) (pc := 479) dL_law_479 (sx (c := 2) hj hL (by decide)).1 (sx (c := 2) hj hL (by decide)).2 ?_
  refine Bl_call2 (cd := mX8_carry) (pc := 480) dL_law_480 k_991 v_X8_carry ⟨(Nat.le_of_ble_eq_true rfl), (Nat.le_of_ble_eq_true rfl)⟩ rfl rfl (sem_X8_carry (h.rf Hi_carry)) (Nat.le_of_ble_eq_true rfl) (fun v sh2 N hN => ?_)
  obtain ⟨r2, rfl, rfl, e2, rp⟩ := hN
  exact Bl_icmp_eq (t := 1374) (pc := 483) dL_law_483 (by decide) (fun _ => k _ _ (LI_n (WF_carry h.1) rp)) (fun b => absurd (e2.symm) b)
theorem case_10 {b LL j : Nat} {xs : Nat → Int32} {G : GD} {M : Mem} (hj : 5 * j + 5 ≤ LL) (hL : LL ≤ 2560) (h : LI M) (k : ∀ (G : GD) (N : Mem), LI N → Bl b LL xs G SH 1374 [some (.ref 140), some (.ref 0), some (.ref 58), some (.int (nI (5 * j)))] [] N) : Bl b LL xs G SH 488 [some (.ref 140), some (.ref 0), some (.ref 58), some (.int (nI (5 * j)))] [] M := by
  refine Bl_aload_1 (pc := 488) dL_law_488 ?_
  refine Bl_aload_0 (pc := 489) dL_law_489 ?_
  refine Bl_iload_3 (pc := 490) dL_law_490 ?_
  refine Bl_iconst (v := 1) (pc := 491) dL_law_491 (by decide) ?_
  refine Bl_iadd (pc := 492) dL_law_492 ?_
  refine Bl_sld (j := 5 * j + 1) (pc := 493) dL_law_493 (sx (c := 1) hj hL (by decide)).1 (sx (c := 1) hj hL (by decide)).2 ?_
  refine Bl_aload_0 (pc := 494) dL_law_494 ?_
  refine Bl_iload_3 (pc := 495) dL_law_495 ?_
  refine Bl_iconst (v := 2) (pc := 496) dL_law_496 (by decide) ?_
  refine Bl_iadd (pc := 497) dL_law_497 ?_
  refine Bl_sld (j := 5 * j + 2) (pc := 498) dL_law_498 (sx (c := 2) hj hL (by decide)).1 (sx (c := 2) hj hL (by decide)).2 ?_
  refine Bl_call2 (cd := mX7_move) (pc := 499) dL_law_499 k_477 v_X7_move ⟨(Nat.le_of_ble_eq_true rfl), (Nat.le_of_ble_eq_true rfl)⟩ rfl rfl (sem_X7_move h.1) (Nat.le_of_ble_eq_true rfl) (fun v sh1 U hU => ?_)
  obtain ⟨rfl, rfl, rfl⟩ := hU
  refine Bl_aload_2 (pc := 502) dL_law_502 ?_
  refine Bl_aload_0 (pc := 503) dL_law_503 ?_
  refine Bl_iload_3 (pc := 504) dL_law_504 ?_
  refine Bl_iconst (v := 1) (pc := 505) dL_law_505 (by decide) ?_
  refine Bl_iadd (pc := 506) dL_law_506 ?_
  refine Bl_sld (j := 5 * j + 1) (pc := 507) dL_law_507 (sx (c := 1) hj hL (by decide)).1 (sx (c := 1) hj hL (by decide)).2 ?_
  refine Bl_aload_0 (pc := 508) dL_law_508 ?_
  refine Bl_iload_3 (pc := 509) dL_law_509 ?_
  refine Bl_iconst (v := 2) (pc := 510) dL_law_510 (by decide) ?_
  refine Bl_iadd (pc := 511) dL_law_511 ?_
  refine Bl_sld (j := 5 * j + 2) (pc := 512) dL_law_512 (sx (c := 2) hj hL (by decide)).1 (sx (c := 2) hj hL (by decide)).2 ?_
  refine Bl_call2 (cd := mX8_move) (pc := 513) dL_law_513 k_1008 v_X8_move ⟨(Nat.le_of_ble_eq_true rfl), (Nat.le_of_ble_eq_true rfl)⟩ rfl rfl (sem_X8_move (h.rf Hi_move)) (Nat.le_of_ble_eq_true rfl) (fun v sh2 N hN => ?_)
  obtain ⟨r2, rfl, rfl, e2, rp⟩ := hN
  exact Bl_icmp_eq (t := 1374) (pc := 516) dL_law_516 (by decide) (fun _ => k _ _ (LI_n (WF_move h.1) rp)) (fun b => absurd (e2.symm) b)
theorem case_11 {b LL j : Nat} {xs : Nat → Int32} {G : GD} {M : Mem} (hj : 5 * j + 5 ≤ LL) (hL : LL ≤ 2560) (h : LI M) (k : ∀ (G : GD) (N : Mem), LI N → Bl b LL xs G SH 1374 [some (.ref 140), some (.ref 0), some (.ref 58), some (.int (nI (5 * j)))] [] N) : Bl b LL xs G SH 521 [some (.ref 140), some (.ref 0), some (.ref 58), some (.int (nI (5 * j)))] [] M := by
  refine Bl_aload_1 (pc := 521) dL_law_521 ?_
  refine Bl_aload_0 (pc := 522) dL_law_522 ?_
  refine Bl_iload_3 (pc := 523) dL_law_523 ?_
  refine Bl_iconst (v := 1) (pc := 524) dL_law_524 (by decide) ?_
  refine Bl_iadd (pc := 525) dL_law_525 ?_
  refine Bl_sld (j := 5 * j + 1) (pc := 526) dL_law_526 (sx (c := 1) hj hL (by decide)).1 (sx (c := 1) hj hL (by decide)).2 ?_
  refine Bl_aload_0 (pc := 527) dL_law_527 ?_
  refine Bl_iload_3 (pc := 528) dL_law_528 ?_
  refine Bl_iconst (v := 2) (pc := 529) dL_law_529 (by decide) ?_
  refine Bl_iadd (pc := 530) dL_law_530 ?_
  refine Bl_sld (j := 5 * j + 2) (pc := 531) dL_law_531 (sx (c := 2) hj hL (by decide)).1 (sx (c := 2) hj hL (by decide)).2 ?_
  refine Bl_call2 (cd := mX7_takes) (pc := 532) dL_law_532 k_482 v_X7_takes ⟨(Nat.le_of_ble_eq_true rfl), (Nat.le_of_ble_eq_true rfl)⟩ rfl rfl sem_X7_takes (Nat.le_of_ble_eq_true rfl) (fun v sh1 U hU => ?_)
  obtain ⟨rfl, rfl, rfl⟩ := hU
  refine Bl_aload_2 (pc := 535) dL_law_535 ?_
  refine Bl_aload_0 (pc := 536) dL_law_536 ?_
  refine Bl_iload_3 (pc := 537) dL_law_537 ?_
  refine Bl_iconst (v := 1) (pc := 538) dL_law_538 (by decide) ?_
  refine Bl_iadd (pc := 539) dL_law_539 ?_
  refine Bl_sld (j := 5 * j + 1) (pc := 540) dL_law_540 (sx (c := 1) hj hL (by decide)).1 (sx (c := 1) hj hL (by decide)).2 ?_
  refine Bl_aload_0 (pc := 541) dL_law_541 ?_
  refine Bl_iload_3 (pc := 542) dL_law_542 ?_
  refine Bl_iconst (v := 2) (pc := 543) dL_law_543 (by decide) ?_
  refine Bl_iadd (pc := 544) dL_law_544 ?_
  refine Bl_sld (j := 5 * j + 2) (pc := 545) dL_law_545 (sx (c := 2) hj hL (by decide)).1 (sx (c := 2) hj hL (by decide)).2 ?_
  refine Bl_call2 (cd := mX8_takes) (pc := 546) dL_law_546 k_1016 v_X8_takes ⟨(Nat.le_of_ble_eq_true rfl), (Nat.le_of_ble_eq_true rfl)⟩ rfl rfl (sem_X8_takes (h.rf (Hi.rf))) (Nat.le_of_ble_eq_true rfl) (fun v sh2 N hN => ?_)
  obtain ⟨r2, rfl, rfl, e2, rp⟩ := hN
  exact Bl_icmp_eq (t := 1374) (pc := 549) dL_law_549 (by decide) (fun _ => k _ _ (LI_n h.1 rp)) (fun b => absurd (e2.symm) b)
theorem case_12 {b LL j : Nat} {xs : Nat → Int32} {G : GD} {M : Mem} (hj : 5 * j + 5 ≤ LL) (hL : LL ≤ 2560) (h : LI M) (k : ∀ (G : GD) (N : Mem), LI N → Bl b LL xs G SH 1374 [some (.ref 140), some (.ref 0), some (.ref 58), some (.int (nI (5 * j)))] [] N) : Bl b LL xs G SH 554 [some (.ref 140), some (.ref 0), some (.ref 58), some (.int (nI (5 * j)))] [] M := by
  refine Bl_aload_1 (pc := 554) dL_law_554 ?_
  refine Bl_aload_0 (pc := 555) dL_law_555 ?_
  refine Bl_iload_3 (pc := 556) dL_law_556 ?_
  refine Bl_iconst (v := 1) (pc := 557) dL_law_557 (by decide) ?_
  refine Bl_iadd (pc := 558) dL_law_558 ?_
  refine Bl_sld (j := 5 * j + 1) (pc := 559) dL_law_559 (sx (c := 1) hj hL (by decide)).1 (sx (c := 1) hj hL (by decide)).2 ?_
  refine Bl_aload_0 (pc := 560) dL_law_560 ?_
  refine Bl_iload_3 (pc := 561) dL_law_561 ?_
  refine Bl_iconst (v := 2) (pc := 562) dL_law_562 (by decide) ?_
  refine Bl_iadd (pc := 563) dL_law_563 ?_
  refine Bl_sld (j := 5 * j + 2) (pc := 564) dL_law_564 (sx (c := 2) hj hL (by decide)).1 (sx (c := 2) hj hL (by decide)).2 ?_
  refine Bl_aload_0 (pc := 565) dL_law_565 ?_
  refine Bl_iload_3 (pc := 566) dL_law_566 ?_
  refine Bl_iconst (v := 3) (pc := 567) dL_law_567 (by decide) ?_
  refine Bl_iadd (pc := 568) dL_law_568 ?_
  refine Bl_sld (j := 5 * j + 3) (pc := 569) dL_law_569 (sx (c := 3) hj hL (by decide)).1 (sx (c := 3) hj hL (by decide)).2 ?_
  refine Bl_call3 (cd := mX7_blow) (pc := 570) dL_law_570 k_502 v_X7_blow ⟨(Nat.le_of_ble_eq_true rfl), (Nat.le_of_ble_eq_true rfl)⟩ rfl rfl (sem_X7_blow h.1) (Nat.le_of_ble_eq_true rfl) (fun v sh1 U hU => ?_)
  obtain ⟨rfl, rfl, rfl⟩ := hU
  refine Bl_aload_2 (pc := 573) dL_law_573 ?_
  refine Bl_aload_0 (pc := 574) dL_law_574 ?_
  refine Bl_iload_3 (pc := 575) dL_law_575 ?_
  refine Bl_iconst (v := 1) (pc := 576) dL_law_576 (by decide) ?_
  refine Bl_iadd (pc := 577) dL_law_577 ?_
  refine Bl_sld (j := 5 * j + 1) (pc := 578) dL_law_578 (sx (c := 1) hj hL (by decide)).1 (sx (c := 1) hj hL (by decide)).2 ?_
  refine Bl_aload_0 (pc := 579) dL_law_579 ?_
  refine Bl_iload_3 (pc := 580) dL_law_580 ?_
  refine Bl_iconst (v := 2) (pc := 581) dL_law_581 (by decide) ?_
  refine Bl_iadd (pc := 582) dL_law_582 ?_
  refine Bl_sld (j := 5 * j + 2) (pc := 583) dL_law_583 (sx (c := 2) hj hL (by decide)).1 (sx (c := 2) hj hL (by decide)).2 ?_
  refine Bl_aload_0 (pc := 584) dL_law_584 ?_
  refine Bl_iload_3 (pc := 585) dL_law_585 ?_
  refine Bl_iconst (v := 3) (pc := 586) dL_law_586 (by decide) ?_
  refine Bl_iadd (pc := 587) dL_law_587 ?_
  refine Bl_sld (j := 5 * j + 3) (pc := 588) dL_law_588 (sx (c := 3) hj hL (by decide)).1 (sx (c := 3) hj hL (by decide)).2 ?_
  refine Bl_call3 (cd := mX8_blow) (pc := 589) dL_law_589 k_1033 v_X8_blow ⟨(Nat.le_of_ble_eq_true rfl), (Nat.le_of_ble_eq_true rfl)⟩ rfl rfl (sem_X8_blow (h.rf Hi_blow)) (Nat.le_of_ble_eq_true rfl) (fun v sh2 N hN => ?_)
  obtain ⟨r2, rfl, rfl, e2, rp⟩ := hN
  exact Bl_icmp_eq (t := 1374) (pc := 592) dL_law_592 (by decide) (fun _ => k _ _ (LI_n (WF_blow h.1) rp)) (fun b => absurd (e2.symm) b)
theorem case_13 {b LL j : Nat} {xs : Nat → Int32} {G : GD} {M : Mem} (hj : 5 * j + 5 ≤ LL) (hL : LL ≤ 2560) (h : LI M) (k : ∀ (G : GD) (N : Mem), LI N → Bl b LL xs G SH 1374 [some (.ref 140), some (.ref 0), some (.ref 58), some (.int (nI (5 * j)))] [] N) : Bl b LL xs G SH 597 [some (.ref 140), some (.ref 0), some (.ref 58), some (.int (nI (5 * j)))] [] M := by
  refine Bl_aload_1 (pc := 597) dL_law_597 ?_
  refine Bl_call0 (cd := mX7_silence) (pc := 598) dL_law_598 k_514 v_X7_silence ⟨(Nat.le_of_ble_eq_true rfl), (Nat.le_of_ble_eq_true rfl)⟩ rfl rfl sem_X7_silence (Nat.le_of_ble_eq_true rfl) (fun v sh1 U hU => ?_)
  obtain ⟨rfl, rfl, rfl⟩ := hU
  refine Bl_aload_2 (pc := 601) dL_law_601 ?_
  refine Bl_call0 (cd := mX8_silence) (pc := 602) dL_law_602 k_1047 v_X8_silence ⟨(Nat.le_of_ble_eq_true rfl), (Nat.le_of_ble_eq_true rfl)⟩ rfl rfl (sem_X8_silence (h.rf Hi_silence)) (Nat.le_of_ble_eq_true rfl) (fun v sh2 N hN => ?_)
  obtain ⟨r2, rfl, rfl, e2, rp⟩ := hN
  exact Bl_icmp_eq (t := 1374) (pc := 605) dL_law_605 (by decide) (fun _ => k _ _ (LI_n (WF_silence h.1) rp)) (fun b => absurd (e2.symm) b)
theorem case_14 {b LL j : Nat} {xs : Nat → Int32} {G : GD} {M : Mem} (hj : 5 * j + 5 ≤ LL) (hL : LL ≤ 2560) (h : LI M) (k : ∀ (G : GD) (N : Mem), LI N → Bl b LL xs G SH 1374 [some (.ref 140), some (.ref 0), some (.ref 58), some (.int (nI (5 * j)))] [] N) : Bl b LL xs G SH 610 [some (.ref 140), some (.ref 0), some (.ref 58), some (.int (nI (5 * j)))] [] M := by
  refine Bl_aload_1 (pc := 610) dL_law_610 ?_
  refine Bl_aload_0 (pc := 611) dL_law_611 ?_
  refine Bl_iload_3 (pc := 612) dL_law_612 ?_
  refine Bl_iconst (v := 1) (pc := 613) dL_law_613 (by decide) ?_
  refine Bl_iadd (pc := 614) dL_law_614 ?_
  refine Bl_sld (j := 5 * j + 1) (pc := 615) dL_law_615 (sx (c := 1) hj hL (by decide)).1 (sx (c := 1) hj hL (by decide)).2 ?_
  refine Bl_aload_0 (pc := 616) dL_law_616 ?_
  refine Bl_iload_3 (pc := 617) dL_law_617 ?_
  refine Bl_iconst (v := 2) (pc := 618) dL_law_618 (by decide) ?_
  refine Bl_iadd (pc := 619) dL_law_619 ?_
  refine Bl_sld (j := 5 * j + 2) (pc := 620) dL_law_620 (sx (c := 2) hj hL (by decide)).1 (sx (c := 2) hj hL (by decide)).2 ?_
  refine Bl_call2 (cd := mX7_blown) (pc := 621) dL_law_621 k_518 v_X7_blown ⟨(Nat.le_of_ble_eq_true rfl), (Nat.le_of_ble_eq_true rfl)⟩ rfl rfl (sem_X7_blown h.1) (Nat.le_of_ble_eq_true rfl) (fun v sh1 U hU => ?_)
  obtain ⟨rfl, rfl, rfl⟩ := hU
  refine Bl_aload_2 (pc := 624) dL_law_624 ?_
  refine Bl_aload_0 (pc := 625) dL_law_625 ?_
  refine Bl_iload_3 (pc := 626) dL_law_626 ?_
  refine Bl_iconst (v := 1) (pc := 627) dL_law_627 (by decide) ?_
  refine Bl_iadd (pc := 628) dL_law_628 ?_
  refine Bl_sld (j := 5 * j + 1) (pc := 629) dL_law_629 (sx (c := 1) hj hL (by decide)).1 (sx (c := 1) hj hL (by decide)).2 ?_
  refine Bl_aload_0 (pc := 630) dL_law_630 ?_
  refine Bl_iload_3 (pc := 631) dL_law_631 ?_
  refine Bl_iconst (v := 2) (pc := 632) dL_law_632 (by decide) ?_
  refine Bl_iadd (pc := 633) dL_law_633 ?_
  refine Bl_sld (j := 5 * j + 2) (pc := 634) dL_law_634 (sx (c := 2) hj hL (by decide)).1 (sx (c := 2) hj hL (by decide)).2 ?_
  refine Bl_call2 (cd := mX8_blown) (pc := 635) dL_law_635 k_1051 v_X8_blown ⟨(Nat.le_of_ble_eq_true rfl), (Nat.le_of_ble_eq_true rfl)⟩ rfl rfl (sem_X8_blown (h.rf (Hi.rf))) (Nat.le_of_ble_eq_true rfl) (fun v sh2 N hN => ?_)
  obtain ⟨r2, rfl, rfl, e2, rp⟩ := hN
  exact Bl_icmp_eq (t := 1374) (pc := 638) dL_law_638 (by decide) (fun _ => k _ _ (LI_n h.1 rp)) (fun b => absurd (e2.symm) b)
theorem case_15 {b LL j : Nat} {xs : Nat → Int32} {G : GD} {M : Mem} (hj : 5 * j + 5 ≤ LL) (hL : LL ≤ 2560) (h : LI M) (k : ∀ (G : GD) (N : Mem), LI N → Bl b LL xs G SH 1374 [some (.ref 140), some (.ref 0), some (.ref 58), some (.int (nI (5 * j)))] [] N) : Bl b LL xs G SH 643 [some (.ref 140), some (.ref 0), some (.ref 58), some (.int (nI (5 * j)))] [] M := by
  refine Bl_aload_1 (pc := 643) dL_law_643 ?_
  refine Bl_aload_0 (pc := 644) dL_law_644 ?_
  refine Bl_iload_3 (pc := 645) dL_law_645 ?_
  refine Bl_iconst (v := 1) (pc := 646) dL_law_646 (by decide) ?_
  refine Bl_iadd (pc := 647) dL_law_647 ?_
  refine Bl_sld (j := 5 * j + 1) (pc := 648) dL_law_648 (sx (c := 1) hj hL (by decide)).1 (sx (c := 1) hj hL (by decide)).2 ?_
  refine Bl_aload_0 (pc := 649) dL_law_649 ?_
  refine Bl_iload_3 (pc := 650) dL_law_650 ?_
  refine Bl_iconst (v := 2) (pc := 651) dL_law_651 (by decide) ?_
  refine Bl_iadd (pc := 652) dL_law_652 ?_
  refine Bl_sld (j := 5 * j + 2) (pc := 653) dL_law_653 (sx (c := 2) hj hL (by decide)).1 (sx (c := 2) hj hL (by decide)).2 ?_
  refine Bl_aload_0 (pc := 654) dL_law_654 ?_
  refine Bl_iload_3 (pc := 655) dL_law_655 ?_
  refine Bl_iconst (v := 3) (pc := 656) dL_law_656 (by decide) ?_
  refine Bl_iadd (pc := 657) dL_law_657 ?_
  refine Bl_sld (j := 5 * j + 3) (pc := 658) dL_law_658 (sx (c := 3) hj hL (by decide)).1 (sx (c := 3) hj hL (by decide)).2 ?_
  refine Bl_if_eq (t := 666) (pc := 659) dL_law_659 (by decide) (fun z0 => ?_) (fun z0 => ?_)
  · refine Bl_iconst (v := 0) (pc := 666) dL_law_666 (by decide) ?_
    refine Bl_call3 (cd := mX7_heard) (pc := 667) dL_law_667 k_526 v_X7_heard ⟨(Nat.le_of_ble_eq_true rfl), (Nat.le_of_ble_eq_true rfl)⟩ rfl rfl (sem_X7_heard h.1) (Nat.le_of_ble_eq_true rfl) (fun v sh1 U hU => ?_)
    obtain ⟨rfl, rfl, rfl⟩ := hU
    refine Bl_aload_2 (pc := 670) dL_law_670 ?_
    refine Bl_aload_0 (pc := 671) dL_law_671 ?_
    refine Bl_iload_3 (pc := 672) dL_law_672 ?_
    refine Bl_iconst (v := 1) (pc := 673) dL_law_673 (by decide) ?_
    refine Bl_iadd (pc := 674) dL_law_674 ?_
    refine Bl_sld (j := 5 * j + 1) (pc := 675) dL_law_675 (sx (c := 1) hj hL (by decide)).1 (sx (c := 1) hj hL (by decide)).2 ?_
    refine Bl_aload_0 (pc := 676) dL_law_676 ?_
    refine Bl_iload_3 (pc := 677) dL_law_677 ?_
    refine Bl_iconst (v := 2) (pc := 678) dL_law_678 (by decide) ?_
    refine Bl_iadd (pc := 679) dL_law_679 ?_
    refine Bl_sld (j := 5 * j + 2) (pc := 680) dL_law_680 (sx (c := 2) hj hL (by decide)).1 (sx (c := 2) hj hL (by decide)).2 ?_
    refine Bl_aload_0 (pc := 681) dL_law_681 ?_
    refine Bl_iload_3 (pc := 682) dL_law_682 ?_
    refine Bl_iconst (v := 3) (pc := 683) dL_law_683 (by decide) ?_
    refine Bl_iadd (pc := 684) dL_law_684 ?_
    refine Bl_sld (j := 5 * j + 3) (pc := 685) dL_law_685 (sx (c := 3) hj hL (by decide)).1 (sx (c := 3) hj hL (by decide)).2 ?_
    refine Bl_if_eq (t := 693) (pc := 686) dL_law_686 (by decide) (fun _ => ?_) (fun b => absurd z0 b)
    refine Bl_iconst (v := 0) (pc := 693) dL_law_693 (by decide) ?_
    refine Bl_call3 (cd := mX8_heard) (pc := 694) dL_law_694 k_1063 v_X8_heard ⟨(Nat.le_of_ble_eq_true rfl), (Nat.le_of_ble_eq_true rfl)⟩ rfl rfl (sem_X8_heard (h.rf (Hi.rf))) (Nat.le_of_ble_eq_true rfl) (fun v sh2 N hN => ?_)
    obtain ⟨r2, rfl, rfl, e2, rp⟩ := hN
    exact Bl_icmp_eq (t := 1374) (pc := 697) dL_law_697 (by decide) (fun _ => k _ _ (LI_n h.1 rp)) (fun b => absurd (e2.symm) b)
  · refine Bl_iconst (v := 1) (pc := 662) dL_law_662 (by decide) ?_
    refine Bl_goto (t := 667) (pc := 663) dL_law_663 (by decide) ?_
    refine Bl_call3 (cd := mX7_heard) (pc := 667) dL_law_667 k_526 v_X7_heard ⟨(Nat.le_of_ble_eq_true rfl), (Nat.le_of_ble_eq_true rfl)⟩ rfl rfl (sem_X7_heard h.1) (Nat.le_of_ble_eq_true rfl) (fun v sh1 U hU => ?_)
    obtain ⟨rfl, rfl, rfl⟩ := hU
    refine Bl_aload_2 (pc := 670) dL_law_670 ?_
    refine Bl_aload_0 (pc := 671) dL_law_671 ?_
    refine Bl_iload_3 (pc := 672) dL_law_672 ?_
    refine Bl_iconst (v := 1) (pc := 673) dL_law_673 (by decide) ?_
    refine Bl_iadd (pc := 674) dL_law_674 ?_
    refine Bl_sld (j := 5 * j + 1) (pc := 675) dL_law_675 (sx (c := 1) hj hL (by decide)).1 (sx (c := 1) hj hL (by decide)).2 ?_
    refine Bl_aload_0 (pc := 676) dL_law_676 ?_
    refine Bl_iload_3 (pc := 677) dL_law_677 ?_
    refine Bl_iconst (v := 2) (pc := 678) dL_law_678 (by decide) ?_
    refine Bl_iadd (pc := 679) dL_law_679 ?_
    refine Bl_sld (j := 5 * j + 2) (pc := 680) dL_law_680 (sx (c := 2) hj hL (by decide)).1 (sx (c := 2) hj hL (by decide)).2 ?_
    refine Bl_aload_0 (pc := 681) dL_law_681 ?_
    refine Bl_iload_3 (pc := 682) dL_law_682 ?_
    refine Bl_iconst (v := 3) (pc := 683) dL_law_683 (by decide) ?_
    refine Bl_iadd (pc := 684) dL_law_684 ?_
    refine Bl_sld (j := 5 * j + 3) (pc := 685) dL_law_685 (sx (c := 3) hj hL (by decide)).1 (sx (c := 3) hj hL (by decide)).2 ?_
    refine Bl_if_eq (t := 693) (pc := 686) dL_law_686 (by decide) (fun b => absurd b z0) (fun _ => ?_)
    refine Bl_iconst (v := 1) (pc := 689) dL_law_689 (by decide) ?_
    refine Bl_goto (t := 694) (pc := 690) dL_law_690 (by decide) ?_
    refine Bl_call3 (cd := mX8_heard) (pc := 694) dL_law_694 k_1063 v_X8_heard ⟨(Nat.le_of_ble_eq_true rfl), (Nat.le_of_ble_eq_true rfl)⟩ rfl rfl (sem_X8_heard (h.rf (Hi.rf))) (Nat.le_of_ble_eq_true rfl) (fun v sh2 N hN => ?_)
    obtain ⟨r2, rfl, rfl, e2, rp⟩ := hN
    exact Bl_icmp_eq (t := 1374) (pc := 697) dL_law_697 (by decide) (fun _ => k _ _ (LI_n h.1 rp)) (fun b => absurd (e2.symm) b)
theorem case_16 {b LL j : Nat} {xs : Nat → Int32} {G : GD} {M : Mem} (hj : 5 * j + 5 ≤ LL) (hL : LL ≤ 2560) (h : LI M) (k : ∀ (G : GD) (N : Mem), LI N → Bl b LL xs G SH 1374 [some (.ref 140), some (.ref 0), some (.ref 58), some (.int (nI (5 * j)))] [] N) : Bl b LL xs G SH 702 [some (.ref 140), some (.ref 0), some (.ref 58), some (.int (nI (5 * j)))] [] M := by
  refine Bl_aload_1 (pc := 702) dL_law_702 ?_
  refine Bl_aload_0 (pc := 703) dL_law_703 ?_
  refine Bl_iload_3 (pc := 704) dL_law_704 ?_
  refine Bl_iconst (v := 1) (pc := 705) dL_law_705 (by decide) ?_
  refine Bl_iadd (pc := 706) dL_law_706 ?_
  refine Bl_sld (j := 5 * j + 1) (pc := 707) dL_law_707 (sx (c := 1) hj hL (by decide)).1 (sx (c := 1) hj hL (by decide)).2 ?_
  refine Bl_aload_0 (pc := 708) dL_law_708 ?_
  refine Bl_iload_3 (pc := 709) dL_law_709 ?_
  refine Bl_iconst (v := 2) (pc := 710) dL_law_710 (by decide) ?_
  refine Bl_iadd (pc := 711) dL_law_711 ?_
  refine Bl_sld (j := 5 * j + 2) (pc := 712) dL_law_712 (sx (c := 2) hj hL (by decide)).1 (sx (c := 2) hj hL (by decide)).2 ?_
  refine Bl_call2 (cd := mX7_span) (pc := 713) dL_law_713 k_534 v_X7_span ⟨(Nat.le_of_ble_eq_true rfl), (Nat.le_of_ble_eq_true rfl)⟩ rfl rfl (sem_X7_span h.1) (Nat.le_of_ble_eq_true rfl) (fun v sh1 U hU => ?_)
  obtain ⟨rfl, rfl, rfl⟩ := hU
  refine Bl_aload_2 (pc := 716) dL_law_716 ?_
  refine Bl_aload_0 (pc := 717) dL_law_717 ?_
  refine Bl_iload_3 (pc := 718) dL_law_718 ?_
  refine Bl_iconst (v := 1) (pc := 719) dL_law_719 (by decide) ?_
  refine Bl_iadd (pc := 720) dL_law_720 ?_
  refine Bl_sld (j := 5 * j + 1) (pc := 721) dL_law_721 (sx (c := 1) hj hL (by decide)).1 (sx (c := 1) hj hL (by decide)).2 ?_
  refine Bl_aload_0 (pc := 722) dL_law_722 ?_
  refine Bl_iload_3 (pc := 723) dL_law_723 ?_
  refine Bl_iconst (v := 2) (pc := 724) dL_law_724 (by decide) ?_
  refine Bl_iadd (pc := 725) dL_law_725 ?_
  refine Bl_sld (j := 5 * j + 2) (pc := 726) dL_law_726 (sx (c := 2) hj hL (by decide)).1 (sx (c := 2) hj hL (by decide)).2 ?_
  refine Bl_call2 (cd := mX8_span) (pc := 727) dL_law_727 k_1072 v_X8_span ⟨(Nat.le_of_ble_eq_true rfl), (Nat.le_of_ble_eq_true rfl)⟩ rfl rfl (sem_X8_span (h.rf (Hi.rf))) (Nat.le_of_ble_eq_true rfl) (fun v sh2 N hN => ?_)
  obtain ⟨r2, rfl, rfl, e2, rp⟩ := hN
  exact Bl_icmp_eq (t := 1374) (pc := 730) dL_law_730 (by decide) (fun _ => k _ _ (LI_n h.1 rp)) (fun b => absurd (e2.symm) b)
theorem case_17 {b LL j : Nat} {xs : Nat → Int32} {G : GD} {M : Mem} (hj : 5 * j + 5 ≤ LL) (hL : LL ≤ 2560) (h : LI M) (k : ∀ (G : GD) (N : Mem), LI N → Bl b LL xs G SH 1374 [some (.ref 140), some (.ref 0), some (.ref 58), some (.int (nI (5 * j)))] [] N) : Bl b LL xs G SH 735 [some (.ref 140), some (.ref 0), some (.ref 58), some (.int (nI (5 * j)))] [] M := by
  refine Bl_aload_1 (pc := 735) dL_law_735 ?_
  refine Bl_aload_0 (pc := 736) dL_law_736 ?_
  refine Bl_iload_3 (pc := 737) dL_law_737 ?_
  refine Bl_iconst (v := 1) (pc := 738) dL_law_738 (by decide) ?_
  refine Bl_iadd (pc := 739) dL_law_739 ?_
  refine Bl_sld (j := 5 * j + 1) (pc := 740) dL_law_740 (sx (c := 1) hj hL (by decide)).1 (sx (c := 1) hj hL (by decide)).2 ?_
  refine Bl_call1 (cd := mX7_plays) (pc := 741) dL_law_741 k_546 v_X7_plays ⟨(Nat.le_of_ble_eq_true rfl), (Nat.le_of_ble_eq_true rfl)⟩ rfl rfl (sem_X7_plays h.1) (Nat.le_of_ble_eq_true rfl) (fun v sh1 U hU => ?_)
  obtain ⟨r1, rfl, rfl, e1, hU⟩ := hU
  have hi := Hi_plays hU
  refine Bl_aload_2 (pc := 744) dL_law_744 ?_
  refine Bl_aload_0 (pc := 745) dL_law_745 ?_
  refine Bl_iload_3 (pc := 746) dL_law_746 ?_
  refine Bl_iconst (v := 1) (pc := 747) dL_law_747 (by decide) ?_
  refine Bl_iadd (pc := 748) dL_law_748 ?_
  refine Bl_sld (j := 5 * j + 1) (pc := 749) dL_law_749 (sx (c := 1) hj hL (by decide)).1 (sx (c := 1) hj hL (by decide)).2 ?_
  refine Bl_call1 (cd := mX8_plays) (pc := 750) dL_law_750 k_1076 v_X8_plays ⟨(Nat.le_of_ble_eq_true rfl), (Nat.le_of_ble_eq_true rfl)⟩ rfl rfl (sem_X8_plays (h.rf hi)) (Nat.le_of_ble_eq_true rfl) (fun v sh2 N hN => ?_)
  obtain ⟨r2, rfl, rfl, e2, rp⟩ := hN
  exact Bl_icmp_eq (t := 1374) (pc := 753) dL_law_753 (by decide) (fun _ => k _ _ (LI_n (WF_plays h.1 hU) (rp _ hU))) (fun b => absurd ((e1.trans e2.symm)) b)
theorem case_18 {b LL j : Nat} {xs : Nat → Int32} {G : GD} {M : Mem} (hj : 5 * j + 5 ≤ LL) (hL : LL ≤ 2560) (h : LI M) (k : ∀ (G : GD) (N : Mem), LI N → Bl b LL xs G SH 1374 [some (.ref 140), some (.ref 0), some (.ref 58), some (.int (nI (5 * j)))] [] N) : Bl b LL xs G SH 758 [some (.ref 140), some (.ref 0), some (.ref 58), some (.int (nI (5 * j)))] [] M := by
  refine Bl_aload_1 (pc := 758) dL_law_758 ?_
  refine Bl_aload_0 (pc := 759) dL_law_759 ?_
  refine Bl_iload_3 (pc := 760) dL_law_760 ?_
  refine Bl_iconst (v := 1) (pc := 761) dL_law_761 (by decide) ?_
  refine Bl_iadd (pc := 762) dL_law_762 ?_
  refine Bl_sld (j := 5 * j + 1) (pc := 763) dL_law_763 (sx (c := 1) hj hL (by decide)).1 (sx (c := 1) hj hL (by decide)).2 ?_
  refine Bl_call1 (cd := mX7_right) (pc := 764) dL_law_764 k_564 v_X7_right ⟨(Nat.le_of_ble_eq_true rfl), (Nat.le_of_ble_eq_true rfl)⟩ rfl rfl (sem_X7_right h.1) (Nat.le_of_ble_eq_true rfl) (fun v sh1 U hU => ?_)
  obtain ⟨rfl, rfl, rfl⟩ := hU
  refine Bl_aload_2 (pc := 767) dL_law_767 ?_
  refine Bl_aload_0 (pc := 768) dL_law_768 ?_
  refine Bl_iload_3 (pc := 769) dL_law_769 ?_
  refine Bl_iconst (v := 1) (pc := 770) dL_law_770 (by decide) ?_
  refine Bl_iadd (pc := 771) dL_law_771 ?_
  refine Bl_sld (j := 5 * j + 1) (pc := 772) dL_law_772 (sx (c := 1) hj hL (by decide)).1 (sx (c := 1) hj hL (by decide)).2 ?_
  refine Bl_call1 (cd := mX8_right) (pc := 773) dL_law_773 k_1088 v_X8_right ⟨(Nat.le_of_ble_eq_true rfl), (Nat.le_of_ble_eq_true rfl)⟩ rfl rfl (sem_X8_right (h.rf (Hi.rf))) (Nat.le_of_ble_eq_true rfl) (fun v sh2 N hN => ?_)
  obtain ⟨r2, rfl, rfl, e2, rp⟩ := hN
  exact Bl_icmp_eq (t := 1374) (pc := 776) dL_law_776 (by decide) (fun _ => k _ _ (LI_n h.1 rp)) (fun b => absurd (e2.symm) b)
theorem case_19 {b LL j : Nat} {xs : Nat → Int32} {G : GD} {M : Mem} (hj : 5 * j + 5 ≤ LL) (hL : LL ≤ 2560) (h : LI M) (k : ∀ (G : GD) (N : Mem), LI N → Bl b LL xs G SH 1374 [some (.ref 140), some (.ref 0), some (.ref 58), some (.int (nI (5 * j)))] [] N) : Bl b LL xs G SH 781 [some (.ref 140), some (.ref 0), some (.ref 58), some (.int (nI (5 * j)))] [] M := by
  refine Bl_aload_1 (pc := 781) dL_law_781 ?_
  refine Bl_aload_0 (pc := 782) dL_law_782 ?_
  refine Bl_iload_3 (pc := 783) dL_law_783 ?_
  refine Bl_iconst (v := 1) (pc := 784) dL_law_784 (by decide) ?_
  refine Bl_iadd (pc := 785) dL_law_785 ?_
  refine Bl_sld (j := 5 * j + 1) (pc := 786) dL_law_786 (sx (c := 1) hj hL (by decide)).1 (sx (c := 1) hj hL (by decide)).2 ?_
  refine Bl_call1 (cd := mX7_rights) (pc := 787) dL_law_787 k_580 v_X7_rights ⟨(Nat.le_of_ble_eq_true rfl), (Nat.le_of_ble_eq_true rfl)⟩ rfl rfl (sem_X7_rights h.1) (Nat.le_of_ble_eq_true rfl) (fun v sh1 U hU => ?_)
  obtain ⟨rfl, rfl, rfl⟩ := hU
  refine Bl_aload_2 (pc := 790) dL_law_790 ?_
  refine Bl_aload_0 (pc := 791) dL_law_791 ?_
  refine Bl_iload_3 (pc := 792) dL_law_792 ?_
  refine Bl_iconst (v := 1) (pc := 793) dL_law_793 (by decide) ?_
  refine Bl_iadd (pc := 794) dL_law_794 ?_
  refine Bl_sld (j := 5 * j + 1) (pc := 795) dL_law_795 (sx (c := 1) hj hL (by decide)).1 (sx (c := 1) hj hL (by decide)).2 ?_
  refine Bl_call1 (cd := mX8_rights) (pc := 796) dL_law_796 k_1096 v_X8_rights ⟨(Nat.le_of_ble_eq_true rfl), (Nat.le_of_ble_eq_true rfl)⟩ rfl rfl (sem_X8_rights (h.rf (Hi.rf))) (Nat.le_of_ble_eq_true rfl) (fun v sh2 N hN => ?_)
  obtain ⟨r2, rfl, rfl, e2, rp⟩ := hN
  exact Bl_icmp_eq (t := 1374) (pc := 799) dL_law_799 (by decide) (fun _ => k _ _ (LI_n h.1 rp)) (fun b => absurd (e2.symm) b)
theorem case_20 {b LL j : Nat} {xs : Nat → Int32} {G : GD} {M : Mem} (hj : 5 * j + 5 ≤ LL) (hL : LL ≤ 2560) (h : LI M) (k : ∀ (G : GD) (N : Mem), LI N → Bl b LL xs G SH 1374 [some (.ref 140), some (.ref 0), some (.ref 58), some (.int (nI (5 * j)))] [] N) : Bl b LL xs G SH 804 [some (.ref 140), some (.ref 0), some (.ref 58), some (.int (nI (5 * j)))] [] M := by
  refine Bl_aload_1 (pc := 804) dL_law_804 ?_
  refine Bl_aload_0 (pc := 805) dL_law_805 ?_
  refine Bl_iload_3 (pc := 806) dL_law_806 ?_
  refine Bl_iconst (v := 1) (pc := 807) dL_law_807 (by decide) ?_
  refine Bl_iadd (pc := 808) dL_law_808 ?_
  refine Bl_sld (j := 5 * j + 1) (pc := 809) dL_law_809 (sx (c := 1) hj hL (by decide)).1 (sx (c := 1) hj hL (by decide)).2 ?_
  refine Bl_call1 (cd := mX7_off) (pc := 810) dL_law_810 k_584 v_X7_off ⟨(Nat.le_of_ble_eq_true rfl), (Nat.le_of_ble_eq_true rfl)⟩ rfl rfl (sem_X7_off h.1) (Nat.le_of_ble_eq_true rfl) (fun v sh1 U hU => ?_)
  obtain ⟨rfl, rfl, rfl⟩ := hU
  refine Bl_aload_2 (pc := 813) dL_law_813 ?_
  refine Bl_aload_0 (pc := 814) dL_law_814 ?_
  refine Bl_iload_3 (pc := 815) dL_law_815 ?_
  refine Bl_iconst (v := 1) (pc := 816) dL_law_816 (by decide) ?_
  refine Bl_iadd (pc := 817) dL_law_817 ?_
  refine Bl_sld (j := 5 * j + 1) (pc := 818) dL_law_818 (sx (c := 1) hj hL (by decide)).1 (sx (c := 1) hj hL (by decide)).2 ?_
  refine Bl_call1 (cd := mX8_off) (pc := 819) dL_law_819 k_1100 v_X8_off ⟨(Nat.le_of_ble_eq_true rfl), (Nat.le_of_ble_eq_true rfl)⟩ rfl rfl (sem_X8_off (h.rf (Hi.rf))) (Nat.le_of_ble_eq_true rfl) (fun v sh2 N hN => ?_)
  obtain ⟨r2, rfl, rfl, e2, rp⟩ := hN
  exact Bl_icmp_eq (t := 1374) (pc := 822) dL_law_822 (by decide) (fun _ => k _ _ (LI_n h.1 rp)) (fun b => absurd (e2.symm) b)
theorem case_21 {b LL j : Nat} {xs : Nat → Int32} {G : GD} {M : Mem} (hj : 5 * j + 5 ≤ LL) (hL : LL ≤ 2560) (h : LI M) (k : ∀ (G : GD) (N : Mem), LI N → Bl b LL xs G SH 1374 [some (.ref 140), some (.ref 0), some (.ref 58), some (.int (nI (5 * j)))] [] N) : Bl b LL xs G SH 827 [some (.ref 140), some (.ref 0), some (.ref 58), some (.int (nI (5 * j)))] [] M := by
  refine Bl_aload_1 (pc := 827) dL_law_827 ?_
  refine Bl_aload_0 (pc := 828) dL_law_828 ?_
  refine Bl_iload_3 (pc := 829) dL_law_829 ?_
  refine Bl_iconst (v := 1) (pc := 830) dL_law_830 (by decide) ?_
  refine Bl_iadd (pc := 831) dL_law_831 ?_
  refine Bl_sld (j := 5 * j + 1) (pc := 832) dL_law_832 (sx (c := 1) hj hL (by decide)).1 (sx (c := 1) hj hL (by decide)).2 ?_
  refine Bl_aload_0 (pc := 833) dL_law_833 ?_
  refine Bl_iload_3 (pc := 834) dL_law_834 ?_
  refine Bl_iconst (v := 2) (pc := 835) dL_law_835 (by decide) ?_
  refine Bl_iadd (pc := 836) dL_law_836 ?_
  refine Bl_sld (j := 5 * j + 2) (pc := 837) dL_law_837 (sx (c := 2) hj hL (by decide)).1 (sx (c := 2) hj hL (by decide)).2 ?_
  refine Bl_call2 (cd := mX7_near) (pc := 838) dL_law_838 k_597 v_X7_near ⟨(Nat.le_of_ble_eq_true rfl), (Nat.le_of_ble_eq_true rfl)⟩ rfl rfl (sem_X7_near h.1) (Nat.le_of_ble_eq_true rfl) (fun v sh1 U hU => ?_)
  obtain ⟨rfl, rfl, rfl⟩ := hU
  refine Bl_aload_2 (pc := 841) dL_law_841 ?_
  refine Bl_aload_0 (pc := 842) dL_law_842 ?_
  refine Bl_iload_3 (pc := 843) dL_law_843 ?_
  refine Bl_iconst (v := 1) (pc := 844) dL_law_844 (by decide) ?_
  refine Bl_iadd (pc := 845) dL_law_845 ?_
  refine Bl_sld (j := 5 * j + 1) (pc := 846) dL_law_846 (sx (c := 1) hj hL (by decide)).1 (sx (c := 1) hj hL (by decide)).2 ?_
  refine Bl_aload_0 (pc := 847) dL_law_847 ?_
  refine Bl_iload_3 (pc := 848) dL_law_848 ?_
  refine Bl_iconst (v := 2) (pc := 849) dL_law_849 (by decide) ?_
  refine Bl_iadd (pc := 850) dL_law_850 ?_
  refine Bl_sld (j := 5 * j + 2) (pc := 851) dL_law_851 (sx (c := 2) hj hL (by decide)).1 (sx (c := 2) hj hL (by decide)).2 ?_
  refine Bl_call2 (cd := mX8_near) (pc := 852) dL_law_852 k_1112 v_X8_near ⟨(Nat.le_of_ble_eq_true rfl), (Nat.le_of_ble_eq_true rfl)⟩ rfl rfl (sem_X8_near (h.rf (Hi.rf))) (Nat.le_of_ble_eq_true rfl) (fun v sh2 N hN => ?_)
  obtain ⟨r2, rfl, rfl, e2, rp⟩ := hN
  exact Bl_icmp_eq (t := 1374) (pc := 855) dL_law_855 (by decide) (fun _ => k _ _ (LI_n h.1 rp)) (fun b => absurd (e2.symm) b)
theorem case_22 {b LL j : Nat} {xs : Nat → Int32} {G : GD} {M : Mem} (hj : 5 * j + 5 ≤ LL) (hL : LL ≤ 2560) (h : LI M) (k : ∀ (G : GD) (N : Mem), LI N → Bl b LL xs G SH 1374 [some (.ref 140), some (.ref 0), some (.ref 58), some (.int (nI (5 * j)))] [] N) : Bl b LL xs G SH 860 [some (.ref 140), some (.ref 0), some (.ref 58), some (.int (nI (5 * j)))] [] M := by
  refine Bl_aload_1 (pc := 860) dL_law_860 ?_
  refine Bl_aload_0 (pc := 861) dL_law_861 ?_
  refine Bl_iload_3 (pc := 862) dL_law_862 ?_
  refine Bl_iconst (v := 1) (pc := 863) dL_law_863 (by decide) ?_
  refine Bl_iadd (pc := 864) dL_law_864 ?_
  refine Bl_sld (j := 5 * j + 1) (pc := 865) dL_law_865 (sx (c := 1) hj hL (by decide)).1 (sx (c := 1) hj hL (by decide)).2 ?_
  refine Bl_aload_0 (pc := 866) dL_law_866 ?_
  refine Bl_iload_3 (pc := 867) dL_law_867 ?_
  refine Bl_iconst (v := 2) (pc := 868) dL_law_868 (by decide) ?_
  refine Bl_iadd (pc := 869) dL_law_869 ?_
  refine Bl_sld (j := 5 * j + 2) (pc := 870) dL_law_870 (sx (c := 2) hj hL (by decide)).1 (sx (c := 2) hj hL (by decide)).2 ?_
  refine Bl_aload_0 (pc := 871) dL_law_871 ?_
  refine Bl_iload_3 (pc := 872) dL_law_872 ?_
  refine Bl_iconst (v := 3) (pc := 873) dL_law_873 (by decide) ?_
  refine Bl_iadd (pc := 874) dL_law_874 ?_
  refine Bl_sld (j := 5 * j + 3) (pc := 875) dL_law_875 (sx (c := 3) hj hL (by decide)).1 (sx (c := 3) hj hL (by decide)).2 ?_
  refine Bl_call3 (cd := mX7_twice) (pc := 876) dL_law_876 k_601 v_X7_twice ⟨(Nat.le_of_ble_eq_true rfl), (Nat.le_of_ble_eq_true rfl)⟩ rfl rfl (sem_X7_twice h.1) (Nat.le_of_ble_eq_true rfl) (fun v sh1 U hU => ?_)
  obtain ⟨r1, rfl, rfl, e1, hU⟩ := hU
  have ce : CE U M := fun k hk => hU k (fun z => by rw [z] at hk; exact absurd hk (by decide))
  have hi := Hi_ce ce
  refine Bl_aload_2 (pc := 879) dL_law_879 ?_
  refine Bl_aload_0 (pc := 880) dL_law_880 ?_
  refine Bl_iload_3 (pc := 881) dL_law_881 ?_
  refine Bl_iconst (v := 1) (pc := 882) dL_law_882 (by decide) ?_
  refine Bl_iadd (pc := 883) dL_law_883 ?_
  refine Bl_sld (j := 5 * j + 1) (pc := 884) dL_law_884 (sx (c := 1) hj hL (by decide)).1 (sx (c := 1) hj hL (by decide)).2 ?_
  refine Bl_aload_0 (pc := 885) dL_law_885 ?_
  refine Bl_iload_3 (pc := 886) dL_law_886 ?_
  refine Bl_iconst (v := 2) (pc := 887) dL_law_887 (by decide) ?_
  refine Bl_iadd (pc := 888) dL_law_888 ?_
  refine Bl_sld (j := 5 * j + 2) (pc := 889) dL_law_889 (sx (c := 2) hj hL (by decide)).1 (sx (c := 2) hj hL (by decide)).2 ?_
  refine Bl_aload_0 (pc := 890) dL_law_890 ?_
  refine Bl_iload_3 (pc := 891) dL_law_891 ?_
  refine Bl_iconst (v := 3) (pc := 892) dL_law_892 (by decide) ?_
  refine Bl_iadd (pc := 893) dL_law_893 ?_
  refine Bl_sld (j := 5 * j + 3) (pc := 894) dL_law_894 (sx (c := 3) hj hL (by decide)).1 (sx (c := 3) hj hL (by decide)).2 ?_
  refine Bl_call3 (cd := mX8_twice) (pc := 895) dL_law_895 k_1117 v_X8_twice ⟨(Nat.le_of_ble_eq_true rfl), (Nat.le_of_ble_eq_true rfl)⟩ rfl rfl (sem_X8_twice (h.rf hi)) (Nat.le_of_ble_eq_true rfl) (fun v sh2 N hN => ?_)
  obtain ⟨r2, rfl, rfl, e2, rp⟩ := hN
  exact Bl_icmp_eq (t := 1374) (pc := 898) dL_law_898 (by decide) (fun _ => k _ _ (LI_ce h ce rp)) (fun b => absurd ((e2 _ e1).symm) b)
theorem case_23 {b LL j : Nat} {xs : Nat → Int32} {G : GD} {M : Mem} (hj : 5 * j + 5 ≤ LL) (hL : LL ≤ 2560) (h : LI M) (k : ∀ (G : GD) (N : Mem), LI N → Bl b LL xs G SH 1374 [some (.ref 140), some (.ref 0), some (.ref 58), some (.int (nI (5 * j)))] [] N) : Bl b LL xs G SH 903 [some (.ref 140), some (.ref 0), some (.ref 58), some (.int (nI (5 * j)))] [] M := by
  refine Bl_aload_1 (pc := 903) dL_law_903 ?_
  refine Bl_aload_0 (pc := 904) dL_law_904 ?_
  refine Bl_iload_3 (pc := 905) dL_law_905 ?_
  refine Bl_iconst (v := 1) (pc := 906) dL_law_906 (by decide) ?_
  refine Bl_iadd (pc := 907) dL_law_907 ?_
  refine Bl_sld (j := 5 * j + 1) (pc := 908) dL_law_908 (sx (c := 1) hj hL (by decide)).1 (sx (c := 1) hj hL (by decide)).2 ?_
  refine Bl_aload_0 (pc := 909) dL_law_909 ?_
  refine Bl_iload_3 (pc := 910) dL_law_910 ?_
  refine Bl_iconst (v := 2) (pc := 911) dL_law_911 (by decide) ?_
  refine Bl_iadd (pc := 912) dL_law_912 ?_
  refine Bl_sld (j := 5 * j + 2) (pc := 913) dL_law_913 (sx (c := 2) hj hL (by decide)).1 (sx (c := 2) hj hL (by decide)).2 ?_
  refine Bl_aload_0 (pc := 914) dL_law_914 ?_
  refine Bl_iload_3 (pc := 915) dL_law_915 ?_
  refine Bl_iconst (v := 3) (pc := 916) dL_law_916 (by decide) ?_
  refine Bl_iadd (pc := 917) dL_law_917 ?_
  refine Bl_sld (j := 5 * j + 3) (pc := 918) dL_law_918 (sx (c := 3) hj hL (by decide)).1 (sx (c := 3) hj hL (by decide)).2 ?_
  refine Bl_call3 (cd := mX7_both) (pc := 919) dL_law_919 k_625 v_X7_both ⟨(Nat.le_of_ble_eq_true rfl), (Nat.le_of_ble_eq_true rfl)⟩ rfl rfl (sem_X7_both h.1) (Nat.le_of_ble_eq_true rfl) (fun v sh1 U hU => ?_)
  obtain ⟨r1, rfl, rfl, hU⟩ := hU
  have hi := Hi_both hU
  refine Bl_aload_2 (pc := 922) dL_law_922 ?_
  refine Bl_aload_0 (pc := 923) dL_law_923 ?_
  refine Bl_iload_3 (pc := 924) dL_law_924 ?_
  refine Bl_iconst (v := 1) (pc := 925) dL_law_925 (by decide) ?_
  refine Bl_iadd (pc := 926) dL_law_926 ?_
  refine Bl_sld (j := 5 * j + 1) (pc := 927) dL_law_927 (sx (c := 1) hj hL (by decide)).1 (sx (c := 1) hj hL (by decide)).2 ?_
  refine Bl_aload_0 (pc := 928) dL_law_928 ?_
  refine Bl_iload_3 (pc := 929) dL_law_929 ?_
  refine Bl_iconst (v := 2) (pc := 930) dL_law_930 (by decide) ?_
  refine Bl_iadd (pc := 931) dL_law_931 ?_
  refine Bl_sld (j := 5 * j + 2) (pc := 932) dL_law_932 (sx (c := 2) hj hL (by decide)).1 (sx (c := 2) hj hL (by decide)).2 ?_
  refine Bl_aload_0 (pc := 933) dL_law_933 ?_
  refine Bl_iload_3 (pc := 934) dL_law_934 ?_
  refine Bl_iconst (v := 3) (pc := 935) dL_law_935 (by decide) ?_
  refine Bl_iadd (pc := 936) dL_law_936 ?_
  refine Bl_sld (j := 5 * j + 3) (pc := 937) dL_law_937 (sx (c := 3) hj hL (by decide)).1 (sx (c := 3) hj hL (by decide)).2 ?_
  refine Bl_call3 (cd := mX8_both) (pc := 938) dL_law_938 k_1130 v_X8_both ⟨(Nat.le_of_ble_eq_true rfl), (Nat.le_of_ble_eq_true rfl)⟩ rfl rfl (sem_X8_both (h.rf hi)) (Nat.le_of_ble_eq_true rfl) (fun v sh2 N hN => ?_)
  obtain ⟨r2, rfl, rfl, e2⟩ := hN
  obtain ⟨e3, rp⟩ := e2 _ _ hU
  exact Bl_icmp_eq (t := 1374) (pc := 941) dL_law_941 (by decide) (fun _ => k _ _ (LI_n (WF_both h.1 (fun z => z.1.1) hU) rp)) (fun b => absurd (e3.symm) b)
theorem case_24 {b LL j : Nat} {xs : Nat → Int32} {G : GD} {M : Mem} (hj : 5 * j + 5 ≤ LL) (hL : LL ≤ 2560) (h : LI M) (k : ∀ (G : GD) (N : Mem), LI N → Bl b LL xs G SH 1374 [some (.ref 140), some (.ref 0), some (.ref 58), some (.int (nI (5 * j)))] [] N) : Bl b LL xs G SH 946 [some (.ref 140), some (.ref 0), some (.ref 58), some (.int (nI (5 * j)))] [] M := by
  refine Bl_aload_1 (pc := 946) dL_law_946 ?_
  refine Bl_aload_0 (pc := 947) dL_law_947 ?_
  refine Bl_iload_3 (pc := 948) dL_law_948 ?_
  refine Bl_iconst (v := 1) (pc := 949) dL_law_949 (by decide) ?_
  refine Bl_iadd (pc := 950) dL_law_950 ?_
  refine Bl_sld (j := 5 * j + 1) (pc := 951) dL_law_951 (sx (c := 1) hj hL (by decide)).1 (sx (c := 1) hj hL (by decide)).2 ?_
  refine Bl_call1 (cd := mX7_fewest) (pc := 952) dL_law_952 k_629 v_X7_fewest ⟨(Nat.le_of_ble_eq_true rfl), (Nat.le_of_ble_eq_true rfl)⟩ rfl rfl (sem_X7_fewest h.1) (Nat.le_of_ble_eq_true rfl) (fun v sh1 U hU => ?_)
  obtain ⟨rfl, rfl, rfl⟩ := hU
  refine Bl_aload_2 (pc := 955) dL_law_955 ?_
  refine Bl_aload_0 (pc := 956) dL_law_956 ?_
  refine Bl_iload_3 (pc := 957) dL_law_957 ?_
  refine Bl_iconst (v := 1) (pc := 958) dL_law_958 (by decide) ?_
  refine Bl_iadd (pc := 959) dL_law_959 ?_
  refine Bl_sld (j := 5 * j + 1) (pc := 960) dL_law_960 (sx (c := 1) hj hL (by decide)).1 (sx (c := 1) hj hL (by decide)).2 ?_
  refine Bl_call1 (cd := mX8_fewest) (pc := 961) dL_law_961 k_1135 v_X8_fewest ⟨(Nat.le_of_ble_eq_true rfl), (Nat.le_of_ble_eq_true rfl)⟩ rfl rfl (sem_X8_fewest (h.rf (Hi.rf))) (Nat.le_of_ble_eq_true rfl) (fun v sh2 N hN => ?_)
  obtain ⟨r2, rfl, rfl, e2, rp⟩ := hN
  exact Bl_icmp_eq (t := 1374) (pc := 964) dL_law_964 (by decide) (fun _ => k _ _ (LI_n h.1 rp)) (fun b => absurd (e2.symm) b)
theorem case_25 {b LL j : Nat} {xs : Nat → Int32} {G : GD} {M : Mem} (hj : 5 * j + 5 ≤ LL) (hL : LL ≤ 2560) (h : LI M) (k : ∀ (G : GD) (N : Mem), LI N → Bl b LL xs G SH 1374 [some (.ref 140), some (.ref 0), some (.ref 58), some (.int (nI (5 * j)))] [] N) : Bl b LL xs G SH 969 [some (.ref 140), some (.ref 0), some (.ref 58), some (.int (nI (5 * j)))] [] M := by
  refine Bl_aload_1 (pc := 969) dL_law_969 ?_
  refine Bl_aload_0 (pc := 970) dL_law_970 ?_
  refine Bl_iload_3 (pc := 971) dL_law_971 ?_
  refine Bl_iconst (v := 1) (pc := 972) dL_law_972 (by decide) ?_
  refine Bl_iadd (pc := 973) dL_law_973 ?_
  refine Bl_sld (j := 5 * j + 1) (pc := 974) dL_law_974 (sx (c := 1) hj hL (by decide)).1 (sx (c := 1) hj hL (by decide)).2 ?_
  refine Bl_call1 (cd := mX7_pipes) (pc := 975) dL_law_975 k_643 v_X7_pipes ⟨(Nat.le_of_ble_eq_true rfl), (Nat.le_of_ble_eq_true rfl)⟩ rfl rfl (sem_X7_pipes h.1) (Nat.le_of_ble_eq_true rfl) (fun v sh1 U hU => ?_)
  obtain ⟨rfl, rfl, rfl⟩ := hU
  refine Bl_aload_2 (pc := 978) dL_law_978 ?_
  refine Bl_aload_0 (pc := 979) dL_law_979 ?_
  refine Bl_iload_3 (pc := 980) dL_law_980 ?_
  refine Bl_iconst (v := 1) (pc := 981) dL_law_981 (by decide) ?_
  refine Bl_iadd (pc := 982) dL_law_982 ?_
  refine Bl_sld (j := 5 * j + 1) (pc := 983) dL_law_983 (sx (c := 1) hj hL (by decide)).1 (sx (c := 1) hj hL (by decide)).2 ?_
  refine Bl_call1 (cd := mX8_pipes) (pc := 984) dL_law_984 k_1150 v_X8_pipes ⟨(Nat.le_of_ble_eq_true rfl), (Nat.le_of_ble_eq_true rfl)⟩ rfl rfl (sem_X8_pipes (h.rf (Hi.rf))) (Nat.le_of_ble_eq_true rfl) (fun v sh2 N hN => ?_)
  obtain ⟨r2, rfl, rfl, e2, rp⟩ := hN
  exact Bl_icmp_eq (t := 1374) (pc := 987) dL_law_987 (by decide) (fun _ => k _ _ (LI_n h.1 rp)) (fun b => absurd (e2.symm) b)
theorem case_26 {b LL j : Nat} {xs : Nat → Int32} {G : GD} {M : Mem} (hj : 5 * j + 5 ≤ LL) (hL : LL ≤ 2560) (h : LI M) (k : ∀ (G : GD) (N : Mem), LI N → Bl b LL xs G SH 1374 [some (.ref 140), some (.ref 0), some (.ref 58), some (.int (nI (5 * j)))] [] N) : Bl b LL xs G SH 992 [some (.ref 140), some (.ref 0), some (.ref 58), some (.int (nI (5 * j)))] [] M := by
  refine Bl_aload_1 (pc := 992) dL_law_992 ?_
  refine Bl_call0 (cd := mX7_men) (pc := 993) dL_law_993 k_647 v_X7_men ⟨(Nat.le_of_ble_eq_true rfl), (Nat.le_of_ble_eq_true rfl)⟩ rfl rfl (sem_X7_men h.1) (Nat.le_of_ble_eq_true rfl) (fun v sh1 U hU => ?_)
  obtain ⟨r1, rfl, rfl, e1, hU⟩ := hU
  have hi := Hi_ce hU
  refine Bl_aload_2 (pc := 996) dL_law_996 ?_
  refine Bl_call0 (cd := mX8_men) (pc := 997) dL_law_997 k_1154 v_X8_men ⟨(Nat.le_of_ble_eq_true rfl), (Nat.le_of_ble_eq_true rfl)⟩ rfl rfl (sem_X8_men (h.rf hi)) (Nat.le_of_ble_eq_true rfl) (fun v sh2 N hN => ?_)
  obtain ⟨r2, rfl, rfl, e2, rp⟩ := hN
  exact Bl_icmp_eq (t := 1374) (pc := 1000) dL_law_1000 (by decide) (fun _ => k _ _ (LI_ce h hU rp)) (fun b => absurd ((e1.trans e2.symm)) b)
theorem case_27 {b LL j : Nat} {xs : Nat → Int32} {G : GD} {M : Mem} (hj : 5 * j + 5 ≤ LL) (hL : LL ≤ 2560) (h : LI M) (k : ∀ (G : GD) (N : Mem), LI N → Bl b LL xs G SH 1374 [some (.ref 140), some (.ref 0), some (.ref 58), some (.int (nI (5 * j)))] [] N) : Bl b LL xs G SH 1005 [some (.ref 140), some (.ref 0), some (.ref 58), some (.int (nI (5 * j)))] [] M := by
  refine Bl_aload_1 (pc := 1005) dL_law_1005 ?_
  refine Bl_aload_0 (pc := 1006) dL_law_1006 ?_
  refine Bl_iload_3 (pc := 1007) dL_law_1007 ?_
  refine Bl_iconst (v := 1) (pc := 1008) dL_law_1008 (by decide) ?_
  refine Bl_iadd (pc := 1009) dL_law_1009 ?_
  refine Bl_sld (j := 5 * j + 1) (pc := 1010) dL_law_1010 (sx (c := 1) hj hL (by decide)).1 (sx (c := 1) hj hL (by decide)).2 ?_
  refine Bl_aload_0 (pc := 1011) dL_law_1011 ?_
  refine Bl_iload_3 (pc := 1012) dL_law_1012 ?_
  refine Bl_iconst (v := 2) (pc := 1013) dL_law_1013 (by decide) ?_
  refine Bl_iadd (pc := 1014) dL_law_1014 ?_
  refine Bl_sld (j := 5 * j + 2) (pc := 1015) dL_law_1015 (sx (c := 2) hj hL (by decide)).1 (sx (c := 2) hj hL (by decide)).2 ?_
  refine Bl_call2 (cd := mX7_runs) (pc := 1016) dL_law_1016 k_677 v_X7_runs ⟨(Nat.le_of_ble_eq_true rfl), (Nat.le_of_ble_eq_true rfl)⟩ rfl rfl (sem_X7_runs h.1) (Nat.le_of_ble_eq_true rfl) (fun v sh1 U hU => ?_)
  obtain ⟨rfl, rfl, rfl⟩ := hU
  refine Bl_aload_2 (pc := 1019) dL_law_1019 ?_
  refine Bl_aload_0 (pc := 1020) dL_law_1020 ?_
  refine Bl_iload_3 (pc := 1021) dL_law_1021 ?_
  refine Bl_iconst (v := 1) (pc := 1022) dL_law_1022 (by decide) ?_
  refine Bl_iadd (pc := 1023) dL_law_1023 ?_
  refine Bl_sld (j := 5 * j + 1) (pc := 1024) dL_law_1024 (sx (c := 1) hj hL (by decide)).1 (sx (c := 1) hj hL (by decide)).2 ?_
  refine Bl_aload_0 (pc := 1025) dL_law_1025 ?_
  refine Bl_iload_3 (pc := 1026) dL_law_1026 ?_
  refine Bl_iconst (v := 2) (pc := 1027) dL_law_1027 (by decide) ?_
  refine Bl_iadd (pc := 1028) dL_law_1028 ?_
  refine Bl_sld (j := 5 * j + 2) (pc := 1029) dL_law_1029 (sx (c := 2) hj hL (by decide)).1 (sx (c := 2) hj hL (by decide)).2 ?_
  refine Bl_call2 (cd := mX8_runs) (pc := 1030) dL_law_1030 k_1170 v_X8_runs ⟨(Nat.le_of_ble_eq_true rfl), (Nat.le_of_ble_eq_true rfl)⟩ rfl rfl (sem_X8_runs (h.rf (Hi.rf))) (Nat.le_of_ble_eq_true rfl) (fun v sh2 N hN => ?_)
  obtain ⟨r2, rfl, rfl, e2, rp⟩ := hN
  exact Bl_icmp_eq (t := 1374) (pc := 1033) dL_law_1033 (by decide) (fun _ => k _ _ (LI_n h.1 rp)) (fun b => absurd (e2.symm) b)
theorem case_28 {b LL j : Nat} {xs : Nat → Int32} {G : GD} {M : Mem} (hj : 5 * j + 5 ≤ LL) (hL : LL ≤ 2560) (h : LI M) (k : ∀ (G : GD) (N : Mem), LI N → Bl b LL xs G SH 1374 [some (.ref 140), some (.ref 0), some (.ref 58), some (.int (nI (5 * j)))] [] N) : Bl b LL xs G SH 1038 [some (.ref 140), some (.ref 0), some (.ref 58), some (.int (nI (5 * j)))] [] M := by
  refine Bl_aload_1 (pc := 1038) dL_law_1038 ?_
  refine Bl_aload_0 (pc := 1039) dL_law_1039 ?_
  refine Bl_iload_3 (pc := 1040) dL_law_1040 ?_
  refine Bl_iconst (v := 1) (pc := 1041) dL_law_1041 (by decide) ?_
  refine Bl_iadd (pc := 1042) dL_law_1042 ?_
  refine Bl_sld (j := 5 * j + 1) (pc := 1043) dL_law_1043 (sx (c := 1) hj hL (by decide)).1 (sx (c := 1) hj hL (by decide)).2 ?_
  refine Bl_call1 (cd := mX7_noted) (pc := 1044) dL_law_1044 k_681 v_X7_noted ⟨(Nat.le_of_ble_eq_true rfl), (Nat.le_of_ble_eq_true rfl)⟩ rfl rfl (sem_X7_noted h.1) (Nat.le_of_ble_eq_true rfl) (fun v sh1 U hU => ?_)
  obtain ⟨rfl, rfl, rfl⟩ := hU
  refine Bl_aload_2 (pc := 1047) dL_law_1047 ?_
  refine Bl_aload_0 (pc := 1048) dL_law_1048 ?_
  refine Bl_iload_3 (pc := 1049) dL_law_1049 ?_
  refine Bl_iconst (v := 1) (pc := 1050) dL_law_1050 (by decide) ?_
  refine Bl_iadd (pc := 1051) dL_law_1051 ?_
  refine Bl_sld (j := 5 * j + 1) (pc := 1052) dL_law_1052 (sx (c := 1) hj hL (by decide)).1 (sx (c := 1) hj hL (by decide)).2 ?_
  refine Bl_call1 (cd := mX8_noted) (pc := 1053) dL_law_1053 k_1174 v_X8_noted ⟨(Nat.le_of_ble_eq_true rfl), (Nat.le_of_ble_eq_true rfl)⟩ rfl rfl (sem_X8_noted (h.rf Hi_noted)) (Nat.le_of_ble_eq_true rfl) (fun v sh2 N hN => ?_)
  obtain ⟨r2, rfl, rfl, e2, rp⟩ := hN
  exact Bl_icmp_eq (t := 1374) (pc := 1056) dL_law_1056 (by decide) (fun _ => k _ _ (LI_n (WF_noted h.1) rp)) (fun b => absurd (e2.symm) b)
theorem case_29 {b LL j : Nat} {xs : Nat → Int32} {G : GD} {M : Mem} (hj : 5 * j + 5 ≤ LL) (hL : LL ≤ 2560) (h : LI M) (k : ∀ (G : GD) (N : Mem), LI N → Bl b LL xs G SH 1374 [some (.ref 140), some (.ref 0), some (.ref 58), some (.int (nI (5 * j)))] [] N) : Bl b LL xs G SH 1061 [some (.ref 140), some (.ref 0), some (.ref 58), some (.int (nI (5 * j)))] [] M := by
  refine Bl_aload_1 (pc := 1061) dL_law_1061 ?_
  refine Bl_call0 (cd := mX7_forget) (pc := 1062) dL_law_1062 k_685 v_X7_forget ⟨(Nat.le_of_ble_eq_true rfl), (Nat.le_of_ble_eq_true rfl)⟩ rfl rfl sem_X7_forget (Nat.le_of_ble_eq_true rfl) (fun v sh1 U hU => ?_)
  obtain ⟨rfl, rfl, rfl⟩ := hU
  refine Bl_aload_2 (pc := 1065) dL_law_1065 ?_
  refine Bl_call0 (cd := mX8_forget) (pc := 1066) dL_law_1066 k_1183 v_X8_forget ⟨(Nat.le_of_ble_eq_true rfl), (Nat.le_of_ble_eq_true rfl)⟩ rfl rfl (sem_X8_forget (h.rf (Hi_u (by decide)))) (Nat.le_of_ble_eq_true rfl) (fun v sh2 N hN => ?_)
  obtain ⟨r2, rfl, rfl, e2, rp⟩ := hN
  exact Bl_icmp_eq (t := 1374) (pc := 1069) dL_law_1069 (by decide) (fun _ => k _ _ (LI_n (WF_forget h.1) rp)) (fun b => absurd (e2.symm) b)
theorem case_30 {b LL j : Nat} {xs : Nat → Int32} {G : GD} {M : Mem} (hj : 5 * j + 5 ≤ LL) (hL : LL ≤ 2560) (h : LI M) (k : ∀ (G : GD) (N : Mem), LI N → Bl b LL xs G SH 1374 [some (.ref 140), some (.ref 0), some (.ref 58), some (.int (nI (5 * j)))] [] N) : Bl b LL xs G SH 1074 [some (.ref 140), some (.ref 0), some (.ref 58), some (.int (nI (5 * j)))] [] M := by
  refine Bl_aload_1 (pc := 1074) dL_law_1074 ?_
  refine Bl_aload_0 (pc := 1075) dL_law_1075 ?_
  refine Bl_iload_3 (pc := 1076) dL_law_1076 ?_
  refine Bl_iconst (v := 1) (pc := 1077) dL_law_1077 (by decide) ?_
  refine Bl_iadd (pc := 1078) dL_law_1078 ?_
  refine Bl_sld (j := 5 * j + 1) (pc := 1079) dL_law_1079 (sx (c := 1) hj hL (by decide)).1 (sx (c := 1) hj hL (by decide)).2 ?_
  refine Bl_aload_0 (pc := 1080) dL_law_1080 ?_
  refine Bl_iload_3 (pc := 1081) dL_law_1081 ?_
  refine Bl_iconst (v := 2) (pc := 1082) dL_law_1082 (by decide) ?_
  refine Bl_iadd (pc := 1083) dL_law_1083 ?_
  refine Bl_sld (j := 5 * j + 2) (pc := 1084) dL_law_1084 (sx (c := 2) hj hL (by decide)).1 (sx (c := 2) hj hL (by decide)).2 ?_
  refine Bl_call2 (cd := mX7_watch) (pc := 1085) dL_law_1085 k_689 v_X7_watch ⟨(Nat.le_of_ble_eq_true rfl), (Nat.le_of_ble_eq_true rfl)⟩ rfl rfl (sem_X7_watch h.1) (Nat.le_of_ble_eq_true rfl) (fun v sh1 U hU => ?_)
  obtain ⟨rfl, rfl, rfl⟩ := hU
  refine Bl_aload_2 (pc := 1088) dL_law_1088 ?_
  refine Bl_aload_0 (pc := 1089) dL_law_1089 ?_
  refine Bl_iload_3 (pc := 1090) dL_law_1090 ?_
  refine Bl_iconst (v := 1) (pc := 1091) dL_law_1091 (by decide) ?_
  refine Bl_iadd (pc := 1092) dL_law_1092 ?_
  refine Bl_sld (j := 5 * j + 1) (pc := 1093) dL_law_1093 (sx (c := 1) hj hL (by decide)).1 (sx (c := 1) hj hL (by decide)).2 ?_
  refine Bl_aload_0 (pc := 1094) dL_law_1094 ?_
  refine Bl_iload_3 (pc := 1095) dL_law_1095 ?_
  refine Bl_iconst (v := 2) (pc := 1096) dL_law_1096 (by decide) ?_
  refine Bl_iadd (pc := 1097) dL_law_1097 ?_
  refine Bl_sld (j := 5 * j + 2) (pc := 1098) dL_law_1098 (sx (c := 2) hj hL (by decide)).1 (sx (c := 2) hj hL (by decide)).2 ?_
  refine Bl_call2 (cd := mX8_watch) (pc := 1099) dL_law_1099 k_1187 v_X8_watch ⟨(Nat.le_of_ble_eq_true rfl), (Nat.le_of_ble_eq_true rfl)⟩ rfl rfl (sem_X8_watch (h.rf (Hi.rf))) (Nat.le_of_ble_eq_true rfl) (fun v sh2 N hN => ?_)
  obtain ⟨r2, rfl, rfl, e2, rp⟩ := hN
  exact Bl_icmp_eq (t := 1374) (pc := 1102) dL_law_1102 (by decide) (fun _ => k _ _ (LI_n h.1 rp)) (fun b => absurd (e2.symm) b)
theorem case_31 {b LL j : Nat} {xs : Nat → Int32} {G : GD} {M : Mem} (hj : 5 * j + 5 ≤ LL) (hL : LL ≤ 2560) (h : LI M) (k : ∀ (G : GD) (N : Mem), LI N → Bl b LL xs G SH 1374 [some (.ref 140), some (.ref 0), some (.ref 58), some (.int (nI (5 * j)))] [] N) : Bl b LL xs G SH 1107 [some (.ref 140), some (.ref 0), some (.ref 58), some (.int (nI (5 * j)))] [] M := by
  refine Bl_aload_1 (pc := 1107) dL_law_1107 ?_
  refine Bl_aload_0 (pc := 1108) dL_law_1108 ?_
  refine Bl_iload_3 (pc := 1109) dL_law_1109 ?_
  refine Bl_iconst (v := 1) (pc := 1110) dL_law_1110 (by decide) ?_
  refine Bl_iadd (pc := 1111) dL_law_1111 ?_
  refine Bl_sld (j := 5 * j + 1) (pc := 1112) dL_law_1112 (sx (c := 1) hj hL (by decide)).1 (sx (c := 1) hj hL (by decide)).2 ?_
  refine Bl_call1 (cd := mX7_lost) (pc := 1113) dL_law_1113 k_702 v_X7_lost ⟨(Nat.le_of_ble_eq_true rfl), (Nat.le_of_ble_eq_true rfl)⟩ rfl rfl (sem_X7_lost h.1) (Nat.le_of_ble_eq_true rfl) (fun v sh1 U hU => ?_)
  obtain ⟨rfl, rfl, rfl⟩ := hU
  refine Bl_aload_2 (pc := 1116) dL_law_1116 ?_
  refine Bl_aload_0 (pc := 1117) dL_law_1117 ?_
  refine Bl_iload_3 (pc := 1118) dL_law_1118 ?_
  refine Bl_iconst (v := 1) (pc := 1119) dL_law_1119 (by decide) ?_
  refine Bl_iadd (pc := 1120) dL_law_1120 ?_
  refine Bl_sld (j := 5 * j + 1) (pc := 1121) dL_law_1121 (sx (c := 1) hj hL (by decide)).1 (sx (c := 1) hj hL (by decide)).2 ?_
  refine Bl_call1 (cd := mX8_lost) (pc := 1122) dL_law_1122 k_1195 v_X8_lost ⟨(Nat.le_of_ble_eq_true rfl), (Nat.le_of_ble_eq_true rfl)⟩ rfl rfl (sem_X8_lost (h.rf (Hi.rf))) (Nat.le_of_ble_eq_true rfl) (fun v sh2 N hN => ?_)
  obtain ⟨r2, rfl, rfl, e2, rp⟩ := hN
  exact Bl_icmp_eq (t := 1374) (pc := 1125) dL_law_1125 (by decide) (fun _ => k _ _ (LI_n h.1 rp)) (fun b => absurd (e2.symm) b)
theorem case_32 {b LL j : Nat} {xs : Nat → Int32} {G : GD} {M : Mem} (hj : 5 * j + 5 ≤ LL) (hL : LL ≤ 2560) (h : LI M) (k : ∀ (G : GD) (N : Mem), LI N → Bl b LL xs G SH 1374 [some (.ref 140), some (.ref 0), some (.ref 58), some (.int (nI (5 * j)))] [] N) : Bl b LL xs G SH 1130 [some (.ref 140), some (.ref 0), some (.ref 58), some (.int (nI (5 * j)))] [] M := by
  refine Bl_aload_1 (pc := 1130) dL_law_1130 ?_
  refine Bl_aload_0 (pc := 1131) dL_law_1131 ?_
  refine Bl_iload_3 (pc := 1132) dL_law_1132 ?_
  refine Bl_iconst (v := 1) (pc := 1133) dL_law_1133 (by decide) ?_
  refine Bl_iadd (pc := 1134) dL_law_1134 ?_
  refine Bl_sld (j := 5 * j + 1) (pc := 1135) dL_law_1135 (sx (c := 1) hj hL (by decide)).1 (sx (c := 1) hj hL (by decide)).2 ?_
  refine Bl_call1 (cd := mX7_fits) (pc := 1136) dL_law_1136 k_710 v_X7_fits ⟨(Nat.le_of_ble_eq_true rfl), (Nat.le_of_ble_eq_true rfl)⟩ rfl rfl (sem_X7_fits h.1) (Nat.le_of_ble_eq_true rfl) (fun v sh1 U hU => ?_)
  obtain ⟨rfl, rfl, rfl⟩ := hU
  refine Bl_aload_2 (pc := 1139) dL_law_1139 ?_
  refine Bl_aload_0 (pc := 1140) dL_law_1140 ?_
  refine Bl_iload_3 (pc := 1141) dL_law_1141 ?_
  refine Bl_iconst (v := 1) (pc := 1142) dL_law_1142 (by decide) ?_
  refine Bl_iadd (pc := 1143) dL_law_1143 ?_
  refine Bl_sld (j := 5 * j + 1) (pc := 1144) dL_law_1144 (sx (c := 1) hj hL (by decide)).1 (sx (c := 1) hj hL (by decide)).2 ?_
  refine Bl_call1 (cd := mX8_fits) (pc := 1145) dL_law_1145 k_1199 v_X8_fits ⟨(Nat.le_of_ble_eq_true rfl), (Nat.le_of_ble_eq_true rfl)⟩ rfl rfl (sem_X8_fits (h.rf (Hi.rf))) (Nat.le_of_ble_eq_true rfl) (fun v sh2 N hN => ?_)
  obtain ⟨r2, rfl, rfl, e2, rp⟩ := hN
  exact Bl_icmp_eq (t := 1374) (pc := 1148) dL_law_1148 (by decide) (fun _ => k _ _ (LI_n h.1 rp)) (fun b => absurd (e2.symm) b)
theorem case_33 {b LL j : Nat} {xs : Nat → Int32} {G : GD} {M : Mem} (hj : 5 * j + 5 ≤ LL) (hL : LL ≤ 2560) (h : LI M) (k : ∀ (G : GD) (N : Mem), LI N → Bl b LL xs G SH 1374 [some (.ref 140), some (.ref 0), some (.ref 58), some (.int (nI (5 * j)))] [] N) : Bl b LL xs G SH 1153 [some (.ref 140), some (.ref 0), some (.ref 58), some (.int (nI (5 * j)))] [] M := by
  refine Bl_aload_1 (pc := 1153) dL_law_1153 ?_
  refine Bl_aload_0 (pc := 1154) dL_law_1154 ?_
  refine Bl_iload_3 (pc := 1155) dL_law_1155 ?_
  refine Bl_iconst (v := 1) (pc := 1156) dL_law_1156 (by decide) ?_
  refine Bl_iadd (pc := 1157) dL_law_1157 ?_
  refine Bl_sld (j := 5 * j + 1) (pc := 1158) dL_law_1158 (sx (c := 1) hj hL (by decide)).1 (sx (c := 1) hj hL (by decide)).2 ?_
  refine Bl_call1 (cd := mX7_keep) (pc := 1159) dL_law_1159 k_714 v_X7_keep ⟨(Nat.le_of_ble_eq_true rfl), (Nat.le_of_ble_eq_true rfl)⟩ rfl rfl sem_X7_keep (Nat.le_of_ble_eq_true rfl) (fun v sh1 U hU => ?_)
  obtain ⟨rfl, rfl, rfl⟩ := hU
  refine Bl_aload_2 (pc := 1162) dL_law_1162 ?_
  refine Bl_aload_0 (pc := 1163) dL_law_1163 ?_
  refine Bl_iload_3 (pc := 1164) dL_law_1164 ?_
  refine Bl_iconst (v := 1) (pc := 1165) dL_law_1165 (by decide) ?_
  refine Bl_iadd (pc := 1166) dL_law_1166 ?_
  refine Bl_sld (j := 5 * j + 1) (pc := 1167) dL_law_1167 (sx (c := 1) hj hL (by decide)).1 (sx (c := 1) hj hL (by decide)).2 ?_
  refine Bl_call1 (cd := mX8_keep) (pc := 1168) dL_law_1168 k_1203 v_X8_keep ⟨(Nat.le_of_ble_eq_true rfl), (Nat.le_of_ble_eq_true rfl)⟩ rfl rfl (sem_X8_keep (h.rf Hi_keep)) (Nat.le_of_ble_eq_true rfl) (fun v sh2 N hN => ?_)
  obtain ⟨r2, rfl, rfl, e2, rp⟩ := hN
  exact Bl_icmp_eq (t := 1374) (pc := 1171) dL_law_1171 (by decide) (fun _ => k _ _ (LI_n (WF_keep h.1) rp)) (fun b => absurd (e2.symm) b)
theorem case_34 {b LL j : Nat} {xs : Nat → Int32} {G : GD} {M : Mem} (hj : 5 * j + 5 ≤ LL) (hL : LL ≤ 2560) (h : LI M) (k : ∀ (G : GD) (N : Mem), LI N → Bl b LL xs G SH 1374 [some (.ref 140), some (.ref 0), some (.ref 58), some (.int (nI (5 * j)))] [] N) : Bl b LL xs G SH 1176 [some (.ref 140), some (.ref 0), some (.ref 58), some (.int (nI (5 * j)))] [] M := by
  refine Bl_aload_1 (pc := 1176) dL_law_1176 ?_
  refine Bl_aload_0 (pc := 1177) dL_law_1177 ?_
  refine Bl_iload_3 (pc := 1178) dL_law_1178 ?_
  refine Bl_iconst (v := 1) (pc := 1179) dL_law_1179 (by decide) ?_
  refine Bl_iadd (pc := 1180) dL_law_1180 ?_
  refine Bl_sld (j := 5 * j + 1) (pc := 1181) dL_law_1181 (sx (c := 1) hj hL (by decide)).1 (sx (c := 1) hj hL (by decide)).2 ?_
  refine Bl_call1 (cd := mX7_back) (pc := 1182) dL_law_1182 k_730 v_X7_back ⟨(Nat.le_of_ble_eq_true rfl), (Nat.le_of_ble_eq_true rfl)⟩ rfl rfl sem_X7_back (Nat.le_of_ble_eq_true rfl) (fun v sh1 U hU => ?_)
  obtain ⟨rfl, rfl, rfl⟩ := hU
  refine Bl_aload_2 (pc := 1185) dL_law_1185 ?_
  refine Bl_aload_0 (pc := 1186) dL_law_1186 ?_
  refine Bl_iload_3 (pc := 1187) dL_law_1187 ?_
  refine Bl_iconst (v := 1) (pc := 1188) dL_law_1188 (by decide) ?_
  refine Bl_iadd (pc := 1189) dL_law_1189 ?_
  refine Bl_sld (j := 5 * j + 1) (pc := 1190) dL_law_1190 (sx (c := 1) hj hL (by decide)).1 (sx (c := 1) hj hL (by decide)).2 ?_
  refine Bl_call1 (cd := mX8_back) (pc := 1191) dL_law_1191 k_1211 v_X8_back ⟨(Nat.le_of_ble_eq_true rfl), (Nat.le_of_ble_eq_true rfl)⟩ rfl rfl (sem_X8_back (h.rf Hi_back)) (Nat.le_of_ble_eq_true rfl) (fun v sh2 N hN => ?_)
  obtain ⟨r2, rfl, rfl, e2, rp⟩ := hN
  exact Bl_icmp_eq (t := 1374) (pc := 1194) dL_law_1194 (by decide) (fun _ => k _ _ (LI_n (WF_back h.1) rp)) (fun b => absurd (e2.symm) b)
theorem case_35 {b LL j : Nat} {xs : Nat → Int32} {G : GD} {M : Mem} (hj : 5 * j + 5 ≤ LL) (hL : LL ≤ 2560) (h : LI M) (k : ∀ (G : GD) (N : Mem), LI N → Bl b LL xs G SH 1374 [some (.ref 140), some (.ref 0), some (.ref 58), some (.int (nI (5 * j)))] [] N) : Bl b LL xs G SH 1199 [some (.ref 140), some (.ref 0), some (.ref 58), some (.int (nI (5 * j)))] [] M := by
  refine Bl_aload_1 (pc := 1199) dL_law_1199 ?_
  refine Bl_aload_0 (pc := 1200) dL_law_1200 ?_
  refine Bl_iload_3 (pc := 1201) dL_law_1201 ?_
  refine Bl_iconst (v := 1) (pc := 1202) dL_law_1202 (by decide) ?_
  refine Bl_iadd (pc := 1203) dL_law_1203 ?_
  refine Bl_sld (j := 5 * j + 1) (pc := 1204) dL_law_1204 (sx (c := 1) hj hL (by decide)).1 (sx (c := 1) hj hL (by decide)).2 ?_
  refine Bl_aload_0 (pc := 1205) dL_law_1205 ?_
  refine Bl_iload_3 (pc := 1206) dL_law_1206 ?_
  refine Bl_iconst (v := 2) (pc := 1207) dL_law_1207 (by decide) ?_
  refine Bl_iadd (pc := 1208) dL_law_1208 ?_
  refine Bl_sld (j := 5 * j + 2) (pc := 1209) dL_law_1209 (sx (c := 2) hj hL (by decide)).1 (sx (c := 2) hj hL (by decide)).2 ?_
  refine Bl_aload_0 (pc := 1210) dL_law_1210 ?_
  refine Bl_iload_3 (pc := 1211) dL_law_1211 ?_
  refine Bl_iconst (v := 3) (pc := 1212) dL_law_1212 (by decide) ?_
  refine Bl_iadd (pc := 1213) dL_law_1213 ?_
  refine Bl_sld (j := 5 * j + 3) (pc := 1214) dL_law_1214 (sx (c := 3) hj hL (by decide)).1 (sx (c := 3) hj hL (by decide)).2 ?_
  refine Bl_call3 (cd := mX7_sheet) (pc := 1215) dL_law_1215 k_738 v_X7_sheet ⟨(Nat.le_of_ble_eq_true rfl), (Nat.le_of_ble_eq_true rfl)⟩ rfl rfl sem_X7_sheet (Nat.le_of_ble_eq_true rfl) (fun v sh1 U hU => ?_)
  obtain ⟨rfl, rfl, rfl⟩ := hU
  refine Bl_aload_2 (pc := 1218) dL_law_1218 ?_
  refine Bl_aload_0 (pc := 1219) dL_law_1219 ?_
  refine Bl_iload_3 (pc := 1220) dL_law_1220 ?_
  refine Bl_iconst (v := 1) (pc := 1221) dL_law_1221 (by decide) ?_
  refine Bl_iadd (pc := 1222) dL_law_1222 ?_
  refine Bl_sld (j := 5 * j + 1) (pc := 1223) dL_law_1223 (sx (c := 1) hj hL (by decide)).1 (sx (c := 1) hj hL (by decide)).2 ?_
  refine Bl_aload_0 (pc := 1224) dL_law_1224 ?_
  refine Bl_iload_3 (pc := 1225) dL_law_1225 ?_
  refine Bl_iconst (v := 2) (pc := 1226) dL_law_1226 (by decide) ?_
  refine Bl_iadd (pc := 1227) dL_law_1227 ?_
  refine Bl_sld (j := 5 * j + 2) (pc := 1228) dL_law_1228 (sx (c := 2) hj hL (by decide)).1 (sx (c := 2) hj hL (by decide)).2 ?_
  refine Bl_aload_0 (pc := 1229) dL_law_1229 ?_
  refine Bl_iload_3 (pc := 1230) dL_law_1230 ?_
  refine Bl_iconst (v := 3) (pc := 1231) dL_law_1231 (by decide) ?_
  refine Bl_iadd (pc := 1232) dL_law_1232 ?_
  refine Bl_sld (j := 5 * j + 3) (pc := 1233) dL_law_1233 (sx (c := 3) hj hL (by decide)).1 (sx (c := 3) hj hL (by decide)).2 ?_
  refine Bl_call3 (cd := mX8_sheet) (pc := 1234) dL_law_1234 k_1215 v_X8_sheet ⟨(Nat.le_of_ble_eq_true rfl), (Nat.le_of_ble_eq_true rfl)⟩ rfl rfl (sem_X8_sheet (h.rf Hi_sheet)) (Nat.le_of_ble_eq_true rfl) (fun v sh2 N hN => ?_)
  obtain ⟨r2, rfl, rfl, e2, rp⟩ := hN
  exact Bl_icmp_eq (t := 1374) (pc := 1237) dL_law_1237 (by decide) (fun _ => k _ _ (LI_n (WF_sheet h.1) rp)) (fun b => absurd (e2.symm) b)
theorem case_36 {b LL j : Nat} {xs : Nat → Int32} {G : GD} {M : Mem} (hj : 5 * j + 5 ≤ LL) (hL : LL ≤ 2560) (h : LI M) (k : ∀ (G : GD) (N : Mem), LI N → Bl b LL xs G SH 1374 [some (.ref 140), some (.ref 0), some (.ref 58), some (.int (nI (5 * j)))] [] N) : Bl b LL xs G SH 1242 [some (.ref 140), some (.ref 0), some (.ref 58), some (.int (nI (5 * j)))] [] M := by
  refine Bl_aload_1 (pc := 1242) dL_law_1242 ?_
  refine Bl_aload_0 (pc := 1243) dL_law_1243 ?_
  refine Bl_iload_3 (pc := 1244) dL_law_1244 ?_
  refine Bl_iconst (v := 1) (pc := 1245) dL_law_1245 (by decide) ?_
  refine Bl_iadd (pc := 1246) dL_law_1246 ?_
  refine Bl_sld (j := 5 * j + 1) (pc := 1247) dL_law_1247 (sx (c := 1) hj hL (by decide)).1 (sx (c := 1) hj hL (by decide)).2 ?_
  refine Bl_aload_0 (pc := 1248) dL_law_1248 ?_
  refine Bl_iload_3 (pc := 1249) dL_law_1249 ?_
  refine Bl_iconst (v := 2) (pc := 1250) dL_law_1250 (by decide) ?_
  refine Bl_iadd (pc := 1251) dL_law_1251 ?_
  refine Bl_sld (j := 5 * j + 2) (pc := 1252) dL_law_1252 (sx (c := 2) hj hL (by decide)).1 (sx (c := 2) hj hL (by decide)).2 ?_
  refine Bl_aload_0 (pc := 1253) dL_law_1253 ?_
  refine Bl_iload_3 (pc := 1254) dL_law_1254 ?_
  refine Bl_iconst (v := 3) (pc := 1255) dL_law_1255 (by decide) ?_
  refine Bl_iadd (pc := 1256) dL_law_1256 ?_
  refine Bl_sld (j := 5 * j + 3) (pc := 1257) dL_law_1257 (sx (c := 3) hj hL (by decide)).1 (sx (c := 3) hj hL (by decide)).2 ?_
  refine Bl_call3 (cd := mX7_lay) (pc := 1258) dL_law_1258 k_746 v_X7_lay ⟨(Nat.le_of_ble_eq_true rfl), (Nat.le_of_ble_eq_true rfl)⟩ rfl rfl (sem_X7_lay h.1) (Nat.le_of_ble_eq_true rfl) (fun v sh1 U hU => ?_)
  obtain ⟨rfl, rfl, rfl⟩ := hU
  refine Bl_aload_2 (pc := 1261) dL_law_1261 ?_
  refine Bl_aload_0 (pc := 1262) dL_law_1262 ?_
  refine Bl_iload_3 (pc := 1263) dL_law_1263 ?_
  refine Bl_iconst (v := 1) (pc := 1264) dL_law_1264 (by decide) ?_
  refine Bl_iadd (pc := 1265) dL_law_1265 ?_
  refine Bl_sld (j := 5 * j + 1) (pc := 1266) dL_law_1266 (sx (c := 1) hj hL (by decide)).1 (sx (c := 1) hj hL (by decide)).2 ?_
  refine Bl_aload_0 (pc := 1267) dL_law_1267 ?_
  refine Bl_iload_3 (pc := 1268) dL_law_1268 ?_
  refine Bl_iconst (v := 2) (pc := 1269) dL_law_1269 (by decide) ?_
  refine Bl_iadd (pc := 1270) dL_law_1270 ?_
  refine Bl_sld (j := 5 * j + 2) (pc := 1271) dL_law_1271 (sx (c := 2) hj hL (by decide)).1 (sx (c := 2) hj hL (by decide)).2 ?_
  refine Bl_aload_0 (pc := 1272) dL_law_1272 ?_
  refine Bl_iload_3 (pc := 1273) dL_law_1273 ?_
  refine Bl_iconst (v := 3) (pc := 1274) dL_law_1274 (by decide) ?_
  refine Bl_iadd (pc := 1275) dL_law_1275 ?_
  refine Bl_sld (j := 5 * j + 3) (pc := 1276) dL_law_1276 (sx (c := 3) hj hL (by decide)).1 (sx (c := 3) hj hL (by decide)).2 ?_
  refine Bl_call3 (cd := mX8_lay) (pc := 1277) dL_law_1277 k_1219 v_X8_lay ⟨(Nat.le_of_ble_eq_true rfl), (Nat.le_of_ble_eq_true rfl)⟩ rfl rfl (sem_X8_lay (h.rf Hi_lay)) (Nat.le_of_ble_eq_true rfl) (fun v sh2 N hN => ?_)
  obtain ⟨r2, rfl, rfl, e2, rp⟩ := hN
  exact Bl_icmp_eq (t := 1374) (pc := 1280) dL_law_1280 (by decide) (fun _ => k _ _ (LI_n (WF_lay h.1) rp)) (fun b => absurd (e2.symm) b)
theorem case_37 {b LL j : Nat} {xs : Nat → Int32} {G : GD} {M : Mem} (hj : 5 * j + 5 ≤ LL) (hL : LL ≤ 2560) (h : LI M) (k : ∀ (G : GD) (N : Mem), LI N → Bl b LL xs G SH 1374 [some (.ref 140), some (.ref 0), some (.ref 58), some (.int (nI (5 * j)))] [] N) : Bl b LL xs G SH 1285 [some (.ref 140), some (.ref 0), some (.ref 58), some (.int (nI (5 * j)))] [] M := by
  refine Bl_aload_1 (pc := 1285) dL_law_1285 ?_
  refine Bl_aload_0 (pc := 1286) dL_law_1286 ?_
  refine Bl_iload_3 (pc := 1287) dL_law_1287 ?_
  refine Bl_iconst (v := 1) (pc := 1288) dL_law_1288 (by decide) ?_
  refine Bl_iadd (pc := 1289) dL_law_1289 ?_
  refine Bl_sld (j := 5 * j + 1) (pc := 1290) dL_law_1290 (sx (c := 1) hj hL (by decide)).1 (sx (c := 1) hj hL (by decide)).2 ?_
  refine Bl_aload_0 (pc := 1291) dL_law_1291 ?_
  refine Bl_iload_3 (pc := 1292) dL_law_1292 ?_
  refine Bl_iconst (v := 2) (pc := 1293) dL_law_1293 (by decide) ?_
  refine Bl_iadd (pc := 1294) dL_law_1294 ?_
  refine Bl_sld (j := 5 * j + 2) (pc := 1295) dL_law_1295 (sx (c := 2) hj hL (by decide)).1 (sx (c := 2) hj hL (by decide)).2 ?_
  refine Bl_aload_0 (pc := 1296) dL_law_1296 ?_
  refine Bl_iload_3 (pc := 1297) dL_law_1297 ?_
  refine Bl_iconst (v := 3) (pc := 1298) dL_law_1298 (by decide) ?_
  refine Bl_iadd (pc := 1299) dL_law_1299 ?_
  refine Bl_sld (j := 5 * j + 3) (pc := 1300) dL_law_1300 (sx (c := 3) hj hL (by decide)).1 (sx (c := 3) hj hL (by decide)).2 ?_
  refine Bl_aload_0 (pc := 1301) dL_law_1301 ?_
  refine Bl_iload_3 (pc := 1302) dL_law_1302 ?_
  refine Bl_iconst (v := 4) (pc := 1303) dL_law_1303 (by decide) ?_
  refine Bl_iadd (pc := 1304) dL_law_1304 ?_
  refine Bl_sld (j := 5 * j + 4) (pc := 1305) dL_law_1305 (sx (c := 4) hj hL (by decide)).1 (sx (c := 4) hj hL (by decide)).2 ?_
  refine Bl_call4 (cd := mX7_read) (pc := 1306) dL_law_1306 k_758 v_X7_read ⟨(Nat.le_of_ble_eq_true rfl), (Nat.le_of_ble_eq_true rfl)⟩ rfl rfl (sem_X7_read h.1) (Nat.le_of_ble_eq_true rfl) (fun v sh1 U hU => ?_)
  obtain ⟨r1, rfl, rfl, hU⟩ := hU
  have hi := Hi_read hU
  refine Bl_aload_2 (pc := 1309) dL_law_1309 ?_
  refine Bl_aload_0 (pc := 1310) dL_law_1310 ?_
  refine Bl_iload_3 (pc := 1311) dL_law_1311 ?_
  refine Bl_iconst (v := 1) (pc := 1312) dL_law_1312 (by decide) ?_
  refine Bl_iadd (pc := 1313) dL_law_1313 ?_
  refine Bl_sld (j := 5 * j + 1) (pc := 1314) dL_law_1314 (sx (c := 1) hj hL (by decide)).1 (sx (c := 1) hj hL (by decide)).2 ?_
  refine Bl_aload_0 (pc := 1315) dL_law_1315 ?_
  refine Bl_iload_3 (pc := 1316) dL_law_1316 ?_
  refine Bl_iconst (v := 2) (pc := 1317) dL_law_1317 (by decide) ?_
  refine Bl_iadd (pc := 1318) dL_law_1318 ?_
  refine Bl_sld (j := 5 * j + 2) (pc := 1319) dL_law_1319 (sx (c := 2) hj hL (by decide)).1 (sx (c := 2) hj hL (by decide)).2 ?_
  refine Bl_aload_0 (pc := 1320) dL_law_1320 ?_
  refine Bl_iload_3 (pc := 1321) dL_law_1321 ?_
  refine Bl_iconst (v := 3) (pc := 1322) dL_law_1322 (by decide) ?_
  refine Bl_iadd (pc := 1323) dL_law_1323 ?_
  refine Bl_sld (j := 5 * j + 3) (pc := 1324) dL_law_1324 (sx (c := 3) hj hL (by decide)).1 (sx (c := 3) hj hL (by decide)).2 ?_
  refine Bl_aload_0 (pc := 1325) dL_law_1325 ?_
  refine Bl_iload_3 (pc := 1326) dL_law_1326 ?_
  refine Bl_iconst (v := 4) (pc := 1327) dL_law_1327 (by decide) ?_
  refine Bl_iadd (pc := 1328) dL_law_1328 ?_
  refine Bl_sld (j := 5 * j + 4) (pc := 1329) dL_law_1329 (sx (c := 4) hj hL (by decide)).1 (sx (c := 4) hj hL (by decide)).2 ?_
  refine Bl_call4 (cd := mX8_read) (pc := 1330) dL_law_1330 k_1223 v_X8_read ⟨(Nat.le_of_ble_eq_true rfl), (Nat.le_of_ble_eq_true rfl)⟩ rfl rfl (sem_X8_read0 (h.rf hi)) (Nat.le_of_ble_eq_true rfl) (fun v sh2 N hN => ?_)
  obtain ⟨r2, rfl, rfl, K, hK, rp⟩ := hN
  obtain ⟨e3, rfl⟩ := read_fn hU hK
  exact Bl_icmp_eq (t := 1374) (pc := 1333) dL_law_1333 (by decide) (fun _ => k _ _ (LI_n (WF_read h.1 hU) rp)) (fun b => absurd (e3) b)
theorem case_38 {b LL j : Nat} {xs : Nat → Int32} {G : GD} {M : Mem} (hj : 5 * j + 5 ≤ LL) (hL : LL ≤ 2560) (h : LI M) (k : ∀ (G : GD) (N : Mem), LI N → Bl b LL xs G SH 1374 [some (.ref 140), some (.ref 0), some (.ref 58), some (.int (nI (5 * j)))] [] N) : Bl b LL xs G SH 1338 [some (.ref 140), some (.ref 0), some (.ref 58), some (.int (nI (5 * j)))] [] M := by
  refine Bl_aload_1 (pc := 1338) dL_law_1338 ?_
  refine Bl_call0 (cd := mX7_torn) (pc := 1339) dL_law_1339 k_772 v_X7_torn ⟨(Nat.le_of_ble_eq_true rfl), (Nat.le_of_ble_eq_true rfl)⟩ rfl rfl sem_X7_torn (Nat.le_of_ble_eq_true rfl) (fun v sh1 U hU => ?_)
  obtain ⟨rfl, rfl, rfl⟩ := hU
  refine Bl_aload_2 (pc := 1342) dL_law_1342 ?_
  refine Bl_call0 (cd := mX8_torn) (pc := 1343) dL_law_1343 k_1228 v_X8_torn ⟨(Nat.le_of_ble_eq_true rfl), (Nat.le_of_ble_eq_true rfl)⟩ rfl rfl (sem_X8_torn (h.rf (Hi.rf))) (Nat.le_of_ble_eq_true rfl) (fun v sh2 N hN => ?_)
  obtain ⟨r2, rfl, rfl, e2, rp⟩ := hN
  exact Bl_icmp_eq (t := 1374) (pc := 1346) dL_law_1346 (by decide) (fun _ => k _ _ (LI_n h.1 rp)) (fun b => absurd (e2.symm) b)
theorem case_39 {b LL j : Nat} {xs : Nat → Int32} {G : GD} {M : Mem} (hj : 5 * j + 5 ≤ LL) (hL : LL ≤ 2560) (h : LI M) (k : ∀ (G : GD) (N : Mem), LI N → Bl b LL xs G SH 1374 [some (.ref 140), some (.ref 0), some (.ref 58), some (.int (nI (5 * j)))] [] N) : Bl b LL xs G SH 1351 [some (.ref 140), some (.ref 0), some (.ref 58), some (.int (nI (5 * j)))] [] M := by
  refine Bl_aload_1 (pc := 1351) dL_law_1351 ?_
  refine Bl_aload_0 (pc := 1352) dL_law_1352 ?_
  refine Bl_iload_3 (pc := 1353) dL_law_1353 ?_
  refine Bl_iconst (v := 1) (pc := 1354) dL_law_1354 (by decide) ?_
  refine Bl_iadd (pc := 1355) dL_law_1355 ?_
  refine Bl_sld (j := 5 * j + 1) (pc := 1356) dL_law_1356 (sx (c := 1) hj hL (by decide)).1 (sx (c := 1) hj hL (by decide)).2 ?_
  refine Bl_call1 (cd := mX7_count) (pc := 1357) dL_law_1357 k_776 v_X7_count ⟨(Nat.le_of_ble_eq_true rfl), (Nat.le_of_ble_eq_true rfl)⟩ rfl rfl sem_X7_count (Nat.le_of_ble_eq_true rfl) (fun v sh1 U hU => ?_)
  obtain ⟨rfl, rfl, rfl⟩ := hU
  refine Bl_aload_2 (pc := 1360) dL_law_1360 ?_
  refine Bl_aload_0 (pc := 1361) dL_law_1361 ?_
  refine Bl_iload_3 (pc := 1362) dL_law_1362 ?_
  refine Bl_iconst (v := 1) (pc := 1363) dL_law_1363 (by decide) ?_
  refine Bl_iadd (pc := 1364) dL_law_1364 ?_
  refine Bl_sld (j := 5 * j + 1) (pc := 1365) dL_law_1365 (sx (c := 1) hj hL (by decide)).1 (sx (c := 1) hj hL (by decide)).2 ?_
  refine Bl_call1 (cd := mX8_count) (pc := 1366) dL_law_1366 k_1232 v_X8_count ⟨(Nat.le_of_ble_eq_true rfl), (Nat.le_of_ble_eq_true rfl)⟩ rfl rfl (sem_X8_count (h.rf (Hi.rf))) (Nat.le_of_ble_eq_true rfl) (fun v sh2 N hN => ?_)
  obtain ⟨r2, rfl, rfl, e2, rp⟩ := hN
  exact Bl_icmp_eq (t := 1374) (pc := 1369) dL_law_1369 (by decide) (fun _ => k _ _ (LI_n h.1 rp)) (fun b => absurd (e2.symm) b)
