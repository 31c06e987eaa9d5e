/-- what holds all along the law's body, over a script of seven numbers -/
def zLw (p : Program) (l : Launch) (s : State) (m : MethodId) (c : Code) (b : Nat) (xs : Nat → Int32) (A : Nat → Prop) (sa : Nat → Nat) (ea : Nat) (bd : Nat → Nat) : Prop := p.tables.exec = Jvm.exec ∧ c.code = code ∧ c.maxLocals = 9 ∧ s.vm.findClass RL = some m.cls ∧ (∀ w ∈ WA, w.before #[Value.ref b] s = true) ∧ va_X b 7 xs s s.heap ∧ b < s.heap.size ∧ ¬ A b ∧ (∀ q, s.heap.size ≤ q → A q) ∧ ZT sa s ∧ ZH A s s.heap ∧ ZE ea A s s.heap ∧ ZQ ea A s s.heap ∧ l.stackTraces = false ∧ ea = bd 7
abbrev zW0 (ad bd : Nat → Nat) (kC kI kO kD : ClassId) (oa od : Nat) : va_W := [((ad 0), .inr (10, [.ref (ad 1), .ref (ad 2), .ref (ad 3), .ref (ad 4), .ref (ad 5), .int (-1), .int 100, .int 0, .int 0])), ((ad 1), .inr (7, [.ref (ad 6), .ref (ad 7), .ref (ad 8), .int 0])), ((ad 2), .inr (8, [.ref (ad 9), .ref (ad 10), .int 0])), ((ad 3), .inr (4, [.int 0, .ref (ad 14), .int 0])), ((ad 4), .inr (4, [.int 0, .ref (ad 14), .int 0])), ((ad 5), .inr (6, [.ref (ad 11), .ref (ad 12), .ref (ad 13), .int 0, .int 0])), ((bd 0), .inr (14, [.ref (bd 1), .ref (bd 2), .ref (bd 3), .ref (bd 4), .ref (bd 5), .ref (bd 6), .int 100, .int (-1), .int 0, .int 0])), ((bd 1), .inr (4, [.int 0, .ref (bd 7), .int 0])), ((bd 2), .inr (4, [.int 0, .ref (bd 7), .int 0])), ((bd 3), .inr (4, [.int 0, .ref (bd 7), .int 0])), ((bd 4), .inr (4, [.int 0, .ref (bd 7), .int 0])), ((bd 5), .inr (4, [.int 0, .ref (bd 7), .int 0])), ((bd 6), .inr (4, [.int 0, .ref (bd 7), .int 0])), ((ad 6), .inl (kC, 12, .inl (fun _ => 0))), ((ad 7), .inl (kI, 36, .inl (fun _ => 0))), (oa, .inl (kO, 1, .inr (.inl (fun _ => 0)))), (od, .inl (kD, 1, .inr (.inr (.inr (.inl (fun _ => 0))))))]
/-- the state ahead of the call -/
def zSt (D : va_G) (s : State) (A : Nat → Prop) (ad bd : Nat → Nat) (kC kI kO kD : ClassId) (oa od b : Nat) (H : Heap) (locs : List Loc) (ls : Array Slot) : Prop := va_K D vwCl [(kC, .char), (kI, .int), (kO, .long), (kD, .double)] s ∧ va_P D vwCl (zW0 ad bd kC kI kO kD oa od) H ∧ va_D A (zW0 ad bd kC kI kO kD oa od) ∧ va_S A s.heap H locs ∧ lv_has ls 9 [(5, .int 0), (4, .ref od), (3, .ref oa), (2, .ref (bd 0)), (1, .ref (ad 0)), (0, .ref b)]
theorem dL_law_256 : decode cL_law 256 = .ok (.aload_n 1, 1) := by decide +kernel
theorem dL_law_257 : decode cL_law 257 = .ok (.aload_n 0, 1) := by decide +kernel
theorem dL_law_258 : decode cL_law 258 = .ok (.iload 5, 2) := by decide +kernel
theorem dL_law_260 : decode cL_law 260 = .ok (.iconst 1, 1) := by decide +kernel
theorem dL_law_261 : decode cL_law 261 = .ok (.iadd, 1) := by decide +kernel
theorem dL_law_262 : decode cL_law 262 = .ok (.iaload, 1) := by decide +kernel
theorem dL_law_263 : decode cL_law 263 = .ok (.i2c, 1) := by decide +kernel
theorem dL_law_264 : decode cL_law 264 = .ok (.aload_n 0, 1) := by decide +kernel
theorem dL_law_265 : decode cL_law 265 = .ok (.iload 5, 2) := by decide +kernel
theorem dL_law_267 : decode cL_law 267 = .ok (.iconst 2, 1) := by decide +kernel
theorem dL_law_268 : decode cL_law 268 = .ok (.iadd, 1) := by decide +kernel
theorem dL_law_269 : decode cL_law 269 = .ok (.iaload, 1) := by decide +kernel
theorem dL_law_270 : decode cL_law 270 = .ok (.aload_n 0, 1) := by decide +kernel
theorem dL_law_271 : decode cL_law 271 = .ok (.iload 5, 2) := by decide +kernel
theorem dL_law_273 : decode cL_law 273 = .ok (.iconst 3, 1) := by decide +kernel
theorem dL_law_274 : decode cL_law 274 = .ok (.iadd, 1) := by decide +kernel
theorem dL_law_275 : decode cL_law 275 = .ok (.iaload, 1) := by decide +kernel
theorem dL_law_276 : decode cL_law 276 = .ok (.aload_n 0, 1) := by decide +kernel
theorem dL_law_277 : decode cL_law 277 = .ok (.iload 5, 2) := by decide +kernel
theorem dL_law_279 : decode cL_law 279 = .ok (.iconst 4, 1) := by decide +kernel
theorem dL_law_280 : decode cL_law 280 = .ok (.iadd, 1) := by decide +kernel
theorem dL_law_281 : decode cL_law 281 = .ok (.iaload, 1) := by decide +kernel
theorem dL_law_282 : decode cL_law 282 = .ok (.aload_n 3, 1) := by decide +kernel
theorem dL_law_283 : decode cL_law 283 = .ok (.invokestatic 173, 3) := by decide +kernel
theorem zm_332 : Cond.methodLink RL 173 yL_addShade ∈ WA := zmm (i := 332) (by decide +kernel) (by decide +kernel)
theorem zm_333 : Cond.static yL_addShade ∈ WA := zmm (i := 333) (by decide +kernel) (by decide +kernel)
theorem zm_44 : Cond.initialized RL ∈ WA := zmm (i := 44) (by decide +kernel) (by decide +kernel)
theorem zm_334 : Cond.codeWith yL_addShade method_3_code 7 (Option.some FieldType.int) [(0, 14, 17, 13), (0, 14, 21, 15), (0, 14, 25, 17)] ∈ WA := zmm (i := 334) (by decide +kernel) (by decide +kernel)
theorem dL_law_286 : decode cL_law 286 = .ok (.istore 6, 2) := by decide +kernel
theorem dL_law_288 : decode cL_law 288 = .ok (.aload_n 2, 1) := by decide +kernel
theorem dL_law_289 : decode cL_law 289 = .ok (.aload_n 0, 1) := by decide +kernel
theorem dL_law_290 : decode cL_law 290 = .ok (.iload 5, 2) := by decide +kernel
theorem dL_law_292 : decode cL_law 292 = .ok (.iconst 1, 1) := by decide +kernel
theorem dL_law_293 : decode cL_law 293 = .ok (.iadd, 1) := by decide +kernel
theorem dL_law_294 : decode cL_law 294 = .ok (.iaload, 1) := by decide +kernel
theorem dL_law_295 : decode cL_law 295 = .ok (.i2c, 1) := by decide +kernel
theorem dL_law_296 : decode cL_law 296 = .ok (.aload_n 0, 1) := by decide +kernel
theorem dL_law_297 : decode cL_law 297 = .ok (.iload 5, 2) := by decide +kernel
theorem dL_law_299 : decode cL_law 299 = .ok (.iconst 2, 1) := by decide +kernel
theorem dL_law_300 : decode cL_law 300 = .ok (.iadd, 1) := by decide +kernel
theorem dL_law_301 : decode cL_law 301 = .ok (.iaload, 1) := by decide +kernel
theorem dL_law_302 : decode cL_law 302 = .ok (.aload_n 0, 1) := by decide +kernel
theorem dL_law_303 : decode cL_law 303 = .ok (.iload 5, 2) := by decide +kernel
theorem dL_law_305 : decode cL_law 305 = .ok (.iconst 3, 1) := by decide +kernel
theorem dL_law_306 : decode cL_law 306 = .ok (.iadd, 1) := by decide +kernel
theorem dL_law_307 : decode cL_law 307 = .ok (.iaload, 1) := by decide +kernel
theorem dL_law_308 : decode cL_law 308 = .ok (.aload_n 0, 1) := by decide +kernel
theorem dL_law_309 : decode cL_law 309 = .ok (.iload 5, 2) := by decide +kernel
theorem dL_law_311 : decode cL_law 311 = .ok (.iconst 4, 1) := by decide +kernel
theorem dL_law_312 : decode cL_law 312 = .ok (.iadd, 1) := by decide +kernel
theorem dL_law_313 : decode cL_law 313 = .ok (.iaload, 1) := by decide +kernel
theorem dL_law_314 : decode cL_law 314 = .ok (.invokevirtual 178, 3) := by decide +kernel
theorem zm_1307 : Cond.methodLink RL 178 yX9_addShade ∈ WA := zmm (i := 1307) (by decide +kernel) (by decide +kernel)
theorem zm_1308 : Cond.instanceMethod yX9_addShade ∈ WA := zmm (i := 1308) (by decide +kernel) (by decide +kernel)
theorem zm_1309 : Cond.selects RX9 yX9_addShade yX9_addShade ∈ WA := zmm (i := 1309) (by decide +kernel) (by decide +kernel)
theorem zm_1310 : Cond.code yX9_addShade prog_8_method_7_code 8 (Option.some FieldType.int) ∈ WA := zmm (i := 1310) (by decide +kernel) (by decide +kernel)
theorem dL_law_317 : decode cL_law 317 = .ok (.istore 7, 2) := by decide +kernel
theorem dL_law_319 : decode cL_law 319 = .ok (.aload_n 2, 1) := by decide +kernel
theorem dL_law_320 : decode cL_law 320 = .ok (.invokevirtual 179, 3) := by decide +kernel
theorem zm_1303 : Cond.methodLink RL 179 yX9_thrown ∈ WA := zmm (i := 1303) (by decide +kernel) (by decide +kernel)
theorem zm_1304 : Cond.instanceMethod yX9_thrown ∈ WA := zmm (i := 1304) (by decide +kernel) (by decide +kernel)
theorem zm_1305 : Cond.selects RX9 yX9_thrown yX9_thrown ∈ WA := zmm (i := 1305) (by decide +kernel) (by decide +kernel)
theorem zm_1306 : Cond.code yX9_thrown prog_8_method_2_code 1 (Option.some FieldType.int) ∈ WA := zmm (i := 1306) (by decide +kernel) (by decide +kernel)
theorem dL_law_323 : decode cL_law 323 = .ok (.iload 6, 2) := by decide +kernel
theorem dL_law_325 : decode cL_law 325 = .ok (.if_icmp .eq 5, 3) := by decide +kernel
theorem dL_law_330 : decode cL_law 330 = .ok (.iload 6, 2) := by decide +kernel
theorem dL_law_332 : decode cL_law 332 = .ok (.ifCond .ne 15, 3) := by decide +kernel
theorem dL_law_347 : decode cL_law 347 = .ok (.goto 3102, 3) := by decide +kernel
theorem dL_law_335 : decode cL_law 335 = .ok (.aload_n 3, 1) := by decide +kernel
theorem dL_law_336 : decode cL_law 336 = .ok (.iconst 0, 1) := by decide +kernel
theorem dL_law_337 : decode cL_law 337 = .ok (.laload, 1) := by decide +kernel
theorem dL_law_338 : decode cL_law 338 = .ok (.iload 7, 2) := by decide +kernel
theorem dL_law_340 : decode cL_law 340 = .ok (.i2l, 1) := by decide +kernel
theorem dL_law_341 : decode cL_law 341 = .ok (.lcmp, 1) := by decide +kernel
theorem dL_law_342 : decode cL_law 342 = .ok (.ifCond .eq 5, 3) := by decide +kernel
set_option maxHeartbeats 4000000 in
set_option maxRecDepth 100000 in
theorem law_0 {p : Program} {e : Env} {s : State} {m : MethodId} {below : List Frame} {meth : Method} {c : Code} {l : Launch} {D : va_G} {A : Nat → Prop} {sa : Nat → Nat} {ea : Nat} {ad bd : Nat → Nat} {kC kI kO kD : ClassId} {oa od b : Nat} {xs : Nat → Int32} {Q : State → Prop} (C1 : zLw p l s m c b xs A sa ea bd) (hend : ∀ (H : Heap) (locs : List Loc) (ls : Array Slot), va_S A s.heap H locs → lv_has ls 9 [(5, .int 0), (0, .ref b)] → W p l e room_1 s m #[Value.ref b] below meth c H locs 2000 20000 Q (F0 m 3449 ls [])) {H : Heap} {locs : List Loc} {ls : Array Slot} (C2 : zSt D s A ad bd kC kI kO kD oa od b H locs ls) : W p l e room_1 s m #[Value.ref b] below meth c H locs 1000 10000 Q (F0 m 256 ls []) := by
  obtain ⟨hx, hb, hml, hown, hw, hX, hbl, hbA, hA, hT, hZ, hE, hQ, hst, he⟩ := C1
  obtain ⟨hK, hP, hD, hS, hl⟩ := C2
  have hP : va_P D vwCl [((ad 0), .inr (10, [.ref (ad 1), .ref (ad 2), .ref (ad 3), .ref (ad 4), .ref (ad 5), .int (-1), .int 100, .int 0, .int 0])), ((ad 1), .inr (7, [.ref (ad 6), .ref (ad 7), .ref (ad 8), .int 0])), ((ad 2), .inr (8, [.ref (ad 9), .ref (ad 10), .int 0])), ((ad 3), .inr (4, [.int 0, .ref (ad 14), .int 0])), ((ad 4), .inr (4, [.int 0, .ref (ad 14), .int 0])), ((ad 5), .inr (6, [.ref (ad 11), .ref (ad 12), .ref (ad 13), .int 0, .int 0])), ((bd 0), .inr (14, [.ref (bd 1), .ref (bd 2), .ref (bd 3), .ref (bd 4), .ref (bd 5), .ref (bd 6), .int 100, .int (-1), .int 0, .int 0])), ((bd 1), .inr (4, [.int 0, .ref (bd 7), .int 0])), ((bd 2), .inr (4, [.int 0, .ref (bd 7), .int 0])), ((bd 3), .inr (4, [.int 0, .ref (bd 7), .int 0])), ((bd 4), .inr (4, [.int 0, .ref (bd 7), .int 0])), ((bd 5), .inr (4, [.int 0, .ref (bd 7), .int 0])), ((bd 6), .inr (4, [.int 0, .ref (bd 7), .int 0])), ((ad 6), .inl (kC, 12, .inl (fun _ => 0))), ((ad 7), .inl (kI, 36, .inl (fun _ => 0))), (oa, .inl (kO, 1, .inr (.inl (fun _ => 0)))), (od, .inl (kD, 1, .inr (.inr (.inr (.inl (fun _ => 0))))))] H := hP
  have hD : va_D A [((ad 0), .inr (10, [.ref (ad 1), .ref (ad 2), .ref (ad 3), .ref (ad 4), .ref (ad 5), .int (-1), .int 100, .int 0, .int 0])), ((ad 1), .inr (7, [.ref (ad 6), .ref (ad 7), .ref (ad 8), .int 0])), ((ad 2), .inr (8, [.ref (ad 9), .ref (ad 10), .int 0])), ((ad 3), .inr (4, [.int 0, .ref (ad 14), .int 0])), ((ad 4), .inr (4, [.int 0, .ref (ad 14), .int 0])), ((ad 5), .inr (6, [.ref (ad 11), .ref (ad 12), .ref (ad 13), .int 0, .int 0])), ((bd 0), .inr (14, [.ref (bd 1), .ref (bd 2), .ref (bd 3), .ref (bd 4), .ref (bd 5), .ref (bd 6), .int 100, .int (-1), .int 0, .int 0])), ((bd 1), .inr (4, [.int 0, .ref (bd 7), .int 0])), ((bd 2), .inr (4, [.int 0, .ref (bd 7), .int 0])), ((bd 3), .inr (4, [.int 0, .ref (bd 7), .int 0])), ((bd 4), .inr (4, [.int 0, .ref (bd 7), .int 0])), ((bd 5), .inr (4, [.int 0, .ref (bd 7), .int 0])), ((bd 6), .inr (4, [.int 0, .ref (bd 7), .int 0])), ((ad 6), .inl (kC, 12, .inl (fun _ => 0))), ((ad 7), .inl (kI, 36, .inl (fun _ => 0))), (oa, .inl (kO, 1, .inr (.inl (fun _ => 0)))), (od, .inl (kD, 1, .inr (.inr (.inr (.inl (fun _ => 0))))))] := hD
  refine lv_aload_n hx hb dL_law_256 rfl (lv_at hl 4 rfl) ?_
  refine lv_aload_n hx hb dL_law_257 rfl (lv_at hl 5 rfl) ?_
  refine lv_iload hx hb dL_law_258 (lv_at hl 0 rfl) ?_
  refine lv_iconst (v := 1) hx hb dL_law_260 (by decide) ?_
  refine lv_iadd hx hb dL_law_261 ?_
  refine lv_topi (fun f_1 ef_1 => ?_)
  obtain rfl : f_1 = 1 := ef_1.trans (by decide)
  refine va_sld (i := 1) hx hb hX hbl hbA hS (by unfold vp_in; decide) dL_law_262 ?_
  refine lv_i2c hx hb dL_law_263 rfl ?_
  refine lv_aload_n hx hb dL_law_264 rfl (lv_at hl 5 rfl) ?_
  refine lv_iload hx hb dL_law_265 (lv_at hl 0 rfl) ?_
  refine lv_iconst (v := 2) hx hb dL_law_267 (by decide) ?_
  refine lv_iadd hx hb dL_law_268 ?_
  refine lv_topi (fun f_3 ef_3 => ?_)
  obtain rfl : f_3 = 2 := ef_3.trans (by decide)
  refine va_sld (i := 2) hx hb hX hbl hbA hS (by unfold vp_in; decide) dL_law_269 ?_
  refine lv_aload_n hx hb dL_law_270 rfl (lv_at hl 5 rfl) ?_
  refine lv_iload hx hb dL_law_271 (lv_at hl 0 rfl) ?_
  refine lv_iconst (v := 3) hx hb dL_law_273 (by decide) ?_
  refine lv_iadd hx hb dL_law_274 ?_
  refine lv_topi (fun f_4 ef_4 => ?_)
  obtain rfl : f_4 = 3 := ef_4.trans (by decide)
  refine va_sld (i := 3) hx hb hX hbl hbA hS (by unfold vp_in; decide) dL_law_275 ?_
  refine lv_aload_n hx hb dL_law_276 rfl (lv_at hl 5 rfl) ?_
  refine lv_iload hx hb dL_law_277 (lv_at hl 0 rfl) ?_
  refine lv_iconst (v := 4) hx hb dL_law_279 (by decide) ?_
  refine lv_iadd hx hb dL_law_280 ?_
  refine lv_topi (fun f_5 ef_5 => ?_)
  obtain rfl : f_5 = 4 := ef_5.trans (by decide)
  refine va_sld (i := 4) hx hb hX hbl hbA hS (by unfold vp_in; decide) dL_law_281 ?_
  refine lv_aload_n hx hb dL_law_282 rfl (lv_at hl 2 rfl) ?_
  rcases z_two (((xs (Int32.toNatClampNeg 1)).toUInt32 % 65536).toInt32) 65 90 with h_6 | h_6
  · have hPc := hP.sub (ws' := [((ad 0), .inr (10, [.ref (ad 1), .ref (ad 2), .ref (ad 3), .ref (ad 4), .ref (ad 5), .int (-1), .int 100, .int 0, .int 0])), ((ad 1), .inr (7, [.ref (ad 6), .ref (ad 7), .ref (ad 8), .int 0])), ((ad 2), .inr (8, [.ref (ad 9), .ref (ad 10), .int 0])), ((ad 3), .inr (4, [.int 0, .ref (ad 14), .int 0])), ((ad 4), .inr (4, [.int 0, .ref (ad 14), .int 0])), ((ad 5), .inr (6, [.ref (ad 11), .ref (ad 12), .ref (ad 13), .int 0, .int 0]))]) [0, 1, 2, 3, 4, 5] rfl
    refine vx_calli (vx_runSX (As := [.ref (ad 0), .int (((xs (Int32.toNatClampNeg 1)).toUInt32 % 65536).toInt32), .int (xs (Int32.toNatClampNeg 2)), .int (xs (Int32.toNatClampNeg 3)), .int (xs (Int32.toNatClampNeg 4)), .ref oa]) (rest := []) ⟨hx, hb, hml, hown, hw⟩ (c_L_addShade0 l hst D sa ad _ (((xs (Int32.toNatClampNeg 1)).toUInt32 % 65536).toInt32) (xs (Int32.toNatClampNeg 2)) (xs (Int32.toNatClampNeg 3)) (xs (Int32.toNatClampNeg 4)) oa h_6) (vx_cwSW 6 hw (zg3 zm_332 zm_333 zm_44 zm_334) rfl rfl rfl (by decide +kernel) ⟨Nat.le_of_ble_eq_true rfl, Nat.le_of_ble_eq_true rfl⟩) ⟨zR_blind, zR_pre hPc hK hT hZ hS hA⟩ rfl rfl hl.1 rfl (lv_room (Nat.le_of_ble_eq_true rfl)) dL_law_283 ⟨Nat.le_of_ble_eq_true rfl, Nat.le_of_ble_eq_true rfl⟩) hS zN_in (zN_fr hS hA) zN_in (fun E ce q9 u t H1 locs1 ht hvm hu hE => hE.elim) (fun r_7 u t H locs ht hvm hw1 hB hz1 hk1 hS => ?_)
    have hP := zN_keep hP hk1
    subst hw1
    refine lv_istore (lv' := [(6, .int 1), (5, .int 0), (4, .ref od), (3, .ref oa), (2, .ref (bd 0)), (1, .ref (ad 0)), (0, .ref b)]) hx hb dL_law_286 hl (by decide) rfl (fun ls hl => ?_)
    refine lv_aload_n hx hb dL_law_288 rfl (lv_at hl 4 rfl) ?_
    refine lv_aload_n hx hb dL_law_289 rfl (lv_at hl 6 rfl) ?_
    refine lv_iload hx hb dL_law_290 (lv_at hl 1 rfl) ?_
    refine lv_iconst (v := 1) hx hb dL_law_292 (by decide) ?_
    refine lv_iadd hx hb dL_law_293 ?_
    refine lv_topi (fun f_8 ef_8 => ?_)
    obtain rfl : f_8 = 1 := ef_8.trans (by decide)
    refine va_sld (i := 1) hx hb hX hbl hbA hS (by unfold vp_in; decide) dL_law_294 ?_
    refine lv_i2c hx hb dL_law_295 rfl ?_
    refine lv_aload_n hx hb dL_law_296 rfl (lv_at hl 6 rfl) ?_
    refine lv_iload hx hb dL_law_297 (lv_at hl 1 rfl) ?_
    refine lv_iconst (v := 2) hx hb dL_law_299 (by decide) ?_
    refine lv_iadd hx hb dL_law_300 ?_
    refine lv_topi (fun f_10 ef_10 => ?_)
    obtain rfl : f_10 = 2 := ef_10.trans (by decide)
    refine va_sld (i := 2) hx hb hX hbl hbA hS (by unfold vp_in; decide) dL_law_301 ?_
    refine lv_aload_n hx hb dL_law_302 rfl (lv_at hl 6 rfl) ?_
    refine lv_iload hx hb dL_law_303 (lv_at hl 1 rfl) ?_
    refine lv_iconst (v := 3) hx hb dL_law_305 (by decide) ?_
    refine lv_iadd hx hb dL_law_306 ?_
    refine lv_topi (fun f_11 ef_11 => ?_)
    obtain rfl : f_11 = 3 := ef_11.trans (by decide)
    refine va_sld (i := 3) hx hb hX hbl hbA hS (by unfold vp_in; decide) dL_law_307 ?_
    refine lv_aload_n hx hb dL_law_308 rfl (lv_at hl 6 rfl) ?_
    refine lv_iload hx hb dL_law_309 (lv_at hl 1 rfl) ?_
    refine lv_iconst (v := 4) hx hb dL_law_311 (by decide) ?_
    refine lv_iadd hx hb dL_law_312 ?_
    refine lv_topi (fun f_12 ef_12 => ?_)
    obtain rfl : f_12 = 4 := ef_12.trans (by decide)
    refine va_sld (i := 4) hx hb hX hbl hbA hS (by unfold vp_in; decide) dL_law_313 ?_
    have hPc := hP.sub (ws' := [((bd 0), .inr (14, [.ref (bd 1), .ref (bd 2), .ref (bd 3), .ref (bd 4), .ref (bd 5), .ref (bd 6), .int 100, .int (-1), .int 0, .int 0])), ((bd 1), .inr (4, [.int 0, .ref (bd 7), .int 0])), ((bd 2), .inr (4, [.int 0, .ref (bd 7), .int 0])), ((bd 3), .inr (4, [.int 0, .ref (bd 7), .int 0])), ((bd 4), .inr (4, [.int 0, .ref (bd 7), .int 0])), ((bd 5), .inr (4, [.int 0, .ref (bd 7), .int 0])), ((bd 6), .inr (4, [.int 0, .ref (bd 7), .int 0]))]) [6, 7, 8, 9, 10, 11, 12] rfl
    have hDc := hD.sub (ws' := [((bd 0), .inr (14, [.ref (bd 1), .ref (bd 2), .ref (bd 3), .ref (bd 4), .ref (bd 5), .ref (bd 6), .int 100, .int (-1), .int 0, .int 0])), ((bd 1), .inr (4, [.int 0, .ref (bd 7), .int 0])), ((bd 2), .inr (4, [.int 0, .ref (bd 7), .int 0])), ((bd 3), .inr (4, [.int 0, .ref (bd 7), .int 0])), ((bd 4), .inr (4, [.int 0, .ref (bd 7), .int 0])), ((bd 5), .inr (4, [.int 0, .ref (bd 7), .int 0])), ((bd 6), .inr (4, [.int 0, .ref (bd 7), .int 0]))]) [6, 7, 8, 9, 10, 11, 12] (by decide) rfl
    have hFc := va_free (wc := [((bd 0), .inr (14, [.ref (bd 1), .ref (bd 2), .ref (bd 3), .ref (bd 4), .ref (bd 5), .ref (bd 6), .int 100, .int (-1), .int 0, .int 0])), ((bd 1), .inr (4, [.int 0, .ref (bd 7), .int 0])), ((bd 2), .inr (4, [.int 0, .ref (bd 7), .int 0])), ((bd 3), .inr (4, [.int 0, .ref (bd 7), .int 0])), ((bd 4), .inr (4, [.int 0, .ref (bd 7), .int 0])), ((bd 5), .inr (4, [.int 0, .ref (bd 7), .int 0])), ((bd 6), .inr (4, [.int 0, .ref (bd 7), .int 0]))]) hD hS hA [6, 7, 8, 9, 10, 11, 12] rfl
    refine va_calli (va_runV (As := [.int (((xs (Int32.toNatClampNeg 1)).toUInt32 % 65536).toInt32), .int (xs (Int32.toNatClampNeg 2)), .int (xs (Int32.toNatClampNeg 3)), .int (xs (Int32.toNatClampNeg 4))]) (rest := []) ⟨hx, hb, hml, hown, hw⟩ (c_X9_addShade0 l D sa ea bd 0 _ (((xs (Int32.toNatClampNeg 1)).toUInt32 % 65536).toInt32) (xs (Int32.toNatClampNeg 2)) (xs (Int32.toNatClampNeg 3)) (xs (Int32.toNatClampNeg 4)) h_6) (cwV 4 hw (zg4 zm_1307 zm_1308 zm_1309 zm_53 zm_1310) rfl rfl rfl (by decide +kernel) ⟨Nat.le_of_ble_eq_true rfl, Nat.le_of_ble_eq_true rfl⟩) ⟨zW_blind, va_recv hK hPc (ci := 14) (q0 := 0) rfl rfl, zW_pre hPc (hK.sub (tys' := []) [] rfl) hDc hT hE hS hFc⟩ rfl rfl hl.1 rfl (lv_room (Nat.le_of_ble_eq_true rfl)) dL_law_314 ⟨Nat.le_of_ble_eq_true rfl, Nat.le_of_ble_eq_true rfl⟩) hS (fun q _ h => hFc q h) hFc (fun r_13 u t H locs ht hvm hw1 hB hz1 hk1 hS => ?_)
    subst hw1
    obtain ⟨hP1, hD1⟩ := hB
    rw [ht] at hP1
    obtain ⟨hP, hD⟩ := va_join (wr := [((ad 0), .inr (10, [.ref (ad 1), .ref (ad 2), .ref (ad 3), .ref (ad 4), .ref (ad 5), .int (-1), .int 100, .int 0, .int 0])), ((ad 1), .inr (7, [.ref (ad 6), .ref (ad 7), .ref (ad 8), .int 0])), ((ad 2), .inr (8, [.ref (ad 9), .ref (ad 10), .int 0])), ((ad 3), .inr (4, [.int 0, .ref (ad 14), .int 0])), ((ad 4), .inr (4, [.int 0, .ref (ad 14), .int 0])), ((ad 5), .inr (6, [.ref (ad 11), .ref (ad 12), .ref (ad 13), .int 0, .int 0])), ((ad 6), .inl (kC, 12, .inl (fun _ => 0))), ((ad 7), .inl (kI, 36, .inl (fun _ => 0))), (oa, .inl (kO, 1, .inr (.inl (fun _ => 0)))), (od, .inl (kD, 1, .inr (.inr (.inr (.inl (fun _ => 0))))))]) (w1 := [((bd 0), .inr (14, [.ref (bd 1), .ref (bd 2), .ref (bd 3), .ref (bd 4), .ref (bd 5), .ref (bd 6), .int 100, .int (-1), .int 0, .int 1])), ((bd 1), .inr (4, [.int 0, .ref (bd 7), .int 0])), ((bd 2), .inr (4, [.int 0, .ref (bd 7), .int 0])), ((bd 3), .inr (4, [.int 0, .ref (bd 7), .int 0])), ((bd 4), .inr (4, [.int 0, .ref (bd 7), .int 0])), ((bd 5), .inr (4, [.int 0, .ref (bd 7), .int 0])), ((bd 6), .inr (4, [.int 0, .ref (bd 7), .int 0]))]) hP hD [6, 7, 8, 9, 10, 11, 12] [0, 1, 2, 3, 4, 5, 13, 14, 15, 16] rfl rfl (by decide) (by decide) hk1 hFc hP1 hD1
    have hP : va_P D vwCl [((ad 0), .inr (10, [.ref (ad 1), .ref (ad 2), .ref (ad 3), .ref (ad 4), .ref (ad 5), .int (-1), .int 100, .int 0, .int 0])), ((ad 1), .inr (7, [.ref (ad 6), .ref (ad 7), .ref (ad 8), .int 0])), ((ad 2), .inr (8, [.ref (ad 9), .ref (ad 10), .int 0])), ((ad 3), .inr (4, [.int 0, .ref (ad 14), .int 0])), ((ad 4), .inr (4, [.int 0, .ref (ad 14), .int 0])), ((ad 5), .inr (6, [.ref (ad 11), .ref (ad 12), .ref (ad 13), .int 0, .int 0])), ((ad 6), .inl (kC, 12, .inl (fun _ => 0))), ((ad 7), .inl (kI, 36, .inl (fun _ => 0))), (oa, .inl (kO, 1, .inr (.inl (fun _ => 0)))), (od, .inl (kD, 1, .inr (.inr (.inr (.inl (fun _ => 0)))))), ((bd 0), .inr (14, [.ref (bd 1), .ref (bd 2), .ref (bd 3), .ref (bd 4), .ref (bd 5), .ref (bd 6), .int 100, .int (-1), .int 0, .int 1])), ((bd 1), .inr (4, [.int 0, .ref (bd 7), .int 0])), ((bd 2), .inr (4, [.int 0, .ref (bd 7), .int 0])), ((bd 3), .inr (4, [.int 0, .ref (bd 7), .int 0])), ((bd 4), .inr (4, [.int 0, .ref (bd 7), .int 0])), ((bd 5), .inr (4, [.int 0, .ref (bd 7), .int 0])), ((bd 6), .inr (4, [.int 0, .ref (bd 7), .int 0]))] H := hP
    have hD : va_D A [((ad 0), .inr (10, [.ref (ad 1), .ref (ad 2), .ref (ad 3), .ref (ad 4), .ref (ad 5), .int (-1), .int 100, .int 0, .int 0])), ((ad 1), .inr (7, [.ref (ad 6), .ref (ad 7), .ref (ad 8), .int 0])), ((ad 2), .inr (8, [.ref (ad 9), .ref (ad 10), .int 0])), ((ad 3), .inr (4, [.int 0, .ref (ad 14), .int 0])), ((ad 4), .inr (4, [.int 0, .ref (ad 14), .int 0])), ((ad 5), .inr (6, [.ref (ad 11), .ref (ad 12), .ref (ad 13), .int 0, .int 0])), ((ad 6), .inl (kC, 12, .inl (fun _ => 0))), ((ad 7), .inl (kI, 36, .inl (fun _ => 0))), (oa, .inl (kO, 1, .inr (.inl (fun _ => 0)))), (od, .inl (kD, 1, .inr (.inr (.inr (.inl (fun _ => 0)))))), ((bd 0), .inr (14, [.ref (bd 1), .ref (bd 2), .ref (bd 3), .ref (bd 4), .ref (bd 5), .ref (bd 6), .int 100, .int (-1), .int 0, .int 1])), ((bd 1), .inr (4, [.int 0, .ref (bd 7), .int 0])), ((bd 2), .inr (4, [.int 0, .ref (bd 7), .int 0])), ((bd 3), .inr (4, [.int 0, .ref (bd 7), .int 0])), ((bd 4), .inr (4, [.int 0, .ref (bd 7), .int 0])), ((bd 5), .inr (4, [.int 0, .ref (bd 7), .int 0])), ((bd 6), .inr (4, [.int 0, .ref (bd 7), .int 0]))] := hD
    have hK : va_K D vwCl [(kC, .char), (kI, .int), (kO, .long), (kD, .double)] s := hK
    refine lv_istore (lv' := [(7, .int 0), (6, .int 1), (5, .int 0), (4, .ref od), (3, .ref oa), (2, .ref (bd 0)), (1, .ref (ad 0)), (0, .ref b)]) hx hb dL_law_317 hl (by decide) rfl (fun ls hl => ?_)
    refine lv_aload_n hx hb dL_law_319 rfl (lv_at hl 5 rfl) ?_
    have hPc := hP.sub (ws' := [((bd 0), .inr (14, [.ref (bd 1), .ref (bd 2), .ref (bd 3), .ref (bd 4), .ref (bd 5), .ref (bd 6), .int 100, .int (-1), .int 0, .int 1])), ((bd 1), .inr (4, [.int 0, .ref (bd 7), .int 0])), ((bd 2), .inr (4, [.int 0, .ref (bd 7), .int 0])), ((bd 3), .inr (4, [.int 0, .ref (bd 7), .int 0])), ((bd 4), .inr (4, [.int 0, .ref (bd 7), .int 0])), ((bd 5), .inr (4, [.int 0, .ref (bd 7), .int 0])), ((bd 6), .inr (4, [.int 0, .ref (bd 7), .int 0]))]) [10, 11, 12, 13, 14, 15, 16] rfl
    refine va_calli (va_runV (As := []) (rest := []) ⟨hx, hb, hml, hown, hw⟩ (c_X9_thrown l D sa bd 1 _) (cwV 0 hw (zg4 zm_1303 zm_1304 zm_1305 zm_53 zm_1306) rfl rfl rfl (by decide +kernel) ⟨Nat.le_of_ble_eq_true rfl, Nat.le_of_ble_eq_true rfl⟩) ⟨zJ_blind, va_recv hK hPc (ci := 14) (q0 := 0) rfl rfl, zJ_pre hPc hK hT⟩ rfl rfl hl.1 rfl (lv_room (Nat.le_of_ble_eq_true rfl)) dL_law_320 ⟨Nat.le_of_ble_eq_true rfl, Nat.le_of_ble_eq_true rfl⟩) hS zN_in (zN_fr hS hA) (fun r_14 u t H locs ht hvm hw1 hB hz1 hk1 hS => ?_)
    have hP := zN_keep hP hk1
    subst hw1
    refine lv_iload hx hb dL_law_323 (lv_at hl 1 rfl) ?_
    refine lv_icmp_eq (tgt := 330) hx hb dL_law_325 (by decide) (fun _ => ?_) (fun c_15 => absurd (by decide) c_15)
    refine lv_iload hx hb dL_law_330 (lv_at hl 1 rfl) ?_
    refine lv_if_ne (tgt := 347) hx hb dL_law_332 (by decide) (fun _ => ?_) (fun c_16 => absurd c_16 (by decide))
    refine lv_goto (tgt := 3449) hx hb dL_law_347 (by decide) ?_
    refine W.widen (k := 2000) (n := 20000) (Nat.le_of_ble_eq_true rfl) (Nat.le_of_ble_eq_true rfl) ?_
    exact hend _ _ _ hS (lv_sub hl [2, 7] rfl)
  · rcases z_two (xs (Int32.toNatClampNeg 2)) 0 31 with h_17 | h_17
    · have hPc := hP.sub (ws' := [((ad 0), .inr (10, [.ref (ad 1), .ref (ad 2), .ref (ad 3), .ref (ad 4), .ref (ad 5), .int (-1), .int 100, .int 0, .int 0])), ((ad 1), .inr (7, [.ref (ad 6), .ref (ad 7), .ref (ad 8), .int 0])), ((ad 2), .inr (8, [.ref (ad 9), .ref (ad 10), .int 0])), ((ad 3), .inr (4, [.int 0, .ref (ad 14), .int 0])), ((ad 4), .inr (4, [.int 0, .ref (ad 14), .int 0])), ((ad 5), .inr (6, [.ref (ad 11), .ref (ad 12), .ref (ad 13), .int 0, .int 0]))]) [0, 1, 2, 3, 4, 5] rfl
      refine vx_calli (vx_runSX (As := [.ref (ad 0), .int (((xs (Int32.toNatClampNeg 1)).toUInt32 % 65536).toInt32), .int (xs (Int32.toNatClampNeg 2)), .int (xs (Int32.toNatClampNeg 3)), .int (xs (Int32.toNatClampNeg 4)), .ref oa]) (rest := []) ⟨hx, hb, hml, hown, hw⟩ (c_L_addShade1 l hst D sa ad _ (((xs (Int32.toNatClampNeg 1)).toUInt32 % 65536).toInt32) (xs (Int32.toNatClampNeg 2)) (xs (Int32.toNatClampNeg 3)) (xs (Int32.toNatClampNeg 4)) oa h_6 h_17) (vx_cwSW 6 hw (zg3 zm_332 zm_333 zm_44 zm_334) rfl rfl rfl (by decide +kernel) ⟨Nat.le_of_ble_eq_true rfl, Nat.le_of_ble_eq_true rfl⟩) ⟨zR_blind, zR_pre hPc hK hT hZ hS hA⟩ rfl rfl hl.1 rfl (lv_room (Nat.le_of_ble_eq_true rfl)) dL_law_283 ⟨Nat.le_of_ble_eq_true rfl, Nat.le_of_ble_eq_true rfl⟩) hS zN_in (zN_fr hS hA) zN_in (fun E ce q9 u t H1 locs1 ht hvm hu hE => hE.elim) (fun r_18 u t H locs ht hvm hw1 hB hz1 hk1 hS => ?_)
      have hP := zN_keep hP hk1
      subst hw1
      refine lv_istore (lv' := [(6, .int 1), (5, .int 0), (4, .ref od), (3, .ref oa), (2, .ref (bd 0)), (1, .ref (ad 0)), (0, .ref b)]) hx hb dL_law_286 hl (by decide) rfl (fun ls hl => ?_)
      refine lv_aload_n hx hb dL_law_288 rfl (lv_at hl 4 rfl) ?_
      refine lv_aload_n hx hb dL_law_289 rfl (lv_at hl 6 rfl) ?_
      refine lv_iload hx hb dL_law_290 (lv_at hl 1 rfl) ?_
      refine lv_iconst (v := 1) hx hb dL_law_292 (by decide) ?_
      refine lv_iadd hx hb dL_law_293 ?_
      refine lv_topi (fun f_19 ef_19 => ?_)
      obtain rfl : f_19 = 1 := ef_19.trans (by decide)
      refine va_sld (i := 1) hx hb hX hbl hbA hS (by unfold vp_in; decide) dL_law_294 ?_
      refine lv_i2c hx hb dL_law_295 rfl ?_
      refine lv_aload_n hx hb dL_law_296 rfl (lv_at hl 6 rfl) ?_
      refine lv_iload hx hb dL_law_297 (lv_at hl 1 rfl) ?_
      refine lv_iconst (v := 2) hx hb dL_law_299 (by decide) ?_
      refine lv_iadd hx hb dL_law_300 ?_
      refine lv_topi (fun f_21 ef_21 => ?_)
      obtain rfl : f_21 = 2 := ef_21.trans (by decide)
      refine va_sld (i := 2) hx hb hX hbl hbA hS (by unfold vp_in; decide) dL_law_301 ?_
      refine lv_aload_n hx hb dL_law_302 rfl (lv_at hl 6 rfl) ?_
      refine lv_iload hx hb dL_law_303 (lv_at hl 1 rfl) ?_
      refine lv_iconst (v := 3) hx hb dL_law_305 (by decide) ?_
      refine lv_iadd hx hb dL_law_306 ?_
      refine lv_topi (fun f_22 ef_22 => ?_)
      obtain rfl : f_22 = 3 := ef_22.trans (by decide)
      refine va_sld (i := 3) hx hb hX hbl hbA hS (by unfold vp_in; decide) dL_law_307 ?_
      refine lv_aload_n hx hb dL_law_308 rfl (lv_at hl 6 rfl) ?_
      refine lv_iload hx hb dL_law_309 (lv_at hl 1 rfl) ?_
      refine lv_iconst (v := 4) hx hb dL_law_311 (by decide) ?_
      refine lv_iadd hx hb dL_law_312 ?_
      refine lv_topi (fun f_23 ef_23 => ?_)
      obtain rfl : f_23 = 4 := ef_23.trans (by decide)
      refine va_sld (i := 4) hx hb hX hbl hbA hS (by unfold vp_in; decide) dL_law_313 ?_
      have hPc := hP.sub (ws' := [((bd 0), .inr (14, [.ref (bd 1), .ref (bd 2), .ref (bd 3), .ref (bd 4), .ref (bd 5), .ref (bd 6), .int 100, .int (-1), .int 0, .int 0])), ((bd 1), .inr (4, [.int 0, .ref (bd 7), .int 0])), ((bd 2), .inr (4, [.int 0, .ref (bd 7), .int 0])), ((bd 3), .inr (4, [.int 0, .ref (bd 7), .int 0])), ((bd 4), .inr (4, [.int 0, .ref (bd 7), .int 0])), ((bd 5), .inr (4, [.int 0, .ref (bd 7), .int 0])), ((bd 6), .inr (4, [.int 0, .ref (bd 7), .int 0]))]) [6, 7, 8, 9, 10, 11, 12] rfl
      have hDc := hD.sub (ws' := [((bd 0), .inr (14, [.ref (bd 1), .ref (bd 2), .ref (bd 3), .ref (bd 4), .ref (bd 5), .ref (bd 6), .int 100, .int (-1), .int 0, .int 0])), ((bd 1), .inr (4, [.int 0, .ref (bd 7), .int 0])), ((bd 2), .inr (4, [.int 0, .ref (bd 7), .int 0])), ((bd 3), .inr (4, [.int 0, .ref (bd 7), .int 0])), ((bd 4), .inr (4, [.int 0, .ref (bd 7), .int 0])), ((bd 5), .inr (4, [.int 0, .ref (bd 7), .int 0])), ((bd 6), .inr (4, [.int 0, .ref (bd 7), .int 0]))]) [6, 7, 8, 9, 10, 11, 12] (by decide) rfl
      have hFc := va_free (wc := [((bd 0), .inr (14, [.ref (bd 1), .ref (bd 2), .ref (bd 3), .ref (bd 4), .ref (bd 5), .ref (bd 6), .int 100, .int (-1), .int 0, .int 0])), ((bd 1), .inr (4, [.int 0, .ref (bd 7), .int 0])), ((bd 2), .inr (4, [.int 0, .ref (bd 7), .int 0])), ((bd 3), .inr (4, [.int 0, .ref (bd 7), .int 0])), ((bd 4), .inr (4, [.int 0, .ref (bd 7), .int 0])), ((bd 5), .inr (4, [.int 0, .ref (bd 7), .int 0])), ((bd 6), .inr (4, [.int 0, .ref (bd 7), .int 0]))]) hD hS hA [6, 7, 8, 9, 10, 11, 12] rfl
      refine va_calli (va_runV (As := [.int (((xs (Int32.toNatClampNeg 1)).toUInt32 % 65536).toInt32), .int (xs (Int32.toNatClampNeg 2)), .int (xs (Int32.toNatClampNeg 3)), .int (xs (Int32.toNatClampNeg 4))]) (rest := []) ⟨hx, hb, hml, hown, hw⟩ (c_X9_addShade1 l D sa ea bd 0 _ (((xs (Int32.toNatClampNeg 1)).toUInt32 % 65536).toInt32) (xs (Int32.toNatClampNeg 2)) (xs (Int32.toNatClampNeg 3)) (xs (Int32.toNatClampNeg 4)) h_6 h_17) (cwV 4 hw (zg4 zm_1307 zm_1308 zm_1309 zm_53 zm_1310) rfl rfl rfl (by decide +kernel) ⟨Nat.le_of_ble_eq_true rfl, Nat.le_of_ble_eq_true rfl⟩) ⟨zW_blind, va_recv hK hPc (ci := 14) (q0 := 0) rfl rfl, zW_pre hPc (hK.sub (tys' := []) [] rfl) hDc hT hE hS hFc⟩ rfl rfl hl.1 rfl (lv_room (Nat.le_of_ble_eq_true rfl)) dL_law_314 ⟨Nat.le_of_ble_eq_true rfl, Nat.le_of_ble_eq_true rfl⟩) hS (fun q _ h => hFc q h) hFc (fun r_24 u t H locs ht hvm hw1 hB hz1 hk1 hS => ?_)
      subst hw1
      obtain ⟨hP1, hD1⟩ := hB
      rw [ht] at hP1
      obtain ⟨hP, hD⟩ := va_join (wr := [((ad 0), .inr (10, [.ref (ad 1), .ref (ad 2), .ref (ad 3), .ref (ad 4), .ref (ad 5), .int (-1), .int 100, .int 0, .int 0])), ((ad 1), .inr (7, [.ref (ad 6), .ref (ad 7), .ref (ad 8), .int 0])), ((ad 2), .inr (8, [.ref (ad 9), .ref (ad 10), .int 0])), ((ad 3), .inr (4, [.int 0, .ref (ad 14), .int 0])), ((ad 4), .inr (4, [.int 0, .ref (ad 14), .int 0])), ((ad 5), .inr (6, [.ref (ad 11), .ref (ad 12), .ref (ad 13), .int 0, .int 0])), ((ad 6), .inl (kC, 12, .inl (fun _ => 0))), ((ad 7), .inl (kI, 36, .inl (fun _ => 0))), (oa, .inl (kO, 1, .inr (.inl (fun _ => 0)))), (od, .inl (kD, 1, .inr (.inr (.inr (.inl (fun _ => 0))))))]) (w1 := [((bd 0), .inr (14, [.ref (bd 1), .ref (bd 2), .ref (bd 3), .ref (bd 4), .ref (bd 5), .ref (bd 6), .int 100, .int (-1), .int 0, .int 1])), ((bd 1), .inr (4, [.int 0, .ref (bd 7), .int 0])), ((bd 2), .inr (4, [.int 0, .ref (bd 7), .int 0])), ((bd 3), .inr (4, [.int 0, .ref (bd 7), .int 0])), ((bd 4), .inr (4, [.int 0, .ref (bd 7), .int 0])), ((bd 5), .inr (4, [.int 0, .ref (bd 7), .int 0])), ((bd 6), .inr (4, [.int 0, .ref (bd 7), .int 0]))]) hP hD [6, 7, 8, 9, 10, 11, 12] [0, 1, 2, 3, 4, 5, 13, 14, 15, 16] rfl rfl (by decide) (by decide) hk1 hFc hP1 hD1
      have hP : va_P D vwCl [((ad 0), .inr (10, [.ref (ad 1), .ref (ad 2), .ref (ad 3), .ref (ad 4), .ref (ad 5), .int (-1), .int 100, .int 0, .int 0])), ((ad 1), .inr (7, [.ref (ad 6), .ref (ad 7), .ref (ad 8), .int 0])), ((ad 2), .inr (8, [.ref (ad 9), .ref (ad 10), .int 0])), ((ad 3), .inr (4, [.int 0, .ref (ad 14), .int 0])), ((ad 4), .inr (4, [.int 0, .ref (ad 14), .int 0])), ((ad 5), .inr (6, [.ref (ad 11), .ref (ad 12), .ref (ad 13), .int 0, .int 0])), ((ad 6), .inl (kC, 12, .inl (fun _ => 0))), ((ad 7), .inl (kI, 36, .inl (fun _ => 0))), (oa, .inl (kO, 1, .inr (.inl (fun _ => 0)))), (od, .inl (kD, 1, .inr (.inr (.inr (.inl (fun _ => 0)))))), ((bd 0), .inr (14, [.ref (bd 1), .ref (bd 2), .ref (bd 3), .ref (bd 4), .ref (bd 5), .ref (bd 6), .int 100, .int (-1), .int 0, .int 1])), ((bd 1), .inr (4, [.int 0, .ref (bd 7), .int 0])), ((bd 2), .inr (4, [.int 0, .ref (bd 7), .int 0])), ((bd 3), .inr (4, [.int 0, .ref (bd 7), .int 0])), ((bd 4), .inr (4, [.int 0, .ref (bd 7), .int 0])), ((bd 5), .inr (4, [.int 0, .ref (bd 7), .int 0])), ((bd 6), .inr (4, [.int 0, .ref (bd 7), .int 0]))] H := hP
      have hD : va_D A [((ad 0), .inr (10, [.ref (ad 1), .ref (ad 2), .ref (ad 3), .ref (ad 4), .ref (ad 5), .int (-1), .int 100, .int 0, .int 0])), ((ad 1), .inr (7, [.ref (ad 6), .ref (ad 7), .ref (ad 8), .int 0])), ((ad 2), .inr (8, [.ref (ad 9), .ref (ad 10), .int 0])), ((ad 3), .inr (4, [.int 0, .ref (ad 14), .int 0])), ((ad 4), .inr (4, [.int 0, .ref (ad 14), .int 0])), ((ad 5), .inr (6, [.ref (ad 11), .ref (ad 12), .ref (ad 13), .int 0, .int 0])), ((ad 6), .inl (kC, 12, .inl (fun _ => 0))), ((ad 7), .inl (kI, 36, .inl (fun _ => 0))), (oa, .inl (kO, 1, .inr (.inl (fun _ => 0)))), (od, .inl (kD, 1, .inr (.inr (.inr (.inl (fun _ => 0)))))), ((bd 0), .inr (14, [.ref (bd 1), .ref (bd 2), .ref (bd 3), .ref (bd 4), .ref (bd 5), .ref (bd 6), .int 100, .int (-1), .int 0, .int 1])), ((bd 1), .inr (4, [.int 0, .ref (bd 7), .int 0])), ((bd 2), .inr (4, [.int 0, .ref (bd 7), .int 0])), ((bd 3), .inr (4, [.int 0, .ref (bd 7), .int 0])), ((bd 4), .inr (4, [.int 0, .ref (bd 7), .int 0])), ((bd 5), .inr (4, [.int 0, .ref (bd 7), .int 0])), ((bd 6), .inr (4, [.int 0, .ref (bd 7), .int 0]))] := hD
      have hK : va_K D vwCl [(kC, .char), (kI, .int), (kO, .long), (kD, .double)] s := hK
      refine lv_istore (lv' := [(7, .int 0), (6, .int 1), (5, .int 0), (4, .ref od), (3, .ref oa), (2, .ref (bd 0)), (1, .ref (ad 0)), (0, .ref b)]) hx hb dL_law_317 hl (by decide) rfl (fun ls hl => ?_)
      refine lv_aload_n hx hb dL_law_319 rfl (lv_at hl 5 rfl) ?_
      have hPc := hP.sub (ws' := [((bd 0), .inr (14, [.ref (bd 1), .ref (bd 2), .ref (bd 3), .ref (bd 4), .ref (bd 5), .ref (bd 6), .int 100, .int (-1), .int 0, .int 1])), ((bd 1), .inr (4, [.int 0, .ref (bd 7), .int 0])), ((bd 2), .inr (4, [.int 0, .ref (bd 7), .int 0])), ((bd 3), .inr (4, [.int 0, .ref (bd 7), .int 0])), ((bd 4), .inr (4, [.int 0, .ref (bd 7), .int 0])), ((bd 5), .inr (4, [.int 0, .ref (bd 7), .int 0])), ((bd 6), .inr (4, [.int 0, .ref (bd 7), .int 0]))]) [10, 11, 12, 13, 14, 15, 16] rfl
      refine va_calli (va_runV (As := []) (rest := []) ⟨hx, hb, hml, hown, hw⟩ (c_X9_thrown l D sa bd 1 _) (cwV 0 hw (zg4 zm_1303 zm_1304 zm_1305 zm_53 zm_1306) rfl rfl rfl (by decide +kernel) ⟨Nat.le_of_ble_eq_true rfl, Nat.le_of_ble_eq_true rfl⟩) ⟨zJ_blind, va_recv hK hPc (ci := 14) (q0 := 0) rfl rfl, zJ_pre hPc hK hT⟩ rfl rfl hl.1 rfl (lv_room (Nat.le_of_ble_eq_true rfl)) dL_law_320 ⟨Nat.le_of_ble_eq_true rfl, Nat.le_of_ble_eq_true rfl⟩) hS zN_in (zN_fr hS hA) (fun r_25 u t H locs ht hvm hw1 hB hz1 hk1 hS => ?_)
      have hP := zN_keep hP hk1
      subst hw1
      refine lv_iload hx hb dL_law_323 (lv_at hl 1 rfl) ?_
      refine lv_icmp_eq (tgt := 330) hx hb dL_law_325 (by decide) (fun _ => ?_) (fun c_26 => absurd (by decide) c_26)
      refine lv_iload hx hb dL_law_330 (lv_at hl 1 rfl) ?_
      refine lv_if_ne (tgt := 347) hx hb dL_law_332 (by decide) (fun _ => ?_) (fun c_27 => absurd c_27 (by decide))
      refine lv_goto (tgt := 3449) hx hb dL_law_347 (by decide) ?_
      refine W.widen (k := 2000) (n := 20000) (Nat.le_of_ble_eq_true rfl) (Nat.le_of_ble_eq_true rfl) ?_
      exact hend _ _ _ hS (lv_sub hl [2, 7] rfl)
    · rcases z_two (xs (Int32.toNatClampNeg 3)) 0 31 with h_28 | h_28
      · have hPc := hP.sub (ws' := [((ad 0), .inr (10, [.ref (ad 1), .ref (ad 2), .ref (ad 3), .ref (ad 4), .ref (ad 5), .int (-1), .int 100, .int 0, .int 0])), ((ad 1), .inr (7, [.ref (ad 6), .ref (ad 7), .ref (ad 8), .int 0])), ((ad 2), .inr (8, [.ref (ad 9), .ref (ad 10), .int 0])), ((ad 3), .inr (4, [.int 0, .ref (ad 14), .int 0])), ((ad 4), .inr (4, [.int 0, .ref (ad 14), .int 0])), ((ad 5), .inr (6, [.ref (ad 11), .ref (ad 12), .ref (ad 13), .int 0, .int 0]))]) [0, 1, 2, 3, 4, 5] rfl
        refine vx_calli (vx_runSX (As := [.ref (ad 0), .int (((xs (Int32.toNatClampNeg 1)).toUInt32 % 65536).toInt32), .int (xs (Int32.toNatClampNeg 2)), .int (xs (Int32.toNatClampNeg 3)), .int (xs (Int32.toNatClampNeg 4)), .ref oa]) (rest := []) ⟨hx, hb, hml, hown, hw⟩ (c_L_addShade2 l hst D sa ad _ (((xs (Int32.toNatClampNeg 1)).toUInt32 % 65536).toInt32) (xs (Int32.toNatClampNeg 2)) (xs (Int32.toNatClampNeg 3)) (xs (Int32.toNatClampNeg 4)) oa h_6 h_17 h_28) (vx_cwSW 6 hw (zg3 zm_332 zm_333 zm_44 zm_334) rfl rfl rfl (by decide +kernel) ⟨Nat.le_of_ble_eq_true rfl, Nat.le_of_ble_eq_true rfl⟩) ⟨zR_blind, zR_pre hPc hK hT hZ hS hA⟩ rfl rfl hl.1 rfl (lv_room (Nat.le_of_ble_eq_true rfl)) dL_law_283 ⟨Nat.le_of_ble_eq_true rfl, Nat.le_of_ble_eq_true rfl⟩) hS zN_in (zN_fr hS hA) zN_in (fun E ce q9 u t H1 locs1 ht hvm hu hE => hE.elim) (fun r_29 u t H locs ht hvm hw1 hB hz1 hk1 hS => ?_)
        have hP := zN_keep hP hk1
        subst hw1
        refine lv_istore (lv' := [(6, .int 1), (5, .int 0), (4, .ref od), (3, .ref oa), (2, .ref (bd 0)), (1, .ref (ad 0)), (0, .ref b)]) hx hb dL_law_286 hl (by decide) rfl (fun ls hl => ?_)
        refine lv_aload_n hx hb dL_law_288 rfl (lv_at hl 4 rfl) ?_
        refine lv_aload_n hx hb dL_law_289 rfl (lv_at hl 6 rfl) ?_
        refine lv_iload hx hb dL_law_290 (lv_at hl 1 rfl) ?_
        refine lv_iconst (v := 1) hx hb dL_law_292 (by decide) ?_
        refine lv_iadd hx hb dL_law_293 ?_
        refine lv_topi (fun f_30 ef_30 => ?_)
        obtain rfl : f_30 = 1 := ef_30.trans (by decide)
        refine va_sld (i := 1) hx hb hX hbl hbA hS (by unfold vp_in; decide) dL_law_294 ?_
        refine lv_i2c hx hb dL_law_295 rfl ?_
        refine lv_aload_n hx hb dL_law_296 rfl (lv_at hl 6 rfl) ?_
        refine lv_iload hx hb dL_law_297 (lv_at hl 1 rfl) ?_
        refine lv_iconst (v := 2) hx hb dL_law_299 (by decide) ?_
        refine lv_iadd hx hb dL_law_300 ?_
        refine lv_topi (fun f_32 ef_32 => ?_)
        obtain rfl : f_32 = 2 := ef_32.trans (by decide)
        refine va_sld (i := 2) hx hb hX hbl hbA hS (by unfold vp_in; decide) dL_law_301 ?_
        refine lv_aload_n hx hb dL_law_302 rfl (lv_at hl 6 rfl) ?_
        refine lv_iload hx hb dL_law_303 (lv_at hl 1 rfl) ?_
        refine lv_iconst (v := 3) hx hb dL_law_305 (by decide) ?_
        refine lv_iadd hx hb dL_law_306 ?_
        refine lv_topi (fun f_33 ef_33 => ?_)
        obtain rfl : f_33 = 3 := ef_33.trans (by decide)
        refine va_sld (i := 3) hx hb hX hbl hbA hS (by unfold vp_in; decide) dL_law_307 ?_
        refine lv_aload_n hx hb dL_law_308 rfl (lv_at hl 6 rfl) ?_
        refine lv_iload hx hb dL_law_309 (lv_at hl 1 rfl) ?_
        refine lv_iconst (v := 4) hx hb dL_law_311 (by decide) ?_
        refine lv_iadd hx hb dL_law_312 ?_
        refine lv_topi (fun f_34 ef_34 => ?_)
        obtain rfl : f_34 = 4 := ef_34.trans (by decide)
        refine va_sld (i := 4) hx hb hX hbl hbA hS (by unfold vp_in; decide) dL_law_313 ?_
        have hPc := hP.sub (ws' := [((bd 0), .inr (14, [.ref (bd 1), .ref (bd 2), .ref (bd 3), .ref (bd 4), .ref (bd 5), .ref (bd 6), .int 100, .int (-1), .int 0, .int 0])), ((bd 1), .inr (4, [.int 0, .ref (bd 7), .int 0])), ((bd 2), .inr (4, [.int 0, .ref (bd 7), .int 0])), ((bd 3), .inr (4, [.int 0, .ref (bd 7), .int 0])), ((bd 4), .inr (4, [.int 0, .ref (bd 7), .int 0])), ((bd 5), .inr (4, [.int 0, .ref (bd 7), .int 0])), ((bd 6), .inr (4, [.int 0, .ref (bd 7), .int 0]))]) [6, 7, 8, 9, 10, 11, 12] rfl
        have hDc := hD.sub (ws' := [((bd 0), .inr (14, [.ref (bd 1), .ref (bd 2), .ref (bd 3), .ref (bd 4), .ref (bd 5), .ref (bd 6), .int 100, .int (-1), .int 0, .int 0])), ((bd 1), .inr (4, [.int 0, .ref (bd 7), .int 0])), ((bd 2), .inr (4, [.int 0, .ref (bd 7), .int 0])), ((bd 3), .inr (4, [.int 0, .ref (bd 7), .int 0])), ((bd 4), .inr (4, [.int 0, .ref (bd 7), .int 0])), ((bd 5), .inr (4, [.int 0, .ref (bd 7), .int 0])), ((bd 6), .inr (4, [.int 0, .ref (bd 7), .int 0]))]) [6, 7, 8, 9, 10, 11, 12] (by decide) rfl
        have hFc := va_free (wc := [((bd 0), .inr (14, [.ref (bd 1), .ref (bd 2), .ref (bd 3), .ref (bd 4), .ref (bd 5), .ref (bd 6), .int 100, .int (-1), .int 0, .int 0])), ((bd 1), .inr (4, [.int 0, .ref (bd 7), .int 0])), ((bd 2), .inr (4, [.int 0, .ref (bd 7), .int 0])), ((bd 3), .inr (4, [.int 0, .ref (bd 7), .int 0])), ((bd 4), .inr (4, [.int 0, .ref (bd 7), .int 0])), ((bd 5), .inr (4, [.int 0, .ref (bd 7), .int 0])), ((bd 6), .inr (4, [.int 0, .ref (bd 7), .int 0]))]) hD hS hA [6, 7, 8, 9, 10, 11, 12] rfl
        refine va_calli (va_runV (As := [.int (((xs (Int32.toNatClampNeg 1)).toUInt32 % 65536).toInt32), .int (xs (Int32.toNatClampNeg 2)), .int (xs (Int32.toNatClampNeg 3)), .int (xs (Int32.toNatClampNeg 4))]) (rest := []) ⟨hx, hb, hml, hown, hw⟩ (c_X9_addShade2 l D sa ea bd 0 _ (((xs (Int32.toNatClampNeg 1)).toUInt32 % 65536).toInt32) (xs (Int32.toNatClampNeg 2)) (xs (Int32.toNatClampNeg 3)) (xs (Int32.toNatClampNeg 4)) h_6 h_17 h_28) (cwV 4 hw (zg4 zm_1307 zm_1308 zm_1309 zm_53 zm_1310) rfl rfl rfl (by decide +kernel) ⟨Nat.le_of_ble_eq_true rfl, Nat.le_of_ble_eq_true rfl⟩) ⟨zW_blind, va_recv hK hPc (ci := 14) (q0 := 0) rfl rfl, zW_pre hPc (hK.sub (tys' := []) [] rfl) hDc hT hE hS hFc⟩ rfl rfl hl.1 rfl (lv_room (Nat.le_of_ble_eq_true rfl)) dL_law_314 ⟨Nat.le_of_ble_eq_true rfl, Nat.le_of_ble_eq_true rfl⟩) hS (fun q _ h => hFc q h) hFc (fun r_35 u t H locs ht hvm hw1 hB hz1 hk1 hS => ?_)
        subst hw1
        obtain ⟨hP1, hD1⟩ := hB
        rw [ht] at hP1
        obtain ⟨hP, hD⟩ := va_join (wr := [((ad 0), .inr (10, [.ref (ad 1), .ref (ad 2), .ref (ad 3), .ref (ad 4), .ref (ad 5), .int (-1), .int 100, .int 0, .int 0])), ((ad 1), .inr (7, [.ref (ad 6), .ref (ad 7), .ref (ad 8), .int 0])), ((ad 2), .inr (8, [.ref (ad 9), .ref (ad 10), .int 0])), ((ad 3), .inr (4, [.int 0, .ref (ad 14), .int 0])), ((ad 4), .inr (4, [.int 0, .ref (ad 14), .int 0])), ((ad 5), .inr (6, [.ref (ad 11), .ref (ad 12), .ref (ad 13), .int 0, .int 0])), ((ad 6), .inl (kC, 12, .inl (fun _ => 0))), ((ad 7), .inl (kI, 36, .inl (fun _ => 0))), (oa, .inl (kO, 1, .inr (.inl (fun _ => 0)))), (od, .inl (kD, 1, .inr (.inr (.inr (.inl (fun _ => 0))))))]) (w1 := [((bd 0), .inr (14, [.ref (bd 1), .ref (bd 2), .ref (bd 3), .ref (bd 4), .ref (bd 5), .ref (bd 6), .int 100, .int (-1), .int 0, .int 1])), ((bd 1), .inr (4, [.int 0, .ref (bd 7), .int 0])), ((bd 2), .inr (4, [.int 0, .ref (bd 7), .int 0])), ((bd 3), .inr (4, [.int 0, .ref (bd 7), .int 0])), ((bd 4), .inr (4, [.int 0, .ref (bd 7), .int 0])), ((bd 5), .inr (4, [.int 0, .ref (bd 7), .int 0])), ((bd 6), .inr (4, [.int 0, .ref (bd 7), .int 0]))]) hP hD [6, 7, 8, 9, 10, 11, 12] [0, 1, 2, 3, 4, 5, 13, 14, 15, 16] rfl rfl (by decide) (by decide) hk1 hFc hP1 hD1
        have hP : va_P D vwCl [((ad 0), .inr (10, [.ref (ad 1), .ref (ad 2), .ref (ad 3), .ref (ad 4), .ref (ad 5), .int (-1), .int 100, .int 0, .int 0])), ((ad 1), .inr (7, [.ref (ad 6), .ref (ad 7), .ref (ad 8), .int 0])), ((ad 2), .inr (8, [.ref (ad 9), .ref (ad 10), .int 0])), ((ad 3), .inr (4, [.int 0, .ref (ad 14), .int 0])), ((ad 4), .inr (4, [.int 0, .ref (ad 14), .int 0])), ((ad 5), .inr (6, [.ref (ad 11), .ref (ad 12), .ref (ad 13), .int 0, .int 0])), ((ad 6), .inl (kC, 12, .inl (fun _ => 0))), ((ad 7), .inl (kI, 36, .inl (fun _ => 0))), (oa, .inl (kO, 1, .inr (.inl (fun _ => 0)))), (od, .inl (kD, 1, .inr (.inr (.inr (.inl (fun _ => 0)))))), ((bd 0), .inr (14, [.ref (bd 1), .ref (bd 2), .ref (bd 3), .ref (bd 4), .ref (bd 5), .ref (bd 6), .int 100, .int (-1), .int 0, .int 1])), ((bd 1), .inr (4, [.int 0, .ref (bd 7), .int 0])), ((bd 2), .inr (4, [.int 0, .ref (bd 7), .int 0])), ((bd 3), .inr (4, [.int 0, .ref (bd 7), .int 0])), ((bd 4), .inr (4, [.int 0, .ref (bd 7), .int 0])), ((bd 5), .inr (4, [.int 0, .ref (bd 7), .int 0])), ((bd 6), .inr (4, [.int 0, .ref (bd 7), .int 0]))] H := hP
        have hD : va_D A [((ad 0), .inr (10, [.ref (ad 1), .ref (ad 2), .ref (ad 3), .ref (ad 4), .ref (ad 5), .int (-1), .int 100, .int 0, .int 0])), ((ad 1), .inr (7, [.ref (ad 6), .ref (ad 7), .ref (ad 8), .int 0])), ((ad 2), .inr (8, [.ref (ad 9), .ref (ad 10), .int 0])), ((ad 3), .inr (4, [.int 0, .ref (ad 14), .int 0])), ((ad 4), .inr (4, [.int 0, .ref (ad 14), .int 0])), ((ad 5), .inr (6, [.ref (ad 11), .ref (ad 12), .ref (ad 13), .int 0, .int 0])), ((ad 6), .inl (kC, 12, .inl (fun _ => 0))), ((ad 7), .inl (kI, 36, .inl (fun _ => 0))), (oa, .inl (kO, 1, .inr (.inl (fun _ => 0)))), (od, .inl (kD, 1, .inr (.inr (.inr (.inl (fun _ => 0)))))), ((bd 0), .inr (14, [.ref (bd 1), .ref (bd 2), .ref (bd 3), .ref (bd 4), .ref (bd 5), .ref (bd 6), .int 100, .int (-1), .int 0, .int 1])), ((bd 1), .inr (4, [.int 0, .ref (bd 7), .int 0])), ((bd 2), .inr (4, [.int 0, .ref (bd 7), .int 0])), ((bd 3), .inr (4, [.int 0, .ref (bd 7), .int 0])), ((bd 4), .inr (4, [.int 0, .ref (bd 7), .int 0])), ((bd 5), .inr (4, [.int 0, .ref (bd 7), .int 0])), ((bd 6), .inr (4, [.int 0, .ref (bd 7), .int 0]))] := hD
        have hK : va_K D vwCl [(kC, .char), (kI, .int), (kO, .long), (kD, .double)] s := hK
        refine lv_istore (lv' := [(7, .int 0), (6, .int 1), (5, .int 0), (4, .ref od), (3, .ref oa), (2, .ref (bd 0)), (1, .ref (ad 0)), (0, .ref b)]) hx hb dL_law_317 hl (by decide) rfl (fun ls hl => ?_)
        refine lv_aload_n hx hb dL_law_319 rfl (lv_at hl 5 rfl) ?_
        have hPc := hP.sub (ws' := [((bd 0), .inr (14, [.ref (bd 1), .ref (bd 2), .ref (bd 3), .ref (bd 4), .ref (bd 5), .ref (bd 6), .int 100, .int (-1), .int 0, .int 1])), ((bd 1), .inr (4, [.int 0, .ref (bd 7), .int 0])), ((bd 2), .inr (4, [.int 0, .ref (bd 7), .int 0])), ((bd 3), .inr (4, [.int 0, .ref (bd 7), .int 0])), ((bd 4), .inr (4, [.int 0, .ref (bd 7), .int 0])), ((bd 5), .inr (4, [.int 0, .ref (bd 7), .int 0])), ((bd 6), .inr (4, [.int 0, .ref (bd 7), .int 0]))]) [10, 11, 12, 13, 14, 15, 16] rfl
        refine va_calli (va_runV (As := []) (rest := []) ⟨hx, hb, hml, hown, hw⟩ (c_X9_thrown l D sa bd 1 _) (cwV 0 hw (zg4 zm_1303 zm_1304 zm_1305 zm_53 zm_1306) rfl rfl rfl (by decide +kernel) ⟨Nat.le_of_ble_eq_true rfl, Nat.le_of_ble_eq_true rfl⟩) ⟨zJ_blind, va_recv hK hPc (ci := 14) (q0 := 0) rfl rfl, zJ_pre hPc hK hT⟩ rfl rfl hl.1 rfl (lv_room (Nat.le_of_ble_eq_true rfl)) dL_law_320 ⟨Nat.le_of_ble_eq_true rfl, Nat.le_of_ble_eq_true rfl⟩) hS zN_in (zN_fr hS hA) (fun r_36 u t H locs ht hvm hw1 hB hz1 hk1 hS => ?_)
        have hP := zN_keep hP hk1
        subst hw1
        refine lv_iload hx hb dL_law_323 (lv_at hl 1 rfl) ?_
        refine lv_icmp_eq (tgt := 330) hx hb dL_law_325 (by decide) (fun _ => ?_) (fun c_37 => absurd (by decide) c_37)
        refine lv_iload hx hb dL_law_330 (lv_at hl 1 rfl) ?_
        refine lv_if_ne (tgt := 347) hx hb dL_law_332 (by decide) (fun _ => ?_) (fun c_38 => absurd c_38 (by decide))
        refine lv_goto (tgt := 3449) hx hb dL_law_347 (by decide) ?_
        refine W.widen (k := 2000) (n := 20000) (Nat.le_of_ble_eq_true rfl) (Nat.le_of_ble_eq_true rfl) ?_
        exact hend _ _ _ hS (lv_sub hl [2, 7] rfl)
      · rcases z_two (xs (Int32.toNatClampNeg 4)) 0 31 with h_39 | h_39
        · have hPc := hP.sub (ws' := [((ad 0), .inr (10, [.ref (ad 1), .ref (ad 2), .ref (ad 3), .ref (ad 4), .ref (ad 5), .int (-1), .int 100, .int 0, .int 0])), ((ad 1), .inr (7, [.ref (ad 6), .ref (ad 7), .ref (ad 8), .int 0])), ((ad 2), .inr (8, [.ref (ad 9), .ref (ad 10), .int 0])), ((ad 3), .inr (4, [.int 0, .ref (ad 14), .int 0])), ((ad 4), .inr (4, [.int 0, .ref (ad 14), .int 0])), ((ad 5), .inr (6, [.ref (ad 11), .ref (ad 12), .ref (ad 13), .int 0, .int 0]))]) [0, 1, 2, 3, 4, 5] rfl
          refine vx_calli (vx_runSX (As := [.ref (ad 0), .int (((xs (Int32.toNatClampNeg 1)).toUInt32 % 65536).toInt32), .int (xs (Int32.toNatClampNeg 2)), .int (xs (Int32.toNatClampNeg 3)), .int (xs (Int32.toNatClampNeg 4)), .ref oa]) (rest := []) ⟨hx, hb, hml, hown, hw⟩ (c_L_addShade3 l hst D sa ad _ (((xs (Int32.toNatClampNeg 1)).toUInt32 % 65536).toInt32) (xs (Int32.toNatClampNeg 2)) (xs (Int32.toNatClampNeg 3)) (xs (Int32.toNatClampNeg 4)) oa h_6 h_17 h_28 h_39) (vx_cwSW 6 hw (zg3 zm_332 zm_333 zm_44 zm_334) rfl rfl rfl (by decide +kernel) ⟨Nat.le_of_ble_eq_true rfl, Nat.le_of_ble_eq_true rfl⟩) ⟨zR_blind, zR_pre hPc hK hT hZ hS hA⟩ rfl rfl hl.1 rfl (lv_room (Nat.le_of_ble_eq_true rfl)) dL_law_283 ⟨Nat.le_of_ble_eq_true rfl, Nat.le_of_ble_eq_true rfl⟩) hS zN_in (zN_fr hS hA) zN_in (fun E ce q9 u t H1 locs1 ht hvm hu hE => hE.elim) (fun r_40 u t H locs ht hvm hw1 hB hz1 hk1 hS => ?_)
          have hP := zN_keep hP hk1
          subst hw1
          refine lv_istore (lv' := [(6, .int 1), (5, .int 0), (4, .ref od), (3, .ref oa), (2, .ref (bd 0)), (1, .ref (ad 0)), (0, .ref b)]) hx hb dL_law_286 hl (by decide) rfl (fun ls hl => ?_)
          refine lv_aload_n hx hb dL_law_288 rfl (lv_at hl 4 rfl) ?_
          refine lv_aload_n hx hb dL_law_289 rfl (lv_at hl 6 rfl) ?_
          refine lv_iload hx hb dL_law_290 (lv_at hl 1 rfl) ?_
          refine lv_iconst (v := 1) hx hb dL_law_292 (by decide) ?_
          refine lv_iadd hx hb dL_law_293 ?_
          refine lv_topi (fun f_41 ef_41 => ?_)
          obtain rfl : f_41 = 1 := ef_41.trans (by decide)
          refine va_sld (i := 1) hx hb hX hbl hbA hS (by unfold vp_in; decide) dL_law_294 ?_
          refine lv_i2c hx hb dL_law_295 rfl ?_
          refine lv_aload_n hx hb dL_law_296 rfl (lv_at hl 6 rfl) ?_
          refine lv_iload hx hb dL_law_297 (lv_at hl 1 rfl) ?_
          refine lv_iconst (v := 2) hx hb dL_law_299 (by decide) ?_
          refine lv_iadd hx hb dL_law_300 ?_
          refine lv_topi (fun f_43 ef_43 => ?_)
          obtain rfl : f_43 = 2 := ef_43.trans (by decide)
          refine va_sld (i := 2) hx hb hX hbl hbA hS (by unfold vp_in; decide) dL_law_301 ?_
          refine lv_aload_n hx hb dL_law_302 rfl (lv_at hl 6 rfl) ?_
          refine lv_iload hx hb dL_law_303 (lv_at hl 1 rfl) ?_
          refine lv_iconst (v := 3) hx hb dL_law_305 (by decide) ?_
          refine lv_iadd hx hb dL_law_306 ?_
          refine lv_topi (fun f_44 ef_44 => ?_)
          obtain rfl : f_44 = 3 := ef_44.trans (by decide)
          refine va_sld (i := 3) hx hb hX hbl hbA hS (by unfold vp_in; decide) dL_law_307 ?_
          refine lv_aload_n hx hb dL_law_308 rfl (lv_at hl 6 rfl) ?_
          refine lv_iload hx hb dL_law_309 (lv_at hl 1 rfl) ?_
          refine lv_iconst (v := 4) hx hb dL_law_311 (by decide) ?_
          refine lv_iadd hx hb dL_law_312 ?_
          refine lv_topi (fun f_45 ef_45 => ?_)
          obtain rfl : f_45 = 4 := ef_45.trans (by decide)
          refine va_sld (i := 4) hx hb hX hbl hbA hS (by unfold vp_in; decide) dL_law_313 ?_
          have hPc := hP.sub (ws' := [((bd 0), .inr (14, [.ref (bd 1), .ref (bd 2), .ref (bd 3), .ref (bd 4), .ref (bd 5), .ref (bd 6), .int 100, .int (-1), .int 0, .int 0])), ((bd 1), .inr (4, [.int 0, .ref (bd 7), .int 0])), ((bd 2), .inr (4, [.int 0, .ref (bd 7), .int 0])), ((bd 3), .inr (4, [.int 0, .ref (bd 7), .int 0])), ((bd 4), .inr (4, [.int 0, .ref (bd 7), .int 0])), ((bd 5), .inr (4, [.int 0, .ref (bd 7), .int 0])), ((bd 6), .inr (4, [.int 0, .ref (bd 7), .int 0]))]) [6, 7, 8, 9, 10, 11, 12] rfl
          have hDc := hD.sub (ws' := [((bd 0), .inr (14, [.ref (bd 1), .ref (bd 2), .ref (bd 3), .ref (bd 4), .ref (bd 5), .ref (bd 6), .int 100, .int (-1), .int 0, .int 0])), ((bd 1), .inr (4, [.int 0, .ref (bd 7), .int 0])), ((bd 2), .inr (4, [.int 0, .ref (bd 7), .int 0])), ((bd 3), .inr (4, [.int 0, .ref (bd 7), .int 0])), ((bd 4), .inr (4, [.int 0, .ref (bd 7), .int 0])), ((bd 5), .inr (4, [.int 0, .ref (bd 7), .int 0])), ((bd 6), .inr (4, [.int 0, .ref (bd 7), .int 0]))]) [6, 7, 8, 9, 10, 11, 12] (by decide) rfl
          have hFc := va_free (wc := [((bd 0), .inr (14, [.ref (bd 1), .ref (bd 2), .ref (bd 3), .ref (bd 4), .ref (bd 5), .ref (bd 6), .int 100, .int (-1), .int 0, .int 0])), ((bd 1), .inr (4, [.int 0, .ref (bd 7), .int 0])), ((bd 2), .inr (4, [.int 0, .ref (bd 7), .int 0])), ((bd 3), .inr (4, [.int 0, .ref (bd 7), .int 0])), ((bd 4), .inr (4, [.int 0, .ref (bd 7), .int 0])), ((bd 5), .inr (4, [.int 0, .ref (bd 7), .int 0])), ((bd 6), .inr (4, [.int 0, .ref (bd 7), .int 0]))]) hD hS hA [6, 7, 8, 9, 10, 11, 12] rfl
          refine va_calli (va_runV (As := [.int (((xs (Int32.toNatClampNeg 1)).toUInt32 % 65536).toInt32), .int (xs (Int32.toNatClampNeg 2)), .int (xs (Int32.toNatClampNeg 3)), .int (xs (Int32.toNatClampNeg 4))]) (rest := []) ⟨hx, hb, hml, hown, hw⟩ (c_X9_addShade3 l D sa ea bd 0 _ (((xs (Int32.toNatClampNeg 1)).toUInt32 % 65536).toInt32) (xs (Int32.toNatClampNeg 2)) (xs (Int32.toNatClampNeg 3)) (xs (Int32.toNatClampNeg 4)) h_6 h_17 h_28 h_39) (cwV 4 hw (zg4 zm_1307 zm_1308 zm_1309 zm_53 zm_1310) rfl rfl rfl (by decide +kernel) ⟨Nat.le_of_ble_eq_true rfl, Nat.le_of_ble_eq_true rfl⟩) ⟨zW_blind, va_recv hK hPc (ci := 14) (q0 := 0) rfl rfl, zW_pre hPc (hK.sub (tys' := []) [] rfl) hDc hT hE hS hFc⟩ rfl rfl hl.1 rfl (lv_room (Nat.le_of_ble_eq_true rfl)) dL_law_314 ⟨Nat.le_of_ble_eq_true rfl, Nat.le_of_ble_eq_true rfl⟩) hS (fun q _ h => hFc q h) hFc (fun r_46 u t H locs ht hvm hw1 hB hz1 hk1 hS => ?_)
          subst hw1
          obtain ⟨hP1, hD1⟩ := hB
          rw [ht] at hP1
          obtain ⟨hP, hD⟩ := va_join (wr := [((ad 0), .inr (10, [.ref (ad 1), .ref (ad 2), .ref (ad 3), .ref (ad 4), .ref (ad 5), .int (-1), .int 100, .int 0, .int 0])), ((ad 1), .inr (7, [.ref (ad 6), .ref (ad 7), .ref (ad 8), .int 0])), ((ad 2), .inr (8, [.ref (ad 9), .ref (ad 10), .int 0])), ((ad 3), .inr (4, [.int 0, .ref (ad 14), .int 0])), ((ad 4), .inr (4, [.int 0, .ref (ad 14), .int 0])), ((ad 5), .inr (6, [.ref (ad 11), .ref (ad 12), .ref (ad 13), .int 0, .int 0])), ((ad 6), .inl (kC, 12, .inl (fun _ => 0))), ((ad 7), .inl (kI, 36, .inl (fun _ => 0))), (oa, .inl (kO, 1, .inr (.inl (fun _ => 0)))), (od, .inl (kD, 1, .inr (.inr (.inr (.inl (fun _ => 0))))))]) (w1 := [((bd 0), .inr (14, [.ref (bd 1), .ref (bd 2), .ref (bd 3), .ref (bd 4), .ref (bd 5), .ref (bd 6), .int 100, .int (-1), .int 0, .int 1])), ((bd 1), .inr (4, [.int 0, .ref (bd 7), .int 0])), ((bd 2), .inr (4, [.int 0, .ref (bd 7), .int 0])), ((bd 3), .inr (4, [.int 0, .ref (bd 7), .int 0])), ((bd 4), .inr (4, [.int 0, .ref (bd 7), .int 0])), ((bd 5), .inr (4, [.int 0, .ref (bd 7), .int 0])), ((bd 6), .inr (4, [.int 0, .ref (bd 7), .int 0]))]) hP hD [6, 7, 8, 9, 10, 11, 12] [0, 1, 2, 3, 4, 5, 13, 14, 15, 16] rfl rfl (by decide) (by decide) hk1 hFc hP1 hD1
          have hP : va_P D vwCl [((ad 0), .inr (10, [.ref (ad 1), .ref (ad 2), .ref (ad 3), .ref (ad 4), .ref (ad 5), .int (-1), .int 100, .int 0, .int 0])), ((ad 1), .inr (7, [.ref (ad 6), .ref (ad 7), .ref (ad 8), .int 0])), ((ad 2), .inr (8, [.ref (ad 9), .ref (ad 10), .int 0])), ((ad 3), .inr (4, [.int 0, .ref (ad 14), .int 0])), ((ad 4), .inr (4, [.int 0, .ref (ad 14), .int 0])), ((ad 5), .inr (6, [.ref (ad 11), .ref (ad 12), .ref (ad 13), .int 0, .int 0])), ((ad 6), .inl (kC, 12, .inl (fun _ => 0))), ((ad 7), .inl (kI, 36, .inl (fun _ => 0))), (oa, .inl (kO, 1, .inr (.inl (fun _ => 0)))), (od, .inl (kD, 1, .inr (.inr (.inr (.inl (fun _ => 0)))))), ((bd 0), .inr (14, [.ref (bd 1), .ref (bd 2), .ref (bd 3), .ref (bd 4), .ref (bd 5), .ref (bd 6), .int 100, .int (-1), .int 0, .int 1])), ((bd 1), .inr (4, [.int 0, .ref (bd 7), .int 0])), ((bd 2), .inr (4, [.int 0, .ref (bd 7), .int 0])), ((bd 3), .inr (4, [.int 0, .ref (bd 7), .int 0])), ((bd 4), .inr (4, [.int 0, .ref (bd 7), .int 0])), ((bd 5), .inr (4, [.int 0, .ref (bd 7), .int 0])), ((bd 6), .inr (4, [.int 0, .ref (bd 7), .int 0]))] H := hP
          have hD : va_D A [((ad 0), .inr (10, [.ref (ad 1), .ref (ad 2), .ref (ad 3), .ref (ad 4), .ref (ad 5), .int (-1), .int 100, .int 0, .int 0])), ((ad 1), .inr (7, [.ref (ad 6), .ref (ad 7), .ref (ad 8), .int 0])), ((ad 2), .inr (8, [.ref (ad 9), .ref (ad 10), .int 0])), ((ad 3), .inr (4, [.int 0, .ref (ad 14), .int 0])), ((ad 4), .inr (4, [.int 0, .ref (ad 14), .int 0])), ((ad 5), .inr (6, [.ref (ad 11), .ref (ad 12), .ref (ad 13), .int 0, .int 0])), ((ad 6), .inl (kC, 12, .inl (fun _ => 0))), ((ad 7), .inl (kI, 36, .inl (fun _ => 0))), (oa, .inl (kO, 1, .inr (.inl (fun _ => 0)))), (od, .inl (kD, 1, .inr (.inr (.inr (.inl (fun _ => 0)))))), ((bd 0), .inr (14, [.ref (bd 1), .ref (bd 2), .ref (bd 3), .ref (bd 4), .ref (bd 5), .ref (bd 6), .int 100, .int (-1), .int 0, .int 1])), ((bd 1), .inr (4, [.int 0, .ref (bd 7), .int 0])), ((bd 2), .inr (4, [.int 0, .ref (bd 7), .int 0])), ((bd 3), .inr (4, [.int 0, .ref (bd 7), .int 0])), ((bd 4), .inr (4, [.int 0, .ref (bd 7), .int 0])), ((bd 5), .inr (4, [.int 0, .ref (bd 7), .int 0])), ((bd 6), .inr (4, [.int 0, .ref (bd 7), .int 0]))] := hD
          have hK : va_K D vwCl [(kC, .char), (kI, .int), (kO, .long), (kD, .double)] s := hK
          refine lv_istore (lv' := [(7, .int 0), (6, .int 1), (5, .int 0), (4, .ref od), (3, .ref oa), (2, .ref (bd 0)), (1, .ref (ad 0)), (0, .ref b)]) hx hb dL_law_317 hl (by decide) rfl (fun ls hl => ?_)
          refine lv_aload_n hx hb dL_law_319 rfl (lv_at hl 5 rfl) ?_
          have hPc := hP.sub (ws' := [((bd 0), .inr (14, [.ref (bd 1), .ref (bd 2), .ref (bd 3), .ref (bd 4), .ref (bd 5), .ref (bd 6), .int 100, .int (-1), .int 0, .int 1])), ((bd 1), .inr (4, [.int 0, .ref (bd 7), .int 0])), ((bd 2), .inr (4, [.int 0, .ref (bd 7), .int 0])), ((bd 3), .inr (4, [.int 0, .ref (bd 7), .int 0])), ((bd 4), .inr (4, [.int 0, .ref (bd 7), .int 0])), ((bd 5), .inr (4, [.int 0, .ref (bd 7), .int 0])), ((bd 6), .inr (4, [.int 0, .ref (bd 7), .int 0]))]) [10, 11, 12, 13, 14, 15, 16] rfl
          refine va_calli (va_runV (As := []) (rest := []) ⟨hx, hb, hml, hown, hw⟩ (c_X9_thrown l D sa bd 1 _) (cwV 0 hw (zg4 zm_1303 zm_1304 zm_1305 zm_53 zm_1306) rfl rfl rfl (by decide +kernel) ⟨Nat.le_of_ble_eq_true rfl, Nat.le_of_ble_eq_true rfl⟩) ⟨zJ_blind, va_recv hK hPc (ci := 14) (q0 := 0) rfl rfl, zJ_pre hPc hK hT⟩ rfl rfl hl.1 rfl (lv_room (Nat.le_of_ble_eq_true rfl)) dL_law_320 ⟨Nat.le_of_ble_eq_true rfl, Nat.le_of_ble_eq_true rfl⟩) hS zN_in (zN_fr hS hA) (fun r_47 u t H locs ht hvm hw1 hB hz1 hk1 hS => ?_)
          have hP := zN_keep hP hk1
          subst hw1
          refine lv_iload hx hb dL_law_323 (lv_at hl 1 rfl) ?_
          refine lv_icmp_eq (tgt := 330) hx hb dL_law_325 (by decide) (fun _ => ?_) (fun c_48 => absurd (by decide) c_48)
          refine lv_iload hx hb dL_law_330 (lv_at hl 1 rfl) ?_
          refine lv_if_ne (tgt := 347) hx hb dL_law_332 (by decide) (fun _ => ?_) (fun c_49 => absurd c_49 (by decide))
          refine lv_goto (tgt := 3449) hx hb dL_law_347 (by decide) ?_
          refine W.widen (k := 2000) (n := 20000) (Nat.le_of_ble_eq_true rfl) (Nat.le_of_ble_eq_true rfl) ?_
          exact hend _ _ _ hS (lv_sub hl [2, 7] rfl)
        · have hPc := hP.sub (ws' := [((ad 0), .inr (10, [.ref (ad 1), .ref (ad 2), .ref (ad 3), .ref (ad 4), .ref (ad 5), .int (-1), .int 100, .int 0, .int 0])), ((ad 1), .inr (7, [.ref (ad 6), .ref (ad 7), .ref (ad 8), .int 0])), ((ad 2), .inr (8, [.ref (ad 9), .ref (ad 10), .int 0])), ((ad 3), .inr (4, [.int 0, .ref (ad 14), .int 0])), ((ad 4), .inr (4, [.int 0, .ref (ad 14), .int 0])), ((ad 5), .inr (6, [.ref (ad 11), .ref (ad 12), .ref (ad 13), .int 0, .int 0])), ((ad 6), .inl (kC, 12, .inl (fun _ => 0))), ((ad 7), .inl (kI, 36, .inl (fun _ => 0))), (oa, .inl (kO, 1, .inr (.inl (fun _ => 0))))]) [0, 1, 2, 3, 4, 5, 13, 14, 15] rfl
          have hDc := hD.sub (ws' := [((ad 0), .inr (10, [.ref (ad 1), .ref (ad 2), .ref (ad 3), .ref (ad 4), .ref (ad 5), .int (-1), .int 100, .int 0, .int 0])), ((ad 1), .inr (7, [.ref (ad 6), .ref (ad 7), .ref (ad 8), .int 0])), ((ad 2), .inr (8, [.ref (ad 9), .ref (ad 10), .int 0])), ((ad 3), .inr (4, [.int 0, .ref (ad 14), .int 0])), ((ad 4), .inr (4, [.int 0, .ref (ad 14), .int 0])), ((ad 5), .inr (6, [.ref (ad 11), .ref (ad 12), .ref (ad 13), .int 0, .int 0])), ((ad 6), .inl (kC, 12, .inl (fun _ => 0))), ((ad 7), .inl (kI, 36, .inl (fun _ => 0))), (oa, .inl (kO, 1, .inr (.inl (fun _ => 0))))]) [0, 1, 2, 3, 4, 5, 13, 14, 15] (by decide) rfl
          have hFc := va_free (wc := [((ad 0), .inr (10, [.ref (ad 1), .ref (ad 2), .ref (ad 3), .ref (ad 4), .ref (ad 5), .int (-1), .int 100, .int 0, .int 0])), ((ad 1), .inr (7, [.ref (ad 6), .ref (ad 7), .ref (ad 8), .int 0])), ((ad 2), .inr (8, [.ref (ad 9), .ref (ad 10), .int 0])), ((ad 3), .inr (4, [.int 0, .ref (ad 14), .int 0])), ((ad 4), .inr (4, [.int 0, .ref (ad 14), .int 0])), ((ad 5), .inr (6, [.ref (ad 11), .ref (ad 12), .ref (ad 13), .int 0, .int 0])), ((ad 6), .inl (kC, 12, .inl (fun _ => 0))), ((ad 7), .inl (kI, 36, .inl (fun _ => 0))), (oa, .inl (kO, 1, .inr (.inl (fun _ => 0))))]) hD hS hA [0, 1, 2, 3, 4, 5, 13, 14, 15] rfl
          refine vx_calli (vx_runSX (As := [.ref (ad 0), .int (((xs (Int32.toNatClampNeg 1)).toUInt32 % 65536).toInt32), .int (xs (Int32.toNatClampNeg 2)), .int (xs (Int32.toNatClampNeg 3)), .int (xs (Int32.toNatClampNeg 4)), .ref oa]) (rest := []) ⟨hx, hb, hml, hown, hw⟩ (c_L_addShade4 l D sa ea ad kC kI oa kO _ (((xs (Int32.toNatClampNeg 1)).toUInt32 % 65536).toInt32) (xs (Int32.toNatClampNeg 2)) (xs (Int32.toNatClampNeg 3)) (xs (Int32.toNatClampNeg 4)) h_6 h_17 h_28 h_39) (vx_cwSW 6 hw (zg3 zm_332 zm_333 zm_44 zm_334) rfl rfl rfl (by decide +kernel) ⟨Nat.le_of_ble_eq_true rfl, Nat.le_of_ble_eq_true rfl⟩) ⟨zW_blind, zW_pre hPc (hK.sub (tys' := [(kC, .char), (kI, .int), (kO, .long)]) [0, 1, 2] rfl) hDc hT hE hS hFc⟩ rfl rfl hl.1 rfl (lv_room (Nat.le_of_ble_eq_true rfl)) dL_law_283 ⟨Nat.le_of_ble_eq_true rfl, Nat.le_of_ble_eq_true rfl⟩) hS (fun q _ h => hFc q h) hFc zN_in (fun E ce q9 u t H1 locs1 ht hvm hu hE => hE.elim) (fun r_50 u t H locs ht hvm hw1 hB hz1 hk1 hS => ?_)
          subst hw1
          obtain ⟨hP1, hD1⟩ := hB
          rw [ht] at hP1
          obtain ⟨hP, hD⟩ := va_join (wr := [((bd 0), .inr (14, [.ref (bd 1), .ref (bd 2), .ref (bd 3), .ref (bd 4), .ref (bd 5), .ref (bd 6), .int 100, .int (-1), .int 0, .int 0])), ((bd 1), .inr (4, [.int 0, .ref (bd 7), .int 0])), ((bd 2), .inr (4, [.int 0, .ref (bd 7), .int 0])), ((bd 3), .inr (4, [.int 0, .ref (bd 7), .int 0])), ((bd 4), .inr (4, [.int 0, .ref (bd 7), .int 0])), ((bd 5), .inr (4, [.int 0, .ref (bd 7), .int 0])), ((bd 6), .inr (4, [.int 0, .ref (bd 7), .int 0])), (od, .inl (kD, 1, .inr (.inr (.inr (.inl (fun _ => 0))))))]) (w1 := [(oa, .inl (kO, 1, .inr (.inl (vp_updL (fun _ => 0) (Int32.toNatClampNeg 0) 0))))]) hP hD [0, 1, 2, 3, 4, 5, 13, 14, 15] [6, 7, 8, 9, 10, 11, 12, 16] rfl rfl (by decide) (by decide) hk1 hFc hP1 hD1
          have hP : va_P D vwCl [((bd 0), .inr (14, [.ref (bd 1), .ref (bd 2), .ref (bd 3), .ref (bd 4), .ref (bd 5), .ref (bd 6), .int 100, .int (-1), .int 0, .int 0])), ((bd 1), .inr (4, [.int 0, .ref (bd 7), .int 0])), ((bd 2), .inr (4, [.int 0, .ref (bd 7), .int 0])), ((bd 3), .inr (4, [.int 0, .ref (bd 7), .int 0])), ((bd 4), .inr (4, [.int 0, .ref (bd 7), .int 0])), ((bd 5), .inr (4, [.int 0, .ref (bd 7), .int 0])), ((bd 6), .inr (4, [.int 0, .ref (bd 7), .int 0])), (od, .inl (kD, 1, .inr (.inr (.inr (.inl (fun _ => 0)))))), (oa, .inl (kO, 1, .inr (.inl (vp_updL (fun _ => 0) (Int32.toNatClampNeg 0) 0))))] H := hP
          have hD : va_D A [((bd 0), .inr (14, [.ref (bd 1), .ref (bd 2), .ref (bd 3), .ref (bd 4), .ref (bd 5), .ref (bd 6), .int 100, .int (-1), .int 0, .int 0])), ((bd 1), .inr (4, [.int 0, .ref (bd 7), .int 0])), ((bd 2), .inr (4, [.int 0, .ref (bd 7), .int 0])), ((bd 3), .inr (4, [.int 0, .ref (bd 7), .int 0])), ((bd 4), .inr (4, [.int 0, .ref (bd 7), .int 0])), ((bd 5), .inr (4, [.int 0, .ref (bd 7), .int 0])), ((bd 6), .inr (4, [.int 0, .ref (bd 7), .int 0])), (od, .inl (kD, 1, .inr (.inr (.inr (.inl (fun _ => 0)))))), (oa, .inl (kO, 1, .inr (.inl (vp_updL (fun _ => 0) (Int32.toNatClampNeg 0) 0))))] := hD
          have hK : va_K D vwCl [(kC, .char), (kI, .int), (kO, .long), (kD, .double)] s := hK
          refine lv_istore (lv' := [(6, .int 0), (5, .int 0), (4, .ref od), (3, .ref oa), (2, .ref (bd 0)), (1, .ref (ad 0)), (0, .ref b)]) hx hb dL_law_286 hl (by decide) rfl (fun ls hl => ?_)
          refine lv_aload_n hx hb dL_law_288 rfl (lv_at hl 4 rfl) ?_
          refine lv_aload_n hx hb dL_law_289 rfl (lv_at hl 6 rfl) ?_
          refine lv_iload hx hb dL_law_290 (lv_at hl 1 rfl) ?_
          refine lv_iconst (v := 1) hx hb dL_law_292 (by decide) ?_
          refine lv_iadd hx hb dL_law_293 ?_
          refine lv_topi (fun f_51 ef_51 => ?_)
          obtain rfl : f_51 = 1 := ef_51.trans (by decide)
          refine va_sld (i := 1) hx hb hX hbl hbA hS (by unfold vp_in; decide) dL_law_294 ?_
          refine lv_i2c hx hb dL_law_295 rfl ?_
          refine lv_aload_n hx hb dL_law_296 rfl (lv_at hl 6 rfl) ?_
          refine lv_iload hx hb dL_law_297 (lv_at hl 1 rfl) ?_
          refine lv_iconst (v := 2) hx hb dL_law_299 (by decide) ?_
          refine lv_iadd hx hb dL_law_300 ?_
          refine lv_topi (fun f_53 ef_53 => ?_)
          obtain rfl : f_53 = 2 := ef_53.trans (by decide)
          refine va_sld (i := 2) hx hb hX hbl hbA hS (by unfold vp_in; decide) dL_law_301 ?_
          refine lv_aload_n hx hb dL_law_302 rfl (lv_at hl 6 rfl) ?_
          refine lv_iload hx hb dL_law_303 (lv_at hl 1 rfl) ?_
          refine lv_iconst (v := 3) hx hb dL_law_305 (by decide) ?_
          refine lv_iadd hx hb dL_law_306 ?_
          refine lv_topi (fun f_54 ef_54 => ?_)
          obtain rfl : f_54 = 3 := ef_54.trans (by decide)
          refine va_sld (i := 3) hx hb hX hbl hbA hS (by unfold vp_in; decide) dL_law_307 ?_
          refine lv_aload_n hx hb dL_law_308 rfl (lv_at hl 6 rfl) ?_
          refine lv_iload hx hb dL_law_309 (lv_at hl 1 rfl) ?_
          refine lv_iconst (v := 4) hx hb dL_law_311 (by decide) ?_
          refine lv_iadd hx hb dL_law_312 ?_
          refine lv_topi (fun f_55 ef_55 => ?_)
          obtain rfl : f_55 = 4 := ef_55.trans (by decide)
          refine va_sld (i := 4) hx hb hX hbl hbA hS (by unfold vp_in; decide) dL_law_313 ?_
          have hPc := hP.sub (ws' := [((bd 0), .inr (14, [.ref (bd 1), .ref (bd 2), .ref (bd 3), .ref (bd 4), .ref (bd 5), .ref (bd 6), .int 100, .int (-1), .int 0, .int 0])), ((bd 1), .inr (4, [.int 0, .ref (bd 7), .int 0])), ((bd 2), .inr (4, [.int 0, .ref (bd 7), .int 0])), ((bd 3), .inr (4, [.int 0, .ref (bd 7), .int 0])), ((bd 4), .inr (4, [.int 0, .ref (bd 7), .int 0])), ((bd 5), .inr (4, [.int 0, .ref (bd 7), .int 0])), ((bd 6), .inr (4, [.int 0, .ref (bd 7), .int 0]))]) [0, 1, 2, 3, 4, 5, 6] rfl
          have hDc := hD.sub (ws' := [((bd 0), .inr (14, [.ref (bd 1), .ref (bd 2), .ref (bd 3), .ref (bd 4), .ref (bd 5), .ref (bd 6), .int 100, .int (-1), .int 0, .int 0])), ((bd 1), .inr (4, [.int 0, .ref (bd 7), .int 0])), ((bd 2), .inr (4, [.int 0, .ref (bd 7), .int 0])), ((bd 3), .inr (4, [.int 0, .ref (bd 7), .int 0])), ((bd 4), .inr (4, [.int 0, .ref (bd 7), .int 0])), ((bd 5), .inr (4, [.int 0, .ref (bd 7), .int 0])), ((bd 6), .inr (4, [.int 0, .ref (bd 7), .int 0]))]) [0, 1, 2, 3, 4, 5, 6] (by decide) rfl
          have hFc := va_free (wc := [((bd 0), .inr (14, [.ref (bd 1), .ref (bd 2), .ref (bd 3), .ref (bd 4), .ref (bd 5), .ref (bd 6), .int 100, .int (-1), .int 0, .int 0])), ((bd 1), .inr (4, [.int 0, .ref (bd 7), .int 0])), ((bd 2), .inr (4, [.int 0, .ref (bd 7), .int 0])), ((bd 3), .inr (4, [.int 0, .ref (bd 7), .int 0])), ((bd 4), .inr (4, [.int 0, .ref (bd 7), .int 0])), ((bd 5), .inr (4, [.int 0, .ref (bd 7), .int 0])), ((bd 6), .inr (4, [.int 0, .ref (bd 7), .int 0]))]) hD hS hA [0, 1, 2, 3, 4, 5, 6] rfl
          refine va_calli (va_runV (As := [.int (((xs (Int32.toNatClampNeg 1)).toUInt32 % 65536).toInt32), .int (xs (Int32.toNatClampNeg 2)), .int (xs (Int32.toNatClampNeg 3)), .int (xs (Int32.toNatClampNeg 4))]) (rest := []) ⟨hx, hb, hml, hown, hw⟩ (c_X9_addShade4 l D sa ea bd 0 _ (((xs (Int32.toNatClampNeg 1)).toUInt32 % 65536).toInt32) (xs (Int32.toNatClampNeg 2)) (xs (Int32.toNatClampNeg 3)) (xs (Int32.toNatClampNeg 4)) h_6 h_17 h_28 h_39 he) (cwV 4 hw (zg4 zm_1307 zm_1308 zm_1309 zm_53 zm_1310) rfl rfl rfl (by decide +kernel) ⟨Nat.le_of_ble_eq_true rfl, Nat.le_of_ble_eq_true rfl⟩) ⟨zG_blind, va_recv hK hPc (ci := 14) (q0 := 0) rfl rfl, zG_pre hPc (hK.sub (tys' := []) [] rfl) hDc hT hE hQ hS hFc⟩ rfl rfl hl.1 rfl (lv_room (Nat.le_of_ble_eq_true rfl)) dL_law_314 ⟨Nat.le_of_ble_eq_true rfl, Nat.le_of_ble_eq_true rfl⟩) hS (fun q _ h => hFc q h) hFc (fun r_56 u t H locs ht hvm hw1 hB hz1 hk1 hS => ?_)
          subst hw1
          obtain ⟨hP1, hD1⟩ := hB
          rw [ht] at hP1
          obtain ⟨hP, hD⟩ := va_join (wr := [(od, .inl (kD, 1, .inr (.inr (.inr (.inl (fun _ => 0)))))), (oa, .inl (kO, 1, .inr (.inl (vp_updL (fun _ => 0) (Int32.toNatClampNeg 0) 0))))]) (w1 := [((bd 0), .inr (14, [.ref (bd 1), .ref (bd 2), .ref (bd 3), .ref (bd 4), .ref (bd 5), .ref (bd 6), .int 100, .int (-1), .int 0, .int 0]))]) hP hD [0, 1, 2, 3, 4, 5, 6] [7, 8] rfl rfl (by decide) (by decide) hk1 hFc hP1 hD1
          have hP : va_P D vwCl [(od, .inl (kD, 1, .inr (.inr (.inr (.inl (fun _ => 0)))))), (oa, .inl (kO, 1, .inr (.inl (vp_updL (fun _ => 0) (Int32.toNatClampNeg 0) 0)))), ((bd 0), .inr (14, [.ref (bd 1), .ref (bd 2), .ref (bd 3), .ref (bd 4), .ref (bd 5), .ref (bd 6), .int 100, .int (-1), .int 0, .int 0]))] H := hP
          have hD : va_D A [(od, .inl (kD, 1, .inr (.inr (.inr (.inl (fun _ => 0)))))), (oa, .inl (kO, 1, .inr (.inl (vp_updL (fun _ => 0) (Int32.toNatClampNeg 0) 0)))), ((bd 0), .inr (14, [.ref (bd 1), .ref (bd 2), .ref (bd 3), .ref (bd 4), .ref (bd 5), .ref (bd 6), .int 100, .int (-1), .int 0, .int 0]))] := hD
          have hK : va_K D vwCl [(kC, .char), (kI, .int), (kO, .long), (kD, .double)] s := hK
          refine lv_istore (lv' := [(7, .int 0), (6, .int 0), (5, .int 0), (4, .ref od), (3, .ref oa), (2, .ref (bd 0)), (1, .ref (ad 0)), (0, .ref b)]) hx hb dL_law_317 hl (by decide) rfl (fun ls hl => ?_)
          refine lv_aload_n hx hb dL_law_319 rfl (lv_at hl 5 rfl) ?_
          have hPc := hP.sub (ws' := [((bd 0), .inr (14, [.ref (bd 1), .ref (bd 2), .ref (bd 3), .ref (bd 4), .ref (bd 5), .ref (bd 6), .int 100, .int (-1), .int 0, .int 0]))]) [2] rfl
          refine va_calli (va_runV (As := []) (rest := []) ⟨hx, hb, hml, hown, hw⟩ (c_X9_thrown0 l D sa bd 100 0 _) (cwV 0 hw (zg4 zm_1303 zm_1304 zm_1305 zm_53 zm_1306) rfl rfl rfl (by decide +kernel) ⟨Nat.le_of_ble_eq_true rfl, Nat.le_of_ble_eq_true rfl⟩) ⟨zJ_blind, va_recv hK hPc (ci := 14) (q0 := 0) rfl rfl, zJ_pre hPc hK hT⟩ rfl rfl hl.1 rfl (lv_room (Nat.le_of_ble_eq_true rfl)) dL_law_320 ⟨Nat.le_of_ble_eq_true rfl, Nat.le_of_ble_eq_true rfl⟩) hS zN_in (zN_fr hS hA) (fun r_57 u t H locs ht hvm hw1 hB hz1 hk1 hS => ?_)
          have hP := zN_keep hP hk1
          subst hw1
          refine lv_iload hx hb dL_law_323 (lv_at hl 1 rfl) ?_
          refine lv_icmp_eq (tgt := 330) hx hb dL_law_325 (by decide) (fun _ => ?_) (fun c_58 => absurd (by decide) c_58)
          refine lv_iload hx hb dL_law_330 (lv_at hl 1 rfl) ?_
          refine lv_if_ne (tgt := 347) hx hb dL_law_332 (by decide) (fun c_59 => absurd (by decide) c_59) (fun _ => ?_)
          refine lv_aload_n hx hb dL_law_335 rfl (lv_at hl 4 rfl) ?_
          refine lv_iconst (v := 0) hx hb dL_law_336 (by decide) ?_
          refine va_lald hx hb hK hP 1 2 rfl rfl (by unfold vp_in; decide) dL_law_337 ?_
          refine lv_topl (fun f_60 ef_60 => ?_)
          obtain rfl : f_60 = 0 := ef_60.trans pk_uLs
          refine lv_iload hx hb dL_law_338 (lv_at hl 0 rfl) ?_
          refine lv_i2l (v := 0) hx hb dL_law_340 (by decide) ?_
          refine W.lcmp hx hb dL_law_341 ?_
          refine lv_topi (fun f_61 ef_61 => ?_)
          obtain rfl : f_61 = 0 := ef_61.trans (by decide)
          refine lv_if_eq (tgt := 347) hx hb dL_law_342 (by decide) (fun _ => ?_) (fun c_62 => absurd (by decide) c_62)
          refine lv_goto (tgt := 3449) hx hb dL_law_347 (by decide) ?_
          refine W.widen (k := 2000) (n := 20000) (Nat.le_of_ble_eq_true rfl) (Nat.le_of_ble_eq_true rfl) ?_
          exact hend _ _ _ hS (lv_sub hl [2, 7] rfl)
