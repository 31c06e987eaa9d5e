/-- what holds all along the law's body, over a script of seven numbers -/
def zLw (p : Program) (l : Launch) (s : State) (m : MethodId) (c : Code) (b : Nat) (xs : Nat → Int32) (A : Nat → Prop) (sa : Nat → Nat) (ea : Nat) (bd : Nat → Nat) : Prop := p.tables.exec = Jvm.exec ∧ c.code = code ∧ c.maxLocals = 9 ∧ s.vm.findClass RL = some m.cls ∧ (∀ w ∈ WA, w.before #[Value.ref b] s = true) ∧ va_X b 7 xs s s.heap ∧ b < s.heap.size ∧ ¬ A b ∧ (∀ q, s.heap.size ≤ q → A q) ∧ ZT sa s ∧ ZH A s s.heap ∧ ZE ea A s s.heap ∧ ZQ ea A s s.heap ∧ l.stackTraces = false ∧ ea = bd 7
abbrev zW0 (ad bd : Nat → Nat) (kC kI kO kD : ClassId) (oa od : Nat) : va_W := [((ad 0), .inr (10, [.ref (ad 1), .ref (ad 2), .ref (ad 3), .ref (ad 4), .ref (ad 5), .int (-1), .int 100, .int 0, .int 0])), ((ad 1), .inr (7, [.ref (ad 6), .ref (ad 7), .ref (ad 8), .int 0])), ((ad 2), .inr (8, [.ref (ad 9), .ref (ad 10), .int 0])), ((ad 3), .inr (4, [.int 0, .ref (ad 14), .int 0])), ((ad 4), .inr (4, [.int 0, .ref (ad 14), .int 0])), ((ad 5), .inr (6, [.ref (ad 11), .ref (ad 12), .ref (ad 13), .int 0, .int 0])), ((bd 0), .inr (14, [.ref (bd 1), .ref (bd 2), .ref (bd 3), .ref (bd 4), .ref (bd 5), .ref (bd 6), .int 100, .int (-1), .int 0, .int 0])), ((bd 1), .inr (4, [.int 0, .ref (bd 7), .int 0])), ((bd 2), .inr (4, [.int 0, .ref (bd 7), .int 0])), ((bd 3), .inr (4, [.int 0, .ref (bd 7), .int 0])), ((bd 4), .inr (4, [.int 0, .ref (bd 7), .int 0])), ((bd 5), .inr (4, [.int 0, .ref (bd 7), .int 0])), ((bd 6), .inr (4, [.int 0, .ref (bd 7), .int 0])), ((ad 6), .inl (kC, 12, .inl (fun _ => 0))), ((ad 7), .inl (kI, 36, .inl (fun _ => 0))), (oa, .inl (kO, 1, .inr (.inl (fun _ => 0)))), (od, .inl (kD, 1, .inr (.inr (.inr (.inl (fun _ => 0))))))]
/-- the state ahead of the call -/
def zSt (D : va_G) (s : State) (A : Nat → Prop) (ad bd : Nat → Nat) (kC kI kO kD : ClassId) (oa od b : Nat) (H : Heap) (locs : List Loc) (ls : Array Slot) : Prop := va_K D vwCl [(kC, .char), (kI, .int), (kO, .long), (kD, .double)] s ∧ va_P D vwCl (zW0 ad bd kC kI kO kD oa od) H ∧ va_D A (zW0 ad bd kC kI kO kD oa od) ∧ va_S A s.heap H locs ∧ lv_has ls 9 [(5, .int 0), (4, .ref od), (3, .ref oa), (2, .ref (bd 0)), (1, .ref (ad 0)), (0, .ref b)]
theorem dL_law_256 : decode cL_law 256 = .ok (.aload_n 1, 1) := by decide +kernel
theorem dL_law_257 : decode cL_law 257 = .ok (.aload_n 0, 1) := by decide +kernel
theorem dL_law_258 : decode cL_law 258 = .ok (.iload 5, 2) := by decide +kernel
theorem dL_law_260 : decode cL_law 260 = .ok (.iconst 1, 1) := by decide +kernel
theorem dL_law_261 : decode cL_law 261 = .ok (.iadd, 1) := by decide +kernel
theorem dL_law_262 : decode cL_law 262 = .ok (.iaload, 1) := by decide +kernel
theorem dL_law_263 : decode cL_law 263 = .ok (.i2c, 1) := by decide +kernel
theorem dL_law_264 : decode cL_law 264 = .ok (.aload_n 0, 1) := by decide +kernel
theorem dL_law_265 : decode cL_law 265 = .ok (.iload 5, 2) := by decide +kernel
theorem dL_law_267 : decode cL_law 267 = .ok (.iconst 2, 1) := by decide +kernel
theorem dL_law_268 : decode cL_law 268 = .ok (.iadd, 1) := by decide +kernel
theorem dL_law_269 : decode cL_law 269 = .ok (.iaload, 1) := by decide +kernel
theorem dL_law_270 : decode cL_law 270 = .ok (.aload_n 0, 1) := by decide +kernel
theorem dL_law_271 : decode cL_law 271 = .ok (.iload 5, 2) := by decide +kernel
theorem dL_law_273 : decode cL_law 273 = .ok (.iconst 3, 1) := by decide +kernel
theorem dL_law_274 : decode cL_law 274 = .ok (.iadd, 1) := by decide +kernel
theorem dL_law_275 : decode cL_law 275 = .ok (.iaload, 1) := by decide +kernel
theorem dL_law_276 : decode cL_law 276 = .ok (.aload_n 0, 1) := by decide +kernel
theorem dL_law_277 : decode cL_law 277 = .ok (.iload 5, 2) := by decide +kernel
theorem dL_law_279 : decode cL_law 279 = .ok (.iconst 4, 1) := by decide +kernel
theorem dL_law_280 : decode cL_law 280 = .ok (.iadd, 1) := by decide +kernel
theorem dL_law_281 : decode cL_law 281 = .ok (.iaload, 1) := by decide +kernel
theorem dL_law_282 : decode cL_law 282 = .ok (.aload_n 3, 1) := by decide +kernel
theorem dL_law_283 : decode cL_law 283 = .ok (.invokestatic 173, 3) := by decide +kernel
theorem zm_332 : Cond.methodLink RL 173 yL_addShade ∈ WA := zmm (i := 332) (by decide +kernel) (by decide +kernel)
theorem zm_333 : Cond.static yL_addShade ∈ WA := zmm (i := 333) (by decide +kernel) (by decide +kernel)
theorem zm_44 : Cond.initialized RL ∈ WA := zmm (i := 44) (by decide +kernel) (by decide +kernel)
theorem zm_334 : Cond.codeWith yL_addShade method_3_code 7 (Option.some FieldType.int) [(0, 14, 17, 13), (0, 14, 21, 15), (0, 14, 25, 17)] ∈ WA := zmm (i := 334) (by decide +kernel) (by decide +kernel)
theorem dL_law_286 : decode cL_law 286 = .ok (.istore 6, 2) := by decide +kernel
theorem dL_law_288 : decode cL_law 288 = .ok (.aload_n 2, 1) := by decide +kernel
theorem dL_law_289 : decode cL_law 289 = .ok (.aload_n 0, 1) := by decide +kernel
theorem dL_law_290 : decode cL_law 290 = .ok (.iload 5, 2) := by decide +kernel
theorem dL_law_292 : decode cL_law 292 = .ok (.iconst 1, 1) := by decide +kernel
theorem dL_law_293 : decode cL_law 293 = .ok (.iadd, 1) := by decide +kernel
theorem dL_law_294 : decode cL_law 294 = .ok (.iaload, 1) := by decide +kernel
theorem dL_law_295 : decode cL_law 295 = .ok (.i2c, 1) := by decide +kernel
theorem dL_law_296 : decode cL_law 296 = .ok (.aload_n 0, 1) := by decide +kernel
theorem dL_law_297 : decode cL_law 297 = .ok (.iload 5, 2) := by decide +kernel
theorem dL_law_299 : decode cL_law 299 = .ok (.iconst 2, 1) := by decide +kernel
theorem dL_law_300 : decode cL_law 300 = .ok (.iadd, 1) := by decide +kernel
theorem dL_law_301 : decode cL_law 301 = .ok (.iaload, 1) := by decide +kernel
theorem dL_law_302 : decode cL_law 302 = .ok (.aload_n 0, 1) := by decide +kernel
theorem dL_law_303 : decode cL_law 303 = .ok (.iload 5, 2) := by decide +kernel
theorem dL_law_305 : decode cL_law 305 = .ok (.iconst 3, 1) := by decide +kernel
theorem dL_law_306 : decode cL_law 306 = .ok (.iadd, 1) := by decide +kernel
theorem dL_law_307 : decode cL_law 307 = .ok (.iaload, 1) := by decide +kernel
theorem dL_law_308 : decode cL_law 308 = .ok (.aload_n 0, 1) := by decide +kernel
theorem dL_law_309 : decode cL_law 309 = .ok (.iload 5, 2) := by decide +kernel
theorem dL_law_311 : decode cL_law 311 = .ok (.iconst 4, 1) := by decide +kernel
theorem dL_law_312 : decode cL_law 312 = .ok (.iadd, 1) := by decide +kernel
theorem dL_law_313 : decode cL_law 313 = .ok (.iaload, 1) := by decide +kernel
theorem dL_law_314 : decode cL_law 314 = .ok (.invokevirtual 178, 3) := by decide +kernel
theorem zm_1307 : Cond.methodLink RL 178 yX9_addShade ∈ WA := zmm (i := 1307) (by decide +kernel) (by decide +kernel)
theorem zm_1308 : Cond.instanceMethod yX9_addShade ∈ WA := zmm (i := 1308) (by decide +kernel) (by decide +kernel)
theorem zm_1309 : Cond.selects RX9 yX9_addShade yX9_addShade ∈ WA := zmm (i := 1309) (by decide +kernel) (by decide +kernel)
theorem zm_1310 : Cond.code yX9_addShade prog_8_method_7_code 8 (Option.some FieldType.int) ∈ WA := zmm (i := 1310) (by decide +kernel) (by decide +kernel)
theorem dL_law_317 : decode cL_law 317 = .ok (.istore 7, 2) := by decide +kernel
theorem dL_law_319 : decode cL_law 319 = .ok (.aload_n 2, 1) := by decide +kernel
theorem dL_law_320 : decode cL_law 320 = .ok (.invokevirtual 179, 3) := by decide +kernel
theorem zm_1303 : Cond.methodLink RL 179 yX9_thrown ∈ WA := zmm (i := 1303) (by decide +kernel) (by decide +kernel)
theorem zm_1304 : Cond.instanceMethod yX9_thrown ∈ WA := zmm (i := 1304) (by decide +kernel) (by decide +kernel)
theorem zm_1305 : Cond.selects RX9 yX9_thrown yX9_thrown ∈ WA := zmm (i := 1305) (by decide +kernel) (by decide +kernel)
theorem zm_1306 : Cond.code yX9_thrown prog_8_method_2_code 1 (Option.some FieldType.int) ∈ WA := zmm (i := 1306) (by decide +kernel) (by decide +kernel)
theorem dL_law_323 : decode cL_law 323 = .ok (.iload 6, 2) := by decide +kernel
theorem dL_law_325 : decode cL_law 325 = .ok (.if_icmp .eq 5, 3) := by decide +kernel
theorem dL_law_330 : decode cL_law 330 = .ok (.iload 6, 2) := by decide +kernel
theorem dL_law_332 : decode cL_law 332 = .ok (.ifCond .ne 15, 3) := by decide +kernel
theorem dL_law_347 : decode cL_law 347 = .ok (.goto 3102, 3) := by decide +kernel
theorem dL_law_335 : decode cL_law 335 = .ok (.aload_n 3, 1) := by decide +kernel
theorem dL_law_336 : decode cL_law 336 = .ok (.iconst 0, 1) := by decide +kernel
theorem dL_law_337 : decode cL_law 337 = .ok (.laload, 1) := by decide +kernel
theorem dL_law_338 : decode cL_law 338 = .ok (.iload 7, 2) := by decide +kernel
theorem dL_law_340 : decode cL_law 340 = .ok (.i2l, 1) := by decide +kernel
theorem dL_law_341 : decode cL_law 341 = .ok (.lcmp, 1) := by decide +kernel
theorem dL_law_342 : decode cL_law 342 = .ok (.ifCond .eq 5, 3) := by decide +kernel
set_option maxHeartbeats 4000000 in
set_option maxRecDepth 100000 in
theorem law_0 {p : Program} {e : Env} {s : State} {m : MethodId} {below : List Frame} {meth : Method} {c : Code} {l : Launch} {D : va_G} {A : Nat → Prop} {sa : Nat → Nat} {ea : Nat} {ad bd : Nat → Nat} {kC kI kO kD : ClassId} {oa od b : Nat} {xs : Nat → Int32} {Q : State → Prop} (C1 : zLw p l s m c b xs A sa ea bd) (hend : ∀ (H : Heap) (locs : List Loc) (ls : Array Slot), va_S A s.heap H locs → lv_has ls 9 [(5, .int 0), (0, .ref b)] → W p l e room_1 s m #[Value.ref b] below meth c H locs 2000 20000 Q (F0 m 3449 ls [])) {H : Heap} {locs : List Loc} {ls : Array Slot} (C2 : zSt D s A ad bd kC kI kO kD oa od b H locs ls) : W p l e room_1 s m #[Value.ref b] below meth c H locs 1000 10000 Q (F0 m 256 ls []) := by
  obtain ⟨hx, hb, hml, hown, hw, hX, hbl, hbA, hA, hT, hZ, hE, hQ, hst, he⟩ := C1
  obtain ⟨hK, hP, hD, hS, hl⟩ := C2
  have hP : va_P D vwCl [((ad 0), .inr (10, [.ref (ad 1), .ref (ad 2), .ref (ad 3), .ref (ad 4), .ref (ad 5), .int (-1), .int 100, .int 0, .int 0])), ((ad 1), .inr (7, [.ref (ad 6), .ref (ad 7), .ref (ad 8), .int 0])), ((ad 2), .inr (8, [.ref (ad 9), .ref (ad 10), .int 0])), ((ad 3), .inr (4, [.int 0, .ref (ad 14), .int 0])), ((ad 4), .inr (4, [.int 0, .ref (ad 14), .int 0])), ((ad 5), .inr (6, [.ref (ad 11), .ref (ad 12), .ref (ad 13), .int 0, .int 0])), ((bd 0), .inr (14, [.ref (bd 1), .ref (bd 2), .ref (bd 3), .ref (bd 4), .ref (bd 5), .ref (bd 6), .int 100, .int (-1), .int 0, .int 0])), ((bd 1), .inr (4, [.int 0, .ref (bd 7), .int 0])), ((bd 2), .inr (4, [.int 0, .ref (bd 7), .int 0])), ((bd 3), .inr (4, [.int 0, .ref (bd 7), .int 0])), ((bd 4), .inr (4, [.int 0, .ref (bd 7), .int 0])), ((bd 5), .inr (4, [.int 0, .ref (bd 7), .int 0])), ((bd 6), .inr (4, [.int 0, .ref (bd 7), .int 0])), ((ad 6), .inl (kC, 12, .inl (fun _ => 0))), ((ad 7), .inl (kI, 36, .inl (fun _ => 0))), (oa, .inl (kO, 1, .inr (.inl (fun _ => 0)))), (od, .inl (kD, 1, .inr (.inr (.inr (.inl (fun _ => 0))))))] H := hP
  have hD : va_D A [((ad 0), .inr (10, [.ref (ad 1), .ref (ad 2), .ref (ad 3), .ref (ad 4), .ref (ad 5), .int (-1), .int 100, .int 0, .int 0])), ((ad 1), .inr (7, [.ref (ad 6), .ref (ad 7), .ref (ad 8), .int 0])), ((ad 2), .inr (8, [.ref (ad 9), .ref (ad 10), .int 0])), ((ad 3), .inr (4, [.int 0, .ref (ad 14), .int 0])), ((ad 4), .inr (4, [.int 0, .ref (ad 14), .int 0])), ((ad 5), .inr (6, [.ref (ad 11), .ref (ad 12), .ref (ad 13), .int 0, .int 0])), ((bd 0), .inr (14, [.ref (bd 1), .ref (bd 2), .ref (bd 3), .ref (bd 4), .ref (bd 5), .ref (bd 6), .int 100, .int (-1), .int 0, .int 0])), ((bd 1), .inr (4, [.int 0, .ref (bd 7), .int 0])), ((bd 2), .inr (4, [.int 0, .ref (bd 7), .int 0])), ((bd 3), .inr (4, [.int 0, .ref (bd 7), .int 0])), ((bd 4), .inr (4, [.int 0, .ref (bd 7), .int 0])), ((bd 5), .inr (4, [.int 0, .ref (bd 7), .int 0])), ((bd 6), .inr (4, [.int 0, .ref (bd 7), .int 0])), ((ad 6), .inl (kC, 12, .inl (fun _ => 0))), ((ad 7), .inl (kI, 36, .inl (fun _ => 0))), (oa, .inl (kO, 1, .inr (.inl (fun _ => 0)))), (od, .inl (kD, 1, .inr (.inr (.inr (.inl (fun _ => 0))))))] := hD
  refine lv_aload_n hx hb dL_law_256 rfl (lv_at hl 4 rfl) ?_
  refine lv_aload_n hx hb dL_law_257 rfl (lv_at hl 5 rfl) ?_
  refine lv_iload hx hb dL_law_258 (lv_at hl 0 rfl) ?_
  refine lv_iconst (v := 1) hx hb dL_law_260 (by decide) ?_
  refine lv_iadd hx hb dL_law_261 ?_
  refine lv_topi (fun f_1 ef_1 => ?_)
  obtain rfl : f_1 = 1 := ef_1.trans (by decide)
  refine va_sld (i := 1) hx hb hX hbl hbA hS (by unfold vp_in; decide) dL_law_262 ?_
  refine lv_i2c hx hb dL_law_263 rfl ?_
  refine lv_aload_n hx hb dL_law_264 rfl (lv_at hl 5 rfl) ?_
  refine lv_iload hx hb dL_law_265 (lv_at hl 0 rfl) ?_
  refine lv_iconst (v := 2) hx hb dL_law_267 (by decide) ?_
  refine lv_iadd hx hb dL_law_268 ?_
  refine lv_topi (fun f_3 ef_3 => ?_)
  obtain rfl : f_3 = 2 := ef_3.trans (by decide)
  refine va_sld (i := 2) hx hb hX hbl hbA hS (by unfold vp_in; decide) dL_law_269 ?_
  refine lv_aload_n hx hb dL_law_270 rfl (lv_at hl 5 rfl) ?_
  refine lv_iload hx hb dL_law_271 (lv_at hl 0 rfl) ?_
  refine lv_iconst (v := 3) hx hb dL_law_273 (by decide) ?_
  refine lv_iadd hx hb dL_law_274 ?_
  refine lv_topi (fun f_4 ef_4 => ?_)
  obtain rfl : f_4 = 3 := ef_4.trans (by decide)
  refine va_sld (i := 3) hx hb hX hbl hbA hS (by unfold vp_in; decide) dL_law_275 ?_
  refine lv_aload_n hx hb dL_law_276 rfl (lv_at hl 5 rfl) ?_
  refine lv_iload hx hb dL_law_277 (lv_at hl 0 rfl) ?_
  refine lv_iconst (v := 4) hx hb dL_law_279 (by decide) ?_
  refine lv_iadd hx hb dL_law_280 ?_
  refine lv_topi (fun f_5 ef_5 => ?_)
  obtain rfl : f_5 = 4 := ef_5.trans (by decide)
  refine va_sld (i := 4) hx hb hX hbl hbA hS (by unfold vp_in; decide) dL_law_281 ?_
  refine lv_aload_n hx hb dL_law_282 rfl (lv_at hl 2 rfl) ?_
  rcases z_two (((xs (Int32.toNatClampNeg 1)).toUInt32 % 65536).toInt32) 65 90 with h_6 | h_6
  · have hPc := hP.sub (ws' := [((ad 0), .inr (10, [.ref (ad 1), .ref (ad 2), .ref (ad 3), .ref (ad 4), .ref (ad 5), .int (-1), .int 100, .int 0, .int 0])), ((ad 1), .inr (7, [.ref (ad 6), .ref (ad 7), .ref (ad 8), .int 0])), ((ad 2), .inr (8, [.ref (ad 9), .ref (ad 10), .int 0])), ((ad 3), .inr (4, [.int 0, .ref (ad 14), .int 0])), ((ad 4), .inr (4, [.int 0, .ref (ad 14), .int 0])), ((ad 5), .inr (6, [.ref (ad 11), .ref (ad 12), .ref (ad 13), .int 0, .int 0]))]) [0, 1, 2, 3, 4, 5] rfl
    refine vx_calli (vx_runSX (As := [.ref (ad 0), .int (((xs (Int32.toNatClampNeg 1)).toUInt32 % 65536).toInt32), .int (xs (Int32.toNatClampNeg 2)), .int (xs (Int32.toNatClampNeg 3)), .int (xs (Int32.toNatClampNeg 4)), .ref oa]) (rest := []) ⟨hx, hb, hml, hown, hw⟩ (c_L_addShade0 l hst D sa ad _ (((xs (Int32.toNatClampNeg 1)).toUInt32 % 65536).toInt32) (xs (Int32.toNatClampNeg 2)) (xs (Int32.toNatClampNeg 3)) (xs (Int32.toNatClampNeg 4)) oa h_6) (vx_cwSW 6 hw (zg3 zm_332 zm_333 zm_44 zm_334) rfl rfl rfl (by decide +kernel) ⟨Nat.le_of_ble_eq_true rfl, Nat.le_of_ble_eq_true rfl⟩) ⟨zR_blind, zR_pre hPc hK hT hZ hS hA⟩ rfl rfl hl.1 rfl (lv_room (Nat.le_of_ble_eq_true rfl)) dL_law_283 ⟨Nat.le_of_ble_eq_true rfl, Nat.le_of_ble_eq_true rfl⟩) hS zN_in (zN_fr hS hA) zN_in (fun E ce q9 u t H1 locs1 ht hvm hu hE => hE.elim) (fun r_7 u t H locs ht hvm hw1 hB hz1 hk1 hS => ?_)
    have hP := zN_keep hP hk1
    subst hw1
    refine lv_istore (lv' := [(6, .int 1), (5, .int 0), (4, .ref od), (3, .ref oa), (2, .ref (bd 0)), (1, .ref (ad 0)), (0, .ref b)]) hx hb dL_law_286 hl (by decide) rfl (fun ls hl => ?_)
    refine lv_aload_n hx hb dL_law_288 rfl (lv_at hl 4 rfl) ?_
    refine lv_aload_n hx hb dL_law_289 rfl (lv_at hl 6 rfl) ?_
    refine lv_iload hx hb dL_law_290 (lv_at hl 1 rfl) ?_
    refine lv_iconst (v := 1) hx hb dL_law_292 (by decide) ?_
    refine lv_iadd hx hb dL_law_293 ?_
    refine lv_topi (fun f_8 ef_8 => ?_)
    obtain rfl : f_8 = 1 := ef_8.trans (by decide)
    refine va_sld (i := 1) hx hb hX hbl hbA hS (by unfold vp_in; decide) dL_law_294 ?_
    refine lv_i2c hx hb dL_law_295 rfl ?_
    refine lv_aload_n hx hb dL_law_296 rfl (lv_at hl 6 rfl) ?_
    refine lv_iload hx hb dL_law_297 (lv_at hl 1 rfl) ?_
    refine lv_iconst (v := 2) hx hb dL_law_299 (by decide) ?_
    refine lv_iadd hx hb dL_law_300 ?_
    refine lv_topi (fun f_10 ef_10 => ?_)
    obtain rfl : f_10 = 2 := ef_10.trans (by decide)
    refine va_sld (i := 2) hx hb hX hbl hbA hS (by unfold vp_in; decide) dL_law_301 ?_
    refine lv_aload_n hx hb dL_law_302 rfl (lv_at hl 6 rfl) ?_
    refine lv_iload hx hb dL_law_303 (lv_at hl 1 rfl) ?_
    refine lv_iconst (v := 3) hx hb dL_law_305 (by decide) ?_
    refine lv_iadd hx hb dL_law_306 ?_
    refine lv_topi (fun f_11 ef_11 => ?_)
    obtain rfl : f_11 = 3 := ef_11.trans (by decide)
    refine va_sld (i := 3) hx hb hX hbl hbA hS (by unfold vp_in; decide) dL_law_307 ?_
    refine lv_aload_n hx hb dL_law_308 rfl (lv_at hl 6 rfl) ?_
    refine lv_iload hx hb dL_law_309 (lv_at hl 1 rfl) ?_
    refine lv_iconst (v := 4) hx hb dL_law_311 (by decide) ?_
    refine lv_iadd hx hb dL_law_312 ?_
    refine lv_topi (fun f_12 ef_12 => ?_)
    obtain rfl : f_12 = 4 := ef_12.trans (by decide)
    refine va_sld (i := 4) hx hb hX hbl hbA hS (by unfold vp_in; decide) dL_law_313 ?_
    have hPc := hP.sub (ws' := [((bd 0), .inr (14, [.ref (bd 1), .ref (bd 2), .ref (bd 3), .ref (bd 4), .ref (bd 5), .ref (bd 6), .int 100, .int (-1), .int 0, .int 0])), ((bd 1), .inr (4, [.int 0, .ref (bd 7), .int 0])), ((bd 2), .inr (4, [.int 0, .ref (bd 7), .int 0])), ((bd 3), .inr (4, [.int 0, .ref (bd 7), .int 0])), ((bd 4), .inr (4, [.int 0, .ref (bd 7), .int 0])), ((bd 5), .inr (4, [.int 0, .ref (bd 7), .int 0])), ((bd 6), .inr (4, [.int 0, .ref (bd 7), .int 0]))]) [6, 7, 8, 9, 10, 11, 12] rfl
    have hDc := hD.sub (ws' := [((bd 0), .inr (14, [.ref (bd 1), .ref (bd 2), .ref (bd 3), .ref (bd 4), .ref (bd 5), .ref (bd 6), .int 100, .int (-1), .int 0, .int 0])), ((bd 1), .inr (4, [.int 0, .ref (bd 7), .int 0])), ((bd 2), .inr (4, [.int 0, .ref (bd 7), .int 0])), ((bd 3), .inr (4, [.int 0, .ref (bd 7), .int 0])), ((bd 4), .inr (4, [.int 0, .ref (bd 7), .int 0])), ((bd 5), .inr (4, [.int 0, .ref (bd 7), .int 0])), ((bd 6), .inr (4, [.int 0, .ref (bd 7), .int 0]))]) [6, 7, 8, 9, 10, 11, 12] (by decide) rfl
    have hFc := va_free (wc := [((bd 0), .inr (14, [.ref (bd 1), .ref (bd 2), .ref (bd 3), .ref (bd 4), .ref (bd 5), .ref (bd 6), .int 100, .int (-1), .int 0, .int 0])), ((bd 1), .inr (4, [.int 0, .ref (bd 7), .int 0])), ((bd 2), .inr (4, [.int 0, .ref (bd 7), .int 0])), ((bd 3), .inr (4, [.int 0, .ref (bd 7), .int 0])), ((bd 4), .inr (4, [.int 0, .ref (bd 7), .int 0])), ((bd 5), .inr (4, [.int 0, .ref (bd 7), .int 0])), ((bd 6), .inr (4, [.int 0, .ref (bd 7), .int 0]))]) hD hS hA [6, 7, 8, 9, 10, 11, 12] rfl
    refine va_calli (va_runV (As := [.int (((xs (Int32.toNatClampNeg 1)).toUInt32 % 65536).toInt32), .int (xs (Int32.toNatClampNeg 2)), .int (xs (Int32.toNatClampNeg 3)), .int (xs (Int32.toNatClampNeg 4))]) (rest := []) ⟨hx, hb, hml, hown, hw⟩ (c_X9_addShade0 l D sa ea bd 0 _ (((xs (Int32.toNatClampNeg 1)).toUInt32 % 65536).toInt32) (xs (Int32.toNatClampNeg 2)) (xs (Int32.toNatClampNeg 3)) (xs (Int32.toNatClampNeg 4)) h_6) (cwV 4 hw (zg4 zm_1307 zm_1308 zm_1309 zm_53 zm_1310) rfl rfl rfl (by decide +kernel) ⟨Nat.le_of_ble_eq_true rfl, Nat.le_of_ble_eq_true rfl⟩) ⟨zW_blind, va_recv hK hPc (ci := 14) (q0 := 0) rfl rfl, zW_pre hPc (hK.sub (tys' := []) [] rfl) hDc hT hE hS hFc⟩ rfl rfl hl.1 rfl (lv_room (Nat.le_of_ble_eq_true rfl)) dL_law_314 ⟨Nat.le_of_ble_eq_true rfl, Nat.le_of_ble_eq_true rfl⟩) hS (fun q _ h => hFc q h) hFc (fun r_13 u t H locs ht hvm hw1 hB hz1 hk1 hS => ?_)
    subst hw1
    obtain ⟨hP1, hD1⟩ := hB
    rw [ht] at hP1
    obtain ⟨hP, hD⟩ := va_join (wr := [((ad 0), .inr (10, [.ref (ad 1), .ref (ad 2), .ref (ad 3), .ref (ad 4), .ref (ad 5), .int (-1), .int 100, .int 0, .int 0])), ((ad 1), .inr (7, [.ref (ad 6), .ref (ad 7), .ref (ad 8), .int 0])), ((ad 2), .inr (8, [.ref (ad 9), .ref (ad 10), .int 0])), ((ad 3), .inr (4, [.int 0, .ref (ad 14), .int 0])), ((ad 4), .inr (4, [.int 0, .ref (ad 14), .int 0])), ((ad 5), .inr (6, [.ref (ad 11), .ref (ad 12), .ref (ad 13), .int 0, .int 0])), ((ad 6), .inl (kC, 12, .inl (fun _ => 0))), ((ad 7), .inl (kI, 36, .inl (fun _ => 0))), (oa, .inl (kO, 1, .inr (.inl (fun _ => 0)))), (od, .inl (kD, 1, .inr (.inr (.inr (.inl (fun _ => 0))))))]) (w1 := [((bd 0), .inr (14, [.ref (bd 1), .ref (bd 2), .ref (bd 3), .ref (bd 4), .ref (bd 5), .ref (bd 6), .int 100, .int (-1), .int 0, .int 1])), ((bd 1), .inr (4, [.int 0, .ref (bd 7), .int 0])), ((bd 2), .inr (4, [.int 0, .ref (bd 7), .int 0])), ((bd 3), .inr (4, [.int 0, .ref (bd 7), .int 0])), ((bd 4), .inr (4, [.int 0, .ref (bd 7), .int 0])), ((bd 5), .inr (4, [.int 0, .ref (bd 7), .int 0])), ((bd 6), .inr (4, [.int 0, .ref (bd 7), .int 0]))]) hP hD [6, 7, 8, 9, 10, 11, 12] [0, 1, 2, 3, 4, 5, 13, 14, 15, 16] rfl rfl (by decide) (by decide) hk1 hFc hP1 hD1
    have hP : va_P D vwCl [((ad 0), .inr (10, [.ref (ad 1), .ref (ad 2), .ref (ad 3), .ref (ad 4), .ref (ad 5), .int (-1), .int 100, .int 0, .int 0])), ((ad 1), .inr (7, [.ref (ad 6), .ref (ad 7), .ref (ad 8), .int 0])), ((ad 2), .inr (8, [.ref (ad 9), .ref (ad 10), .int 0])), ((ad 3), .inr (4, [.int 0, .ref (ad 14), .int 0])), ((ad 4), .inr (4, [.int 0, .ref (ad 14), .int 0])), ((ad 5), .inr (6, [.ref (ad 11), .ref (ad 12), .ref (ad 13), .int 0, .int 0])), ((ad 6), .inl (kC, 12, .inl (fun _ => 0))), ((ad 7), .inl (kI, 36, .inl (fun _ => 0))), (oa, .inl (kO, 1, .inr (.inl (fun _ => 0)))), (od, .inl (kD, 1, .inr (.inr (.inr (.inl (fun _ => 0)))))), ((bd 0), .inr (14, [.ref (bd 1), .ref (bd 2), .ref (bd 3), .ref (bd 4), .ref (bd 5), .ref (bd 6), .int 100, .int (-1), .int 0, .int 1])), ((bd 1), .inr (4, [.int 0, .ref (bd 7), .int 0])), ((bd 2), .inr (4, [.int 0, .ref (bd 7), .int 0])), ((bd 3), .inr (4, [.int 0, .ref (bd 7), .int 0])), ((bd 4), .inr (4, [.int 0, .ref (bd 7), .int 0])), ((bd 5), .inr (4, [.int 0, .ref (bd 7), .int 0])), ((bd 6), .inr (4, [.int 0, .ref (bd 7), .int 0]))] H := hP
    have hD : va_D A [((ad 0), .inr (10, [.ref (ad 1), .ref (ad 2), .ref (ad 3), .ref (ad 4), .ref (ad 5), .int (-1), .int 100, .int 0, .int 0])), ((ad 1), .inr (7, [.ref (ad 6), .ref (ad 7), .ref (ad 8), .int 0])), ((ad 2), .inr (8, [.ref (ad 9), .ref (ad 10), .int 0])), ((ad 3), .inr (4, [.int 0, .ref (ad 14), .int 0])), ((ad 4), .inr (4, [.int 0, .ref (ad 14), .int 0])), ((ad 5), .inr (6, [.ref (ad 11), .ref (ad 12), .ref (ad 13), .int 0, .int 0])), ((ad 6), .inl (kC, 12, .inl (fun _ => 0))), ((ad 7), .inl (kI, 36, .inl (fun _ => 0))), (oa, .inl (kO, 1, .inr (.inl (fun _ => 0)))), (od, .inl (kD, 1, .inr (.inr (.inr (.inl (fun _ => 0)))))), ((bd 0), .inr (14, [.ref (bd 1), .ref (bd 2), .ref (bd 3), .ref (bd 4), .ref (bd 5), .ref (bd 6), .int 100, .int (-1), .int 0, .int 1])), ((bd 1), .inr (4, [.int 0, .ref (bd 7), .int 0])), ((bd 2), .inr (4, [.int 0, .ref (bd 7), .int 0])), ((bd 3), .inr (4, [.int 0, .ref (bd 7), .int 0])), ((bd 4), .inr (4, [.int 0, .ref (bd 7), .int 0])), ((bd 5), .inr (4, [.int 0, .ref (bd 7), .int 0])), ((bd 6), .inr (4, [.int 0, .ref (bd 7), .int 0]))] := hD
    have hK : va_K D vwCl [(kC, .char), (kI, .int), (kO, .long), (kD, .double)] s := hK
    refine lv_istore (lv' := [(7, .int 0), (6, .int 1), (5, .int 0), (4, .ref od), (3, .ref oa), (2, .ref (bd 0)), (1, .ref (ad 0)), (0, .ref b)]) hx hb dL_law_317 hl (by decide) rfl (fun ls hl => ?_)
    refine lv_aload_n hx hb dL_law_319 rfl (lv_at hl 5 rfl) ?_
    have hPc := hP.sub (ws' := [((bd 0), .inr (14, [.ref (bd 1), .ref (bd 2), .ref (bd 3), .ref (bd 4), .ref (bd 5), .ref (bd 6), .int 100, .int (-1), .int 0, .int 1])), ((bd 1), .inr (4, [.int 0, .ref (bd 7), .int 0])), ((bd 2), .inr (4, [.int 0, .ref (bd 7), .int 0])), ((bd 3), .inr (4, [.int 0, .ref (bd 7), .int 0])), ((bd 4), .inr (4, [.int 0, .ref (bd 7), .int 0])), ((bd 5), .inr (4, [.int 0, .ref (bd 7), .int 0])), ((bd 6), .inr (4, [.int 0, .ref (bd 7), .int 0]))]) [10, 11, 12, 13, 14, 15, 16] rfl
    refine va_calli (va_runV (As := []) (rest := []) ⟨hx, hb, hml, hown, hw⟩ (c_X9_thrown l D sa bd 1 _) (cwV 0 hw (zg4 zm_1303 zm_1304 zm_1305 zm_53 zm_1306) rfl rfl rfl (by decide +kernel) ⟨Nat.le_of_ble_eq_true rfl, Nat.le_of_ble_eq_true rfl⟩) ⟨zJ_blind, va_recv hK hPc (ci := 14) (q0 := 0) rfl rfl, zJ_pre hPc hK hT⟩ rfl rfl hl.1 rfl (lv_room (Nat.le_of_ble_eq_true rfl)) dL_law_320 ⟨Nat.le_of_ble_eq_true rfl, Nat.le_of_ble_eq_true rfl⟩) hS zN_in (zN_fr hS hA) (fun r_14 u t H locs ht hvm hw1 hB hz1 hk1 hS => ?_)
    have hP := zN_keep hP hk1
    subst hw1
    refine lv_iload hx hb dL_law_323 (lv_at hl 1 rfl) ?_
    refine lv_icmp_eq (tgt := 330) hx hb dL_law_325 (by decide) (fun _ => ?_) (fun c_15 => absurd (by decide) c_15)
    refine lv_iload hx hb dL_law_330 (lv_at hl 1 rfl) ?_
    refine lv_if_ne (tgt := 347) hx hb dL_law_332 (by decide) (fun _ => ?_) (fun c_16 => absurd c_16 (by decide))
    refine lv_goto (tgt := 3449) hx hb dL_law_347 (by decide) ?_
    refine W.widen (k := 2000) (n := 20000) (Nat.le_of_ble_eq_true rfl) (Nat.le_of_ble_eq_true rfl) ?_
    exact hend _ _ _ hS (lv_sub hl [2, 7] rfl)
  · rcases z_two (xs (Int32.toNatClampNeg 2)) 0 31 with h_17 | h_17
    · have hPc := hP.sub (ws' := [((ad 0), .inr (10, [.ref (ad 1), .ref (ad 2), .ref (ad 3), .ref (ad 4), .ref (ad 5), .int (-1), .int 100, .int 0, .int 0])), ((ad 1), .inr (7, [.ref (ad 6), .ref (ad 7), .ref (ad 8), .int 0])), ((ad 2), .inr (8, [.ref (ad 9), .ref (ad 10), .int 0])), ((ad 3), .inr (4, [.int 0, .ref (ad 14), .int 0])), ((ad 4), .inr (4, [.int 0, .ref (ad 14), .int 0])), ((ad 5), .inr (6, [.ref (ad 11), .ref (ad 12), .ref (ad 13), .int 0, .int 0]))]) [0, 1, 2, 3, 4, 5] rfl
      refine vx_calli (vx_runSX (As := [.ref (ad 0), .int (((xs (Int32.toNatClampNeg 1)).toUInt32 % 65536).toInt32), .int (xs (Int32.toNatClampNeg 2)), .int (xs (Int32.toNatClampNeg 3)), .int (xs (Int32.toNatClampNeg 4)), .ref oa]) (rest := []) ⟨hx, hb, hml, hown, hw⟩ (c_L_addShade1 l hst D sa ad _ (((xs (Int32.toNatClampNeg 1)).toUInt32 % 65536).toInt32) (xs (Int32.toNatClampNeg 2)) (xs (Int32.toNatClampNeg 3)) (xs (Int32.toNatClampNeg 4)) oa h_6 h_17) (vx_cwSW 6 hw (zg3 zm_332 zm_333 zm_44 zm_334) rfl rfl rfl (by decide +kernel) ⟨Nat.le_of_ble_eq_true rfl, Nat.le_of_ble_eq_true rfl⟩) ⟨zR_blind, zR_pre hPc hK hT hZ hS hA⟩ rfl rfl hl.1 rfl (lv_room (Nat.le_of_ble_eq_true rfl)) dL_law_283 ⟨Nat.le_of_ble_eq_true rfl, Nat.le_of_ble_eq_true rfl⟩) hS zN_in (zN_fr hS hA) zN_in (fun E ce q9 u t H1 locs1 ht hvm hu hE => hE.elim) (fun r_18 u t H locs ht hvm hw1 hB hz1 hk1 hS => ?_)
      have hP := zN_keep hP hk1
      subst hw1
      refine lv_istore (lv' := [(6, .int 1), (5, .int 0), (4, .ref od), (3, .ref oa), (2, .ref (bd 0)), (1, .ref (ad 0)), (0, .ref b)]) hx hb dL_law_286 hl (by decide) rfl (fun ls hl => ?_)
      refine lv_aload_n hx hb dL_law_288 rfl (lv_at hl 4 rfl) ?_
      refine lv_aload_n hx hb dL_law_289 rfl (lv_at hl 6 rfl) ?_
      refine lv_iload hx hb dL_law_290 (lv_at hl 1 rfl) ?_
      refine lv_iconst (v := 1) hx hb dL_law_292 (by decide) ?_
      refine lv_iadd hx hb dL_law_293 ?_
      refine lv_topi (fun f_19 ef_19 => ?_)
      obtain rfl : f_19 = 1 := ef_19.trans (by decide)
      refine va_sld (i := 1) hx hb hX hbl hbA hS (by unfold vp_in; decide) dL_law_294 ?_
      refine lv_i2c hx hb dL_law_295 rfl ?_
      refine lv_aload_n hx hb dL_law_296 rfl (lv_at hl 6 rfl) ?_
      refine lv_iload hx hb dL_law_297 (lv_at hl 1 rfl) ?_
      refine lv_iconst (v := 2) hx hb dL_law_299 (by decide) ?_
      refine lv_iadd hx hb dL_law_300 ?_
      refine lv_topi (fun f_21 ef_21 => ?_)
      obtain rfl : f_21 = 2 := ef_21.trans (by decide)
      refine va_sld (i := 2) hx hb hX hbl hbA hS (by unfold vp_in; decide) dL_law_301 ?_
      refine lv_aload_n hx hb dL_law_302 rfl (lv_at hl 6 rfl) ?_
      refine lv_iload hx hb dL_law_303 (lv_at hl 1 rfl) ?_
      refine lv_iconst (v := 3) hx hb dL_law_305 (by decide) ?_
      refine lv_iadd hx hb dL_law_306 ?_
      refine lv_topi (fun f_22 ef_22 => ?_)
      obtain rfl : f_22 = 3 := ef_22.trans (by decide)
      refine va_sld (i := 3) hx hb hX hbl hbA hS (by unfold vp_in; decide) dL_law_307 ?_
      refine lv_aload_n hx hb dL_law_308 rfl (lv_at hl 6 rfl) ?_
      refine lv_iload hx hb dL_law_309 (lv_at hl 1 rfl) ?_
      refine lv_iconst (v := 4) hx hb dL_law_311 (by decide) ?_
      refine lv_iadd hx hb dL_law_312 ?_
      refine lv_topi (fun f_23 ef_23 => ?_)
      obtain rfl : f_23 = 4 := ef_23.trans (by decide)
      refine va_sld (i := 4) hx hb hX hbl hbA hS (by unfold vp_in; decide) dL_law_313 ?_
      have hPc := hP.sub (ws' := [((bd 0), .inr (14, [.ref (bd 1), .ref (bd 2), .ref (bd 3), .ref (bd 4), .ref (bd 5), .ref (bd 6), .int 100, .int (-1), .int 0, .int 0])), ((bd 1), .inr (4, [.int 0, .ref (bd 7), .int 0])), ((bd 2), .inr (4, [.int 0, .ref (bd 7), .int 0])), ((bd 3), .inr (4, [.int 0, .ref (bd 7), .int 0])), ((bd 4), .inr (4, [.int 0, .ref (bd 7), .int 0])), ((bd 5), .inr (4, [.int 0, .ref (bd 7), .int 0])), ((bd 6), .inr (4, [.int 0, .ref (bd 7), .int 0]))]) [6, 7, 8, 9, 10, 11, 12] rfl
      have hDc := hD.sub (ws' := [((bd 0), .inr (14, [.ref (bd 1), .ref (bd 2), .ref (bd 3), .ref (bd 4), .ref (bd 5), .ref (bd 6), .int 100, .int (-1), .int 0, .int 0])), ((bd 1), .inr (4, [.int 0, .ref (bd 7), .int 0])), ((bd 2), .inr (4, [.int 0, .ref (bd 7), .int 0])), ((bd 3), .inr (4, [.int 0, .ref (bd 7), .int 0])), ((bd 4), .inr (4, [.int 0, .ref (bd 7), .int 0])), ((bd 5), .inr (4, [.int 0, .ref (bd 7), .int 0])), ((bd 6), .inr (4, [.int 0, .ref (bd 7), .int 0]))]) [6, 7, 8, 9, 10, 11, 12] (by decide) rfl
      have hFc := va_free (wc := [((bd 0), .inr (14, [.ref (bd 1), .ref (bd 2), .ref (bd 3), .ref (bd 4), .ref (bd 5), .ref (bd 6), .int 100, .int (-1), .int 0, .int 0])), ((bd 1), .inr (4, [.int 0, .ref (bd 7), .int 0])), ((bd 2), .inr (4, [.int 0, .ref (bd 7), .int 0])), ((bd 3), .inr (4, [.int 0, .ref (bd 7), .int 0])), ((bd 4), .inr (4, [.int 0, .ref (bd 7), .int 0])), ((bd 5), .inr (4, [.int 0, .ref (bd 7), .int 0])), ((bd 6), .inr (4, [.int 0, .ref (bd 7), .int 0]))]) hD hS hA [6, 7, 8, 9, 10, 11, 12] rfl
      refine va_calli (va_runV (As := [.int (((xs (Int32.toNatClampNeg 1)).toUInt32 % 65536).toInt32), .int (xs (Int32.toNatClampNeg 2)), .int (xs (Int32.toNatClampNeg 3)), .int (xs (Int32.toNatClampNeg 4))]) (rest := []) ⟨hx, hb, hml, hown, hw⟩ (c_X9_addShade1 l D sa ea bd 0 _ (((xs (Int32.toNatClampNeg 1)).toUInt32 % 65536).toInt32) (xs (Int32.toNatClampNeg 2)) (xs (Int32.toNatClampNeg 3)) (xs (Int32.toNatClampNeg 4)) h_6 h_17) (cwV 4 hw (zg4 zm_1307 zm_1308 zm_1309 zm_53 zm_1310) rfl rfl rfl (by decide +kernel) ⟨Nat.le_of_ble_eq_true rfl, Nat.le_of_ble_eq_true rfl⟩) ⟨zW_blind, va_recv hK hPc (ci := 14) (q0 := 0) rfl rfl, zW_pre hPc (hK.sub (tys' := []) [] rfl) hDc hT hE hS hFc⟩ rfl rfl hl.1 rfl (lv_room (Nat.le_of_ble_eq_true rfl)) dL_law_314 ⟨Nat.le_of_ble_eq_true rfl, Nat.le_of_ble_eq_true rfl⟩) hS (fun q _ h => hFc q h) hFc (fun r_24 u t H locs ht hvm hw1 hB hz1 hk1 hS => ?_)
      subst hw1
      obtain ⟨hP1, hD1⟩ := hB
      rw [ht] at hP1
      obtain ⟨hP, hD⟩ := va_join (wr := [((ad 0), .inr (10, [.ref (ad 1), .ref (ad 2), .ref (ad 3), .ref (ad 4), .ref (ad 5), .int (-1), .int 100, .int 0, .int 0])), ((ad 1), .inr (7, [.ref (ad 6), .ref (ad 7), .ref (ad 8), .int 0])), ((ad 2), .inr (8, [.ref (ad 9), .ref (ad 10), .int 0])), ((ad 3), .inr (4, [.int 0, .ref (ad 14), .int 0])), ((ad 4), .inr (4, [.int 0, .ref (ad 14), .int 0])), ((ad 5), .inr (6, [.ref (ad 11), .ref (ad 12), .ref (ad 13), .int 0, .int 0])), ((ad 6), .inl (kC, 12, .inl (fun _ => 0))), ((ad 7), .inl (kI, 36, .inl (fun _ => 0))), (oa, .inl (kO, 1, .inr (.inl (fun _ => 0)))), (od, .inl (kD, 1, .inr (.inr (.inr (.inl (fun _ => 0))))))]) (w1 := [((bd 0), .inr (14, [.ref (bd 1), .ref (bd 2), .ref (bd 3), .ref (bd 4), .ref (bd 5), .ref (bd 6), .int 100, .int (-1), .int 0, .int 1])), ((bd 1), .inr (4, [.int 0, .ref (bd 7), .int 0])), ((bd 2), .inr (4, [.int 0, .ref (bd 7), .int 0])), ((bd 3), .inr (4, [.int 0, .ref (bd 7), .int 0])), ((bd 4), .inr (4, [.int 0, .ref (bd 7), .int 0])), ((bd 5), .inr (4, [.int 0, .ref (bd 7), .int 0])), ((bd 6), .inr (4, [.int 0, .ref (bd 7), .int 0]))]) hP hD [6, 7, 8, 9, 10, 11, 12] [0, 1, 2, 3, 4, 5, 13, 14, 15, 16] rfl rfl (by decide) (by decide) hk1 hFc hP1 hD1
      have hP : va_P D vwCl [((ad 0), .inr (10, [.ref (ad 1), .ref (ad 2), .ref (ad 3), .ref (ad 4), .ref (ad 5), .int (-1), .int 100, .int 0, .int 0])), ((ad 1), .inr (7, [.ref (ad 6), .ref (ad 7), .ref (ad 8), .int 0])), ((ad 2), .inr (8, [.ref (ad 9), .ref (ad 10), .int 0])), ((ad 3), .inr (4, [.int 0, .ref (ad 14), .int 0])), ((ad 4), .inr (4, [.int 0, .ref (ad 14), .int 0])), ((ad 5), .inr (6, [.ref (ad 11), .ref (ad 12), .ref (ad 13), .int 0, .int 0])), ((ad 6), .inl (kC, 12, .inl (fun _ => 0))), ((ad 7), .inl (kI, 36, .inl (fun _ => 0))), (oa, .inl (kO, 1, .inr (.inl (fun _ => 0)))), (od, .inl (kD, 1, .inr (.inr (.inr (.inl (fun _ => 0)))))), ((bd 0), .inr (14, [.ref (bd 1), .ref (bd 2), .ref (bd 3), .ref (bd 4), .ref (bd 5), .ref (bd 6), .int 100, .int (-1), .int 0, .int 1])), ((bd 1), .inr (4, [.int 0, .ref (bd 7), .int 0])), ((bd 2), .inr (4, [.int 0, .ref (bd 7), .int 0])), ((bd 3), .inr (4, [.int 0, .ref (bd 7), .int 0])), ((bd 4), .inr (4, [.int 0, .ref (bd 7), .int 0])), ((bd 5), .inr (4, [.int 0, .ref (bd 7), .int 0])), ((bd 6), .inr (4, [.int 0, .ref (bd 7), .int 0]))] H := hP
      have hD : va_D A [((ad 0), .inr (10, [.ref (ad 1), .ref (ad 2), .ref (ad 3), .ref (ad 4), .ref (ad 5), .int (-1), .int 100, .int 0, .int 0])), ((ad 1), .inr (7, [.ref (ad 6), .ref (ad 7), .ref (ad 8), .int 0])), ((ad 2), .inr (8, [.ref (ad 9), .ref (ad 10), .int 0])), ((ad 3), .inr (4, [.int 0, .ref (ad 14), .int 0])), ((ad 4), .inr (4, [.int 0, .ref (ad 14), .int 0])), ((ad 5), .inr (6, [.ref (ad 11), .ref (ad 12), .ref (ad 13), .int 0, .int 0])), ((ad 6), .inl (kC, 12, .inl (fun _ => 0))), ((ad 7), .inl (kI, 36, .inl (fun _ => 0))), (oa, .inl (kO, 1, .inr (.inl (fun _ => 0)))), (od, .inl (kD, 1, .inr (.inr (.inr (.inl (fun _ => 0)))))), ((bd 0), .inr (14, [.ref (bd 1), .ref (bd 2), .ref (bd 3), .ref (bd 4), .ref (bd 5), .ref (bd 6), .int 100, .int (-1), .int 0, .int 1])), ((bd 1), .inr (4, [.int 0, .ref (bd 7), .int 0])), ((bd 2), .inr (4, [.int 0, .ref (bd 7), .int 0])), ((bd 3), .inr (4, [.int 0, .ref (bd 7), .int 0])), ((bd 4), .inr (4, [.int 0, .ref (bd 7), .int 0])), ((bd 5), .inr (4, [.int 0, .ref (bd 7), .int 0])), ((bd 6), .inr (4, [.int 0, .ref (bd 7), .int 0]))] := hD
      have hK : va_K D vwCl [(kC, .char), (kI, .int), (kO, .long), (kD, .double)] s := hK
      refine lv_istore (lv' := [(7, .int 0), (6, .int 1), (5, .int 0), (4, .ref od), (3, .ref oa), (2, .ref (bd 0)), (1, .ref (ad 0)), (0, .ref b)]) hx hb dL_law_317 hl (by decide) rfl (fun ls hl => ?_)
      refine lv_aload_n hx hb dL_law_319 rfl (lv_at hl 5 rfl) ?_
      have hPc := hP.sub (ws' := [((bd 0), .inr (14, [.ref (bd 1), .ref (bd 2), .ref (bd 3), .ref (bd 4), .ref (bd 5), .ref (bd 6), .int 100, .int (-1), .int 0, .int 1])), ((bd 1), .inr (4, [.int 0, .ref (bd 7), .int 0])), ((bd 2), .inr (4, [.int 0, .ref (bd 7), .int 0])), ((bd 3), .inr (4, [.int 0, .ref (bd 7), .int 0])), ((bd 4), .inr (4, [.int 0, .ref (bd 7), .int 0])), ((bd 5), .inr (4, [.int 0, .ref (bd 7), .int 0])), ((bd 6), .inr (4, [.int 0, .ref (bd 7), .int 0]))]) [10, 11, 12, 13, 14, 15, 16] rfl
      refine va_calli (va_runV (As := []) (rest := []) ⟨hx, hb, hml, hown, hw⟩ (c_X9_thrown l D sa bd 1 _) (cwV 0 hw (zg4 zm_1303 zm_1304 zm_1305 zm_53 zm_1306) rfl rfl rfl (by decide +kernel) ⟨Nat.le_of_ble_eq_true rfl, Nat.le_of_ble_eq_true rfl⟩) ⟨zJ_blind, va_recv hK hPc (ci := 14) (q0 := 0) rfl rfl, zJ_pre hPc hK hT⟩ rfl rfl hl.1 rfl (lv_room (Nat.le_of_ble_eq_true rfl)) dL_law_320 ⟨Nat.le_of_ble_eq_true rfl, Nat.le_of_ble_eq_true rfl⟩) hS zN_in (zN_fr hS hA) (fun r_25 u t H locs ht hvm hw1 hB hz1 hk1 hS => ?_)
      have hP := zN_keep hP hk1
      subst hw1
      refine lv_iload hx hb dL_law_323 (lv_at hl 1 rfl) ?_
      refine lv_icmp_eq (tgt := 330) hx hb dL_law_325 (by decide) (fun _ => ?_) (fun c_26 => absurd (by decide) c_26)
      refine lv_iload hx hb dL_law_330 (lv_at hl 1 rfl) ?_
      refine lv_if_ne (tgt := 347) hx hb dL_law_332 (by decide) (fun _ => ?_) (fun c_27 => absurd c_27 (by decide))
      refine lv_goto (tgt := 3449) hx hb dL_law_347 (by decide) ?_
      refine W.widen (k := 2000) (n := 20000) (Nat.le_of_ble_eq_true rfl) (Nat.le_of_ble_eq_true rfl) ?_
      exact hend _ _ _ hS (lv_sub hl [2, 7] rfl)
    · rcases z_two (xs (Int32.toNatClampNeg 3)) 0 31 with h_28 | h_28
      · have hPc := hP.sub (ws' := [((ad 0), .inr (10, [.ref (ad 1), .ref (ad 2), .ref (ad 3), .ref (ad 4), .ref (ad 5), .int (-1), .int 100, .int 0, .int 0])), ((ad 1), .inr (7, [.ref (ad 6), .ref (ad 7), .ref (ad 8), .int 0])), ((ad 2), .inr (8, [.ref (ad 9), .ref (ad 10), .int 0])), ((ad 3), .inr (4, [.int 0, .ref (ad 14), .int 0])), ((ad 4), .inr (4, [.int 0, .ref (ad 14), .int 0])), ((ad 5), .inr (6, [.ref (ad 11), .ref (ad 12), .ref (ad 13), .int 0, .int 0]))]) [0, 1, 2, 3, 4, 5] rfl
        refine vx_calli (vx_runSX (As := [.ref (ad 0), .int (((xs (Int32.toNatClampNeg 1)).toUInt32 % 65536).toInt32), .int (xs (Int32.toNatClampNeg 2)), .int (xs (Int32.toNatClampNeg 3)), .int (xs (Int32.toNatClampNeg 4)), .ref oa]) (rest := []) ⟨hx, hb, hml, hown, hw⟩ (c_L_addShade2 l hst D sa ad _ (((xs (Int32.toNatClampNeg 1)).toUInt32 % 65536).toInt32) (xs (Int32.toNatClampNeg 2)) (xs (Int32.toNatClampNeg 3)) (xs (Int32.toNatClampNeg 4)) oa h_6 h_17 h_28) (vx_cwSW 6 hw (zg3 zm_332 zm_333 zm_44 zm_334) rfl rfl rfl (by decide +kernel) ⟨Nat.le_of_ble_eq_true rfl, Nat.le_of_ble_eq_true rfl⟩) ⟨zR_blind, zR_pre hPc hK hT hZ hS hA⟩ rfl rfl hl.1 rfl (lv_room (Nat.le_of_ble_eq_true rfl)) dL_law_283 ⟨Nat.le_of_ble_eq_true rfl, Nat.le_of_ble_eq_true rfl⟩) hS zN_in (zN_fr hS hA) zN_in (fun E ce q9 u t H1 locs1 ht hvm hu hE => hE.elim) (fun r_29 u t H locs ht hvm hw1 hB hz1 hk1 hS => ?_)
        have hP := zN_keep hP hk1
        subst hw1
        refine lv_istore (lv' := [(6, .int 1), (5, .int 0), (4, .ref od), (3, .ref oa), (2, .ref (bd 0)), (1, .ref (ad 0)), (0, .ref b)]) hx hb dL_law_286 hl (by decide) rfl (fun ls hl => ?_)
        refine lv_aload_n hx hb dL_law_288 rfl (lv_at hl 4 rfl) ?_
        refine lv_aload_n hx hb dL_law_289 rfl (lv_at hl 6 rfl) ?_
        refine lv_iload hx hb dL_law_290 (lv_at hl 1 rfl) ?_
        refine lv_iconst (v := 1) hx hb dL_law_292 (by decide) ?_
        refine lv_iadd hx hb dL_law_293 ?_
        refine lv_topi (fun f_30 ef_30 => ?_)
        obtain rfl : f_30 = 1 := ef_30.trans (by decide)
        refine va_sld (i := 1) hx hb hX hbl hbA hS (by unfold vp_in; decide) dL_law_294 ?_
        refine lv_i2c hx hb dL_law_295 rfl ?_
        refine lv_aload_n hx hb dL_law_296 rfl (lv_at hl 6 rfl) ?_
        refine lv_iload hx hb dL_law_297 (lv_at hl 1 rfl) ?_
        refine lv_iconst (v := 2) hx hb dL_law_299 (by decide) ?_
        refine lv_iadd hx hb dL_law_300 ?_
        refine lv_topi (fun f_32 ef_32 => ?_)
        obtain rfl : f_32 = 2 := ef_32.trans (by decide)
        refine va_sld (i := 2) hx hb hX hbl hbA hS (by unfold vp_in; decide) dL_law_301 ?_
        refine lv_aload_n hx hb dL_law_302 rfl (lv_at hl 6 rfl) ?_
        refine lv_iload hx hb dL_law_303 (lv_at hl 1 rfl) ?_
        refine lv_iconst (v := 3) hx hb dL_law_305 (by decide) ?_
        refine lv_iadd hx hb dL_law_306 ?_
        refine lv_topi (fun f_33 ef_33 => ?_)
        obtain rfl : f_33 = 3 := ef_33.trans (by decide)
        refine va_sld (i := 3) hx hb hX hbl hbA hS (by unfold vp_in; decide) dL_law_307 ?_
        refine lv_aload_n hx hb dL_law_308 rfl (lv_at hl 6 rfl) ?_
        refine lv_iload hx hb dL_law_309 (lv_at hl 1 rfl) ?_
        refine lv_iconst (v := 4) hx hb dL_law_311 (by decide) ?_
        refine lv_iadd hx hb dL_law_312 ?_
        refine lv_topi (fun f_34 ef_34 => ?_)
        obtain rfl : f_34 = 4 := ef_34.trans (by decide)
        refine va_sld (i := 4) hx hb hX hbl hbA hS (by unfold vp_in; decide) dL_law_313 ?_
        have hPc := hP.sub (ws' := [((bd 0), .inr (14, [.ref (bd 1), .ref (bd 2), .ref (bd 3), .ref (bd 4), .ref (bd 5), .ref (bd 6), .int 100, .int (-1), .int 0, .int 0])), ((bd 1), .inr (4, [.int 0, .ref (bd 7), .int 0])), ((bd 2), .inr (4, [.int 0, .ref (bd 7), .int 0])), ((bd 3), .inr (4, [.int 0, .ref (bd 7), .int 0])), ((bd 4), .inr (4, [.int 0, .ref (bd 7), .int 0])), ((bd 5), .inr (4, [.int 0, .ref (bd 7), .int 0])), ((bd 6), .inr (4, [.int 0, .ref (bd 7), .int 0]))]) [6, 7, 8, 9, 10, 11, 12] rfl
        have hDc := hD.sub (ws' := [((bd 0), .inr (14, [.ref (bd 1), .ref (bd 2), .ref (bd 3), .ref (bd 4), .ref (bd 5), .ref (bd 6), .int 100, .int (-1), .int 0, .int 0])), ((bd 1), .inr (4, [.int 0, .ref (bd 7), .int 0])), ((bd 2), .inr (4, [.int 0, .ref (bd 7), .int 0])), ((bd 3), .inr (4, [.int 0, .ref (bd 7), .int 0])), ((bd 4), .inr (4, [.int 0, .ref (bd 7), .int 0])), ((bd 5), .inr (4, [.int 0, .ref (bd 7), .int 0])), ((bd 6), .inr (4, [.int 0, .ref (bd 7), .int 0]))]) [6, 7, 8, 9, 10, 11, 12] (by decide) rfl
        have hFc := va_free (wc := [((bd 0), .inr (14, [.ref (bd 1), .ref (bd 2), .ref (bd 3), .ref (bd 4), .ref (bd 5), .ref (bd 6), .int 100, .int (-1), .int 0, .int 0])), ((bd 1), .inr (4, [.int 0, .ref (bd 7), .int 0])), ((bd 2), .inr (4, [.int 0, .ref (bd 7), .int 0])), ((bd 3), .inr (4, [.int 0, .ref (bd 7), .int 0])), ((bd 4), .inr (4, [.int 0, .ref (bd 7), .int 0])), ((bd 5), .inr (4, [.int 0, .ref (bd 7), .int 0])), ((bd 6), .inr (4, [.int 0, .ref (bd 7), .int 0]))]) hD hS hA [6, 7, 8, 9, 10, 11, 12] rfl
        refine va_calli (va_runV (As := [.int (((xs (Int32.toNatClampNeg 1)).toUInt32 % 65536).toInt32), .int (xs (Int32.toNatClampNeg 2)), .int (xs (Int32.toNatClampNeg 3)), .int (xs (Int32.toNatClampNeg 4))]) (rest := []) ⟨hx, hb, hml, hown, hw⟩ (c_X9_addShade2 l D sa ea bd 0 _ (((xs (Int32.toNatClampNeg 1)).toUInt32 % 65536).toInt32) (xs (Int32.toNatClampNeg 2)) (xs (Int32.toNatClampNeg 3)) (xs (Int32.toNatClampNeg 4)) h_6 h_17 h_28) (cwV 4 hw (zg4 zm_1307 zm_1308 zm_1309 zm_53 zm_1310) rfl rfl rfl (by decide +kernel) ⟨Nat.le_of_ble_eq_true rfl, Nat.le_of_ble_eq_true rfl⟩) ⟨zW_blind, va_recv hK hPc (ci := 14) (q0 := 0) rfl rfl, zW_pre hPc (hK.sub (tys' := []) [] rfl) hDc hT hE hS hFc⟩ rfl rfl hl.1 rfl (lv_room (Nat.le_of_ble_eq_true rfl)) dL_law_314 ⟨Nat.le_of_ble_eq_true rfl, Nat.le_of_ble_eq_true rfl⟩) hS (fun q _ h => hFc q h) hFc (fun r_35 u t H locs ht hvm hw1 hB hz1 hk1 hS => ?_)
        subst hw1
        obtain ⟨hP1, hD1⟩ := hB
        rw [ht] at hP1
        obtain ⟨hP, hD⟩ := va_join (wr := [((ad 0), .inr (10, [.ref (ad 1), .ref (ad 2), .ref (ad 3), .ref (ad 4), .ref (ad 5), .int (-1), .int 100, .int 0, .int 0])), ((ad 1), .inr (7, [.ref (ad 6), .ref (ad 7), .ref (ad 8), .int 0])), ((ad 2), .inr (8, [.ref (ad 9), .ref (ad 10), .int 0])), ((ad 3), .inr (4, [.int 0, .ref (ad 14), .int 0])), ((ad 4), .inr (4, [.int 0, .ref (ad 14), .int 0])), ((ad 5), .inr (6, [.ref (ad 11), .ref (ad 12), .ref (ad 13), .int 0, .int 0])), ((ad 6), .inl (kC, 12, .inl (fun _ => 0))), ((ad 7), .inl (kI, 36, .inl (fun _ => 0))), (oa, .inl (kO, 1, .inr (.inl (fun _ => 0)))), (od, .inl (kD, 1, .inr (.inr (.inr (.inl (fun _ => 0))))))]) (w1 := [((bd 0), .inr (14, [.ref (bd 1), .ref (bd 2), .ref (bd 3), .ref (bd 4), .ref (bd 5), .ref (bd 6), .int 100, .int (-1), .int 0, .int 1])), ((bd 1), .inr (4, [.int 0, .ref (bd 7), .int 0])), ((bd 2), .inr (4, [.int 0, .ref (bd 7), .int 0])), ((bd 3), .inr (4, [.int 0, .ref (bd 7), .int 0])), ((bd 4), .inr (4, [.int 0, .ref (bd 7), .int 0])), ((bd 5), .inr (4, [.int 0, .ref (bd 7), .int 0])), ((bd 6), .inr (4, [.int 0, .ref (bd 7), .int 0]))]) hP hD [6, 7, 8, 9, 10, 11, 12] [0, 1, 2, 3, 4, 5, 13, 14, 15, 16] rfl rfl (by decide) (by decide) hk1 hFc hP1 hD1
        have hP : va_P D vwCl [((ad 0), .inr (10, [.ref (ad 1), .ref (ad 2), .ref (ad 3), .ref (ad 4), .ref (ad 5), .int (-1), .int 100, .int 0, .int 0])), ((ad 1), .inr (7, [.ref (ad 6), .ref (ad 7), .ref (ad 8), .int 0])), ((ad 2), .inr (8, [.ref (ad 9), .ref (ad 10), .int 0])), ((ad 3), .inr (4, [.int 0, .ref (ad 14), .int 0])), ((ad 4), .inr (4, [.int 0, .ref (ad 14), .int 0])), ((ad 5), .inr (6, [.ref (ad 11), .ref (ad 12), .ref (ad 13), .int 0, .int 0])), ((ad 6), .inl (kC, 12, .inl (fun _ => 0))), ((ad 7), .inl (kI, 36, .inl (fun _ => 0))), (oa, .inl (kO, 1, .inr (.inl (fun _ => 0)))), (od, .inl (kD, 1, .inr (.inr (.inr (.inl (fun _ => 0)))))), ((bd 0), .inr (14, [.ref (bd 1), .ref (bd 2), .ref (bd 3), .ref (bd 4), .ref (bd 5), .ref (bd 6), .int 100, .int (-1), .int 0, .int 1])), ((bd 1), .inr (4, [.int 0, .ref (bd 7), .int 0])), ((bd 2), .inr (4, [.int 0, .ref (bd 7), .int 0])), ((bd 3), .inr (4, [.int 0, .ref (bd 7), .int 0])), ((bd 4), .inr (4, [.int 0, .ref (bd 7), .int 0])), ((bd 5), .inr (4, [.int 0, .ref (bd 7), .int 0])), ((bd 6), .inr (4, [.int 0, .ref (bd 7), .int 0]))] H := hP
        have hD : va_D A [((ad 0), .inr (10, [.ref (ad 1), .ref (ad 2), .ref (ad 3), .ref (ad 4), .ref (ad 5), .int (-1), .int 100, .int 0, .int 0])), ((ad 1), .inr (7, [.ref (ad 6), .ref (ad 7), .ref (ad 8), .int 0])), ((ad 2), .inr (8, [.ref (ad 9), .ref (ad 10), .int 0])), ((ad 3), .inr (4, [.int 0, .ref (ad 14), .int 0])), ((ad 4), .inr (4, [.int 0, .ref (ad 14), .int 0])), ((ad 5), .inr (6, [.ref (ad 11), .ref (ad 12), .ref (ad 13), .int 0, .int 0])), ((ad 6), .inl (kC, 12, .inl (fun _ => 0))), ((ad 7), .inl (kI, 36, .inl (fun _ => 0))), (oa, .inl (kO, 1, .inr (.inl (fun _ => 0)))), (od, .inl (kD, 1, .inr (.inr (.inr (.inl (fun _ => 0)))))), ((bd 0), .inr (14, [.ref (bd 1), .ref (bd 2), .ref (bd 3), .ref (bd 4), .ref (bd 5), .ref (bd 6), .int 100, .int (-1), .int 0, .int 1])), ((bd 1), .inr (4, [.int 0, .ref (bd 7), .int 0])), ((bd 2), .inr (4, [.int 0, .ref (bd 7), .int 0])), ((bd 3), .inr (4, [.int 0, .ref (bd 7), .int 0])), ((bd 4), .inr (4, [.int 0, .ref (bd 7), .int 0])), ((bd 5), .inr (4, [.int 0, .ref (bd 7), .int 0])), ((bd 6), .inr (4, [.int 0, .ref (bd 7), .int 0]))] := hD
        have hK : va_K D vwCl [(kC, .char), (kI, .int), (kO, .long), (kD, .double)] s := hK
        refine lv_istore (lv' := [(7, .int 0), (6, .int 1), (5, .int 0), (4, .ref od), (3, .ref oa), (2, .ref (bd 0)), (1, .ref (ad 0)), (0, .ref b)]) hx hb dL_law_317 hl (by decide) rfl (fun ls hl => ?_)
        refine lv_aload_n hx hb dL_law_319 rfl (lv_at hl 5 rfl) ?_
        have hPc := hP.sub (ws' := [((bd 0), .inr (14, [.ref (bd 1), .ref (bd 2), .ref (bd 3), .ref (bd 4), .ref (bd 5), .ref (bd 6), .int 100, .int (-1), .int 0, .int 1])), ((bd 1), .inr (4, [.int 0, .ref (bd 7), .int 0])), ((bd 2), .inr (4, [.int 0, .ref (bd 7), .int 0])), ((bd 3), .inr (4, [.int 0, .ref (bd 7), .int 0])), ((bd 4), .inr (4, [.int 0, .ref (bd 7), .int 0])), ((bd 5), .inr (4, [.int 0, .ref (bd 7), .int 0])), ((bd 6), .inr (4, [.int 0, .ref (bd 7), .int 0]))]) [10, 11, 12, 13, 14, 15, 16] rfl
        refine va_calli (va_runV (As := []) (rest := []) ⟨hx, hb, hml, hown, hw⟩ (c_X9_thrown l D sa bd 1 _) (cwV 0 hw (zg4 zm_1303 zm_1304 zm_1305 zm_53 zm_1306) rfl rfl rfl (by decide +kernel) ⟨Nat.le_of_ble_eq_true rfl, Nat.le_of_ble_eq_true rfl⟩) ⟨zJ_blind, va_recv hK hPc (ci := 14) (q0 := 0) rfl rfl, zJ_pre hPc hK hT⟩ rfl rfl hl.1 rfl (lv_room (Nat.le_of_ble_eq_true rfl)) dL_law_320 ⟨Nat.le_of_ble_eq_true rfl, Nat.le_of_ble_eq_true rfl⟩) hS zN_in (zN_fr hS hA) (fun r_36 u t H locs ht hvm hw1 hB hz1 hk1 hS => ?_)
        have hP := zN_keep hP hk1
        subst hw1
        refine lv_iload hx hb dL_law_323 (lv_at hl 1 rfl) ?_
        refine lv_icmp_eq (tgt := 330) hx hb dL_law_325 (by decide) (fun _ => ?_) (fun c_37 => absurd (by decide) c_37)
        refine lv_iload hx hb dL_law_330 (lv_at hl 1 rfl) ?_
        refine lv_if_ne (tgt := 347) hx hb dL_law_332 (by decide) (fun _ => ?_) (fun c_38 => absurd c_38 (by decide))
        refine lv_goto (tgt := 3449) hx hb dL_law_347 (by decide) ?_
        refine W.widen (k := 2000) (n := 20000) (Nat.le_of_ble_eq_true rfl) (Nat.le_of_ble_eq_true rfl) ?_
        exact hend _ _ _ hS (lv_sub hl [2, 7] rfl)
      · rcases z_two (xs (Int32.toNatClampNeg 4)) 0 31 with h_39 | h_39
        · have hPc := hP.sub (ws' := [((ad 0), .inr (10, [.ref (ad 1), .ref (ad 2), .ref (ad 3), .ref (ad 4), .ref (ad 5), .int (-1), .int 100, .int 0, .int 0])), ((ad 1), .inr (7, [.ref (ad 6), .ref (ad 7), .ref (ad 8), .int 0])), ((ad 2), .inr (8, [.ref (ad 9), .ref (ad 10), .int 0])), ((ad 3), .inr (4, [.int 0, .ref (ad 14), .int 0])), ((ad 4), .inr (4, [.int 0, .ref (ad 14), .int 0])), ((ad 5), .inr (6, [.ref (ad 11), .ref (ad 12), .ref (ad 13), .int 0, .int 0]))]) [0, 1, 2, 3, 4, 5] rfl
          refine vx_calli (vx_runSX (As := [.ref (ad 0), .int (((xs (Int32.toNatClampNeg 1)).toUInt32 % 65536).toInt32), .int (xs (Int32.toNatClampNeg 2)), .int (xs (Int32.toNatClampNeg 3)), .int (xs (Int32.toNatClampNeg 4)), .ref oa]) (rest := []) ⟨hx, hb, hml, hown, hw⟩ (c_L_addShade3 l hst D sa ad _ (((xs (Int32.toNatClampNeg 1)).toUInt32 % 65536).toInt32) (xs (Int32.toNatClampNeg 2)) (xs (Int32.toNatClampNeg 3)) (xs (Int32.toNatClampNeg 4)) oa h_6 h_17 h_28 h_39) (vx_cwSW 6 hw (zg3 zm_332 zm_333 zm_44 zm_334) rfl rfl rfl (by decide +kernel) ⟨Nat.le_of_ble_eq_true rfl, Nat.le_of_ble_eq_true rfl⟩) ⟨zR_blind, zR_pre hPc hK hT hZ hS hA⟩ rfl rfl hl.1 rfl (lv_room (Nat.le_of_ble_eq_true rfl)) dL_law_283 ⟨Nat.le_of_ble_eq_true rfl, Nat.le_of_ble_eq_true rfl⟩) hS zN_in (zN_fr hS hA) zN_in (fun E ce q9 u t H1 locs1 ht hvm hu hE => hE.elim) (fun r_40 u t H locs ht hvm hw1 hB hz1 hk1 hS => ?_)
          have hP := zN_keep hP hk1
          subst hw1
          refine lv_istore (lv' := [(6, .int 1), (5, .int 0), (4, .ref od), (3, .ref oa), (2, .ref (bd 0)), (1, .ref (ad 0)), (0, .ref b)]) hx hb dL_law_286 hl (by decide) rfl (fun ls hl => ?_)
          refine lv_aload_n hx hb dL_law_288 rfl (lv_at hl 4 rfl) ?_
          refine lv_aload_n hx hb dL_law_289 rfl (lv_at hl 6 rfl) ?_
          refine lv_iload hx hb dL_law_290 (lv_at hl 1 rfl) ?_
          refine lv_iconst (v := 1) hx hb dL_law_292 (by decide) ?_
          refine lv_iadd hx hb dL_law_293 ?_
          refine lv_topi (fun f_41 ef_41 => ?_)
          obtain rfl : f_41 = 1 := ef_41.trans (by decide)
          refine va_sld (i := 1) hx hb hX hbl hbA hS (by unfold vp_in; decide) dL_law_294 ?_
          refine lv_i2c hx hb dL_law_295 rfl ?_
          refine lv_aload_n hx hb dL_law_296 rfl (lv_at hl 6 rfl) ?_
          refine lv_iload hx hb dL_law_297 (lv_at hl 1 rfl) ?_
          refine lv_iconst (v := 2) hx hb dL_law_299 (by decide) ?_
          refine lv_iadd hx hb dL_law_300 ?_
          refine lv_topi (fun f_43 ef_43 => ?_)
          obtain rfl : f_43 = 2 := ef_43.trans (by decide)
          refine va_sld (i := 2) hx hb hX hbl hbA hS (by unfold vp_in; decide) dL_law_301 ?_
          refine lv_aload_n hx hb dL_law_302 rfl (lv_at hl 6 rfl) ?_
          refine lv_iload hx hb dL_law_303 (lv_at hl 1 rfl) ?_
          refine lv_iconst (v := 3) hx hb dL_law_305 (by decide) ?_
          refine lv_iadd hx hb dL_law_306 ?_
          refine lv_topi (fun f_44 ef_44 => ?_)
          obtain rfl : f_44 = 3 := ef_44.trans (by decide)
          refine va_sld (i := 3) hx hb hX hbl hbA hS (by unfold vp_in; decide) dL_law_307 ?_
          refine lv_aload_n hx hb dL_law_308 rfl (lv_at hl 6 rfl) ?_
          refine lv_iload hx hb dL_law_309 (lv_at hl 1 rfl) ?_
          refine lv_iconst (v := 4) hx hb dL_law_311 (by decide) ?_
          refine lv_iadd hx hb dL_law_312 ?_
          refine lv_topi (fun f_45 ef_45 => ?_)
          obtain rfl : f_45 = 4 := ef_45.trans (by decide)
          refine va_sld (i := 4) hx hb hX hbl hbA hS (by unfold vp_in; decide) dL_law_313 ?_
          have hPc := hP.sub (ws' := [((bd 0), .inr (14, [.ref (bd 1), .ref (bd 2), .ref (bd 3), .ref (bd 4), .ref (bd 5), .ref (bd 6), .int 100, .int (-1), .int 0, .int 0])), ((bd 1), .inr (4, [.int 0, .ref (bd 7), .int 0])), ((bd 2), .inr (4, [.int 0, .ref (bd 7), .int 0])), ((bd 3), .inr (4, [.int 0, .ref (bd 7), .int 0])), ((bd 4), .inr (4, [.int 0, .ref (bd 7), .int 0])), ((bd 5), .inr (4, [.int 0, .ref (bd 7), .int 0])), ((bd 6), .inr (4, [.int 0, .ref (bd 7), .int 0]))]) [6, 7, 8, 9, 10, 11, 12] rfl
          have hDc := hD.sub (ws' := [((bd 0), .inr (14, [.ref (bd 1), .ref (bd 2), .ref (bd 3), .ref (bd 4), .ref (bd 5), .ref (bd 6), .int 100, .int (-1), .int 0, .int 0])), ((bd 1), .inr (4, [.int 0, .ref (bd 7), .int 0])), ((bd 2), .inr (4, [.int 0, .ref (bd 7), .int 0])), ((bd 3), .inr (4, [.int 0, .ref (bd 7), .int 0])), ((bd 4), .inr (4, [.int 0, .ref (bd 7), .int 0])), ((bd 5), .inr (4, [.int 0, .ref (bd 7), .int 0])), ((bd 6), .inr (4, [.int 0, .ref (bd 7), .int 0]))]) [6, 7, 8, 9, 10, 11, 12] (by decide) rfl
          have hFc := va_free (wc := [((bd 0), .inr (14, [.ref (bd 1), .ref (bd 2), .ref (bd 3), .ref (bd 4), .ref (bd 5), .ref (bd 6), .int 100, .int (-1), .int 0, .int 0])), ((bd 1), .inr (4, [.int 0, .ref (bd 7), .int 0])), ((bd 2), .inr (4, [.int 0, .ref (bd 7), .int 0])), ((bd 3), .inr (4, [.int 0, .ref (bd 7), .int 0])), ((bd 4), .inr (4, [.int 0, .ref (bd 7), .int 0])), ((bd 5), .inr (4, [.int 0, .ref (bd 7), .int 0])), ((bd 6), .inr (4, [.int 0, .ref (bd 7), .int 0]))]) hD hS hA [6, 7, 8, 9, 10, 11, 12] rfl
          refine va_calli (va_runV (As := [.int (((xs (Int32.toNatClampNeg 1)).toUInt32 % 65536).toInt32), .int (xs (Int32.toNatClampNeg 2)), .int (xs (Int32.toNatClampNeg 3)), .int (xs (Int32.toNatClampNeg 4))]) (rest := []) ⟨hx, hb, hml, hown, hw⟩ (c_X9_addShade3 l D sa ea bd 0 _ (((xs (Int32.toNatClampNeg 1)).toUInt32 % 65536).toInt32) (xs (Int32.toNatClampNeg 2)) (xs (Int32.toNatClampNeg 3)) (xs (Int32.toNatClampNeg 4)) h_6 h_17 h_28 h_39) (cwV 4 hw (zg4 zm_1307 zm_1308 zm_1309 zm_53 zm_1310) rfl rfl rfl (by decide +kernel) ⟨Nat.le_of_ble_eq_true rfl, Nat.le_of_ble_eq_true rfl⟩) ⟨zW_blind, va_recv hK hPc (ci := 14) (q0 := 0) rfl rfl, zW_pre hPc (hK.sub (tys' := []) [] rfl) hDc hT hE hS hFc⟩ rfl rfl hl.1 rfl (lv_room (Nat.le_of_ble_eq_true rfl)) dL_law_314 ⟨Nat.le_of_ble_eq_true rfl, Nat.le_of_ble_eq_true rfl⟩) hS (fun q _ h => hFc q h) hFc (fun r_46 u t H locs ht hvm hw1 hB hz1 hk1 hS => ?_)
          subst hw1
          obtain ⟨hP1, hD1⟩ := hB
          rw [ht] at hP1
          obtain ⟨hP, hD⟩ := va_join (wr := [((ad 0), .inr (10, [.ref (ad 1), .ref (ad 2), .ref (ad 3), .ref (ad 4), .ref (ad 5), .int (-1), .int 100, .int 0, .int 0])), ((ad 1), .inr (7, [.ref (ad 6), .ref (ad 7), .ref (ad 8), .int 0])), ((ad 2), .inr (8, [.ref (ad 9), .ref (ad 10), .int 0])), ((ad 3), .inr (4, [.int 0, .ref (ad 14), .int 0])), ((ad 4), .inr (4, [.int 0, .ref (ad 14), .int 0])), ((ad 5), .inr (6, [.ref (ad 11), .ref (ad 12), .ref (ad 13), .int 0, .int 0])), ((ad 6), .inl (kC, 12, .inl (fun _ => 0))), ((ad 7), .inl (kI, 36, .inl (fun _ => 0))), (oa, .inl (kO, 1, .inr (.inl (fun _ => 0)))), (od, .inl (kD, 1, .inr (.inr (.inr (.inl (fun _ => 0))))))]) (w1 := [((bd 0), .inr (14, [.ref (bd 1), .ref (bd 2), .ref (bd 3), .ref (bd 4), .ref (bd 5), .ref (bd 6), .int 100, .int (-1), .int 0, .int 1])), ((bd 1), .inr (4, [.int 0, .ref (bd 7), .int 0])), ((bd 2), .inr (4, [.int 0, .ref (bd 7), .int 0])), ((bd 3), .inr (4, [.int 0, .ref (bd 7), .int 0])), ((bd 4), .inr (4, [.int 0, .ref (bd 7), .int 0])), ((bd 5), .inr (4, [.int 0, .ref (bd 7), .int 0])), ((bd 6), .inr (4, [.int 0, .ref (bd 7), .int 0]))]) hP hD [6, 7, 8, 9, 10, 11, 12] [0, 1, 2, 3, 4, 5, 13, 14, 15, 16] rfl rfl (by decide) (by decide) hk1 hFc hP1 hD1
          have hP : va_P D vwCl [((ad 0), .inr (10, [.ref (ad 1), .ref (ad 2), .ref (ad 3), .ref (ad 4), .ref (ad 5), .int (-1), .int 100, .int 0, .int 0])), ((ad 1), .inr (7, [.ref (ad 6), .ref (ad 7), .ref (ad 8), .int 0])), ((ad 2), .inr (8, [.ref (ad 9), .ref (ad 10), .int 0])), ((ad 3), .inr (4, [.int 0, .ref (ad 14), .int 0])), ((ad 4), .inr (4, [.int 0, .ref (ad 14), .int 0])), ((ad 5), .inr (6, [.ref (ad 11), .ref (ad 12), .ref (ad 13), .int 0, .int 0])), ((ad 6), .inl (kC, 12, .inl (fun _ => 0))), ((ad 7), .inl (kI, 36, .inl (fun _ => 0))), (oa, .inl (kO, 1, .inr (.inl (fun _ => 0)))), (od, .inl (kD, 1, .inr (.inr (.inr (.inl (fun _ => 0)))))), ((bd 0), .inr (14, [.ref (bd 1), .ref (bd 2), .ref (bd 3), .ref (bd 4), .ref (bd 5), .ref (bd 6), .int 100, .int (-1), .int 0, .int 1])), ((bd 1), .inr (4, [.int 0, .ref (bd 7), .int 0])), ((bd 2), .inr (4, [.int 0, .ref (bd 7), .int 0])), ((bd 3), .inr (4, [.int 0, .ref (bd 7), .int 0])), ((bd 4), .inr (4, [.int 0, .ref (bd 7), .int 0])), ((bd 5), .inr (4, [.int 0, .ref (bd 7), .int 0])), ((bd 6), .inr (4, [.int 0, .ref (bd 7), .int 0]))] H := hP
          have hD : va_D A [((ad 0), .inr (10, [.ref (ad 1), .ref (ad 2), .ref (ad 3), .ref (ad 4), .ref (ad 5), .int (-1), .int 100, .int 0, .int 0])), ((ad 1), .inr (7, [.ref (ad 6), .ref (ad 7), .ref (ad 8), .int 0])), ((ad 2), .inr (8, [.ref (ad 9), .ref (ad 10), .int 0])), ((ad 3), .inr (4, [.int 0, .ref (ad 14), .int 0])), ((ad 4), .inr (4, [.int 0, .ref (ad 14), .int 0])), ((ad 5), .inr (6, [.ref (ad 11), .ref (ad 12), .ref (ad 13), .int 0, .int 0])), ((ad 6), .inl (kC, 12, .inl (fun _ => 0))), ((ad 7), .inl (kI, 36, .inl (fun _ => 0))), (oa, .inl (kO, 1, .inr (.inl (fun _ => 0)))), (od, .inl (kD, 1, .inr (.inr (.inr (.inl (fun _ => 0)))))), ((bd 0), .inr (14, [.ref (bd 1), .ref (bd 2), .ref (bd 3), .ref (bd 4), .ref (bd 5), .ref (bd 6), .int 100, .int (-1), .int 0, .int 1])), ((bd 1), .inr (4, [.int 0, .ref (bd 7), .int 0])), ((bd 2), .inr (4, [.int 0, .ref (bd 7), .int 0])), ((bd 3), .inr (4, [.int 0, .ref (bd 7), .int 0])), ((bd 4), .inr (4, [.int 0, .ref (bd 7), .int 0])), ((bd 5), .inr (4, [.int 0, .ref (bd 7), .int 0])), ((bd 6), .inr (4, [.int 0, .ref (bd 7), .int 0]))] := hD
          have hK : va_K D vwCl [(kC, .char), (kI, .int), (kO, .long), (kD, .double)] s := hK
          refine lv_istore (lv' := [(7, .int 0), (6, .int 1), (5, .int 0), (4, .ref od), (3, .ref oa), (2, .ref (bd 0)), (1, .ref (ad 0)), (0, .ref b)]) hx hb dL_law_317 hl (by decide) rfl (fun ls hl => ?_)
          refine lv_aload_n hx hb dL_law_319 rfl (lv_at hl 5 rfl) ?_
          have hPc := hP.sub (ws' := [((bd 0), .inr (14, [.ref (bd 1), .ref (bd 2), .ref (bd 3), .ref (bd 4), .ref (bd 5), .ref (bd 6), .int 100, .int (-1), .int 0, .int 1])), ((bd 1), .inr (4, [.int 0, .ref (bd 7), .int 0])), ((bd 2), .inr (4, [.int 0, .ref (bd 7), .int 0])), ((bd 3), .inr (4, [.int 0, .ref (bd 7), .int 0])), ((bd 4), .inr (4, [.int 0, .ref (bd 7), .int 0])), ((bd 5), .inr (4, [.int 0, .ref (bd 7), .int 0])), ((bd 6), .inr (4, [.int 0, .ref (bd 7), .int 0]))]) [10, 11, 12, 13, 14, 15, 16] rfl
          refine va_calli (va_runV (As := []) (rest := []) ⟨hx, hb, hml, hown, hw⟩ (c_X9_thrown l D sa bd 1 _) (cwV 0 hw (zg4 zm_1303 zm_1304 zm_1305 zm_53 zm_1306) rfl rfl rfl (by decide +kernel) ⟨Nat.le_of_ble_eq_true rfl, Nat.le_of_ble_eq_true rfl⟩) ⟨zJ_blind, va_recv hK hPc (ci := 14) (q0 := 0) rfl rfl, zJ_pre hPc hK hT⟩ rfl rfl hl.1 rfl (lv_room (Nat.le_of_ble_eq_true rfl)) dL_law_320 ⟨Nat.le_of_ble_eq_true rfl, Nat.le_of_ble_eq_true rfl⟩) hS zN_in (zN_fr hS hA) (fun r_47 u t H locs ht hvm hw1 hB hz1 hk1 hS => ?_)
          have hP := zN_keep hP hk1
          subst hw1
          refine lv_iload hx hb dL_law_323 (lv_at hl 1 rfl) ?_
          refine lv_icmp_eq (tgt := 330) hx hb dL_law_325 (by decide) (fun _ => ?_) (fun c_48 => absurd (by decide) c_48)
          refine lv_iload hx hb dL_law_330 (lv_at hl 1 rfl) ?_
          refine lv_if_ne (tgt := 347) hx hb dL_law_332 (by decide) (fun _ => ?_) (fun c_49 => absurd c_49 (by decide))
          refine lv_goto (tgt := 3449) hx hb dL_law_347 (by decide) ?_
          refine W.widen (k := 2000) (n := 20000) (Nat.le_of_ble_eq_true rfl) (Nat.le_of_ble_eq_true rfl) ?_
          exact hend _ _ _ hS (lv_sub hl [2, 7] rfl)
        · have hPc := hP.sub (ws' := [((ad 0), .inr (10, [.ref (ad 1), .ref (ad 2), .ref (ad 3), .ref (ad 4), .ref (ad 5), .int (-1), .int 100, .int 0, .int 0])), ((ad 1), .inr (7, [.ref (ad 6), .ref (ad 7), .ref (ad 8), .int 0])), ((ad 2), .inr (8, [.ref (ad 9), .ref (ad 10), .int 0])), ((ad 3), .inr (4, [.int 0, .ref (ad 14), .int 0])), ((ad 4), .inr (4, [.int 0, .ref (ad 14), .int 0])), ((ad 5), .inr (6, [.ref (ad 11), .ref (ad 12), .ref (ad 13), .int 0, .int 0])), ((ad 6), .inl (kC, 12, .inl (fun _ => 0))), ((ad 7), .inl (kI, 36, .inl (fun _ => 0))), (oa, .inl (kO, 1, .inr (.inl (fun _ => 0))))]) [0, 1, 2, 3, 4, 5, 13, 14, 15] rfl
          have hDc := hD.sub (ws' := [((ad 0), .inr (10, [.ref (ad 1), .ref (ad 2), .ref (ad 3), .ref (ad 4), .ref (ad 5), .int (-1), .int 100, .int 0, .int 0])), ((ad 1), .inr (7, [.ref (ad 6), .ref (ad 7), .ref (ad 8), .int 0])), ((ad 2), .inr (8, [.ref (ad 9), .ref (ad 10), .int 0])), ((ad 3), .inr (4, [.int 0, .ref (ad 14), .int 0])), ((ad 4), .inr (4, [.int 0, .ref (ad 14), .int 0])), ((ad 5), .inr (6, [.ref (ad 11), .ref (ad 12), .ref (ad 13), .int 0, .int 0])), ((ad 6), .inl (kC, 12, .inl (fun _ => 0))), ((ad 7), .inl (kI, 36, .inl (fun _ => 0))), (oa, .inl (kO, 1, .inr (.inl (fun _ => 0))))]) [0, 1, 2, 3, 4, 5, 13, 14, 15] (by decide) rfl
          have hFc := va_free (wc := [((ad 0), .inr (10, [.ref (ad 1), .ref (ad 2), .ref (ad 3), .ref (ad 4), .ref (ad 5), .int (-1), .int 100, .int 0, .int 0])), ((ad 1), .inr (7, [.ref (ad 6), .ref (ad 7), .ref (ad 8), .int 0])), ((ad 2), .inr (8, [.ref (ad 9), .ref (ad 10), .int 0])), ((ad 3), .inr (4, [.int 0, .ref (ad 14), .int 0])), ((ad 4), .inr (4, [.int 0, .ref (ad 14), .int 0])), ((ad 5), .inr (6, [.ref (ad 11), .ref (ad 12), .ref (ad 13), .int 0, .int 0])), ((ad 6), .inl (kC, 12, .inl (fun _ => 0))), ((ad 7), .inl (kI, 36, .inl (fun _ => 0))), (oa, .inl (kO, 1, .inr (.inl (fun _ => 0))))]) hD hS hA [0, 1, 2, 3, 4, 5, 13, 14, 15] rfl
          refine vx_calli (vx_runSX (As := [.ref (ad 0), .int (((xs (Int32.toNatClampNeg 1)).toUInt32 % 65536).toInt32), .int (xs (Int32.toNatClampNeg 2)), .int (xs (Int32.toNatClampNeg 3)), .int (xs (Int32.toNatClampNeg 4)), .ref oa]) (rest := []) ⟨hx, hb, hml, hown, hw⟩ (c_L_addShade4 l D sa ea ad kC kI oa kO _ (((xs (Int32.toNatClampNeg 1)).toUInt32 % 65536).toInt32) (xs (Int32.toNatClampNeg 2)) (xs (Int32.toNatClampNeg 3)) (xs (Int32.toNatClampNeg 4)) h_6 h_17 h_28 h_39) (vx_cwSW 6 hw (zg3 zm_332 zm_333 zm_44 zm_334) rfl rfl rfl (by decide +kernel) ⟨Nat.le_of_ble_eq_true rfl, Nat.le_of_ble_eq_true rfl⟩) ⟨zW_blind, zW_pre hPc (hK.sub (tys' := [(kC, .char), (kI, .int), (kO, .long)]) [0, 1, 2] rfl) hDc hT hE hS hFc⟩ rfl rfl hl.1 rfl (lv_room (Nat.le_of_ble_eq_true rfl)) dL_law_283 ⟨Nat.le_of_ble_eq_true rfl, Nat.le_of_ble_eq_true rfl⟩) hS (fun q _ h => hFc q h) hFc zN_in (fun E ce q9 u t H1 locs1 ht hvm hu hE => hE.elim) (fun r_50 u t H locs ht hvm hw1 hB hz1 hk1 hS => ?_)
          subst hw1
          obtain ⟨hP1, hD1⟩ := hB
          rw [ht] at hP1
          obtain ⟨hP, hD⟩ := va_join (wr := [((bd 0), .inr (14, [.ref (bd 1), .ref (bd 2), .ref (bd 3), .ref (bd 4), .ref (bd 5), .ref (bd 6), .int 100, .int (-1), .int 0, .int 0])), ((bd 1), .inr (4, [.int 0, .ref (bd 7), .int 0])), ((bd 2), .inr (4, [.int 0, .ref (bd 7), .int 0])), ((bd 3), .inr (4, [.int 0, .ref (bd 7), .int 0])), ((bd 4), .inr (4, [.int 0, .ref (bd 7), .int 0])), ((bd 5), .inr (4, [.int 0, .ref (bd 7), .int 0])), ((bd 6), .inr (4, [.int 0, .ref (bd 7), .int 0])), (od, .inl (kD, 1, .inr (.inr (.inr (.inl (fun _ => 0))))))]) (w1 := [(oa, .inl (kO, 1, .inr (.inl (vp_updL (fun _ => 0) (Int32.toNatClampNeg 0) 0))))]) hP hD [0, 1, 2, 3, 4, 5, 13, 14, 15] [6, 7, 8, 9, 10, 11, 12, 16] rfl rfl (by decide) (by decide) hk1 hFc hP1 hD1
          have hP : va_P D vwCl [((bd 0), .inr (14, [.ref (bd 1), .ref (bd 2), .ref (bd 3), .ref (bd 4), .ref (bd 5), .ref (bd 6), .int 100, .int (-1), .int 0, .int 0])), ((bd 1), .inr (4, [.int 0, .ref (bd 7), .int 0])), ((bd 2), .inr (4, [.int 0, .ref (bd 7), .int 0])), ((bd 3), .inr (4, [.int 0, .ref (bd 7), .int 0])), ((bd 4), .inr (4, [.int 0, .ref (bd 7), .int 0])), ((bd 5), .inr (4, [.int 0, .ref (bd 7), .int 0])), ((bd 6), .inr (4, [.int 0, .ref (bd 7), .int 0])), (od, .inl (kD, 1, .inr (.inr (.inr (.inl (fun _ => 0)))))), (oa, .inl (kO, 1, .inr (.inl (vp_updL (fun _ => 0) (Int32.toNatClampNeg 0) 0))))] H := hP
          have hD : va_D A [((bd 0), .inr (14, [.ref (bd 1), .ref (bd 2), .ref (bd 3), .ref (bd 4), .ref (bd 5), .ref (bd 6), .int 100, .int (-1), .int 0, .int 0])), ((bd 1), .inr (4, [.int 0, .ref (bd 7), .int 0])), ((bd 2), .inr (4, [.int 0, .ref (bd 7), .int 0])), ((bd 3), .inr (4, [.int 0, .ref (bd 7), .int 0])), ((bd 4), .inr (4, [.int 0, .ref (bd 7), .int 0])), ((bd 5), .inr (4, [.int 0, .ref (bd 7), .int 0])), ((bd 6), .inr (4, [.int 0, .ref (bd 7), .int 0])), (od, .inl (kD, 1, .inr (.inr (.inr (.inl (fun _ => 0)))))), (oa, .inl (kO, 1, .inr (.inl (vp_updL (fun _ => 0) (Int32.toNatClampNeg 0) 0))))] := hD
          have hK : va_K D vwCl [(kC, .char), (kI, .int), (kO, .long), (kD, .double)] s := hK
          refine lv_istore (lv' := [(6, .int 0), (5, .int 0), (4, .ref od), (3, .ref oa), (2, .ref (bd 0)), (1, .ref (ad 0)), (0, .ref b)]) hx hb dL_law_286 hl (by decide) rfl (fun ls hl => ?_)
          refine lv_aload_n hx hb dL_law_288 rfl (lv_at hl 4 rfl) ?_
          refine lv_aload_n hx hb dL_law_289 rfl (lv_at hl 6 rfl) ?_
          refine lv_iload hx hb dL_law_290 (lv_at hl 1 rfl) ?_
          refine lv_iconst (v := 1) hx hb dL_law_292 (by decide) ?_
          refine lv_iadd hx hb dL_law_293 ?_
          refine lv_topi (fun f_51 ef_51 => ?_)
          obtain rfl : f_51 = 1 := ef_51.trans (by decide)
          refine va_sld (i := 1) hx hb hX hbl hbA hS (by unfold vp_in; decide) dL_law_294 ?_
          refine lv_i2c hx hb dL_law_295 rfl ?_
          refine lv_aload_n hx hb dL_law_296 rfl (lv_at hl 6 rfl) ?_
          refine lv_iload hx hb dL_law_297 (lv_at hl 1 rfl) ?_
          refine lv_iconst (v := 2) hx hb dL_law_299 (by decide) ?_
          refine lv_iadd hx hb dL_law_300 ?_
          refine lv_topi (fun f_53 ef_53 => ?_)
          obtain rfl : f_53 = 2 := ef_53.trans (by decide)
          refine va_sld (i := 2) hx hb hX hbl hbA hS (by unfold vp_in; decide) dL_law_301 ?_
          refine lv_aload_n hx hb dL_law_302 rfl (lv_at hl 6 rfl) ?_
          refine lv_iload hx hb dL_law_303 (lv_at hl 1 rfl) ?_
          refine lv_iconst (v := 3) hx hb dL_law_305 (by decide) ?_
          refine lv_iadd hx hb dL_law_306 ?_
          refine lv_topi (fun f_54 ef_54 => ?_)
          obtain rfl : f_54 = 3 := ef_54.trans (by decide)
          refine va_sld (i := 3) hx hb hX hbl hbA hS (by unfold vp_in; decide) dL_law_307 ?_
          refine lv_aload_n hx hb dL_law_308 rfl (lv_at hl 6 rfl) ?_
          refine lv_iload hx hb dL_law_309 (lv_at hl 1 rfl) ?_
          refine lv_iconst (v := 4) hx hb dL_law_311 (by decide) ?_
          refine lv_iadd hx hb dL_law_312 ?_
          refine lv_topi (fun f_55 ef_55 => ?_)
          obtain rfl : f_55 = 4 := ef_55.trans (by decide)
          refine va_sld (i := 4) hx hb hX hbl hbA hS (by unfold vp_in; decide) dL_law_313 ?_
          have hPc := hP.sub (ws' := [((bd 0), .inr (14, [.ref (bd 1), .ref (bd 2), .ref (bd 3), .ref (bd 4), .ref (bd 5), .ref (bd 6), .int 100, .int (-1), .int 0, .int 0])), ((bd 1), .inr (4, [.int 0, .ref (bd 7), .int 0])), ((bd 2), .inr (4, [.int 0, .ref (bd 7), .int 0])), ((bd 3), .inr (4, [.int 0, .ref (bd 7), .int 0])), ((bd 4), .inr (4, [.int 0, .ref (bd 7), .int 0])), ((bd 5), .inr (4, [.int 0, .ref (bd 7), .int 0])), ((bd 6), .inr (4, [.int 0, .ref (bd 7), .int 0]))]) [0, 1, 2, 3, 4, 5, 6] rfl
          have hDc := hD.sub (ws' := [((bd 0), .inr (14, [.ref (bd 1), .ref (bd 2), .ref (bd 3), .ref (bd 4), .ref (bd 5), .ref (bd 6), .int 100, .int (-1), .int 0, .int 0])), ((bd 1), .inr (4, [.int 0, .ref (bd 7), .int 0])), ((bd 2), .inr (4, [.int 0, .ref (bd 7), .int 0])), ((bd 3), .inr (4, [.int 0, .ref (bd 7), .int 0])), ((bd 4), .inr (4, [.int 0, .ref (bd 7), .int 0])), ((bd 5), .inr (4, [.int 0, .ref (bd 7), .int 0])), ((bd 6), .inr (4, [.int 0, .ref (bd 7), .int 0]))]) [0, 1, 2, 3, 4, 5, 6] (by decide) rfl
          have hFc := va_free (wc := [((bd 0), .inr (14, [.ref (bd 1), .ref (bd 2), .ref (bd 3), .ref (bd 4), .ref (bd 5), .ref (bd 6), .int 100, .int (-1), .int 0, .int 0])), ((bd 1), .inr (4, [.int 0, .ref (bd 7), .int 0])), ((bd 2), .inr (4, [.int 0, .ref (bd 7), .int 0])), ((bd 3), .inr (4, [.int 0, .ref (bd 7), .int 0])), ((bd 4), .inr (4, [.int 0, .ref (bd 7), .int 0])), ((bd 5), .inr (4, [.int 0, .ref (bd 7), .int 0])), ((bd 6), .inr (4, [.int 0, .ref (bd 7), .int 0]))]) hD hS hA [0, 1, 2, 3, 4, 5, 6] rfl
          refine va_calli (va_runV (As := [.int (((xs (Int32.toNatClampNeg 1)).toUInt32 % 65536).toInt32), .int (xs (Int32.toNatClampNeg 2)), .int (xs (Int32.toNatClampNeg 3)), .int (xs (Int32.toNatClampNeg 4))]) (rest := []) ⟨hx, hb, hml, hown, hw⟩ (c_X9_addShade4 l D sa ea bd 0 _ (((xs (Int32.toNatClampNeg 1)).toUInt32 % 65536).toInt32) (xs (Int32.toNatClampNeg 2)) (xs (Int32.toNatClampNeg 3)) (xs (Int32.toNatClampNeg 4)) h_6 h_17 h_28 h_39 he) (cwV 4 hw (zg4 zm_1307 zm_1308 zm_1309 zm_53 zm_1310) rfl rfl rfl (by decide +kernel) ⟨Nat.le_of_ble_eq_true rfl, Nat.le_of_ble_eq_true rfl⟩) ⟨zG_blind, va_recv hK hPc (ci := 14) (q0 := 0) rfl rfl, zG_pre hPc (hK.sub (tys' := []) [] rfl) hDc hT hE hQ hS hFc⟩ rfl rfl hl.1 rfl (lv_room (Nat.le_of_ble_eq_true rfl)) dL_law_314 ⟨Nat.le_of_ble_eq_true rfl, Nat.le_of_ble_eq_true rfl⟩) hS (fun q _ h => hFc q h) hFc (fun r_56 u t H locs ht hvm hw1 hB hz1 hk1 hS => ?_)
          subst hw1
          obtain ⟨hP1, hD1⟩ := hB
          rw [ht] at hP1
          obtain ⟨hP, hD⟩ := va_join (wr := [(od, .inl (kD, 1, .inr (.inr (.inr (.inl (fun _ => 0)))))), (oa, .inl (kO, 1, .inr (.inl (vp_updL (fun _ => 0) (Int32.toNatClampNeg 0) 0))))]) (w1 := [((bd 0), .inr (14, [.ref (bd 1), .ref (bd 2), .ref (bd 3), .ref (bd 4), .ref (bd 5), .ref (bd 6), .int 100, .int (-1), .int 0, .int 0]))]) hP hD [0, 1, 2, 3, 4, 5, 6] [7, 8] rfl rfl (by decide) (by decide) hk1 hFc hP1 hD1
          have hP : va_P D vwCl [(od, .inl (kD, 1, .inr (.inr (.inr (.inl (fun _ => 0)))))), (oa, .inl (kO, 1, .inr (.inl (vp_updL (fun _ => 0) (Int32.toNatClampNeg 0) 0)))), ((bd 0), .inr (14, [.ref (bd 1), .ref (bd 2), .ref (bd 3), .ref (bd 4), .ref (bd 5), .ref (bd 6), .int 100, .int (-1), .int 0, .int 0]))] H := hP
          have hD : va_D A [(od, .inl (kD, 1, .inr (.inr (.inr (.inl (fun _ => 0)))))), (oa, .inl (kO, 1, .inr (.inl (vp_updL (fun _ => 0) (Int32.toNatClampNeg 0) 0)))), ((bd 0), .inr (14, [.ref (bd 1), .ref (bd 2), .ref (bd 3), .ref (bd 4), .ref (bd 5), .ref (bd 6), .int 100, .int (-1), .int 0, .int 0]))] := hD
          have hK : va_K D vwCl [(kC, .char), (kI, .int), (kO, .long), (kD, .double)] s := hK
          refine lv_istore (lv' := [(7, .int 0), (6, .int 0), (5, .int 0), (4, .ref od), (3, .ref oa), (2, .ref (bd 0)), (1, .ref (ad 0)), (0, .ref b)]) hx hb dL_law_317 hl (by decide) rfl (fun ls hl => ?_)
          refine lv_aload_n hx hb dL_law_319 rfl (lv_at hl 5 rfl) ?_
          have hPc := hP.sub (ws' := [((bd 0), .inr (14, [.ref (bd 1), .ref (bd 2), .ref (bd 3), .ref (bd 4), .ref (bd 5), .ref (bd 6), .int 100, .int (-1), .int 0, .int 0]))]) [2] rfl
          refine va_calli (va_runV (As := []) (rest := []) ⟨hx, hb, hml, hown, hw⟩ (c_X9_thrown0 l D sa bd 100 0 _) (cwV 0 hw (zg4 zm_1303 zm_1304 zm_1305 zm_53 zm_1306) rfl rfl rfl (by decide +kernel) ⟨Nat.le_of_ble_eq_true rfl, Nat.le_of_ble_eq_true rfl⟩) ⟨zJ_blind, va_recv hK hPc (ci := 14) (q0 := 0) rfl rfl, zJ_pre hPc hK hT⟩ rfl rfl hl.1 rfl (lv_room (Nat.le_of_ble_eq_true rfl)) dL_law_320 ⟨Nat.le_of_ble_eq_true rfl, Nat.le_of_ble_eq_true rfl⟩) hS zN_in (zN_fr hS hA) (fun r_57 u t H locs ht hvm hw1 hB hz1 hk1 hS => ?_)
          have hP := zN_keep hP hk1
          subst hw1
          refine lv_iload hx hb dL_law_323 (lv_at hl 1 rfl) ?_
          refine lv_icmp_eq (tgt := 330) hx hb dL_law_325 (by decide) (fun _ => ?_) (fun c_58 => absurd (by decide) c_58)
          refine lv_iload hx hb dL_law_330 (lv_at hl 1 rfl) ?_
          refine lv_if_ne (tgt := 347) hx hb dL_law_332 (by decide) (fun c_59 => absurd (by decide) c_59) (fun _ => ?_)
          refine lv_aload_n hx hb dL_law_335 rfl (lv_at hl 4 rfl) ?_
          refine lv_iconst (v := 0) hx hb dL_law_336 (by decide) ?_
          refine va_lald hx hb hK hP 1 2 rfl rfl (by unfold vp_in; decide) dL_law_337 ?_
          refine lv_topl (fun f_60 ef_60 => ?_)
          obtain rfl : f_60 = 0 := ef_60.trans pk_uLs
          refine lv_iload hx hb dL_law_338 (lv_at hl 0 rfl) ?_
          refine lv_i2l (v := 0) hx hb dL_law_340 (by decide) ?_
          refine W.lcmp hx hb dL_law_341 ?_
          refine lv_topi (fun f_61 ef_61 => ?_)
          obtain rfl : f_61 = 0 := ef_61.trans (by decide)
          refine lv_if_eq (tgt := 347) hx hb dL_law_342 (by decide) (fun _ => ?_) (fun c_62 => absurd (by decide) c_62)
          refine lv_goto (tgt := 3449) hx hb dL_law_347 (by decide) ?_
          refine W.widen (k := 2000) (n := 20000) (Nat.le_of_ble_eq_true rfl) (Nat.le_of_ble_eq_true rfl) ?_
          exact hend _ _ _ hS (lv_sub hl [2, 7] rfl)
theorem dL_law_350 : decode cL_law 350 = .ok (.aload_n 1, 1) := by decide +kernel
theorem dL_law_351 : decode cL_law 351 = .ok (.aload_n 0, 1) := by decide +kernel
theorem dL_law_352 : decode cL_law 352 = .ok (.iload 5, 2) := by decide +kernel
theorem dL_law_354 : decode cL_law 354 = .ok (.iconst 1, 1) := by decide +kernel
theorem dL_law_355 : decode cL_law 355 = .ok (.iadd, 1) := by decide +kernel
theorem dL_law_356 : decode cL_law 356 = .ok (.iaload, 1) := by decide +kernel
theorem dL_law_357 : decode cL_law 357 = .ok (.aload_n 0, 1) := by decide +kernel
theorem dL_law_358 : decode cL_law 358 = .ok (.iload 5, 2) := by decide +kernel
theorem dL_law_360 : decode cL_law 360 = .ok (.iconst 2, 1) := by decide +kernel
theorem dL_law_361 : decode cL_law 361 = .ok (.iadd, 1) := by decide +kernel
theorem dL_law_362 : decode cL_law 362 = .ok (.iaload, 1) := by decide +kernel
theorem dL_law_363 : decode cL_law 363 = .ok (.i2c, 1) := by decide +kernel
theorem dL_law_364 : decode cL_law 364 = .ok (.aload_n 0, 1) := by decide +kernel
theorem dL_law_365 : decode cL_law 365 = .ok (.iload 5, 2) := by decide +kernel
theorem dL_law_367 : decode cL_law 367 = .ok (.iconst 3, 1) := by decide +kernel
theorem dL_law_368 : decode cL_law 368 = .ok (.iadd, 1) := by decide +kernel
theorem dL_law_369 : decode cL_law 369 = .ok (.iaload, 1) := by decide +kernel
theorem dL_law_370 : decode cL_law 370 = .ok (.aload_n 3, 1) := by decide +kernel
theorem dL_law_371 : decode cL_law 371 = .ok (.invokestatic 182, 3) := by decide +kernel
theorem zm_484 : Cond.methodLink RL 182 yL_getPart ∈ WA := zmm (i := 484) (by decide +kernel) (by decide +kernel)
theorem zm_485 : Cond.static yL_getPart ∈ WA := zmm (i := 485) (by decide +kernel) (by decide +kernel)
theorem zm_486 : Cond.codeWith yL_getPart method_4_code 6 (Option.some FieldType.int) [(0, 12, 15, 23), (0, 12, 19, 13)] ∈ WA := zmm (i := 486) (by decide +kernel) (by decide +kernel)
theorem dL_law_374 : decode cL_law 374 = .ok (.istore 6, 2) := by decide +kernel
theorem dL_law_376 : decode cL_law 376 = .ok (.aload_n 2, 1) := by decide +kernel
theorem dL_law_377 : decode cL_law 377 = .ok (.aload_n 0, 1) := by decide +kernel
theorem dL_law_378 : decode cL_law 378 = .ok (.iload 5, 2) := by decide +kernel
theorem dL_law_380 : decode cL_law 380 = .ok (.iconst 1, 1) := by decide +kernel
theorem dL_law_381 : decode cL_law 381 = .ok (.iadd, 1) := by decide +kernel
theorem dL_law_382 : decode cL_law 382 = .ok (.iaload, 1) := by decide +kernel
theorem dL_law_383 : decode cL_law 383 = .ok (.aload_n 0, 1) := by decide +kernel
theorem dL_law_384 : decode cL_law 384 = .ok (.iload 5, 2) := by decide +kernel
theorem dL_law_386 : decode cL_law 386 = .ok (.iconst 2, 1) := by decide +kernel
theorem dL_law_387 : decode cL_law 387 = .ok (.iadd, 1) := by decide +kernel
theorem dL_law_388 : decode cL_law 388 = .ok (.iaload, 1) := by decide +kernel
theorem dL_law_389 : decode cL_law 389 = .ok (.i2c, 1) := by decide +kernel
theorem dL_law_390 : decode cL_law 390 = .ok (.aload_n 0, 1) := by decide +kernel
theorem dL_law_391 : decode cL_law 391 = .ok (.iload 5, 2) := by decide +kernel
theorem dL_law_393 : decode cL_law 393 = .ok (.iconst 3, 1) := by decide +kernel
theorem dL_law_394 : decode cL_law 394 = .ok (.iadd, 1) := by decide +kernel
theorem dL_law_395 : decode cL_law 395 = .ok (.iaload, 1) := by decide +kernel
theorem dL_law_396 : decode cL_law 396 = .ok (.invokevirtual 185, 3) := by decide +kernel
theorem zm_1396 : Cond.methodLink RL 185 yX9_getPart ∈ WA := zmm (i := 1396) (by decide +kernel) (by decide +kernel)
theorem zm_1397 : Cond.instanceMethod yX9_getPart ∈ WA := zmm (i := 1397) (by decide +kernel) (by decide +kernel)
theorem zm_1398 : Cond.selects RX9 yX9_getPart yX9_getPart ∈ WA := zmm (i := 1398) (by decide +kernel) (by decide +kernel)
theorem zm_1399 : Cond.code yX9_getPart prog_8_method_8_code 5 (Option.some FieldType.int) ∈ WA := zmm (i := 1399) (by decide +kernel) (by decide +kernel)
theorem dL_law_399 : decode cL_law 399 = .ok (.istore 7, 2) := by decide +kernel
theorem dL_law_401 : decode cL_law 401 = .ok (.aload_n 2, 1) := by decide +kernel
theorem dL_law_402 : decode cL_law 402 = .ok (.invokevirtual 179, 3) := by decide +kernel
theorem dL_law_405 : decode cL_law 405 = .ok (.iload 6, 2) := by decide +kernel
theorem dL_law_407 : decode cL_law 407 = .ok (.if_icmp .eq 5, 3) := by decide +kernel
theorem dL_law_412 : decode cL_law 412 = .ok (.iload 6, 2) := by decide +kernel
theorem dL_law_414 : decode cL_law 414 = .ok (.ifCond .ne 15, 3) := by decide +kernel
theorem dL_law_429 : decode cL_law 429 = .ok (.goto 3020, 3) := by decide +kernel
set_option maxHeartbeats 4000000 in
set_option maxRecDepth 100000 in
theorem law_1 {p : Program} {e : Env} {s : State} {m : MethodId} {below : List Frame} {meth : Method} {c : Code} {l : Launch} {D : va_G} {A : Nat → Prop} {sa : Nat → Nat} {ea : Nat} {ad bd : Nat → Nat} {kC kI kO kD : ClassId} {oa od b : Nat} {xs : Nat → Int32} {Q : State → Prop} (C1 : zLw p l s m c b xs A sa ea bd) (hend : ∀ (H : Heap) (locs : List Loc) (ls : Array Slot), va_S A s.heap H locs → lv_has ls 9 [(5, .int 0), (0, .ref b)] → W p l e room_1 s m #[Value.ref b] below meth c H locs 2000 20000 Q (F0 m 3449 ls [])) {H : Heap} {locs : List Loc} {ls : Array Slot} (C2 : zSt D s A ad bd kC kI kO kD oa od b H locs ls) : W p l e room_1 s m #[Value.ref b] below meth c H locs 1000 10000 Q (F0 m 350 ls []) := by
  obtain ⟨hx, hb, hml, hown, hw, hX, hbl, hbA, hA, hT, hZ, hE, hQ, hst, he⟩ := C1
  obtain ⟨hK, hP, hD, hS, hl⟩ := C2
  have hP : va_P D vwCl [((ad 0), .inr (10, [.ref (ad 1), .ref (ad 2), .ref (ad 3), .ref (ad 4), .ref (ad 5), .int (-1), .int 100, .int 0, .int 0])), ((ad 1), .inr (7, [.ref (ad 6), .ref (ad 7), .ref (ad 8), .int 0])), ((ad 2), .inr (8, [.ref (ad 9), .ref (ad 10), .int 0])), ((ad 3), .inr (4, [.int 0, .ref (ad 14), .int 0])), ((ad 4), .inr (4, [.int 0, .ref (ad 14), .int 0])), ((ad 5), .inr (6, [.ref (ad 11), .ref (ad 12), .ref (ad 13), .int 0, .int 0])), ((bd 0), .inr (14, [.ref (bd 1), .ref (bd 2), .ref (bd 3), .ref (bd 4), .ref (bd 5), .ref (bd 6), .int 100, .int (-1), .int 0, .int 0])), ((bd 1), .inr (4, [.int 0, .ref (bd 7), .int 0])), ((bd 2), .inr (4, [.int 0, .ref (bd 7), .int 0])), ((bd 3), .inr (4, [.int 0, .ref (bd 7), .int 0])), ((bd 4), .inr (4, [.int 0, .ref (bd 7), .int 0])), ((bd 5), .inr (4, [.int 0, .ref (bd 7), .int 0])), ((bd 6), .inr (4, [.int 0, .ref (bd 7), .int 0])), ((ad 6), .inl (kC, 12, .inl (fun _ => 0))), ((ad 7), .inl (kI, 36, .inl (fun _ => 0))), (oa, .inl (kO, 1, .inr (.inl (fun _ => 0)))), (od, .inl (kD, 1, .inr (.inr (.inr (.inl (fun _ => 0))))))] H := hP
  have hD : va_D A [((ad 0), .inr (10, [.ref (ad 1), .ref (ad 2), .ref (ad 3), .ref (ad 4), .ref (ad 5), .int (-1), .int 100, .int 0, .int 0])), ((ad 1), .inr (7, [.ref (ad 6), .ref (ad 7), .ref (ad 8), .int 0])), ((ad 2), .inr (8, [.ref (ad 9), .ref (ad 10), .int 0])), ((ad 3), .inr (4, [.int 0, .ref (ad 14), .int 0])), ((ad 4), .inr (4, [.int 0, .ref (ad 14), .int 0])), ((ad 5), .inr (6, [.ref (ad 11), .ref (ad 12), .ref (ad 13), .int 0, .int 0])), ((bd 0), .inr (14, [.ref (bd 1), .ref (bd 2), .ref (bd 3), .ref (bd 4), .ref (bd 5), .ref (bd 6), .int 100, .int (-1), .int 0, .int 0])), ((bd 1), .inr (4, [.int 0, .ref (bd 7), .int 0])), ((bd 2), .inr (4, [.int 0, .ref (bd 7), .int 0])), ((bd 3), .inr (4, [.int 0, .ref (bd 7), .int 0])), ((bd 4), .inr (4, [.int 0, .ref (bd 7), .int 0])), ((bd 5), .inr (4, [.int 0, .ref (bd 7), .int 0])), ((bd 6), .inr (4, [.int 0, .ref (bd 7), .int 0])), ((ad 6), .inl (kC, 12, .inl (fun _ => 0))), ((ad 7), .inl (kI, 36, .inl (fun _ => 0))), (oa, .inl (kO, 1, .inr (.inl (fun _ => 0)))), (od, .inl (kD, 1, .inr (.inr (.inr (.inl (fun _ => 0))))))] := hD
  refine lv_aload_n hx hb dL_law_350 rfl (lv_at hl 4 rfl) ?_
  refine lv_aload_n hx hb dL_law_351 rfl (lv_at hl 5 rfl) ?_
  refine lv_iload hx hb dL_law_352 (lv_at hl 0 rfl) ?_
  refine lv_iconst (v := 1) hx hb dL_law_354 (by decide) ?_
  refine lv_iadd hx hb dL_law_355 ?_
  refine lv_topi (fun f_1 ef_1 => ?_)
  obtain rfl : f_1 = 1 := ef_1.trans (by decide)
  refine va_sld (i := 1) hx hb hX hbl hbA hS (by unfold vp_in; decide) dL_law_356 ?_
  refine lv_aload_n hx hb dL_law_357 rfl (lv_at hl 5 rfl) ?_
  refine lv_iload hx hb dL_law_358 (lv_at hl 0 rfl) ?_
  refine lv_iconst (v := 2) hx hb dL_law_360 (by decide) ?_
  refine lv_iadd hx hb dL_law_361 ?_
  refine lv_topi (fun f_2 ef_2 => ?_)
  obtain rfl : f_2 = 2 := ef_2.trans (by decide)
  refine va_sld (i := 2) hx hb hX hbl hbA hS (by unfold vp_in; decide) dL_law_362 ?_
  refine lv_i2c hx hb dL_law_363 rfl ?_
  refine lv_aload_n hx hb dL_law_364 rfl (lv_at hl 5 rfl) ?_
  refine lv_iload hx hb dL_law_365 (lv_at hl 0 rfl) ?_
  refine lv_iconst (v := 3) hx hb dL_law_367 (by decide) ?_
  refine lv_iadd hx hb dL_law_368 ?_
  refine lv_topi (fun f_4 ef_4 => ?_)
  obtain rfl : f_4 = 3 := ef_4.trans (by decide)
  refine va_sld (i := 3) hx hb hX hbl hbA hS (by unfold vp_in; decide) dL_law_369 ?_
  refine lv_aload_n hx hb dL_law_370 rfl (lv_at hl 2 rfl) ?_
  have hPc := hP.sub (ws' := [((ad 0), .inr (10, [.ref (ad 1), .ref (ad 2), .ref (ad 3), .ref (ad 4), .ref (ad 5), .int (-1), .int 100, .int 0, .int 0])), ((ad 1), .inr (7, [.ref (ad 6), .ref (ad 7), .ref (ad 8), .int 0])), ((ad 2), .inr (8, [.ref (ad 9), .ref (ad 10), .int 0])), ((ad 3), .inr (4, [.int 0, .ref (ad 14), .int 0])), ((ad 4), .inr (4, [.int 0, .ref (ad 14), .int 0])), ((ad 5), .inr (6, [.ref (ad 11), .ref (ad 12), .ref (ad 13), .int 0, .int 0]))]) [0, 1, 2, 3, 4, 5] rfl
  refine vx_calli (vx_runSX (As := [.ref (ad 0), .int (xs (Int32.toNatClampNeg 1)), .int (((xs (Int32.toNatClampNeg 2)).toUInt32 % 65536).toInt32), .int (xs (Int32.toNatClampNeg 3)), .ref oa]) (rest := []) ⟨hx, hb, hml, hown, hw⟩ (c_L_getPart l hst D sa ad _ (xs (Int32.toNatClampNeg 1)) (((xs (Int32.toNatClampNeg 2)).toUInt32 % 65536).toInt32) (xs (Int32.toNatClampNeg 3)) oa) (vx_cwSW 5 hw (zg3 zm_484 zm_485 zm_44 zm_486) rfl rfl rfl (by decide +kernel) ⟨Nat.le_of_ble_eq_true rfl, Nat.le_of_ble_eq_true rfl⟩) ⟨zR_blind, zR_pre hPc hK hT hZ hS hA⟩ rfl rfl hl.1 rfl (lv_room (Nat.le_of_ble_eq_true rfl)) dL_law_371 ⟨Nat.le_of_ble_eq_true rfl, Nat.le_of_ble_eq_true rfl⟩) hS zN_in (zN_fr hS hA) zN_in (fun E ce q9 u t H1 locs1 ht hvm hu hE => hE.elim) (fun r_5 u t H locs ht hvm hw1 hB hz1 hk1 hS => ?_)
  have hP := zN_keep hP hk1
  subst hw1
  refine lv_istore (lv' := [(6, .int 1), (5, .int 0), (4, .ref od), (3, .ref oa), (2, .ref (bd 0)), (1, .ref (ad 0)), (0, .ref b)]) hx hb dL_law_374 hl (by decide) rfl (fun ls hl => ?_)
  refine lv_aload_n hx hb dL_law_376 rfl (lv_at hl 4 rfl) ?_
  refine lv_aload_n hx hb dL_law_377 rfl (lv_at hl 6 rfl) ?_
  refine lv_iload hx hb dL_law_378 (lv_at hl 1 rfl) ?_
  refine lv_iconst (v := 1) hx hb dL_law_380 (by decide) ?_
  refine lv_iadd hx hb dL_law_381 ?_
  refine lv_topi (fun f_6 ef_6 => ?_)
  obtain rfl : f_6 = 1 := ef_6.trans (by decide)
  refine va_sld (i := 1) hx hb hX hbl hbA hS (by unfold vp_in; decide) dL_law_382 ?_
  refine lv_aload_n hx hb dL_law_383 rfl (lv_at hl 6 rfl) ?_
  refine lv_iload hx hb dL_law_384 (lv_at hl 1 rfl) ?_
  refine lv_iconst (v := 2) hx hb dL_law_386 (by decide) ?_
  refine lv_iadd hx hb dL_law_387 ?_
  refine lv_topi (fun f_7 ef_7 => ?_)
  obtain rfl : f_7 = 2 := ef_7.trans (by decide)
  refine va_sld (i := 2) hx hb hX hbl hbA hS (by unfold vp_in; decide) dL_law_388 ?_
  refine lv_i2c hx hb dL_law_389 rfl ?_
  refine lv_aload_n hx hb dL_law_390 rfl (lv_at hl 6 rfl) ?_
  refine lv_iload hx hb dL_law_391 (lv_at hl 1 rfl) ?_
  refine lv_iconst (v := 3) hx hb dL_law_393 (by decide) ?_
  refine lv_iadd hx hb dL_law_394 ?_
  refine lv_topi (fun f_9 ef_9 => ?_)
  obtain rfl : f_9 = 3 := ef_9.trans (by decide)
  refine va_sld (i := 3) hx hb hX hbl hbA hS (by unfold vp_in; decide) dL_law_395 ?_
  have hPc := hP.sub (ws' := [((bd 0), .inr (14, [.ref (bd 1), .ref (bd 2), .ref (bd 3), .ref (bd 4), .ref (bd 5), .ref (bd 6), .int 100, .int (-1), .int 0, .int 0])), ((bd 1), .inr (4, [.int 0, .ref (bd 7), .int 0])), ((bd 2), .inr (4, [.int 0, .ref (bd 7), .int 0])), ((bd 3), .inr (4, [.int 0, .ref (bd 7), .int 0])), ((bd 4), .inr (4, [.int 0, .ref (bd 7), .int 0])), ((bd 5), .inr (4, [.int 0, .ref (bd 7), .int 0])), ((bd 6), .inr (4, [.int 0, .ref (bd 7), .int 0]))]) [6, 7, 8, 9, 10, 11, 12] rfl
  have hDc := hD.sub (ws' := [((bd 0), .inr (14, [.ref (bd 1), .ref (bd 2), .ref (bd 3), .ref (bd 4), .ref (bd 5), .ref (bd 6), .int 100, .int (-1), .int 0, .int 0])), ((bd 1), .inr (4, [.int 0, .ref (bd 7), .int 0])), ((bd 2), .inr (4, [.int 0, .ref (bd 7), .int 0])), ((bd 3), .inr (4, [.int 0, .ref (bd 7), .int 0])), ((bd 4), .inr (4, [.int 0, .ref (bd 7), .int 0])), ((bd 5), .inr (4, [.int 0, .ref (bd 7), .int 0])), ((bd 6), .inr (4, [.int 0, .ref (bd 7), .int 0]))]) [6, 7, 8, 9, 10, 11, 12] (by decide) rfl
  have hFc := va_free (wc := [((bd 0), .inr (14, [.ref (bd 1), .ref (bd 2), .ref (bd 3), .ref (bd 4), .ref (bd 5), .ref (bd 6), .int 100, .int (-1), .int 0, .int 0])), ((bd 1), .inr (4, [.int 0, .ref (bd 7), .int 0])), ((bd 2), .inr (4, [.int 0, .ref (bd 7), .int 0])), ((bd 3), .inr (4, [.int 0, .ref (bd 7), .int 0])), ((bd 4), .inr (4, [.int 0, .ref (bd 7), .int 0])), ((bd 5), .inr (4, [.int 0, .ref (bd 7), .int 0])), ((bd 6), .inr (4, [.int 0, .ref (bd 7), .int 0]))]) hD hS hA [6, 7, 8, 9, 10, 11, 12] rfl
  refine va_calli (va_runV (As := [.int (xs (Int32.toNatClampNeg 1)), .int (((xs (Int32.toNatClampNeg 2)).toUInt32 % 65536).toInt32), .int (xs (Int32.toNatClampNeg 3))]) (rest := []) ⟨hx, hb, hml, hown, hw⟩ (c_X9_getPart l D sa ea bd 0 _ (xs (Int32.toNatClampNeg 1)) (((xs (Int32.toNatClampNeg 2)).toUInt32 % 65536).toInt32) (xs (Int32.toNatClampNeg 3))) (cwV 3 hw (zg4 zm_1396 zm_1397 zm_1398 zm_53 zm_1399) rfl rfl rfl (by decide +kernel) ⟨Nat.le_of_ble_eq_true rfl, Nat.le_of_ble_eq_true rfl⟩) ⟨zW_blind, va_recv hK hPc (ci := 14) (q0 := 0) rfl rfl, zW_pre hPc (hK.sub (tys' := []) [] rfl) hDc hT hE hS hFc⟩ rfl rfl hl.1 rfl (lv_room (Nat.le_of_ble_eq_true rfl)) dL_law_396 ⟨Nat.le_of_ble_eq_true rfl, Nat.le_of_ble_eq_true rfl⟩) hS (fun q _ h => hFc q h) hFc (fun r_10 u t H locs ht hvm hw1 hB hz1 hk1 hS => ?_)
  subst hw1
  obtain ⟨hP1, hD1⟩ := hB
  rw [ht] at hP1
  obtain ⟨hP, hD⟩ := va_join (wr := [((ad 0), .inr (10, [.ref (ad 1), .ref (ad 2), .ref (ad 3), .ref (ad 4), .ref (ad 5), .int (-1), .int 100, .int 0, .int 0])), ((ad 1), .inr (7, [.ref (ad 6), .ref (ad 7), .ref (ad 8), .int 0])), ((ad 2), .inr (8, [.ref (ad 9), .ref (ad 10), .int 0])), ((ad 3), .inr (4, [.int 0, .ref (ad 14), .int 0])), ((ad 4), .inr (4, [.int 0, .ref (ad 14), .int 0])), ((ad 5), .inr (6, [.ref (ad 11), .ref (ad 12), .ref (ad 13), .int 0, .int 0])), ((ad 6), .inl (kC, 12, .inl (fun _ => 0))), ((ad 7), .inl (kI, 36, .inl (fun _ => 0))), (oa, .inl (kO, 1, .inr (.inl (fun _ => 0)))), (od, .inl (kD, 1, .inr (.inr (.inr (.inl (fun _ => 0))))))]) (w1 := [((bd 0), .inr (14, [.ref (bd 1), .ref (bd 2), .ref (bd 3), .ref (bd 4), .ref (bd 5), .ref (bd 6), .int 100, .int (-1), .int 0, .int 1])), ((bd 1), .inr (4, [.int 0, .ref (bd 7), .int 0])), ((bd 2), .inr (4, [.int 0, .ref (bd 7), .int 0])), ((bd 3), .inr (4, [.int 0, .ref (bd 7), .int 0])), ((bd 4), .inr (4, [.int 0, .ref (bd 7), .int 0])), ((bd 5), .inr (4, [.int 0, .ref (bd 7), .int 0])), ((bd 6), .inr (4, [.int 0, .ref (bd 7), .int 0]))]) hP hD [6, 7, 8, 9, 10, 11, 12] [0, 1, 2, 3, 4, 5, 13, 14, 15, 16] rfl rfl (by decide) (by decide) hk1 hFc hP1 hD1
  have hP : va_P D vwCl [((ad 0), .inr (10, [.ref (ad 1), .ref (ad 2), .ref (ad 3), .ref (ad 4), .ref (ad 5), .int (-1), .int 100, .int 0, .int 0])), ((ad 1), .inr (7, [.ref (ad 6), .ref (ad 7), .ref (ad 8), .int 0])), ((ad 2), .inr (8, [.ref (ad 9), .ref (ad 10), .int 0])), ((ad 3), .inr (4, [.int 0, .ref (ad 14), .int 0])), ((ad 4), .inr (4, [.int 0, .ref (ad 14), .int 0])), ((ad 5), .inr (6, [.ref (ad 11), .ref (ad 12), .ref (ad 13), .int 0, .int 0])), ((ad 6), .inl (kC, 12, .inl (fun _ => 0))), ((ad 7), .inl (kI, 36, .inl (fun _ => 0))), (oa, .inl (kO, 1, .inr (.inl (fun _ => 0)))), (od, .inl (kD, 1, .inr (.inr (.inr (.inl (fun _ => 0)))))), ((bd 0), .inr (14, [.ref (bd 1), .ref (bd 2), .ref (bd 3), .ref (bd 4), .ref (bd 5), .ref (bd 6), .int 100, .int (-1), .int 0, .int 1])), ((bd 1), .inr (4, [.int 0, .ref (bd 7), .int 0])), ((bd 2), .inr (4, [.int 0, .ref (bd 7), .int 0])), ((bd 3), .inr (4, [.int 0, .ref (bd 7), .int 0])), ((bd 4), .inr (4, [.int 0, .ref (bd 7), .int 0])), ((bd 5), .inr (4, [.int 0, .ref (bd 7), .int 0])), ((bd 6), .inr (4, [.int 0, .ref (bd 7), .int 0]))] H := hP
  have hD : va_D A [((ad 0), .inr (10, [.ref (ad 1), .ref (ad 2), .ref (ad 3), .ref (ad 4), .ref (ad 5), .int (-1), .int 100, .int 0, .int 0])), ((ad 1), .inr (7, [.ref (ad 6), .ref (ad 7), .ref (ad 8), .int 0])), ((ad 2), .inr (8, [.ref (ad 9), .ref (ad 10), .int 0])), ((ad 3), .inr (4, [.int 0, .ref (ad 14), .int 0])), ((ad 4), .inr (4, [.int 0, .ref (ad 14), .int 0])), ((ad 5), .inr (6, [.ref (ad 11), .ref (ad 12), .ref (ad 13), .int 0, .int 0])), ((ad 6), .inl (kC, 12, .inl (fun _ => 0))), ((ad 7), .inl (kI, 36, .inl (fun _ => 0))), (oa, .inl (kO, 1, .inr (.inl (fun _ => 0)))), (od, .inl (kD, 1, .inr (.inr (.inr (.inl (fun _ => 0)))))), ((bd 0), .inr (14, [.ref (bd 1), .ref (bd 2), .ref (bd 3), .ref (bd 4), .ref (bd 5), .ref (bd 6), .int 100, .int (-1), .int 0, .int 1])), ((bd 1), .inr (4, [.int 0, .ref (bd 7), .int 0])), ((bd 2), .inr (4, [.int 0, .ref (bd 7), .int 0])), ((bd 3), .inr (4, [.int 0, .ref (bd 7), .int 0])), ((bd 4), .inr (4, [.int 0, .ref (bd 7), .int 0])), ((bd 5), .inr (4, [.int 0, .ref (bd 7), .int 0])), ((bd 6), .inr (4, [.int 0, .ref (bd 7), .int 0]))] := hD
  have hK : va_K D vwCl [(kC, .char), (kI, .int), (kO, .long), (kD, .double)] s := hK
  refine lv_istore (lv' := [(7, .int 0), (6, .int 1), (5, .int 0), (4, .ref od), (3, .ref oa), (2, .ref (bd 0)), (1, .ref (ad 0)), (0, .ref b)]) hx hb dL_law_399 hl (by decide) rfl (fun ls hl => ?_)
  refine lv_aload_n hx hb dL_law_401 rfl (lv_at hl 5 rfl) ?_
  have hPc := hP.sub (ws' := [((bd 0), .inr (14, [.ref (bd 1), .ref (bd 2), .ref (bd 3), .ref (bd 4), .ref (bd 5), .ref (bd 6), .int 100, .int (-1), .int 0, .int 1])), ((bd 1), .inr (4, [.int 0, .ref (bd 7), .int 0])), ((bd 2), .inr (4, [.int 0, .ref (bd 7), .int 0])), ((bd 3), .inr (4, [.int 0, .ref (bd 7), .int 0])), ((bd 4), .inr (4, [.int 0, .ref (bd 7), .int 0])), ((bd 5), .inr (4, [.int 0, .ref (bd 7), .int 0])), ((bd 6), .inr (4, [.int 0, .ref (bd 7), .int 0]))]) [10, 11, 12, 13, 14, 15, 16] rfl
  refine va_calli (va_runV (As := []) (rest := []) ⟨hx, hb, hml, hown, hw⟩ (c_X9_thrown l D sa bd 1 _) (cwV 0 hw (zg4 zm_1303 zm_1304 zm_1305 zm_53 zm_1306) rfl rfl rfl (by decide +kernel) ⟨Nat.le_of_ble_eq_true rfl, Nat.le_of_ble_eq_true rfl⟩) ⟨zJ_blind, va_recv hK hPc (ci := 14) (q0 := 0) rfl rfl, zJ_pre hPc hK hT⟩ rfl rfl hl.1 rfl (lv_room (Nat.le_of_ble_eq_true rfl)) dL_law_402 ⟨Nat.le_of_ble_eq_true rfl, Nat.le_of_ble_eq_true rfl⟩) hS zN_in (zN_fr hS hA) (fun r_11 u t H locs ht hvm hw1 hB hz1 hk1 hS => ?_)
  have hP := zN_keep hP hk1
  subst hw1
  refine lv_iload hx hb dL_law_405 (lv_at hl 1 rfl) ?_
  refine lv_icmp_eq (tgt := 412) hx hb dL_law_407 (by decide) (fun _ => ?_) (fun c_12 => absurd (by decide) c_12)
  refine lv_iload hx hb dL_law_412 (lv_at hl 1 rfl) ?_
  refine lv_if_ne (tgt := 429) hx hb dL_law_414 (by decide) (fun _ => ?_) (fun c_13 => absurd c_13 (by decide))
  refine lv_goto (tgt := 3449) hx hb dL_law_429 (by decide) ?_
  refine W.widen (k := 2000) (n := 20000) (Nat.le_of_ble_eq_true rfl) (Nat.le_of_ble_eq_true rfl) ?_
  exact hend _ _ _ hS (lv_sub hl [2, 7] rfl)
theorem dL_law_568 : decode cL_law 568 = .ok (.aload_n 1, 1) := by decide +kernel
theorem dL_law_569 : decode cL_law 569 = .ok (.invokevirtual 193, 3) := by decide +kernel
theorem zm_210 : Cond.methodLink RL 193 yX5_clearStripes ∈ WA := zmm (i := 210) (by decide +kernel) (by decide +kernel)
theorem zm_211 : Cond.instanceMethod yX5_clearStripes ∈ WA := zmm (i := 211) (by decide +kernel) (by decide +kernel)
theorem zm_212 : Cond.selects RX5 yX5_clearStripes yX5_clearStripes ∈ WA := zmm (i := 212) (by decide +kernel) (by decide +kernel)
theorem zm_213 : Cond.code yX5_clearStripes prog_1_method_6_code 2 (Option.some FieldType.int) ∈ WA := zmm (i := 213) (by decide +kernel) (by decide +kernel)
theorem dL_law_572 : decode cL_law 572 = .ok (.aload_n 2, 1) := by decide +kernel
theorem dL_law_573 : decode cL_law 573 = .ok (.invokevirtual 196, 3) := by decide +kernel
theorem zm_1443 : Cond.methodLink RL 196 yX9_clearStripes ∈ WA := zmm (i := 1443) (by decide +kernel) (by decide +kernel)
theorem zm_1444 : Cond.instanceMethod yX9_clearStripes ∈ WA := zmm (i := 1444) (by decide +kernel) (by decide +kernel)
theorem zm_1445 : Cond.selects RX9 yX9_clearStripes yX9_clearStripes ∈ WA := zmm (i := 1445) (by decide +kernel) (by decide +kernel)
theorem zm_1446 : Cond.code yX9_clearStripes prog_8_method_12_code 2 (Option.some FieldType.int) ∈ WA := zmm (i := 1446) (by decide +kernel) (by decide +kernel)
theorem dL_law_576 : decode cL_law 576 = .ok (.if_icmp .eq 2873, 3) := by decide +kernel
set_option maxHeartbeats 4000000 in
set_option maxRecDepth 100000 in
theorem law_4 {p : Program} {e : Env} {s : State} {m : MethodId} {below : List Frame} {meth : Method} {c : Code} {l : Launch} {D : va_G} {A : Nat → Prop} {sa : Nat → Nat} {ea : Nat} {ad bd : Nat → Nat} {kC kI kO kD : ClassId} {oa od b : Nat} {xs : Nat → Int32} {Q : State → Prop} (C1 : zLw p l s m c b xs A sa ea bd) (hend : ∀ (H : Heap) (locs : List Loc) (ls : Array Slot), va_S A s.heap H locs → lv_has ls 9 [(5, .int 0), (0, .ref b)] → W p l e room_1 s m #[Value.ref b] below meth c H locs 2000 20000 Q (F0 m 3449 ls [])) {H : Heap} {locs : List Loc} {ls : Array Slot} (C2 : zSt D s A ad bd kC kI kO kD oa od b H locs ls) : W p l e room_1 s m #[Value.ref b] below meth c H locs 1000 10000 Q (F0 m 568 ls []) := by
  obtain ⟨hx, hb, hml, hown, hw, hX, hbl, hbA, hA, hT, hZ, hE, hQ, hst, he⟩ := C1
  obtain ⟨hK, hP, hD, hS, hl⟩ := C2
  have hP : va_P D vwCl [((ad 0), .inr (10, [.ref (ad 1), .ref (ad 2), .ref (ad 3), .ref (ad 4), .ref (ad 5), .int (-1), .int 100, .int 0, .int 0])), ((ad 1), .inr (7, [.ref (ad 6), .ref (ad 7), .ref (ad 8), .int 0])), ((ad 2), .inr (8, [.ref (ad 9), .ref (ad 10), .int 0])), ((ad 3), .inr (4, [.int 0, .ref (ad 14), .int 0])), ((ad 4), .inr (4, [.int 0, .ref (ad 14), .int 0])), ((ad 5), .inr (6, [.ref (ad 11), .ref (ad 12), .ref (ad 13), .int 0, .int 0])), ((bd 0), .inr (14, [.ref (bd 1), .ref (bd 2), .ref (bd 3), .ref (bd 4), .ref (bd 5), .ref (bd 6), .int 100, .int (-1), .int 0, .int 0])), ((bd 1), .inr (4, [.int 0, .ref (bd 7), .int 0])), ((bd 2), .inr (4, [.int 0, .ref (bd 7), .int 0])), ((bd 3), .inr (4, [.int 0, .ref (bd 7), .int 0])), ((bd 4), .inr (4, [.int 0, .ref (bd 7), .int 0])), ((bd 5), .inr (4, [.int 0, .ref (bd 7), .int 0])), ((bd 6), .inr (4, [.int 0, .ref (bd 7), .int 0])), ((ad 6), .inl (kC, 12, .inl (fun _ => 0))), ((ad 7), .inl (kI, 36, .inl (fun _ => 0))), (oa, .inl (kO, 1, .inr (.inl (fun _ => 0)))), (od, .inl (kD, 1, .inr (.inr (.inr (.inl (fun _ => 0))))))] H := hP
  have hD : va_D A [((ad 0), .inr (10, [.ref (ad 1), .ref (ad 2), .ref (ad 3), .ref (ad 4), .ref (ad 5), .int (-1), .int 100, .int 0, .int 0])), ((ad 1), .inr (7, [.ref (ad 6), .ref (ad 7), .ref (ad 8), .int 0])), ((ad 2), .inr (8, [.ref (ad 9), .ref (ad 10), .int 0])), ((ad 3), .inr (4, [.int 0, .ref (ad 14), .int 0])), ((ad 4), .inr (4, [.int 0, .ref (ad 14), .int 0])), ((ad 5), .inr (6, [.ref (ad 11), .ref (ad 12), .ref (ad 13), .int 0, .int 0])), ((bd 0), .inr (14, [.ref (bd 1), .ref (bd 2), .ref (bd 3), .ref (bd 4), .ref (bd 5), .ref (bd 6), .int 100, .int (-1), .int 0, .int 0])), ((bd 1), .inr (4, [.int 0, .ref (bd 7), .int 0])), ((bd 2), .inr (4, [.int 0, .ref (bd 7), .int 0])), ((bd 3), .inr (4, [.int 0, .ref (bd 7), .int 0])), ((bd 4), .inr (4, [.int 0, .ref (bd 7), .int 0])), ((bd 5), .inr (4, [.int 0, .ref (bd 7), .int 0])), ((bd 6), .inr (4, [.int 0, .ref (bd 7), .int 0])), ((ad 6), .inl (kC, 12, .inl (fun _ => 0))), ((ad 7), .inl (kI, 36, .inl (fun _ => 0))), (oa, .inl (kO, 1, .inr (.inl (fun _ => 0)))), (od, .inl (kD, 1, .inr (.inr (.inr (.inl (fun _ => 0))))))] := hD
  refine lv_aload_n hx hb dL_law_568 rfl (lv_at hl 4 rfl) ?_
  have hPc := hP.sub (ws' := [((ad 0), .inr (10, [.ref (ad 1), .ref (ad 2), .ref (ad 3), .ref (ad 4), .ref (ad 5), .int (-1), .int 100, .int 0, .int 0])), ((ad 1), .inr (7, [.ref (ad 6), .ref (ad 7), .ref (ad 8), .int 0])), ((ad 2), .inr (8, [.ref (ad 9), .ref (ad 10), .int 0])), ((ad 3), .inr (4, [.int 0, .ref (ad 14), .int 0])), ((ad 4), .inr (4, [.int 0, .ref (ad 14), .int 0])), ((ad 5), .inr (6, [.ref (ad 11), .ref (ad 12), .ref (ad 13), .int 0, .int 0]))]) [0, 1, 2, 3, 4, 5] rfl
  have hDc := hD.sub (ws' := [((ad 0), .inr (10, [.ref (ad 1), .ref (ad 2), .ref (ad 3), .ref (ad 4), .ref (ad 5), .int (-1), .int 100, .int 0, .int 0])), ((ad 1), .inr (7, [.ref (ad 6), .ref (ad 7), .ref (ad 8), .int 0])), ((ad 2), .inr (8, [.ref (ad 9), .ref (ad 10), .int 0])), ((ad 3), .inr (4, [.int 0, .ref (ad 14), .int 0])), ((ad 4), .inr (4, [.int 0, .ref (ad 14), .int 0])), ((ad 5), .inr (6, [.ref (ad 11), .ref (ad 12), .ref (ad 13), .int 0, .int 0]))]) [0, 1, 2, 3, 4, 5] (by decide) rfl
  have hFc := va_free (wc := [((ad 0), .inr (10, [.ref (ad 1), .ref (ad 2), .ref (ad 3), .ref (ad 4), .ref (ad 5), .int (-1), .int 100, .int 0, .int 0])), ((ad 1), .inr (7, [.ref (ad 6), .ref (ad 7), .ref (ad 8), .int 0])), ((ad 2), .inr (8, [.ref (ad 9), .ref (ad 10), .int 0])), ((ad 3), .inr (4, [.int 0, .ref (ad 14), .int 0])), ((ad 4), .inr (4, [.int 0, .ref (ad 14), .int 0])), ((ad 5), .inr (6, [.ref (ad 11), .ref (ad 12), .ref (ad 13), .int 0, .int 0]))]) hD hS hA [0, 1, 2, 3, 4, 5] rfl
  refine va_calli (va_runV (As := []) (rest := []) ⟨hx, hb, hml, hown, hw⟩ (c_X5_clearStripes l D sa ea ad _) (cwV 0 hw (zg4 zm_210 zm_211 zm_212 zm_45 zm_213) rfl rfl rfl (by decide +kernel) ⟨Nat.le_of_ble_eq_true rfl, Nat.le_of_ble_eq_true rfl⟩) ⟨zW_blind, va_recv hK hPc (ci := 10) (q0 := 0) rfl rfl, zW_pre hPc (hK.sub (tys' := []) [] rfl) hDc hT hE hS hFc⟩ rfl rfl hl.1 rfl (lv_room (Nat.le_of_ble_eq_true rfl)) dL_law_569 ⟨Nat.le_of_ble_eq_true rfl, Nat.le_of_ble_eq_true rfl⟩) hS (fun q _ h => hFc q h) hFc (fun r_1 u t H locs ht hvm hw1 hB hz1 hk1 hS => ?_)
  subst hw1
  obtain ⟨hP1, hD1⟩ := hB
  rw [ht] at hP1
  obtain ⟨hP, hD⟩ := va_join (wr := [((bd 0), .inr (14, [.ref (bd 1), .ref (bd 2), .ref (bd 3), .ref (bd 4), .ref (bd 5), .ref (bd 6), .int 100, .int (-1), .int 0, .int 0])), ((bd 1), .inr (4, [.int 0, .ref (bd 7), .int 0])), ((bd 2), .inr (4, [.int 0, .ref (bd 7), .int 0])), ((bd 3), .inr (4, [.int 0, .ref (bd 7), .int 0])), ((bd 4), .inr (4, [.int 0, .ref (bd 7), .int 0])), ((bd 5), .inr (4, [.int 0, .ref (bd 7), .int 0])), ((bd 6), .inr (4, [.int 0, .ref (bd 7), .int 0])), ((ad 6), .inl (kC, 12, .inl (fun _ => 0))), ((ad 7), .inl (kI, 36, .inl (fun _ => 0))), (oa, .inl (kO, 1, .inr (.inl (fun _ => 0)))), (od, .inl (kD, 1, .inr (.inr (.inr (.inl (fun _ => 0))))))]) (w1 := [((ad 0), .inr (10, [.ref (ad 1), .ref (ad 2), .ref (ad 3), .ref (ad 4), .ref (ad 5), .int (-1), .int 100, .int 0, .int 0])), ((ad 1), .inr (7, [.ref (ad 6), .ref (ad 7), .ref (ad 8), .int 0])), ((ad 2), .inr (8, [.ref (ad 9), .ref (ad 10), .int 0])), ((ad 3), .inr (4, [.int 0, .ref (ad 14), .int 0])), ((ad 4), .inr (4, [.int 0, .ref (ad 14), .int 0])), ((ad 5), .inr (6, [.ref (ad 11), .ref (ad 12), .ref (ad 13), .int 0, .int 0]))]) hP hD [0, 1, 2, 3, 4, 5] [6, 7, 8, 9, 10, 11, 12, 13, 14, 15, 16] rfl rfl (by decide) (by decide) hk1 hFc hP1 hD1
  have hP : va_P D vwCl [((bd 0), .inr (14, [.ref (bd 1), .ref (bd 2), .ref (bd 3), .ref (bd 4), .ref (bd 5), .ref (bd 6), .int 100, .int (-1), .int 0, .int 0])), ((bd 1), .inr (4, [.int 0, .ref (bd 7), .int 0])), ((bd 2), .inr (4, [.int 0, .ref (bd 7), .int 0])), ((bd 3), .inr (4, [.int 0, .ref (bd 7), .int 0])), ((bd 4), .inr (4, [.int 0, .ref (bd 7), .int 0])), ((bd 5), .inr (4, [.int 0, .ref (bd 7), .int 0])), ((bd 6), .inr (4, [.int 0, .ref (bd 7), .int 0])), ((ad 6), .inl (kC, 12, .inl (fun _ => 0))), ((ad 7), .inl (kI, 36, .inl (fun _ => 0))), (oa, .inl (kO, 1, .inr (.inl (fun _ => 0)))), (od, .inl (kD, 1, .inr (.inr (.inr (.inl (fun _ => 0)))))), ((ad 0), .inr (10, [.ref (ad 1), .ref (ad 2), .ref (ad 3), .ref (ad 4), .ref (ad 5), .int (-1), .int 100, .int 0, .int 0])), ((ad 1), .inr (7, [.ref (ad 6), .ref (ad 7), .ref (ad 8), .int 0])), ((ad 2), .inr (8, [.ref (ad 9), .ref (ad 10), .int 0])), ((ad 3), .inr (4, [.int 0, .ref (ad 14), .int 0])), ((ad 4), .inr (4, [.int 0, .ref (ad 14), .int 0])), ((ad 5), .inr (6, [.ref (ad 11), .ref (ad 12), .ref (ad 13), .int 0, .int 0]))] H := hP
  have hD : va_D A [((bd 0), .inr (14, [.ref (bd 1), .ref (bd 2), .ref (bd 3), .ref (bd 4), .ref (bd 5), .ref (bd 6), .int 100, .int (-1), .int 0, .int 0])), ((bd 1), .inr (4, [.int 0, .ref (bd 7), .int 0])), ((bd 2), .inr (4, [.int 0, .ref (bd 7), .int 0])), ((bd 3), .inr (4, [.int 0, .ref (bd 7), .int 0])), ((bd 4), .inr (4, [.int 0, .ref (bd 7), .int 0])), ((bd 5), .inr (4, [.int 0, .ref (bd 7), .int 0])), ((bd 6), .inr (4, [.int 0, .ref (bd 7), .int 0])), ((ad 6), .inl (kC, 12, .inl (fun _ => 0))), ((ad 7), .inl (kI, 36, .inl (fun _ => 0))), (oa, .inl (kO, 1, .inr (.inl (fun _ => 0)))), (od, .inl (kD, 1, .inr (.inr (.inr (.inl (fun _ => 0)))))), ((ad 0), .inr (10, [.ref (ad 1), .ref (ad 2), .ref (ad 3), .ref (ad 4), .ref (ad 5), .int (-1), .int 100, .int 0, .int 0])), ((ad 1), .inr (7, [.ref (ad 6), .ref (ad 7), .ref (ad 8), .int 0])), ((ad 2), .inr (8, [.ref (ad 9), .ref (ad 10), .int 0])), ((ad 3), .inr (4, [.int 0, .ref (ad 14), .int 0])), ((ad 4), .inr (4, [.int 0, .ref (ad 14), .int 0])), ((ad 5), .inr (6, [.ref (ad 11), .ref (ad 12), .ref (ad 13), .int 0, .int 0]))] := hD
  have hK : va_K D vwCl [(kC, .char), (kI, .int), (kO, .long), (kD, .double)] s := hK
  refine lv_aload_n hx hb dL_law_572 rfl (lv_at hl 3 rfl) ?_
  have hPc := hP.sub (ws' := [((bd 0), .inr (14, [.ref (bd 1), .ref (bd 2), .ref (bd 3), .ref (bd 4), .ref (bd 5), .ref (bd 6), .int 100, .int (-1), .int 0, .int 0])), ((bd 1), .inr (4, [.int 0, .ref (bd 7), .int 0])), ((bd 2), .inr (4, [.int 0, .ref (bd 7), .int 0])), ((bd 3), .inr (4, [.int 0, .ref (bd 7), .int 0])), ((bd 4), .inr (4, [.int 0, .ref (bd 7), .int 0])), ((bd 5), .inr (4, [.int 0, .ref (bd 7), .int 0])), ((bd 6), .inr (4, [.int 0, .ref (bd 7), .int 0]))]) [0, 1, 2, 3, 4, 5, 6] rfl
  have hDc := hD.sub (ws' := [((bd 0), .inr (14, [.ref (bd 1), .ref (bd 2), .ref (bd 3), .ref (bd 4), .ref (bd 5), .ref (bd 6), .int 100, .int (-1), .int 0, .int 0])), ((bd 1), .inr (4, [.int 0, .ref (bd 7), .int 0])), ((bd 2), .inr (4, [.int 0, .ref (bd 7), .int 0])), ((bd 3), .inr (4, [.int 0, .ref (bd 7), .int 0])), ((bd 4), .inr (4, [.int 0, .ref (bd 7), .int 0])), ((bd 5), .inr (4, [.int 0, .ref (bd 7), .int 0])), ((bd 6), .inr (4, [.int 0, .ref (bd 7), .int 0]))]) [0, 1, 2, 3, 4, 5, 6] (by decide) rfl
  have hFc := va_free (wc := [((bd 0), .inr (14, [.ref (bd 1), .ref (bd 2), .ref (bd 3), .ref (bd 4), .ref (bd 5), .ref (bd 6), .int 100, .int (-1), .int 0, .int 0])), ((bd 1), .inr (4, [.int 0, .ref (bd 7), .int 0])), ((bd 2), .inr (4, [.int 0, .ref (bd 7), .int 0])), ((bd 3), .inr (4, [.int 0, .ref (bd 7), .int 0])), ((bd 4), .inr (4, [.int 0, .ref (bd 7), .int 0])), ((bd 5), .inr (4, [.int 0, .ref (bd 7), .int 0])), ((bd 6), .inr (4, [.int 0, .ref (bd 7), .int 0]))]) hD hS hA [0, 1, 2, 3, 4, 5, 6] rfl
  refine va_calli (va_runV (As := []) (rest := [.int 0]) ⟨hx, hb, hml, hown, hw⟩ (c_X9_clearStripes l D sa ea bd 0 _) (cwV 0 hw (zg4 zm_1443 zm_1444 zm_1445 zm_53 zm_1446) rfl rfl rfl (by decide +kernel) ⟨Nat.le_of_ble_eq_true rfl, Nat.le_of_ble_eq_true rfl⟩) ⟨zW_blind, va_recv hK hPc (ci := 14) (q0 := 0) rfl rfl, zW_pre hPc (hK.sub (tys' := []) [] rfl) hDc hT hE hS hFc⟩ rfl rfl hl.1 rfl (lv_room (Nat.le_of_ble_eq_true rfl)) dL_law_573 ⟨Nat.le_of_ble_eq_true rfl, Nat.le_of_ble_eq_true rfl⟩) hS (fun q _ h => hFc q h) hFc (fun r_2 u t H locs ht hvm hw1 hB hz1 hk1 hS => ?_)
  subst hw1
  obtain ⟨hP1, hD1⟩ := hB
  rw [ht] at hP1
  obtain ⟨hP, hD⟩ := va_join (wr := [((ad 6), .inl (kC, 12, .inl (fun _ => 0))), ((ad 7), .inl (kI, 36, .inl (fun _ => 0))), (oa, .inl (kO, 1, .inr (.inl (fun _ => 0)))), (od, .inl (kD, 1, .inr (.inr (.inr (.inl (fun _ => 0)))))), ((ad 0), .inr (10, [.ref (ad 1), .ref (ad 2), .ref (ad 3), .ref (ad 4), .ref (ad 5), .int (-1), .int 100, .int 0, .int 0])), ((ad 1), .inr (7, [.ref (ad 6), .ref (ad 7), .ref (ad 8), .int 0])), ((ad 2), .inr (8, [.ref (ad 9), .ref (ad 10), .int 0])), ((ad 3), .inr (4, [.int 0, .ref (ad 14), .int 0])), ((ad 4), .inr (4, [.int 0, .ref (ad 14), .int 0])), ((ad 5), .inr (6, [.ref (ad 11), .ref (ad 12), .ref (ad 13), .int 0, .int 0]))]) (w1 := [((bd 0), .inr (14, [.ref (bd 1), .ref (bd 2), .ref (bd 3), .ref (bd 4), .ref (bd 5), .ref (bd 6), .int 100, .int (-1), .int 0, .int 0])), ((bd 1), .inr (4, [.int 0, .ref (bd 7), .int 0])), ((bd 2), .inr (4, [.int 1, .ref (bd 7), .int 0])), ((bd 3), .inr (4, [.int 0, .ref (bd 7), .int 0])), ((bd 4), .inr (4, [.int 0, .ref (bd 7), .int 0])), ((bd 5), .inr (4, [.int 0, .ref (bd 7), .int 0])), ((bd 6), .inr (4, [.int 0, .ref (bd 7), .int 0]))]) hP hD [0, 1, 2, 3, 4, 5, 6] [7, 8, 9, 10, 11, 12, 13, 14, 15, 16] rfl rfl (by decide) (by decide) hk1 hFc hP1 hD1
  have hP : va_P D vwCl [((ad 6), .inl (kC, 12, .inl (fun _ => 0))), ((ad 7), .inl (kI, 36, .inl (fun _ => 0))), (oa, .inl (kO, 1, .inr (.inl (fun _ => 0)))), (od, .inl (kD, 1, .inr (.inr (.inr (.inl (fun _ => 0)))))), ((ad 0), .inr (10, [.ref (ad 1), .ref (ad 2), .ref (ad 3), .ref (ad 4), .ref (ad 5), .int (-1), .int 100, .int 0, .int 0])), ((ad 1), .inr (7, [.ref (ad 6), .ref (ad 7), .ref (ad 8), .int 0])), ((ad 2), .inr (8, [.ref (ad 9), .ref (ad 10), .int 0])), ((ad 3), .inr (4, [.int 0, .ref (ad 14), .int 0])), ((ad 4), .inr (4, [.int 0, .ref (ad 14), .int 0])), ((ad 5), .inr (6, [.ref (ad 11), .ref (ad 12), .ref (ad 13), .int 0, .int 0])), ((bd 0), .inr (14, [.ref (bd 1), .ref (bd 2), .ref (bd 3), .ref (bd 4), .ref (bd 5), .ref (bd 6), .int 100, .int (-1), .int 0, .int 0])), ((bd 1), .inr (4, [.int 0, .ref (bd 7), .int 0])), ((bd 2), .inr (4, [.int 1, .ref (bd 7), .int 0])), ((bd 3), .inr (4, [.int 0, .ref (bd 7), .int 0])), ((bd 4), .inr (4, [.int 0, .ref (bd 7), .int 0])), ((bd 5), .inr (4, [.int 0, .ref (bd 7), .int 0])), ((bd 6), .inr (4, [.int 0, .ref (bd 7), .int 0]))] H := hP
  have hD : va_D A [((ad 6), .inl (kC, 12, .inl (fun _ => 0))), ((ad 7), .inl (kI, 36, .inl (fun _ => 0))), (oa, .inl (kO, 1, .inr (.inl (fun _ => 0)))), (od, .inl (kD, 1, .inr (.inr (.inr (.inl (fun _ => 0)))))), ((ad 0), .inr (10, [.ref (ad 1), .ref (ad 2), .ref (ad 3), .ref (ad 4), .ref (ad 5), .int (-1), .int 100, .int 0, .int 0])), ((ad 1), .inr (7, [.ref (ad 6), .ref (ad 7), .ref (ad 8), .int 0])), ((ad 2), .inr (8, [.ref (ad 9), .ref (ad 10), .int 0])), ((ad 3), .inr (4, [.int 0, .ref (ad 14), .int 0])), ((ad 4), .inr (4, [.int 0, .ref (ad 14), .int 0])), ((ad 5), .inr (6, [.ref (ad 11), .ref (ad 12), .ref (ad 13), .int 0, .int 0])), ((bd 0), .inr (14, [.ref (bd 1), .ref (bd 2), .ref (bd 3), .ref (bd 4), .ref (bd 5), .ref (bd 6), .int 100, .int (-1), .int 0, .int 0])), ((bd 1), .inr (4, [.int 0, .ref (bd 7), .int 0])), ((bd 2), .inr (4, [.int 1, .ref (bd 7), .int 0])), ((bd 3), .inr (4, [.int 0, .ref (bd 7), .int 0])), ((bd 4), .inr (4, [.int 0, .ref (bd 7), .int 0])), ((bd 5), .inr (4, [.int 0, .ref (bd 7), .int 0])), ((bd 6), .inr (4, [.int 0, .ref (bd 7), .int 0]))] := hD
  have hK : va_K D vwCl [(kC, .char), (kI, .int), (kO, .long), (kD, .double)] s := hK
  refine lv_icmp_eq (tgt := 3449) hx hb dL_law_576 (by decide) (fun _ => ?_) (fun c_3 => absurd (by decide) c_3)
  refine W.widen (k := 2000) (n := 20000) (Nat.le_of_ble_eq_true rfl) (Nat.le_of_ble_eq_true rfl) ?_
  exact hend _ _ _ hS (lv_sub hl [0, 5] rfl)
theorem dL_law_1811 : decode cL_law 1811 = .ok (.aload_n 1, 1) := by decide +kernel
theorem dL_law_1812 : decode cL_law 1812 = .ok (.aload_n 0, 1) := by decide +kernel
theorem dL_law_1813 : decode cL_law 1813 = .ok (.iload 5, 2) := by decide +kernel
theorem dL_law_1815 : decode cL_law 1815 = .ok (.iconst 1, 1) := by decide +kernel
theorem dL_law_1816 : decode cL_law 1816 = .ok (.iadd, 1) := by decide +kernel
theorem dL_law_1817 : decode cL_law 1817 = .ok (.iaload, 1) := by decide +kernel
theorem dL_law_1818 : decode cL_law 1818 = .ok (.aload_n 3, 1) := by decide +kernel
theorem dL_law_1819 : decode cL_law 1819 = .ok (.invokestatic 255, 3) := by decide +kernel
theorem zm_956 : Cond.methodLink RL 255 yL_setRuling ∈ WA := zmm (i := 956) (by decide +kernel) (by decide +kernel)
theorem zm_957 : Cond.static yL_setRuling ∈ WA := zmm (i := 957) (by decide +kernel) (by decide +kernel)
theorem zm_958 : Cond.codeWith yL_setRuling method_25_code 4 (Option.some FieldType.int) [(0, 9, 12, 13)] ∈ WA := zmm (i := 958) (by decide +kernel) (by decide +kernel)
theorem dL_law_1822 : decode cL_law 1822 = .ok (.istore 6, 2) := by decide +kernel
theorem dL_law_1824 : decode cL_law 1824 = .ok (.aload_n 2, 1) := by decide +kernel
theorem dL_law_1825 : decode cL_law 1825 = .ok (.aload_n 0, 1) := by decide +kernel
theorem dL_law_1826 : decode cL_law 1826 = .ok (.iload 5, 2) := by decide +kernel
theorem dL_law_1828 : decode cL_law 1828 = .ok (.iconst 1, 1) := by decide +kernel
theorem dL_law_1829 : decode cL_law 1829 = .ok (.iadd, 1) := by decide +kernel
theorem dL_law_1830 : decode cL_law 1830 = .ok (.iaload, 1) := by decide +kernel
theorem dL_law_1831 : decode cL_law 1831 = .ok (.invokevirtual 257, 3) := by decide +kernel
theorem zm_1649 : Cond.methodLink RL 257 yX9_setRuling ∈ WA := zmm (i := 1649) (by decide +kernel) (by decide +kernel)
theorem zm_1650 : Cond.instanceMethod yX9_setRuling ∈ WA := zmm (i := 1650) (by decide +kernel) (by decide +kernel)
theorem zm_1651 : Cond.selects RX9 yX9_setRuling yX9_setRuling ∈ WA := zmm (i := 1651) (by decide +kernel) (by decide +kernel)
theorem zm_1652 : Cond.code yX9_setRuling prog_8_method_36_code 3 (Option.some FieldType.int) ∈ WA := zmm (i := 1652) (by decide +kernel) (by decide +kernel)
theorem dL_law_1834 : decode cL_law 1834 = .ok (.istore 7, 2) := by decide +kernel
theorem dL_law_1836 : decode cL_law 1836 = .ok (.aload_n 2, 1) := by decide +kernel
theorem dL_law_1837 : decode cL_law 1837 = .ok (.invokevirtual 179, 3) := by decide +kernel
theorem dL_law_1840 : decode cL_law 1840 = .ok (.iload 6, 2) := by decide +kernel
theorem dL_law_1842 : decode cL_law 1842 = .ok (.if_icmp .eq 5, 3) := by decide +kernel
theorem dL_law_1847 : decode cL_law 1847 = .ok (.iload 6, 2) := by decide +kernel
theorem dL_law_1849 : decode cL_law 1849 = .ok (.ifCond .ne 15, 3) := by decide +kernel
theorem dL_law_1864 : decode cL_law 1864 = .ok (.goto 1585, 3) := by decide +kernel
theorem dL_law_1852 : decode cL_law 1852 = .ok (.aload_n 3, 1) := by decide +kernel
theorem dL_law_1853 : decode cL_law 1853 = .ok (.iconst 0, 1) := by decide +kernel
theorem dL_law_1854 : decode cL_law 1854 = .ok (.laload, 1) := by decide +kernel
theorem dL_law_1855 : decode cL_law 1855 = .ok (.iload 7, 2) := by decide +kernel
theorem dL_law_1857 : decode cL_law 1857 = .ok (.i2l, 1) := by decide +kernel
theorem dL_law_1858 : decode cL_law 1858 = .ok (.lcmp, 1) := by decide +kernel
theorem dL_law_1859 : decode cL_law 1859 = .ok (.ifCond .eq 5, 3) := by decide +kernel
set_option maxHeartbeats 4000000 in
set_option maxRecDepth 100000 in
theorem law_23 {p : Program} {e : Env} {s : State} {m : MethodId} {below : List Frame} {meth : Method} {c : Code} {l : Launch} {D : va_G} {A : Nat → Prop} {sa : Nat → Nat} {ea : Nat} {ad bd : Nat → Nat} {kC kI kO kD : ClassId} {oa od b : Nat} {xs : Nat → Int32} {Q : State → Prop} (C1 : zLw p l s m c b xs A sa ea bd) (hend : ∀ (H : Heap) (locs : List Loc) (ls : Array Slot), va_S A s.heap H locs → lv_has ls 9 [(5, .int 0), (0, .ref b)] → W p l e room_1 s m #[Value.ref b] below meth c H locs 2000 20000 Q (F0 m 3449 ls [])) {H : Heap} {locs : List Loc} {ls : Array Slot} (C2 : zSt D s A ad bd kC kI kO kD oa od b H locs ls) : W p l e room_1 s m #[Value.ref b] below meth c H locs 1000 10000 Q (F0 m 1811 ls []) := by
  obtain ⟨hx, hb, hml, hown, hw, hX, hbl, hbA, hA, hT, hZ, hE, hQ, hst, he⟩ := C1
  obtain ⟨hK, hP, hD, hS, hl⟩ := C2
  have hP : va_P D vwCl [((ad 0), .inr (10, [.ref (ad 1), .ref (ad 2), .ref (ad 3), .ref (ad 4), .ref (ad 5), .int (-1), .int 100, .int 0, .int 0])), ((ad 1), .inr (7, [.ref (ad 6), .ref (ad 7), .ref (ad 8), .int 0])), ((ad 2), .inr (8, [.ref (ad 9), .ref (ad 10), .int 0])), ((ad 3), .inr (4, [.int 0, .ref (ad 14), .int 0])), ((ad 4), .inr (4, [.int 0, .ref (ad 14), .int 0])), ((ad 5), .inr (6, [.ref (ad 11), .ref (ad 12), .ref (ad 13), .int 0, .int 0])), ((bd 0), .inr (14, [.ref (bd 1), .ref (bd 2), .ref (bd 3), .ref (bd 4), .ref (bd 5), .ref (bd 6), .int 100, .int (-1), .int 0, .int 0])), ((bd 1), .inr (4, [.int 0, .ref (bd 7), .int 0])), ((bd 2), .inr (4, [.int 0, .ref (bd 7), .int 0])), ((bd 3), .inr (4, [.int 0, .ref (bd 7), .int 0])), ((bd 4), .inr (4, [.int 0, .ref (bd 7), .int 0])), ((bd 5), .inr (4, [.int 0, .ref (bd 7), .int 0])), ((bd 6), .inr (4, [.int 0, .ref (bd 7), .int 0])), ((ad 6), .inl (kC, 12, .inl (fun _ => 0))), ((ad 7), .inl (kI, 36, .inl (fun _ => 0))), (oa, .inl (kO, 1, .inr (.inl (fun _ => 0)))), (od, .inl (kD, 1, .inr (.inr (.inr (.inl (fun _ => 0))))))] H := hP
  have hD : va_D A [((ad 0), .inr (10, [.ref (ad 1), .ref (ad 2), .ref (ad 3), .ref (ad 4), .ref (ad 5), .int (-1), .int 100, .int 0, .int 0])), ((ad 1), .inr (7, [.ref (ad 6), .ref (ad 7), .ref (ad 8), .int 0])), ((ad 2), .inr (8, [.ref (ad 9), .ref (ad 10), .int 0])), ((ad 3), .inr (4, [.int 0, .ref (ad 14), .int 0])), ((ad 4), .inr (4, [.int 0, .ref (ad 14), .int 0])), ((ad 5), .inr (6, [.ref (ad 11), .ref (ad 12), .ref (ad 13), .int 0, .int 0])), ((bd 0), .inr (14, [.ref (bd 1), .ref (bd 2), .ref (bd 3), .ref (bd 4), .ref (bd 5), .ref (bd 6), .int 100, .int (-1), .int 0, .int 0])), ((bd 1), .inr (4, [.int 0, .ref (bd 7), .int 0])), ((bd 2), .inr (4, [.int 0, .ref (bd 7), .int 0])), ((bd 3), .inr (4, [.int 0, .ref (bd 7), .int 0])), ((bd 4), .inr (4, [.int 0, .ref (bd 7), .int 0])), ((bd 5), .inr (4, [.int 0, .ref (bd 7), .int 0])), ((bd 6), .inr (4, [.int 0, .ref (bd 7), .int 0])), ((ad 6), .inl (kC, 12, .inl (fun _ => 0))), ((ad 7), .inl (kI, 36, .inl (fun _ => 0))), (oa, .inl (kO, 1, .inr (.inl (fun _ => 0)))), (od, .inl (kD, 1, .inr (.inr (.inr (.inl (fun _ => 0))))))] := hD
  refine lv_aload_n hx hb dL_law_1811 rfl (lv_at hl 4 rfl) ?_
  refine lv_aload_n hx hb dL_law_1812 rfl (lv_at hl 5 rfl) ?_
  refine lv_iload hx hb dL_law_1813 (lv_at hl 0 rfl) ?_
  refine lv_iconst (v := 1) hx hb dL_law_1815 (by decide) ?_
  refine lv_iadd hx hb dL_law_1816 ?_
  refine lv_topi (fun f_1 ef_1 => ?_)
  obtain rfl : f_1 = 1 := ef_1.trans (by decide)
  refine va_sld (i := 1) hx hb hX hbl hbA hS (by unfold vp_in; decide) dL_law_1817 ?_
  refine lv_aload_n hx hb dL_law_1818 rfl (lv_at hl 2 rfl) ?_
  rcases z_two (xs (Int32.toNatClampNeg 1)) 0 9999 with h_2 | h_2
  · have hPc := hP.sub (ws' := [((ad 0), .inr (10, [.ref (ad 1), .ref (ad 2), .ref (ad 3), .ref (ad 4), .ref (ad 5), .int (-1), .int 100, .int 0, .int 0])), ((ad 1), .inr (7, [.ref (ad 6), .ref (ad 7), .ref (ad 8), .int 0])), ((ad 2), .inr (8, [.ref (ad 9), .ref (ad 10), .int 0])), ((ad 3), .inr (4, [.int 0, .ref (ad 14), .int 0])), ((ad 4), .inr (4, [.int 0, .ref (ad 14), .int 0])), ((ad 5), .inr (6, [.ref (ad 11), .ref (ad 12), .ref (ad 13), .int 0, .int 0]))]) [0, 1, 2, 3, 4, 5] rfl
    refine vx_calli (vx_runSX (As := [.ref (ad 0), .int (xs (Int32.toNatClampNeg 1)), .ref oa]) (rest := []) ⟨hx, hb, hml, hown, hw⟩ (c_L_setRuling0 l hst D sa ad _ (xs (Int32.toNatClampNeg 1)) oa h_2) (vx_cwSW 3 hw (zg3 zm_956 zm_957 zm_44 zm_958) rfl rfl rfl (by decide +kernel) ⟨Nat.le_of_ble_eq_true rfl, Nat.le_of_ble_eq_true rfl⟩) ⟨zR_blind, zR_pre hPc hK hT hZ hS hA⟩ rfl rfl hl.1 rfl (lv_room (Nat.le_of_ble_eq_true rfl)) dL_law_1819 ⟨Nat.le_of_ble_eq_true rfl, Nat.le_of_ble_eq_true rfl⟩) hS zN_in (zN_fr hS hA) zN_in (fun E ce q9 u t H1 locs1 ht hvm hu hE => hE.elim) (fun r_3 u t H locs ht hvm hw1 hB hz1 hk1 hS => ?_)
    have hP := zN_keep hP hk1
    subst hw1
    refine lv_istore (lv' := [(6, .int 1), (5, .int 0), (4, .ref od), (3, .ref oa), (2, .ref (bd 0)), (1, .ref (ad 0)), (0, .ref b)]) hx hb dL_law_1822 hl (by decide) rfl (fun ls hl => ?_)
    refine lv_aload_n hx hb dL_law_1824 rfl (lv_at hl 4 rfl) ?_
    refine lv_aload_n hx hb dL_law_1825 rfl (lv_at hl 6 rfl) ?_
    refine lv_iload hx hb dL_law_1826 (lv_at hl 1 rfl) ?_
    refine lv_iconst (v := 1) hx hb dL_law_1828 (by decide) ?_
    refine lv_iadd hx hb dL_law_1829 ?_
    refine lv_topi (fun f_4 ef_4 => ?_)
    obtain rfl : f_4 = 1 := ef_4.trans (by decide)
    refine va_sld (i := 1) hx hb hX hbl hbA hS (by unfold vp_in; decide) dL_law_1830 ?_
    have hPc := hP.sub (ws' := [((bd 0), .inr (14, [.ref (bd 1), .ref (bd 2), .ref (bd 3), .ref (bd 4), .ref (bd 5), .ref (bd 6), .int 100, .int (-1), .int 0, .int 0])), ((bd 1), .inr (4, [.int 0, .ref (bd 7), .int 0])), ((bd 2), .inr (4, [.int 0, .ref (bd 7), .int 0])), ((bd 3), .inr (4, [.int 0, .ref (bd 7), .int 0])), ((bd 4), .inr (4, [.int 0, .ref (bd 7), .int 0])), ((bd 5), .inr (4, [.int 0, .ref (bd 7), .int 0])), ((bd 6), .inr (4, [.int 0, .ref (bd 7), .int 0]))]) [6, 7, 8, 9, 10, 11, 12] rfl
    have hDc := hD.sub (ws' := [((bd 0), .inr (14, [.ref (bd 1), .ref (bd 2), .ref (bd 3), .ref (bd 4), .ref (bd 5), .ref (bd 6), .int 100, .int (-1), .int 0, .int 0])), ((bd 1), .inr (4, [.int 0, .ref (bd 7), .int 0])), ((bd 2), .inr (4, [.int 0, .ref (bd 7), .int 0])), ((bd 3), .inr (4, [.int 0, .ref (bd 7), .int 0])), ((bd 4), .inr (4, [.int 0, .ref (bd 7), .int 0])), ((bd 5), .inr (4, [.int 0, .ref (bd 7), .int 0])), ((bd 6), .inr (4, [.int 0, .ref (bd 7), .int 0]))]) [6, 7, 8, 9, 10, 11, 12] (by decide) rfl
    have hFc := va_free (wc := [((bd 0), .inr (14, [.ref (bd 1), .ref (bd 2), .ref (bd 3), .ref (bd 4), .ref (bd 5), .ref (bd 6), .int 100, .int (-1), .int 0, .int 0])), ((bd 1), .inr (4, [.int 0, .ref (bd 7), .int 0])), ((bd 2), .inr (4, [.int 0, .ref (bd 7), .int 0])), ((bd 3), .inr (4, [.int 0, .ref (bd 7), .int 0])), ((bd 4), .inr (4, [.int 0, .ref (bd 7), .int 0])), ((bd 5), .inr (4, [.int 0, .ref (bd 7), .int 0])), ((bd 6), .inr (4, [.int 0, .ref (bd 7), .int 0]))]) hD hS hA [6, 7, 8, 9, 10, 11, 12] rfl
    refine va_calli (va_runV (As := [.int (xs (Int32.toNatClampNeg 1))]) (rest := []) ⟨hx, hb, hml, hown, hw⟩ (c_X9_setRuling0 l D sa ea bd 0 _ (xs (Int32.toNatClampNeg 1)) h_2) (cwV 1 hw (zg4 zm_1649 zm_1650 zm_1651 zm_53 zm_1652) rfl rfl rfl (by decide +kernel) ⟨Nat.le_of_ble_eq_true rfl, Nat.le_of_ble_eq_true rfl⟩) ⟨zW_blind, va_recv hK hPc (ci := 14) (q0 := 0) rfl rfl, zW_pre hPc (hK.sub (tys' := []) [] rfl) hDc hT hE hS hFc⟩ rfl rfl hl.1 rfl (lv_room (Nat.le_of_ble_eq_true rfl)) dL_law_1831 ⟨Nat.le_of_ble_eq_true rfl, Nat.le_of_ble_eq_true rfl⟩) hS (fun q _ h => hFc q h) hFc (fun r_5 u t H locs ht hvm hw1 hB hz1 hk1 hS => ?_)
    subst hw1
    obtain ⟨hP1, hD1⟩ := hB
    rw [ht] at hP1
    obtain ⟨hP, hD⟩ := va_join (wr := [((ad 0), .inr (10, [.ref (ad 1), .ref (ad 2), .ref (ad 3), .ref (ad 4), .ref (ad 5), .int (-1), .int 100, .int 0, .int 0])), ((ad 1), .inr (7, [.ref (ad 6), .ref (ad 7), .ref (ad 8), .int 0])), ((ad 2), .inr (8, [.ref (ad 9), .ref (ad 10), .int 0])), ((ad 3), .inr (4, [.int 0, .ref (ad 14), .int 0])), ((ad 4), .inr (4, [.int 0, .ref (ad 14), .int 0])), ((ad 5), .inr (6, [.ref (ad 11), .ref (ad 12), .ref (ad 13), .int 0, .int 0])), ((ad 6), .inl (kC, 12, .inl (fun _ => 0))), ((ad 7), .inl (kI, 36, .inl (fun _ => 0))), (oa, .inl (kO, 1, .inr (.inl (fun _ => 0)))), (od, .inl (kD, 1, .inr (.inr (.inr (.inl (fun _ => 0))))))]) (w1 := [((bd 0), .inr (14, [.ref (bd 1), .ref (bd 2), .ref (bd 3), .ref (bd 4), .ref (bd 5), .ref (bd 6), .int 100, .int (-1), .int 0, .int 1])), ((bd 1), .inr (4, [.int 0, .ref (bd 7), .int 0])), ((bd 2), .inr (4, [.int 0, .ref (bd 7), .int 0])), ((bd 3), .inr (4, [.int 0, .ref (bd 7), .int 0])), ((bd 4), .inr (4, [.int 0, .ref (bd 7), .int 0])), ((bd 5), .inr (4, [.int 0, .ref (bd 7), .int 0])), ((bd 6), .inr (4, [.int 0, .ref (bd 7), .int 0]))]) hP hD [6, 7, 8, 9, 10, 11, 12] [0, 1, 2, 3, 4, 5, 13, 14, 15, 16] rfl rfl (by decide) (by decide) hk1 hFc hP1 hD1
    have hP : va_P D vwCl [((ad 0), .inr (10, [.ref (ad 1), .ref (ad 2), .ref (ad 3), .ref (ad 4), .ref (ad 5), .int (-1), .int 100, .int 0, .int 0])), ((ad 1), .inr (7, [.ref (ad 6), .ref (ad 7), .ref (ad 8), .int 0])), ((ad 2), .inr (8, [.ref (ad 9), .ref (ad 10), .int 0])), ((ad 3), .inr (4, [.int 0, .ref (ad 14), .int 0])), ((ad 4), .inr (4, [.int 0, .ref (ad 14), .int 0])), ((ad 5), .inr (6, [.ref (ad 11), .ref (ad 12), .ref (ad 13), .int 0, .int 0])), ((ad 6), .inl (kC, 12, .inl (fun _ => 0))), ((ad 7), .inl (kI, 36, .inl (fun _ => 0))), (oa, .inl (kO, 1, .inr (.inl (fun _ => 0)))), (od, .inl (kD, 1, .inr (.inr (.inr (.inl (fun _ => 0)))))), ((bd 0), .inr (14, [.ref (bd 1), .ref (bd 2), .ref (bd 3), .ref (bd 4), .ref (bd 5), .ref (bd 6), .int 100, .int (-1), .int 0, .int 1])), ((bd 1), .inr (4, [.int 0, .ref (bd 7), .int 0])), ((bd 2), .inr (4, [.int 0, .ref (bd 7), .int 0])), ((bd 3), .inr (4, [.int 0, .ref (bd 7), .int 0])), ((bd 4), .inr (4, [.int 0, .ref (bd 7), .int 0])), ((bd 5), .inr (4, [.int 0, .ref (bd 7), .int 0])), ((bd 6), .inr (4, [.int 0, .ref (bd 7), .int 0]))] H := hP
    have hD : va_D A [((ad 0), .inr (10, [.ref (ad 1), .ref (ad 2), .ref (ad 3), .ref (ad 4), .ref (ad 5), .int (-1), .int 100, .int 0, .int 0])), ((ad 1), .inr (7, [.ref (ad 6), .ref (ad 7), .ref (ad 8), .int 0])), ((ad 2), .inr (8, [.ref (ad 9), .ref (ad 10), .int 0])), ((ad 3), .inr (4, [.int 0, .ref (ad 14), .int 0])), ((ad 4), .inr (4, [.int 0, .ref (ad 14), .int 0])), ((ad 5), .inr (6, [.ref (ad 11), .ref (ad 12), .ref (ad 13), .int 0, .int 0])), ((ad 6), .inl (kC, 12, .inl (fun _ => 0))), ((ad 7), .inl (kI, 36, .inl (fun _ => 0))), (oa, .inl (kO, 1, .inr (.inl (fun _ => 0)))), (od, .inl (kD, 1, .inr (.inr (.inr (.inl (fun _ => 0)))))), ((bd 0), .inr (14, [.ref (bd 1), .ref (bd 2), .ref (bd 3), .ref (bd 4), .ref (bd 5), .ref (bd 6), .int 100, .int (-1), .int 0, .int 1])), ((bd 1), .inr (4, [.int 0, .ref (bd 7), .int 0])), ((bd 2), .inr (4, [.int 0, .ref (bd 7), .int 0])), ((bd 3), .inr (4, [.int 0, .ref (bd 7), .int 0])), ((bd 4), .inr (4, [.int 0, .ref (bd 7), .int 0])), ((bd 5), .inr (4, [.int 0, .ref (bd 7), .int 0])), ((bd 6), .inr (4, [.int 0, .ref (bd 7), .int 0]))] := hD
    have hK : va_K D vwCl [(kC, .char), (kI, .int), (kO, .long), (kD, .double)] s := hK
    refine lv_istore (lv' := [(7, .int 0), (6, .int 1), (5, .int 0), (4, .ref od), (3, .ref oa), (2, .ref (bd 0)), (1, .ref (ad 0)), (0, .ref b)]) hx hb dL_law_1834 hl (by decide) rfl (fun ls hl => ?_)
    refine lv_aload_n hx hb dL_law_1836 rfl (lv_at hl 5 rfl) ?_
    have hPc := hP.sub (ws' := [((bd 0), .inr (14, [.ref (bd 1), .ref (bd 2), .ref (bd 3), .ref (bd 4), .ref (bd 5), .ref (bd 6), .int 100, .int (-1), .int 0, .int 1])), ((bd 1), .inr (4, [.int 0, .ref (bd 7), .int 0])), ((bd 2), .inr (4, [.int 0, .ref (bd 7), .int 0])), ((bd 3), .inr (4, [.int 0, .ref (bd 7), .int 0])), ((bd 4), .inr (4, [.int 0, .ref (bd 7), .int 0])), ((bd 5), .inr (4, [.int 0, .ref (bd 7), .int 0])), ((bd 6), .inr (4, [.int 0, .ref (bd 7), .int 0]))]) [10, 11, 12, 13, 14, 15, 16] rfl
    refine va_calli (va_runV (As := []) (rest := []) ⟨hx, hb, hml, hown, hw⟩ (c_X9_thrown l D sa bd 1 _) (cwV 0 hw (zg4 zm_1303 zm_1304 zm_1305 zm_53 zm_1306) rfl rfl rfl (by decide +kernel) ⟨Nat.le_of_ble_eq_true rfl, Nat.le_of_ble_eq_true rfl⟩) ⟨zJ_blind, va_recv hK hPc (ci := 14) (q0 := 0) rfl rfl, zJ_pre hPc hK hT⟩ rfl rfl hl.1 rfl (lv_room (Nat.le_of_ble_eq_true rfl)) dL_law_1837 ⟨Nat.le_of_ble_eq_true rfl, Nat.le_of_ble_eq_true rfl⟩) hS zN_in (zN_fr hS hA) (fun r_6 u t H locs ht hvm hw1 hB hz1 hk1 hS => ?_)
    have hP := zN_keep hP hk1
    subst hw1
    refine lv_iload hx hb dL_law_1840 (lv_at hl 1 rfl) ?_
    refine lv_icmp_eq (tgt := 1847) hx hb dL_law_1842 (by decide) (fun _ => ?_) (fun c_7 => absurd (by decide) c_7)
    refine lv_iload hx hb dL_law_1847 (lv_at hl 1 rfl) ?_
    refine lv_if_ne (tgt := 1864) hx hb dL_law_1849 (by decide) (fun _ => ?_) (fun c_8 => absurd c_8 (by decide))
    refine lv_goto (tgt := 3449) hx hb dL_law_1864 (by decide) ?_
    refine W.widen (k := 2000) (n := 20000) (Nat.le_of_ble_eq_true rfl) (Nat.le_of_ble_eq_true rfl) ?_
    exact hend _ _ _ hS (lv_sub hl [2, 7] rfl)
  · have hPc := hP.sub (ws' := [((ad 0), .inr (10, [.ref (ad 1), .ref (ad 2), .ref (ad 3), .ref (ad 4), .ref (ad 5), .int (-1), .int 100, .int 0, .int 0])), ((ad 1), .inr (7, [.ref (ad 6), .ref (ad 7), .ref (ad 8), .int 0])), ((ad 2), .inr (8, [.ref (ad 9), .ref (ad 10), .int 0])), ((ad 3), .inr (4, [.int 0, .ref (ad 14), .int 0])), ((ad 4), .inr (4, [.int 0, .ref (ad 14), .int 0])), ((ad 5), .inr (6, [.ref (ad 11), .ref (ad 12), .ref (ad 13), .int 0, .int 0])), (oa, .inl (kO, 1, .inr (.inl (fun _ => 0))))]) [0, 1, 2, 3, 4, 5, 15] rfl
    have hDc := hD.sub (ws' := [((ad 0), .inr (10, [.ref (ad 1), .ref (ad 2), .ref (ad 3), .ref (ad 4), .ref (ad 5), .int (-1), .int 100, .int 0, .int 0])), ((ad 1), .inr (7, [.ref (ad 6), .ref (ad 7), .ref (ad 8), .int 0])), ((ad 2), .inr (8, [.ref (ad 9), .ref (ad 10), .int 0])), ((ad 3), .inr (4, [.int 0, .ref (ad 14), .int 0])), ((ad 4), .inr (4, [.int 0, .ref (ad 14), .int 0])), ((ad 5), .inr (6, [.ref (ad 11), .ref (ad 12), .ref (ad 13), .int 0, .int 0])), (oa, .inl (kO, 1, .inr (.inl (fun _ => 0))))]) [0, 1, 2, 3, 4, 5, 15] (by decide) rfl
    have hFc := va_free (wc := [((ad 0), .inr (10, [.ref (ad 1), .ref (ad 2), .ref (ad 3), .ref (ad 4), .ref (ad 5), .int (-1), .int 100, .int 0, .int 0])), ((ad 1), .inr (7, [.ref (ad 6), .ref (ad 7), .ref (ad 8), .int 0])), ((ad 2), .inr (8, [.ref (ad 9), .ref (ad 10), .int 0])), ((ad 3), .inr (4, [.int 0, .ref (ad 14), .int 0])), ((ad 4), .inr (4, [.int 0, .ref (ad 14), .int 0])), ((ad 5), .inr (6, [.ref (ad 11), .ref (ad 12), .ref (ad 13), .int 0, .int 0])), (oa, .inl (kO, 1, .inr (.inl (fun _ => 0))))]) hD hS hA [0, 1, 2, 3, 4, 5, 15] rfl
    refine vx_calli (vx_runSX (As := [.ref (ad 0), .int (xs (Int32.toNatClampNeg 1)), .ref oa]) (rest := []) ⟨hx, hb, hml, hown, hw⟩ (c_L_setRuling1 l D sa ea ad oa kO _ (xs (Int32.toNatClampNeg 1)) h_2) (vx_cwSW 3 hw (zg3 zm_956 zm_957 zm_44 zm_958) rfl rfl rfl (by decide +kernel) ⟨Nat.le_of_ble_eq_true rfl, Nat.le_of_ble_eq_true rfl⟩) ⟨zW_blind, zW_pre hPc (hK.sub (tys' := [(kO, .long)]) [2] rfl) hDc hT hE hS hFc⟩ rfl rfl hl.1 rfl (lv_room (Nat.le_of_ble_eq_true rfl)) dL_law_1819 ⟨Nat.le_of_ble_eq_true rfl, Nat.le_of_ble_eq_true rfl⟩) hS (fun q _ h => hFc q h) hFc zN_in (fun E ce q9 u t H1 locs1 ht hvm hu hE => hE.elim) (fun r_9 u t H locs ht hvm hw1 hB hz1 hk1 hS => ?_)
    subst hw1
    obtain ⟨hP1, hD1⟩ := hB
    rw [ht] at hP1
    obtain ⟨hP, hD⟩ := va_join (wr := [((bd 0), .inr (14, [.ref (bd 1), .ref (bd 2), .ref (bd 3), .ref (bd 4), .ref (bd 5), .ref (bd 6), .int 100, .int (-1), .int 0, .int 0])), ((bd 1), .inr (4, [.int 0, .ref (bd 7), .int 0])), ((bd 2), .inr (4, [.int 0, .ref (bd 7), .int 0])), ((bd 3), .inr (4, [.int 0, .ref (bd 7), .int 0])), ((bd 4), .inr (4, [.int 0, .ref (bd 7), .int 0])), ((bd 5), .inr (4, [.int 0, .ref (bd 7), .int 0])), ((bd 6), .inr (4, [.int 0, .ref (bd 7), .int 0])), ((ad 6), .inl (kC, 12, .inl (fun _ => 0))), ((ad 7), .inl (kI, 36, .inl (fun _ => 0))), (od, .inl (kD, 1, .inr (.inr (.inr (.inl (fun _ => 0))))))]) (w1 := [(oa, .inl (kO, 1, .inr (.inl (vp_updL (fun _ => 0) (Int32.toNatClampNeg 0) 100))))]) hP hD [0, 1, 2, 3, 4, 5, 15] [6, 7, 8, 9, 10, 11, 12, 13, 14, 16] rfl rfl (by decide) (by decide) hk1 hFc hP1 hD1
    have hP : va_P D vwCl [((bd 0), .inr (14, [.ref (bd 1), .ref (bd 2), .ref (bd 3), .ref (bd 4), .ref (bd 5), .ref (bd 6), .int 100, .int (-1), .int 0, .int 0])), ((bd 1), .inr (4, [.int 0, .ref (bd 7), .int 0])), ((bd 2), .inr (4, [.int 0, .ref (bd 7), .int 0])), ((bd 3), .inr (4, [.int 0, .ref (bd 7), .int 0])), ((bd 4), .inr (4, [.int 0, .ref (bd 7), .int 0])), ((bd 5), .inr (4, [.int 0, .ref (bd 7), .int 0])), ((bd 6), .inr (4, [.int 0, .ref (bd 7), .int 0])), ((ad 6), .inl (kC, 12, .inl (fun _ => 0))), ((ad 7), .inl (kI, 36, .inl (fun _ => 0))), (od, .inl (kD, 1, .inr (.inr (.inr (.inl (fun _ => 0)))))), (oa, .inl (kO, 1, .inr (.inl (vp_updL (fun _ => 0) (Int32.toNatClampNeg 0) 100))))] H := hP
    have hD : va_D A [((bd 0), .inr (14, [.ref (bd 1), .ref (bd 2), .ref (bd 3), .ref (bd 4), .ref (bd 5), .ref (bd 6), .int 100, .int (-1), .int 0, .int 0])), ((bd 1), .inr (4, [.int 0, .ref (bd 7), .int 0])), ((bd 2), .inr (4, [.int 0, .ref (bd 7), .int 0])), ((bd 3), .inr (4, [.int 0, .ref (bd 7), .int 0])), ((bd 4), .inr (4, [.int 0, .ref (bd 7), .int 0])), ((bd 5), .inr (4, [.int 0, .ref (bd 7), .int 0])), ((bd 6), .inr (4, [.int 0, .ref (bd 7), .int 0])), ((ad 6), .inl (kC, 12, .inl (fun _ => 0))), ((ad 7), .inl (kI, 36, .inl (fun _ => 0))), (od, .inl (kD, 1, .inr (.inr (.inr (.inl (fun _ => 0)))))), (oa, .inl (kO, 1, .inr (.inl (vp_updL (fun _ => 0) (Int32.toNatClampNeg 0) 100))))] := hD
    have hK : va_K D vwCl [(kC, .char), (kI, .int), (kO, .long), (kD, .double)] s := hK
    refine lv_istore (lv' := [(6, .int 0), (5, .int 0), (4, .ref od), (3, .ref oa), (2, .ref (bd 0)), (1, .ref (ad 0)), (0, .ref b)]) hx hb dL_law_1822 hl (by decide) rfl (fun ls hl => ?_)
    refine lv_aload_n hx hb dL_law_1824 rfl (lv_at hl 4 rfl) ?_
    refine lv_aload_n hx hb dL_law_1825 rfl (lv_at hl 6 rfl) ?_
    refine lv_iload hx hb dL_law_1826 (lv_at hl 1 rfl) ?_
    refine lv_iconst (v := 1) hx hb dL_law_1828 (by decide) ?_
    refine lv_iadd hx hb dL_law_1829 ?_
    refine lv_topi (fun f_10 ef_10 => ?_)
    obtain rfl : f_10 = 1 := ef_10.trans (by decide)
    refine va_sld (i := 1) hx hb hX hbl hbA hS (by unfold vp_in; decide) dL_law_1830 ?_
    have hPc := hP.sub (ws' := [((bd 0), .inr (14, [.ref (bd 1), .ref (bd 2), .ref (bd 3), .ref (bd 4), .ref (bd 5), .ref (bd 6), .int 100, .int (-1), .int 0, .int 0])), ((bd 1), .inr (4, [.int 0, .ref (bd 7), .int 0])), ((bd 2), .inr (4, [.int 0, .ref (bd 7), .int 0])), ((bd 3), .inr (4, [.int 0, .ref (bd 7), .int 0])), ((bd 4), .inr (4, [.int 0, .ref (bd 7), .int 0])), ((bd 5), .inr (4, [.int 0, .ref (bd 7), .int 0])), ((bd 6), .inr (4, [.int 0, .ref (bd 7), .int 0]))]) [0, 1, 2, 3, 4, 5, 6] rfl
    have hDc := hD.sub (ws' := [((bd 0), .inr (14, [.ref (bd 1), .ref (bd 2), .ref (bd 3), .ref (bd 4), .ref (bd 5), .ref (bd 6), .int 100, .int (-1), .int 0, .int 0])), ((bd 1), .inr (4, [.int 0, .ref (bd 7), .int 0])), ((bd 2), .inr (4, [.int 0, .ref (bd 7), .int 0])), ((bd 3), .inr (4, [.int 0, .ref (bd 7), .int 0])), ((bd 4), .inr (4, [.int 0, .ref (bd 7), .int 0])), ((bd 5), .inr (4, [.int 0, .ref (bd 7), .int 0])), ((bd 6), .inr (4, [.int 0, .ref (bd 7), .int 0]))]) [0, 1, 2, 3, 4, 5, 6] (by decide) rfl
    have hFc := va_free (wc := [((bd 0), .inr (14, [.ref (bd 1), .ref (bd 2), .ref (bd 3), .ref (bd 4), .ref (bd 5), .ref (bd 6), .int 100, .int (-1), .int 0, .int 0])), ((bd 1), .inr (4, [.int 0, .ref (bd 7), .int 0])), ((bd 2), .inr (4, [.int 0, .ref (bd 7), .int 0])), ((bd 3), .inr (4, [.int 0, .ref (bd 7), .int 0])), ((bd 4), .inr (4, [.int 0, .ref (bd 7), .int 0])), ((bd 5), .inr (4, [.int 0, .ref (bd 7), .int 0])), ((bd 6), .inr (4, [.int 0, .ref (bd 7), .int 0]))]) hD hS hA [0, 1, 2, 3, 4, 5, 6] rfl
    refine va_calli (va_runV (As := [.int (xs (Int32.toNatClampNeg 1))]) (rest := []) ⟨hx, hb, hml, hown, hw⟩ (c_X9_setRuling1 l D sa ea bd 0 _ (xs (Int32.toNatClampNeg 1)) h_2) (cwV 1 hw (zg4 zm_1649 zm_1650 zm_1651 zm_53 zm_1652) rfl rfl rfl (by decide +kernel) ⟨Nat.le_of_ble_eq_true rfl, Nat.le_of_ble_eq_true rfl⟩) ⟨zW_blind, va_recv hK hPc (ci := 14) (q0 := 0) rfl rfl, zW_pre hPc (hK.sub (tys' := []) [] rfl) hDc hT hE hS hFc⟩ rfl rfl hl.1 rfl (lv_room (Nat.le_of_ble_eq_true rfl)) dL_law_1831 ⟨Nat.le_of_ble_eq_true rfl, Nat.le_of_ble_eq_true rfl⟩) hS (fun q _ h => hFc q h) hFc (fun r_11 u t H locs ht hvm hw1 hB hz1 hk1 hS => ?_)
    subst hw1
    obtain ⟨hP1, hD1⟩ := hB
    rw [ht] at hP1
    obtain ⟨hP, hD⟩ := va_join (wr := [((ad 6), .inl (kC, 12, .inl (fun _ => 0))), ((ad 7), .inl (kI, 36, .inl (fun _ => 0))), (od, .inl (kD, 1, .inr (.inr (.inr (.inl (fun _ => 0)))))), (oa, .inl (kO, 1, .inr (.inl (vp_updL (fun _ => 0) (Int32.toNatClampNeg 0) 100))))]) (w1 := [((bd 0), .inr (14, [.ref (bd 1), .ref (bd 2), .ref (bd 3), .ref (bd 4), .ref (bd 5), .ref (bd 6), .int (xs (Int32.toNatClampNeg 1)), .int (-1), .int 0, .int 0]))]) hP hD [0, 1, 2, 3, 4, 5, 6] [7, 8, 9, 10] rfl rfl (by decide) (by decide) hk1 hFc hP1 hD1
    have hP : va_P D vwCl [((ad 6), .inl (kC, 12, .inl (fun _ => 0))), ((ad 7), .inl (kI, 36, .inl (fun _ => 0))), (od, .inl (kD, 1, .inr (.inr (.inr (.inl (fun _ => 0)))))), (oa, .inl (kO, 1, .inr (.inl (vp_updL (fun _ => 0) (Int32.toNatClampNeg 0) 100)))), ((bd 0), .inr (14, [.ref (bd 1), .ref (bd 2), .ref (bd 3), .ref (bd 4), .ref (bd 5), .ref (bd 6), .int (xs (Int32.toNatClampNeg 1)), .int (-1), .int 0, .int 0]))] H := hP
    have hD : va_D A [((ad 6), .inl (kC, 12, .inl (fun _ => 0))), ((ad 7), .inl (kI, 36, .inl (fun _ => 0))), (od, .inl (kD, 1, .inr (.inr (.inr (.inl (fun _ => 0)))))), (oa, .inl (kO, 1, .inr (.inl (vp_updL (fun _ => 0) (Int32.toNatClampNeg 0) 100)))), ((bd 0), .inr (14, [.ref (bd 1), .ref (bd 2), .ref (bd 3), .ref (bd 4), .ref (bd 5), .ref (bd 6), .int (xs (Int32.toNatClampNeg 1)), .int (-1), .int 0, .int 0]))] := hD
    have hK : va_K D vwCl [(kC, .char), (kI, .int), (kO, .long), (kD, .double)] s := hK
    refine lv_istore (lv' := [(7, .int 100), (6, .int 0), (5, .int 0), (4, .ref od), (3, .ref oa), (2, .ref (bd 0)), (1, .ref (ad 0)), (0, .ref b)]) hx hb dL_law_1834 hl (by decide) rfl (fun ls hl => ?_)
    refine lv_aload_n hx hb dL_law_1836 rfl (lv_at hl 5 rfl) ?_
    have hPc := hP.sub (ws' := [((bd 0), .inr (14, [.ref (bd 1), .ref (bd 2), .ref (bd 3), .ref (bd 4), .ref (bd 5), .ref (bd 6), .int (xs (Int32.toNatClampNeg 1)), .int (-1), .int 0, .int 0]))]) [4] rfl
    refine va_calli (va_runV (As := []) (rest := []) ⟨hx, hb, hml, hown, hw⟩ (c_X9_thrown0 l D sa bd (xs (Int32.toNatClampNeg 1)) 0 _) (cwV 0 hw (zg4 zm_1303 zm_1304 zm_1305 zm_53 zm_1306) rfl rfl rfl (by decide +kernel) ⟨Nat.le_of_ble_eq_true rfl, Nat.le_of_ble_eq_true rfl⟩) ⟨zJ_blind, va_recv hK hPc (ci := 14) (q0 := 0) rfl rfl, zJ_pre hPc hK hT⟩ rfl rfl hl.1 rfl (lv_room (Nat.le_of_ble_eq_true rfl)) dL_law_1837 ⟨Nat.le_of_ble_eq_true rfl, Nat.le_of_ble_eq_true rfl⟩) hS zN_in (zN_fr hS hA) (fun r_12 u t H locs ht hvm hw1 hB hz1 hk1 hS => ?_)
    have hP := zN_keep hP hk1
    subst hw1
    refine lv_iload hx hb dL_law_1840 (lv_at hl 1 rfl) ?_
    refine lv_icmp_eq (tgt := 1847) hx hb dL_law_1842 (by decide) (fun _ => ?_) (fun c_13 => absurd (by decide) c_13)
    refine lv_iload hx hb dL_law_1847 (lv_at hl 1 rfl) ?_
    refine lv_if_ne (tgt := 1864) hx hb dL_law_1849 (by decide) (fun c_14 => absurd (by decide) c_14) (fun _ => ?_)
    refine lv_aload_n hx hb dL_law_1852 rfl (lv_at hl 4 rfl) ?_
    refine lv_iconst (v := 0) hx hb dL_law_1853 (by decide) ?_
    refine va_lald hx hb hK hP 3 2 rfl rfl (by unfold vp_in; decide) dL_law_1854 ?_
    refine lv_topl (fun f_15 ef_15 => ?_)
    obtain rfl : f_15 = 100 := ef_15.trans pk_uLs
    refine lv_iload hx hb dL_law_1855 (lv_at hl 0 rfl) ?_
    refine lv_i2l (v := 100) hx hb dL_law_1857 (by decide) ?_
    refine W.lcmp hx hb dL_law_1858 ?_
    refine lv_topi (fun f_16 ef_16 => ?_)
    obtain rfl : f_16 = 0 := ef_16.trans (by decide)
    refine lv_if_eq (tgt := 1864) hx hb dL_law_1859 (by decide) (fun _ => ?_) (fun c_17 => absurd (by decide) c_17)
    refine lv_goto (tgt := 3449) hx hb dL_law_1864 (by decide) ?_
    refine W.widen (k := 2000) (n := 20000) (Nat.le_of_ble_eq_true rfl) (Nat.le_of_ble_eq_true rfl) ?_
    exact hend _ _ _ hS (lv_sub hl [2, 7] rfl)
theorem dL_law_3291 : decode cL_law 3291 = .ok (.aload_n 1, 1) := by decide +kernel
theorem dL_law_3292 : decode cL_law 3292 = .ok (.invokevirtual 327, 3) := by decide +kernel
theorem zm_234 : Cond.methodLink RL 327 yX5_checksum ∈ WA := zmm (i := 234) (by decide +kernel) (by decide +kernel)
theorem zm_235 : Cond.instanceMethod yX5_checksum ∈ WA := zmm (i := 235) (by decide +kernel) (by decide +kernel)
theorem zm_236 : Cond.selects RX5 yX5_checksum yX5_checksum ∈ WA := zmm (i := 236) (by decide +kernel) (by decide +kernel)
theorem zm_237 : Cond.code yX5_checksum prog_1_method_47_code 5 (Option.some FieldType.long) ∈ WA := zmm (i := 237) (by decide +kernel) (by decide +kernel)
theorem dL_law_3295 : decode cL_law 3295 = .ok (.aload_n 2, 1) := by decide +kernel
theorem dL_law_3296 : decode cL_law 3296 = .ok (.invokevirtual 331, 3) := by decide +kernel
theorem zm_1833 : Cond.methodLink RL 331 yX9_checksum ∈ WA := zmm (i := 1833) (by decide +kernel) (by decide +kernel)
theorem zm_1834 : Cond.instanceMethod yX9_checksum ∈ WA := zmm (i := 1834) (by decide +kernel) (by decide +kernel)
theorem zm_1835 : Cond.selects RX9 yX9_checksum yX9_checksum ∈ WA := zmm (i := 1835) (by decide +kernel) (by decide +kernel)
theorem zm_1836 : Cond.code yX9_checksum prog_8_method_69_code 6 (Option.some FieldType.long) ∈ WA := zmm (i := 1836) (by decide +kernel) (by decide +kernel)
theorem dL_law_3299 : decode cL_law 3299 = .ok (.lcmp, 1) := by decide +kernel
theorem dL_law_3300 : decode cL_law 3300 = .ok (.ifCond .eq 149, 3) := by decide +kernel
set_option maxHeartbeats 4000000 in
set_option maxRecDepth 100000 in
theorem law_45 {p : Program} {e : Env} {s : State} {m : MethodId} {below : List Frame} {meth : Method} {c : Code} {l : Launch} {D : va_G} {A : Nat → Prop} {sa : Nat → Nat} {ea : Nat} {ad bd : Nat → Nat} {kC kI kO kD : ClassId} {oa od b : Nat} {xs : Nat → Int32} {Q : State → Prop} (C1 : zLw p l s m c b xs A sa ea bd) (hend : ∀ (H : Heap) (locs : List Loc) (ls : Array Slot), va_S A s.heap H locs → lv_has ls 9 [(5, .int 0), (0, .ref b)] → W p l e room_1 s m #[Value.ref b] below meth c H locs 2000 20000 Q (F0 m 3449 ls [])) {H : Heap} {locs : List Loc} {ls : Array Slot} (C2 : zSt D s A ad bd kC kI kO kD oa od b H locs ls) : W p l e room_1 s m #[Value.ref b] below meth c H locs 1000 10000 Q (F0 m 3291 ls []) := by
  obtain ⟨hx, hb, hml, hown, hw, hX, hbl, hbA, hA, hT, hZ, hE, hQ, hst, he⟩ := C1
  obtain ⟨hK, hP, hD, hS, hl⟩ := C2
  have hP : va_P D vwCl [((ad 0), .inr (10, [.ref (ad 1), .ref (ad 2), .ref (ad 3), .ref (ad 4), .ref (ad 5), .int (-1), .int 100, .int 0, .int 0])), ((ad 1), .inr (7, [.ref (ad 6), .ref (ad 7), .ref (ad 8), .int 0])), ((ad 2), .inr (8, [.ref (ad 9), .ref (ad 10), .int 0])), ((ad 3), .inr (4, [.int 0, .ref (ad 14), .int 0])), ((ad 4), .inr (4, [.int 0, .ref (ad 14), .int 0])), ((ad 5), .inr (6, [.ref (ad 11), .ref (ad 12), .ref (ad 13), .int 0, .int 0])), ((bd 0), .inr (14, [.ref (bd 1), .ref (bd 2), .ref (bd 3), .ref (bd 4), .ref (bd 5), .ref (bd 6), .int 100, .int (-1), .int 0, .int 0])), ((bd 1), .inr (4, [.int 0, .ref (bd 7), .int 0])), ((bd 2), .inr (4, [.int 0, .ref (bd 7), .int 0])), ((bd 3), .inr (4, [.int 0, .ref (bd 7), .int 0])), ((bd 4), .inr (4, [.int 0, .ref (bd 7), .int 0])), ((bd 5), .inr (4, [.int 0, .ref (bd 7), .int 0])), ((bd 6), .inr (4, [.int 0, .ref (bd 7), .int 0])), ((ad 6), .inl (kC, 12, .inl (fun _ => 0))), ((ad 7), .inl (kI, 36, .inl (fun _ => 0))), (oa, .inl (kO, 1, .inr (.inl (fun _ => 0)))), (od, .inl (kD, 1, .inr (.inr (.inr (.inl (fun _ => 0))))))] H := hP
  have hD : va_D A [((ad 0), .inr (10, [.ref (ad 1), .ref (ad 2), .ref (ad 3), .ref (ad 4), .ref (ad 5), .int (-1), .int 100, .int 0, .int 0])), ((ad 1), .inr (7, [.ref (ad 6), .ref (ad 7), .ref (ad 8), .int 0])), ((ad 2), .inr (8, [.ref (ad 9), .ref (ad 10), .int 0])), ((ad 3), .inr (4, [.int 0, .ref (ad 14), .int 0])), ((ad 4), .inr (4, [.int 0, .ref (ad 14), .int 0])), ((ad 5), .inr (6, [.ref (ad 11), .ref (ad 12), .ref (ad 13), .int 0, .int 0])), ((bd 0), .inr (14, [.ref (bd 1), .ref (bd 2), .ref (bd 3), .ref (bd 4), .ref (bd 5), .ref (bd 6), .int 100, .int (-1), .int 0, .int 0])), ((bd 1), .inr (4, [.int 0, .ref (bd 7), .int 0])), ((bd 2), .inr (4, [.int 0, .ref (bd 7), .int 0])), ((bd 3), .inr (4, [.int 0, .ref (bd 7), .int 0])), ((bd 4), .inr (4, [.int 0, .ref (bd 7), .int 0])), ((bd 5), .inr (4, [.int 0, .ref (bd 7), .int 0])), ((bd 6), .inr (4, [.int 0, .ref (bd 7), .int 0])), ((ad 6), .inl (kC, 12, .inl (fun _ => 0))), ((ad 7), .inl (kI, 36, .inl (fun _ => 0))), (oa, .inl (kO, 1, .inr (.inl (fun _ => 0)))), (od, .inl (kD, 1, .inr (.inr (.inr (.inl (fun _ => 0))))))] := hD
  refine lv_aload_n hx hb dL_law_3291 rfl (lv_at hl 4 rfl) ?_
  have hPc := hP.sub (ws' := [((ad 0), .inr (10, [.ref (ad 1), .ref (ad 2), .ref (ad 3), .ref (ad 4), .ref (ad 5), .int (-1), .int 100, .int 0, .int 0])), ((ad 1), .inr (7, [.ref (ad 6), .ref (ad 7), .ref (ad 8), .int 0])), ((ad 2), .inr (8, [.ref (ad 9), .ref (ad 10), .int 0])), ((ad 3), .inr (4, [.int 0, .ref (ad 14), .int 0])), ((ad 4), .inr (4, [.int 0, .ref (ad 14), .int 0])), ((ad 5), .inr (6, [.ref (ad 11), .ref (ad 12), .ref (ad 13), .int 0, .int 0]))]) [0, 1, 2, 3, 4, 5] rfl
  refine va_calll (va_runV (As := []) (rest := []) ⟨hx, hb, hml, hown, hw⟩ (c_X5_checksum l D sa ad _) (cwV 0 hw (zg4 zm_234 zm_235 zm_236 zm_45 zm_237) rfl rfl rfl (by decide +kernel) ⟨Nat.le_of_ble_eq_true rfl, Nat.le_of_ble_eq_true rfl⟩) ⟨zJ_blind, va_recv hK hPc (ci := 10) (q0 := 0) rfl rfl, zJ_pre hPc hK hT⟩ rfl rfl hl.1 rfl (lv_room (Nat.le_of_ble_eq_true rfl)) dL_law_3292 ⟨Nat.le_of_ble_eq_true rfl, Nat.le_of_ble_eq_true rfl⟩) hS zN_in (zN_fr hS hA) (fun r_1 u t H locs ht hvm hw1 hB hz1 hk1 hS => ?_)
  have hP := zN_keep hP hk1
  subst hw1
  refine lv_aload_n hx hb dL_law_3295 rfl (lv_at hl 3 rfl) ?_
  have hPc := hP.sub (ws' := [((bd 0), .inr (14, [.ref (bd 1), .ref (bd 2), .ref (bd 3), .ref (bd 4), .ref (bd 5), .ref (bd 6), .int 100, .int (-1), .int 0, .int 0])), ((bd 1), .inr (4, [.int 0, .ref (bd 7), .int 0])), ((bd 2), .inr (4, [.int 0, .ref (bd 7), .int 0])), ((bd 3), .inr (4, [.int 0, .ref (bd 7), .int 0])), ((bd 4), .inr (4, [.int 0, .ref (bd 7), .int 0])), ((bd 5), .inr (4, [.int 0, .ref (bd 7), .int 0])), ((bd 6), .inr (4, [.int 0, .ref (bd 7), .int 0]))]) [6, 7, 8, 9, 10, 11, 12] rfl
  have hDc := hD.sub (ws' := [((bd 0), .inr (14, [.ref (bd 1), .ref (bd 2), .ref (bd 3), .ref (bd 4), .ref (bd 5), .ref (bd 6), .int 100, .int (-1), .int 0, .int 0])), ((bd 1), .inr (4, [.int 0, .ref (bd 7), .int 0])), ((bd 2), .inr (4, [.int 0, .ref (bd 7), .int 0])), ((bd 3), .inr (4, [.int 0, .ref (bd 7), .int 0])), ((bd 4), .inr (4, [.int 0, .ref (bd 7), .int 0])), ((bd 5), .inr (4, [.int 0, .ref (bd 7), .int 0])), ((bd 6), .inr (4, [.int 0, .ref (bd 7), .int 0]))]) [6, 7, 8, 9, 10, 11, 12] (by decide) rfl
  have hFc := va_free (wc := [((bd 0), .inr (14, [.ref (bd 1), .ref (bd 2), .ref (bd 3), .ref (bd 4), .ref (bd 5), .ref (bd 6), .int 100, .int (-1), .int 0, .int 0])), ((bd 1), .inr (4, [.int 0, .ref (bd 7), .int 0])), ((bd 2), .inr (4, [.int 0, .ref (bd 7), .int 0])), ((bd 3), .inr (4, [.int 0, .ref (bd 7), .int 0])), ((bd 4), .inr (4, [.int 0, .ref (bd 7), .int 0])), ((bd 5), .inr (4, [.int 0, .ref (bd 7), .int 0])), ((bd 6), .inr (4, [.int 0, .ref (bd 7), .int 0]))]) hD hS hA [6, 7, 8, 9, 10, 11, 12] rfl
  refine va_calll (va_runV (As := []) (rest := [.long 217]) ⟨hx, hb, hml, hown, hw⟩ (c_X9_checksum l D sa ea bd 0 _) (cwV 0 hw (zg4 zm_1833 zm_1834 zm_1835 zm_53 zm_1836) rfl rfl rfl (by decide +kernel) ⟨Nat.le_of_ble_eq_true rfl, Nat.le_of_ble_eq_true rfl⟩) ⟨zW_blind, va_recv hK hPc (ci := 14) (q0 := 0) rfl rfl, zW_pre hPc (hK.sub (tys' := []) [] rfl) hDc hT hE hS hFc⟩ rfl rfl hl.1 rfl (lv_room (Nat.le_of_ble_eq_true rfl)) dL_law_3296 ⟨Nat.le_of_ble_eq_true rfl, Nat.le_of_ble_eq_true rfl⟩) hS (fun q _ h => hFc q h) hFc (fun r_2 u t H locs ht hvm hw1 hB hz1 hk1 hS => ?_)
  subst hw1
  obtain ⟨hP1, hD1⟩ := hB
  rw [ht] at hP1
  obtain ⟨hP, hD⟩ := va_join (wr := [((ad 0), .inr (10, [.ref (ad 1), .ref (ad 2), .ref (ad 3), .ref (ad 4), .ref (ad 5), .int (-1), .int 100, .int 0, .int 0])), ((ad 1), .inr (7, [.ref (ad 6), .ref (ad 7), .ref (ad 8), .int 0])), ((ad 2), .inr (8, [.ref (ad 9), .ref (ad 10), .int 0])), ((ad 3), .inr (4, [.int 0, .ref (ad 14), .int 0])), ((ad 4), .inr (4, [.int 0, .ref (ad 14), .int 0])), ((ad 5), .inr (6, [.ref (ad 11), .ref (ad 12), .ref (ad 13), .int 0, .int 0])), ((ad 6), .inl (kC, 12, .inl (fun _ => 0))), ((ad 7), .inl (kI, 36, .inl (fun _ => 0))), (oa, .inl (kO, 1, .inr (.inl (fun _ => 0)))), (od, .inl (kD, 1, .inr (.inr (.inr (.inl (fun _ => 0))))))]) (w1 := [((bd 0), .inr (14, [.ref (bd 1), .ref (bd 2), .ref (bd 3), .ref (bd 4), .ref (bd 5), .ref (bd 6), .int 100, .int (-1), .int 0, .int 0])), ((bd 1), .inr (4, [.int 0, .ref (bd 7), .int 0])), ((bd 2), .inr (4, [.int 0, .ref (bd 7), .int 0])), ((bd 3), .inr (4, [.int 0, .ref (bd 7), .int 0])), ((bd 4), .inr (4, [.int 0, .ref (bd 7), .int 0])), ((bd 5), .inr (4, [.int 0, .ref (bd 7), .int 0])), ((bd 6), .inr (4, [.int 0, .ref (bd 7), .int 0]))]) hP hD [6, 7, 8, 9, 10, 11, 12] [0, 1, 2, 3, 4, 5, 13, 14, 15, 16] rfl rfl (by decide) (by decide) hk1 hFc hP1 hD1
  have hP : va_P D vwCl [((ad 0), .inr (10, [.ref (ad 1), .ref (ad 2), .ref (ad 3), .ref (ad 4), .ref (ad 5), .int (-1), .int 100, .int 0, .int 0])), ((ad 1), .inr (7, [.ref (ad 6), .ref (ad 7), .ref (ad 8), .int 0])), ((ad 2), .inr (8, [.ref (ad 9), .ref (ad 10), .int 0])), ((ad 3), .inr (4, [.int 0, .ref (ad 14), .int 0])), ((ad 4), .inr (4, [.int 0, .ref (ad 14), .int 0])), ((ad 5), .inr (6, [.ref (ad 11), .ref (ad 12), .ref (ad 13), .int 0, .int 0])), ((ad 6), .inl (kC, 12, .inl (fun _ => 0))), ((ad 7), .inl (kI, 36, .inl (fun _ => 0))), (oa, .inl (kO, 1, .inr (.inl (fun _ => 0)))), (od, .inl (kD, 1, .inr (.inr (.inr (.inl (fun _ => 0)))))), ((bd 0), .inr (14, [.ref (bd 1), .ref (bd 2), .ref (bd 3), .ref (bd 4), .ref (bd 5), .ref (bd 6), .int 100, .int (-1), .int 0, .int 0])), ((bd 1), .inr (4, [.int 0, .ref (bd 7), .int 0])), ((bd 2), .inr (4, [.int 0, .ref (bd 7), .int 0])), ((bd 3), .inr (4, [.int 0, .ref (bd 7), .int 0])), ((bd 4), .inr (4, [.int 0, .ref (bd 7), .int 0])), ((bd 5), .inr (4, [.int 0, .ref (bd 7), .int 0])), ((bd 6), .inr (4, [.int 0, .ref (bd 7), .int 0]))] H := hP
  have hD : va_D A [((ad 0), .inr (10, [.ref (ad 1), .ref (ad 2), .ref (ad 3), .ref (ad 4), .ref (ad 5), .int (-1), .int 100, .int 0, .int 0])), ((ad 1), .inr (7, [.ref (ad 6), .ref (ad 7), .ref (ad 8), .int 0])), ((ad 2), .inr (8, [.ref (ad 9), .ref (ad 10), .int 0])), ((ad 3), .inr (4, [.int 0, .ref (ad 14), .int 0])), ((ad 4), .inr (4, [.int 0, .ref (ad 14), .int 0])), ((ad 5), .inr (6, [.ref (ad 11), .ref (ad 12), .ref (ad 13), .int 0, .int 0])), ((ad 6), .inl (kC, 12, .inl (fun _ => 0))), ((ad 7), .inl (kI, 36, .inl (fun _ => 0))), (oa, .inl (kO, 1, .inr (.inl (fun _ => 0)))), (od, .inl (kD, 1, .inr (.inr (.inr (.inl (fun _ => 0)))))), ((bd 0), .inr (14, [.ref (bd 1), .ref (bd 2), .ref (bd 3), .ref (bd 4), .ref (bd 5), .ref (bd 6), .int 100, .int (-1), .int 0, .int 0])), ((bd 1), .inr (4, [.int 0, .ref (bd 7), .int 0])), ((bd 2), .inr (4, [.int 0, .ref (bd 7), .int 0])), ((bd 3), .inr (4, [.int 0, .ref (bd 7), .int 0])), ((bd 4), .inr (4, [.int 0, .ref (bd 7), .int 0])), ((bd 5), .inr (4, [.int 0, .ref (bd 7), .int 0])), ((bd 6), .inr (4, [.int 0, .ref (bd 7), .int 0]))] := hD
  have hK : va_K D vwCl [(kC, .char), (kI, .int), (kO, .long), (kD, .double)] s := hK
  refine W.lcmp hx hb dL_law_3299 ?_
  refine lv_topi (fun f_3 ef_3 => ?_)
  obtain rfl : f_3 = 0 := ef_3.trans (by decide)
  refine lv_if_eq (tgt := 3449) hx hb dL_law_3300 (by decide) (fun _ => ?_) (fun c_4 => absurd (by decide) c_4)
  refine W.widen (k := 2000) (n := 20000) (Nat.le_of_ble_eq_true rfl) (Nat.le_of_ble_eq_true rfl) ?_
  exact hend _ _ _ hS (lv_sub hl [0, 5] rfl)
theorem dL_law_3305 : decode cL_law 3305 = .ok (.aload_n 1, 1) := by decide +kernel
theorem dL_law_3306 : decode cL_law 3306 = .ok (.aload 4, 2) := by decide +kernel
theorem dL_law_3308 : decode cL_law 3308 = .ok (.invokestatic 332, 3) := by decide +kernel
theorem zm_1228 : Cond.methodLink RL 332 yL_contestedShare ∈ WA := zmm (i := 1228) (by decide +kernel) (by decide +kernel)
theorem zm_1229 : Cond.static yL_contestedShare ∈ WA := zmm (i := 1229) (by decide +kernel) (by decide +kernel)
theorem zm_1230 : Cond.codeWith yL_contestedShare method_45_code 3 (Option.some FieldType.int) [(0, 8, 11, 163)] ∈ WA := zmm (i := 1230) (by decide +kernel) (by decide +kernel)
theorem dL_law_3311 : decode cL_law 3311 = .ok (.istore 6, 2) := by decide +kernel
theorem dL_law_3313 : decode cL_law 3313 = .ok (.aload_n 2, 1) := by decide +kernel
theorem dL_law_3314 : decode cL_law 3314 = .ok (.invokevirtual 335, 3) := by decide +kernel
theorem zm_1839 : Cond.methodLink RL 335 yX9_contestedShare ∈ WA := zmm (i := 1839) (by decide +kernel) (by decide +kernel)
theorem zm_1840 : Cond.instanceMethod yX9_contestedShare ∈ WA := zmm (i := 1840) (by decide +kernel) (by decide +kernel)
theorem zm_1841 : Cond.selects RX9 yX9_contestedShare yX9_contestedShare ∈ WA := zmm (i := 1841) (by decide +kernel) (by decide +kernel)
theorem zm_1842 : Cond.code yX9_contestedShare prog_8_method_70_code 4 (Option.some FieldType.float) ∈ WA := zmm (i := 1842) (by decide +kernel) (by decide +kernel)
theorem dL_law_3317 : decode cL_law 3317 = .ok (.fstore 7, 2) := by decide +kernel
theorem dL_law_3319 : decode cL_law 3319 = .ok (.aload_n 2, 1) := by decide +kernel
theorem dL_law_3320 : decode cL_law 3320 = .ok (.invokevirtual 179, 3) := by decide +kernel
theorem dL_law_3323 : decode cL_law 3323 = .ok (.iload 6, 2) := by decide +kernel
theorem dL_law_3325 : decode cL_law 3325 = .ok (.if_icmp .eq 5, 3) := by decide +kernel
theorem dL_law_3330 : decode cL_law 3330 = .ok (.iload 6, 2) := by decide +kernel
theorem dL_law_3332 : decode cL_law 3332 = .ok (.ifCond .ne 36, 3) := by decide +kernel
theorem dL_law_3368 : decode cL_law 3368 = .ok (.goto 81, 3) := by decide +kernel
set_option maxHeartbeats 4000000 in
set_option maxRecDepth 100000 in
theorem law_46 {p : Program} {e : Env} {s : State} {m : MethodId} {below : List Frame} {meth : Method} {c : Code} {l : Launch} {D : va_G} {A : Nat → Prop} {sa : Nat → Nat} {ea : Nat} {ad bd : Nat → Nat} {kC kI kO kD : ClassId} {oa od b : Nat} {xs : Nat → Int32} {Q : State → Prop} (C1 : zLw p l s m c b xs A sa ea bd) (hend : ∀ (H : Heap) (locs : List Loc) (ls : Array Slot), va_S A s.heap H locs → lv_has ls 9 [(5, .int 0), (0, .ref b)] → W p l e room_1 s m #[Value.ref b] below meth c H locs 2000 20000 Q (F0 m 3449 ls [])) {H : Heap} {locs : List Loc} {ls : Array Slot} (C2 : zSt D s A ad bd kC kI kO kD oa od b H locs ls) : W p l e room_1 s m #[Value.ref b] below meth c H locs 1000 10000 Q (F0 m 3305 ls []) := by
  obtain ⟨hx, hb, hml, hown, hw, hX, hbl, hbA, hA, hT, hZ, hE, hQ, hst, he⟩ := C1
  obtain ⟨hK, hP, hD, hS, hl⟩ := C2
  have hP : va_P D vwCl [((ad 0), .inr (10, [.ref (ad 1), .ref (ad 2), .ref (ad 3), .ref (ad 4), .ref (ad 5), .int (-1), .int 100, .int 0, .int 0])), ((ad 1), .inr (7, [.ref (ad 6), .ref (ad 7), .ref (ad 8), .int 0])), ((ad 2), .inr (8, [.ref (ad 9), .ref (ad 10), .int 0])), ((ad 3), .inr (4, [.int 0, .ref (ad 14), .int 0])), ((ad 4), .inr (4, [.int 0, .ref (ad 14), .int 0])), ((ad 5), .inr (6, [.ref (ad 11), .ref (ad 12), .ref (ad 13), .int 0, .int 0])), ((bd 0), .inr (14, [.ref (bd 1), .ref (bd 2), .ref (bd 3), .ref (bd 4), .ref (bd 5), .ref (bd 6), .int 100, .int (-1), .int 0, .int 0])), ((bd 1), .inr (4, [.int 0, .ref (bd 7), .int 0])), ((bd 2), .inr (4, [.int 0, .ref (bd 7), .int 0])), ((bd 3), .inr (4, [.int 0, .ref (bd 7), .int 0])), ((bd 4), .inr (4, [.int 0, .ref (bd 7), .int 0])), ((bd 5), .inr (4, [.int 0, .ref (bd 7), .int 0])), ((bd 6), .inr (4, [.int 0, .ref (bd 7), .int 0])), ((ad 6), .inl (kC, 12, .inl (fun _ => 0))), ((ad 7), .inl (kI, 36, .inl (fun _ => 0))), (oa, .inl (kO, 1, .inr (.inl (fun _ => 0)))), (od, .inl (kD, 1, .inr (.inr (.inr (.inl (fun _ => 0))))))] H := hP
  have hD : va_D A [((ad 0), .inr (10, [.ref (ad 1), .ref (ad 2), .ref (ad 3), .ref (ad 4), .ref (ad 5), .int (-1), .int 100, .int 0, .int 0])), ((ad 1), .inr (7, [.ref (ad 6), .ref (ad 7), .ref (ad 8), .int 0])), ((ad 2), .inr (8, [.ref (ad 9), .ref (ad 10), .int 0])), ((ad 3), .inr (4, [.int 0, .ref (ad 14), .int 0])), ((ad 4), .inr (4, [.int 0, .ref (ad 14), .int 0])), ((ad 5), .inr (6, [.ref (ad 11), .ref (ad 12), .ref (ad 13), .int 0, .int 0])), ((bd 0), .inr (14, [.ref (bd 1), .ref (bd 2), .ref (bd 3), .ref (bd 4), .ref (bd 5), .ref (bd 6), .int 100, .int (-1), .int 0, .int 0])), ((bd 1), .inr (4, [.int 0, .ref (bd 7), .int 0])), ((bd 2), .inr (4, [.int 0, .ref (bd 7), .int 0])), ((bd 3), .inr (4, [.int 0, .ref (bd 7), .int 0])), ((bd 4), .inr (4, [.int 0, .ref (bd 7), .int 0])), ((bd 5), .inr (4, [.int 0, .ref (bd 7), .int 0])), ((bd 6), .inr (4, [.int 0, .ref (bd 7), .int 0])), ((ad 6), .inl (kC, 12, .inl (fun _ => 0))), ((ad 7), .inl (kI, 36, .inl (fun _ => 0))), (oa, .inl (kO, 1, .inr (.inl (fun _ => 0)))), (od, .inl (kD, 1, .inr (.inr (.inr (.inl (fun _ => 0))))))] := hD
  refine lv_aload_n hx hb dL_law_3305 rfl (lv_at hl 4 rfl) ?_
  refine lv_aload hx hb dL_law_3306 (lv_at hl 1 rfl) ?_
  have hPc := hP.sub (ws' := [((ad 0), .inr (10, [.ref (ad 1), .ref (ad 2), .ref (ad 3), .ref (ad 4), .ref (ad 5), .int (-1), .int 100, .int 0, .int 0])), ((ad 1), .inr (7, [.ref (ad 6), .ref (ad 7), .ref (ad 8), .int 0])), ((ad 2), .inr (8, [.ref (ad 9), .ref (ad 10), .int 0])), ((ad 3), .inr (4, [.int 0, .ref (ad 14), .int 0])), ((ad 4), .inr (4, [.int 0, .ref (ad 14), .int 0])), ((ad 5), .inr (6, [.ref (ad 11), .ref (ad 12), .ref (ad 13), .int 0, .int 0]))]) [0, 1, 2, 3, 4, 5] rfl
  refine vx_calli (vx_runSX (As := [.ref (ad 0), .ref od]) (rest := []) ⟨hx, hb, hml, hown, hw⟩ (c_L_contestedShare l hst D sa ad _ od) (vx_cwSW 2 hw (zg3 zm_1228 zm_1229 zm_44 zm_1230) rfl rfl rfl (by decide +kernel) ⟨Nat.le_of_ble_eq_true rfl, Nat.le_of_ble_eq_true rfl⟩) ⟨zR_blind, zR_pre hPc hK hT hZ hS hA⟩ rfl rfl hl.1 rfl (lv_room (Nat.le_of_ble_eq_true rfl)) dL_law_3308 ⟨Nat.le_of_ble_eq_true rfl, Nat.le_of_ble_eq_true rfl⟩) hS zN_in (zN_fr hS hA) zN_in (fun E ce q9 u t H1 locs1 ht hvm hu hE => hE.elim) (fun r_1 u t H locs ht hvm hw1 hB hz1 hk1 hS => ?_)
  have hP := zN_keep hP hk1
  subst hw1
  refine lv_istore (lv' := [(6, .int 1), (5, .int 0), (4, .ref od), (3, .ref oa), (2, .ref (bd 0)), (1, .ref (ad 0)), (0, .ref b)]) hx hb dL_law_3311 hl (by decide) rfl (fun ls hl => ?_)
  refine lv_aload_n hx hb dL_law_3313 rfl (lv_at hl 4 rfl) ?_
  have hPc := hP.sub (ws' := [((bd 0), .inr (14, [.ref (bd 1), .ref (bd 2), .ref (bd 3), .ref (bd 4), .ref (bd 5), .ref (bd 6), .int 100, .int (-1), .int 0, .int 0])), ((bd 1), .inr (4, [.int 0, .ref (bd 7), .int 0])), ((bd 2), .inr (4, [.int 0, .ref (bd 7), .int 0])), ((bd 3), .inr (4, [.int 0, .ref (bd 7), .int 0])), ((bd 4), .inr (4, [.int 0, .ref (bd 7), .int 0])), ((bd 5), .inr (4, [.int 0, .ref (bd 7), .int 0])), ((bd 6), .inr (4, [.int 0, .ref (bd 7), .int 0]))]) [6, 7, 8, 9, 10, 11, 12] rfl
  have hDc := hD.sub (ws' := [((bd 0), .inr (14, [.ref (bd 1), .ref (bd 2), .ref (bd 3), .ref (bd 4), .ref (bd 5), .ref (bd 6), .int 100, .int (-1), .int 0, .int 0])), ((bd 1), .inr (4, [.int 0, .ref (bd 7), .int 0])), ((bd 2), .inr (4, [.int 0, .ref (bd 7), .int 0])), ((bd 3), .inr (4, [.int 0, .ref (bd 7), .int 0])), ((bd 4), .inr (4, [.int 0, .ref (bd 7), .int 0])), ((bd 5), .inr (4, [.int 0, .ref (bd 7), .int 0])), ((bd 6), .inr (4, [.int 0, .ref (bd 7), .int 0]))]) [6, 7, 8, 9, 10, 11, 12] (by decide) rfl
  have hFc := va_free (wc := [((bd 0), .inr (14, [.ref (bd 1), .ref (bd 2), .ref (bd 3), .ref (bd 4), .ref (bd 5), .ref (bd 6), .int 100, .int (-1), .int 0, .int 0])), ((bd 1), .inr (4, [.int 0, .ref (bd 7), .int 0])), ((bd 2), .inr (4, [.int 0, .ref (bd 7), .int 0])), ((bd 3), .inr (4, [.int 0, .ref (bd 7), .int 0])), ((bd 4), .inr (4, [.int 0, .ref (bd 7), .int 0])), ((bd 5), .inr (4, [.int 0, .ref (bd 7), .int 0])), ((bd 6), .inr (4, [.int 0, .ref (bd 7), .int 0]))]) hD hS hA [6, 7, 8, 9, 10, 11, 12] rfl
  refine va_callf (va_runV (As := []) (rest := []) ⟨hx, hb, hml, hown, hw⟩ (c_X9_contestedShare l D sa ea bd 0 _) (cwV 0 hw (zg4 zm_1839 zm_1840 zm_1841 zm_53 zm_1842) rfl rfl rfl (by decide +kernel) ⟨Nat.le_of_ble_eq_true rfl, Nat.le_of_ble_eq_true rfl⟩) ⟨zW_blind, va_recv hK hPc (ci := 14) (q0 := 0) rfl rfl, zW_pre hPc (hK.sub (tys' := []) [] rfl) hDc hT hE hS hFc⟩ rfl rfl hl.1 rfl (lv_room (Nat.le_of_ble_eq_true rfl)) dL_law_3314 ⟨Nat.le_of_ble_eq_true rfl, Nat.le_of_ble_eq_true rfl⟩) hS (fun q _ h => hFc q h) hFc (fun r_2 u t H locs ht hvm hw1 hB hz1 hk1 hS => ?_)
  obtain ⟨hP1, hD1⟩ := hB
  rw [ht] at hP1
  obtain ⟨hP, hD⟩ := va_join (wr := [((ad 0), .inr (10, [.ref (ad 1), .ref (ad 2), .ref (ad 3), .ref (ad 4), .ref (ad 5), .int (-1), .int 100, .int 0, .int 0])), ((ad 1), .inr (7, [.ref (ad 6), .ref (ad 7), .ref (ad 8), .int 0])), ((ad 2), .inr (8, [.ref (ad 9), .ref (ad 10), .int 0])), ((ad 3), .inr (4, [.int 0, .ref (ad 14), .int 0])), ((ad 4), .inr (4, [.int 0, .ref (ad 14), .int 0])), ((ad 5), .inr (6, [.ref (ad 11), .ref (ad 12), .ref (ad 13), .int 0, .int 0])), ((ad 6), .inl (kC, 12, .inl (fun _ => 0))), ((ad 7), .inl (kI, 36, .inl (fun _ => 0))), (oa, .inl (kO, 1, .inr (.inl (fun _ => 0)))), (od, .inl (kD, 1, .inr (.inr (.inr (.inl (fun _ => 0))))))]) (w1 := [((bd 0), .inr (14, [.ref (bd 1), .ref (bd 2), .ref (bd 3), .ref (bd 4), .ref (bd 5), .ref (bd 6), .int 100, .int (-1), .int 0, .int 1])), ((bd 1), .inr (4, [.int 0, .ref (bd 7), .int 0])), ((bd 2), .inr (4, [.int 0, .ref (bd 7), .int 0])), ((bd 3), .inr (4, [.int 0, .ref (bd 7), .int 0])), ((bd 4), .inr (4, [.int 0, .ref (bd 7), .int 0])), ((bd 5), .inr (4, [.int 0, .ref (bd 7), .int 0])), ((bd 6), .inr (4, [.int 0, .ref (bd 7), .int 0]))]) hP hD [6, 7, 8, 9, 10, 11, 12] [0, 1, 2, 3, 4, 5, 13, 14, 15, 16] rfl rfl (by decide) (by decide) hk1 hFc hP1 hD1
  have hP : va_P D vwCl [((ad 0), .inr (10, [.ref (ad 1), .ref (ad 2), .ref (ad 3), .ref (ad 4), .ref (ad 5), .int (-1), .int 100, .int 0, .int 0])), ((ad 1), .inr (7, [.ref (ad 6), .ref (ad 7), .ref (ad 8), .int 0])), ((ad 2), .inr (8, [.ref (ad 9), .ref (ad 10), .int 0])), ((ad 3), .inr (4, [.int 0, .ref (ad 14), .int 0])), ((ad 4), .inr (4, [.int 0, .ref (ad 14), .int 0])), ((ad 5), .inr (6, [.ref (ad 11), .ref (ad 12), .ref (ad 13), .int 0, .int 0])), ((ad 6), .inl (kC, 12, .inl (fun _ => 0))), ((ad 7), .inl (kI, 36, .inl (fun _ => 0))), (oa, .inl (kO, 1, .inr (.inl (fun _ => 0)))), (od, .inl (kD, 1, .inr (.inr (.inr (.inl (fun _ => 0)))))), ((bd 0), .inr (14, [.ref (bd 1), .ref (bd 2), .ref (bd 3), .ref (bd 4), .ref (bd 5), .ref (bd 6), .int 100, .int (-1), .int 0, .int 1])), ((bd 1), .inr (4, [.int 0, .ref (bd 7), .int 0])), ((bd 2), .inr (4, [.int 0, .ref (bd 7), .int 0])), ((bd 3), .inr (4, [.int 0, .ref (bd 7), .int 0])), ((bd 4), .inr (4, [.int 0, .ref (bd 7), .int 0])), ((bd 5), .inr (4, [.int 0, .ref (bd 7), .int 0])), ((bd 6), .inr (4, [.int 0, .ref (bd 7), .int 0]))] H := hP
  have hD : va_D A [((ad 0), .inr (10, [.ref (ad 1), .ref (ad 2), .ref (ad 3), .ref (ad 4), .ref (ad 5), .int (-1), .int 100, .int 0, .int 0])), ((ad 1), .inr (7, [.ref (ad 6), .ref (ad 7), .ref (ad 8), .int 0])), ((ad 2), .inr (8, [.ref (ad 9), .ref (ad 10), .int 0])), ((ad 3), .inr (4, [.int 0, .ref (ad 14), .int 0])), ((ad 4), .inr (4, [.int 0, .ref (ad 14), .int 0])), ((ad 5), .inr (6, [.ref (ad 11), .ref (ad 12), .ref (ad 13), .int 0, .int 0])), ((ad 6), .inl (kC, 12, .inl (fun _ => 0))), ((ad 7), .inl (kI, 36, .inl (fun _ => 0))), (oa, .inl (kO, 1, .inr (.inl (fun _ => 0)))), (od, .inl (kD, 1, .inr (.inr (.inr (.inl (fun _ => 0)))))), ((bd 0), .inr (14, [.ref (bd 1), .ref (bd 2), .ref (bd 3), .ref (bd 4), .ref (bd 5), .ref (bd 6), .int 100, .int (-1), .int 0, .int 1])), ((bd 1), .inr (4, [.int 0, .ref (bd 7), .int 0])), ((bd 2), .inr (4, [.int 0, .ref (bd 7), .int 0])), ((bd 3), .inr (4, [.int 0, .ref (bd 7), .int 0])), ((bd 4), .inr (4, [.int 0, .ref (bd 7), .int 0])), ((bd 5), .inr (4, [.int 0, .ref (bd 7), .int 0])), ((bd 6), .inr (4, [.int 0, .ref (bd 7), .int 0]))] := hD
  have hK : va_K D vwCl [(kC, .char), (kI, .int), (kO, .long), (kD, .double)] s := hK
  refine lv_fstore (lv' := [(7, .float r_2), (6, .int 1), (5, .int 0), (4, .ref od), (3, .ref oa), (2, .ref (bd 0)), (1, .ref (ad 0)), (0, .ref b)]) hx hb dL_law_3317 hl (by decide) rfl (fun ls hl => ?_)
  refine lv_aload_n hx hb dL_law_3319 rfl (lv_at hl 5 rfl) ?_
  have hPc := hP.sub (ws' := [((bd 0), .inr (14, [.ref (bd 1), .ref (bd 2), .ref (bd 3), .ref (bd 4), .ref (bd 5), .ref (bd 6), .int 100, .int (-1), .int 0, .int 1])), ((bd 1), .inr (4, [.int 0, .ref (bd 7), .int 0])), ((bd 2), .inr (4, [.int 0, .ref (bd 7), .int 0])), ((bd 3), .inr (4, [.int 0, .ref (bd 7), .int 0])), ((bd 4), .inr (4, [.int 0, .ref (bd 7), .int 0])), ((bd 5), .inr (4, [.int 0, .ref (bd 7), .int 0])), ((bd 6), .inr (4, [.int 0, .ref (bd 7), .int 0]))]) [10, 11, 12, 13, 14, 15, 16] rfl
  refine va_calli (va_runV (As := []) (rest := []) ⟨hx, hb, hml, hown, hw⟩ (c_X9_thrown l D sa bd 1 _) (cwV 0 hw (zg4 zm_1303 zm_1304 zm_1305 zm_53 zm_1306) rfl rfl rfl (by decide +kernel) ⟨Nat.le_of_ble_eq_true rfl, Nat.le_of_ble_eq_true rfl⟩) ⟨zJ_blind, va_recv hK hPc (ci := 14) (q0 := 0) rfl rfl, zJ_pre hPc hK hT⟩ rfl rfl hl.1 rfl (lv_room (Nat.le_of_ble_eq_true rfl)) dL_law_3320 ⟨Nat.le_of_ble_eq_true rfl, Nat.le_of_ble_eq_true rfl⟩) hS zN_in (zN_fr hS hA) (fun r_3 u t H locs ht hvm hw1 hB hz1 hk1 hS => ?_)
  have hP := zN_keep hP hk1
  subst hw1
  refine lv_iload hx hb dL_law_3323 (lv_at hl 1 rfl) ?_
  refine lv_icmp_eq (tgt := 3330) hx hb dL_law_3325 (by decide) (fun _ => ?_) (fun c_4 => absurd (by decide) c_4)
  refine lv_iload hx hb dL_law_3330 (lv_at hl 1 rfl) ?_
  refine lv_if_ne (tgt := 3368) hx hb dL_law_3332 (by decide) (fun _ => ?_) (fun c_5 => absurd c_5 (by decide))
  refine lv_goto (tgt := 3449) hx hb dL_law_3368 (by decide) ?_
  refine W.widen (k := 2000) (n := 20000) (Nat.le_of_ble_eq_true rfl) (Nat.le_of_ble_eq_true rfl) ?_
  exact hend _ _ _ hS (lv_sub hl [2, 7] rfl)
theorem dL_law_3371 : decode cL_law 3371 = .ok (.aload_n 1, 1) := by decide +kernel
theorem dL_law_3372 : decode cL_law 3372 = .ok (.aload 4, 2) := by decide +kernel
theorem dL_law_3374 : decode cL_law 3374 = .ok (.invokestatic 336, 3) := by decide +kernel
theorem zm_1252 : Cond.methodLink RL 336 yL_meanThreads ∈ WA := zmm (i := 1252) (by decide +kernel) (by decide +kernel)
theorem zm_1253 : Cond.static yL_meanThreads ∈ WA := zmm (i := 1253) (by decide +kernel) (by decide +kernel)
theorem zm_1254 : Cond.codeWith yL_meanThreads method_46_code 3 (Option.some FieldType.int) [(0, 7, 10, 163)] ∈ WA := zmm (i := 1254) (by decide +kernel) (by decide +kernel)
theorem dL_law_3377 : decode cL_law 3377 = .ok (.istore 6, 2) := by decide +kernel
theorem dL_law_3379 : decode cL_law 3379 = .ok (.aload_n 2, 1) := by decide +kernel
theorem dL_law_3380 : decode cL_law 3380 = .ok (.invokevirtual 338, 3) := by decide +kernel
theorem zm_1843 : Cond.methodLink RL 338 yX9_meanThreads ∈ WA := zmm (i := 1843) (by decide +kernel) (by decide +kernel)
theorem zm_1844 : Cond.instanceMethod yX9_meanThreads ∈ WA := zmm (i := 1844) (by decide +kernel) (by decide +kernel)
theorem zm_1845 : Cond.selects RX9 yX9_meanThreads yX9_meanThreads ∈ WA := zmm (i := 1845) (by decide +kernel) (by decide +kernel)
theorem zm_1846 : Cond.code yX9_meanThreads prog_8_method_71_code 4 (Option.some FieldType.double) ∈ WA := zmm (i := 1846) (by decide +kernel) (by decide +kernel)
theorem dL_law_3383 : decode cL_law 3383 = .ok (.dstore 7, 2) := by decide +kernel
theorem dL_law_3385 : decode cL_law 3385 = .ok (.aload_n 2, 1) := by decide +kernel
theorem dL_law_3386 : decode cL_law 3386 = .ok (.invokevirtual 179, 3) := by decide +kernel
theorem dL_law_3389 : decode cL_law 3389 = .ok (.iload 6, 2) := by decide +kernel
theorem dL_law_3391 : decode cL_law 3391 = .ok (.if_icmp .eq 5, 3) := by decide +kernel
theorem dL_law_3396 : decode cL_law 3396 = .ok (.iload 6, 2) := by decide +kernel
theorem dL_law_3398 : decode cL_law 3398 = .ok (.ifCond .ne 35, 3) := by decide +kernel
theorem dL_law_3433 : decode cL_law 3433 = .ok (.goto 16, 3) := by decide +kernel
set_option maxHeartbeats 4000000 in
set_option maxRecDepth 100000 in
theorem law_47 {p : Program} {e : Env} {s : State} {m : MethodId} {below : List Frame} {meth : Method} {c : Code} {l : Launch} {D : va_G} {A : Nat → Prop} {sa : Nat → Nat} {ea : Nat} {ad bd : Nat → Nat} {kC kI kO kD : ClassId} {oa od b : Nat} {xs : Nat → Int32} {Q : State → Prop} (C1 : zLw p l s m c b xs A sa ea bd) (hend : ∀ (H : Heap) (locs : List Loc) (ls : Array Slot), va_S A s.heap H locs → lv_has ls 9 [(5, .int 0), (0, .ref b)] → W p l e room_1 s m #[Value.ref b] below meth c H locs 2000 20000 Q (F0 m 3449 ls [])) {H : Heap} {locs : List Loc} {ls : Array Slot} (C2 : zSt D s A ad bd kC kI kO kD oa od b H locs ls) : W p l e room_1 s m #[Value.ref b] below meth c H locs 1000 10000 Q (F0 m 3371 ls []) := by
  obtain ⟨hx, hb, hml, hown, hw, hX, hbl, hbA, hA, hT, hZ, hE, hQ, hst, he⟩ := C1
  obtain ⟨hK, hP, hD, hS, hl⟩ := C2
  have hP : va_P D vwCl [((ad 0), .inr (10, [.ref (ad 1), .ref (ad 2), .ref (ad 3), .ref (ad 4), .ref (ad 5), .int (-1), .int 100, .int 0, .int 0])), ((ad 1), .inr (7, [.ref (ad 6), .ref (ad 7), .ref (ad 8), .int 0])), ((ad 2), .inr (8, [.ref (ad 9), .ref (ad 10), .int 0])), ((ad 3), .inr (4, [.int 0, .ref (ad 14), .int 0])), ((ad 4), .inr (4, [.int 0, .ref (ad 14), .int 0])), ((ad 5), .inr (6, [.ref (ad 11), .ref (ad 12), .ref (ad 13), .int 0, .int 0])), ((bd 0), .inr (14, [.ref (bd 1), .ref (bd 2), .ref (bd 3), .ref (bd 4), .ref (bd 5), .ref (bd 6), .int 100, .int (-1), .int 0, .int 0])), ((bd 1), .inr (4, [.int 0, .ref (bd 7), .int 0])), ((bd 2), .inr (4, [.int 0, .ref (bd 7), .int 0])), ((bd 3), .inr (4, [.int 0, .ref (bd 7), .int 0])), ((bd 4), .inr (4, [.int 0, .ref (bd 7), .int 0])), ((bd 5), .inr (4, [.int 0, .ref (bd 7), .int 0])), ((bd 6), .inr (4, [.int 0, .ref (bd 7), .int 0])), ((ad 6), .inl (kC, 12, .inl (fun _ => 0))), ((ad 7), .inl (kI, 36, .inl (fun _ => 0))), (oa, .inl (kO, 1, .inr (.inl (fun _ => 0)))), (od, .inl (kD, 1, .inr (.inr (.inr (.inl (fun _ => 0))))))] H := hP
  have hD : va_D A [((ad 0), .inr (10, [.ref (ad 1), .ref (ad 2), .ref (ad 3), .ref (ad 4), .ref (ad 5), .int (-1), .int 100, .int 0, .int 0])), ((ad 1), .inr (7, [.ref (ad 6), .ref (ad 7), .ref (ad 8), .int 0])), ((ad 2), .inr (8, [.ref (ad 9), .ref (ad 10), .int 0])), ((ad 3), .inr (4, [.int 0, .ref (ad 14), .int 0])), ((ad 4), .inr (4, [.int 0, .ref (ad 14), .int 0])), ((ad 5), .inr (6, [.ref (ad 11), .ref (ad 12), .ref (ad 13), .int 0, .int 0])), ((bd 0), .inr (14, [.ref (bd 1), .ref (bd 2), .ref (bd 3), .ref (bd 4), .ref (bd 5), .ref (bd 6), .int 100, .int (-1), .int 0, .int 0])), ((bd 1), .inr (4, [.int 0, .ref (bd 7), .int 0])), ((bd 2), .inr (4, [.int 0, .ref (bd 7), .int 0])), ((bd 3), .inr (4, [.int 0, .ref (bd 7), .int 0])), ((bd 4), .inr (4, [.int 0, .ref (bd 7), .int 0])), ((bd 5), .inr (4, [.int 0, .ref (bd 7), .int 0])), ((bd 6), .inr (4, [.int 0, .ref (bd 7), .int 0])), ((ad 6), .inl (kC, 12, .inl (fun _ => 0))), ((ad 7), .inl (kI, 36, .inl (fun _ => 0))), (oa, .inl (kO, 1, .inr (.inl (fun _ => 0)))), (od, .inl (kD, 1, .inr (.inr (.inr (.inl (fun _ => 0))))))] := hD
  refine lv_aload_n hx hb dL_law_3371 rfl (lv_at hl 4 rfl) ?_
  refine lv_aload hx hb dL_law_3372 (lv_at hl 1 rfl) ?_
  have hPc := hP.sub (ws' := [((ad 0), .inr (10, [.ref (ad 1), .ref (ad 2), .ref (ad 3), .ref (ad 4), .ref (ad 5), .int (-1), .int 100, .int 0, .int 0])), ((ad 1), .inr (7, [.ref (ad 6), .ref (ad 7), .ref (ad 8), .int 0])), ((ad 2), .inr (8, [.ref (ad 9), .ref (ad 10), .int 0])), ((ad 3), .inr (4, [.int 0, .ref (ad 14), .int 0])), ((ad 4), .inr (4, [.int 0, .ref (ad 14), .int 0])), ((ad 5), .inr (6, [.ref (ad 11), .ref (ad 12), .ref (ad 13), .int 0, .int 0]))]) [0, 1, 2, 3, 4, 5] rfl
  refine vx_calli (vx_runSX (As := [.ref (ad 0), .ref od]) (rest := []) ⟨hx, hb, hml, hown, hw⟩ (c_L_meanThreads l hst D sa ad _ od) (vx_cwSW 2 hw (zg3 zm_1252 zm_1253 zm_44 zm_1254) rfl rfl rfl (by decide +kernel) ⟨Nat.le_of_ble_eq_true rfl, Nat.le_of_ble_eq_true rfl⟩) ⟨zR_blind, zR_pre hPc hK hT hZ hS hA⟩ rfl rfl hl.1 rfl (lv_room (Nat.le_of_ble_eq_true rfl)) dL_law_3374 ⟨Nat.le_of_ble_eq_true rfl, Nat.le_of_ble_eq_true rfl⟩) hS zN_in (zN_fr hS hA) zN_in (fun E ce q9 u t H1 locs1 ht hvm hu hE => hE.elim) (fun r_1 u t H locs ht hvm hw1 hB hz1 hk1 hS => ?_)
  have hP := zN_keep hP hk1
  subst hw1
  refine lv_istore (lv' := [(6, .int 1), (5, .int 0), (4, .ref od), (3, .ref oa), (2, .ref (bd 0)), (1, .ref (ad 0)), (0, .ref b)]) hx hb dL_law_3377 hl (by decide) rfl (fun ls hl => ?_)
  refine lv_aload_n hx hb dL_law_3379 rfl (lv_at hl 4 rfl) ?_
  have hPc := hP.sub (ws' := [((bd 0), .inr (14, [.ref (bd 1), .ref (bd 2), .ref (bd 3), .ref (bd 4), .ref (bd 5), .ref (bd 6), .int 100, .int (-1), .int 0, .int 0])), ((bd 1), .inr (4, [.int 0, .ref (bd 7), .int 0])), ((bd 2), .inr (4, [.int 0, .ref (bd 7), .int 0])), ((bd 3), .inr (4, [.int 0, .ref (bd 7), .int 0])), ((bd 4), .inr (4, [.int 0, .ref (bd 7), .int 0])), ((bd 5), .inr (4, [.int 0, .ref (bd 7), .int 0])), ((bd 6), .inr (4, [.int 0, .ref (bd 7), .int 0]))]) [6, 7, 8, 9, 10, 11, 12] rfl
  have hDc := hD.sub (ws' := [((bd 0), .inr (14, [.ref (bd 1), .ref (bd 2), .ref (bd 3), .ref (bd 4), .ref (bd 5), .ref (bd 6), .int 100, .int (-1), .int 0, .int 0])), ((bd 1), .inr (4, [.int 0, .ref (bd 7), .int 0])), ((bd 2), .inr (4, [.int 0, .ref (bd 7), .int 0])), ((bd 3), .inr (4, [.int 0, .ref (bd 7), .int 0])), ((bd 4), .inr (4, [.int 0, .ref (bd 7), .int 0])), ((bd 5), .inr (4, [.int 0, .ref (bd 7), .int 0])), ((bd 6), .inr (4, [.int 0, .ref (bd 7), .int 0]))]) [6, 7, 8, 9, 10, 11, 12] (by decide) rfl
  have hFc := va_free (wc := [((bd 0), .inr (14, [.ref (bd 1), .ref (bd 2), .ref (bd 3), .ref (bd 4), .ref (bd 5), .ref (bd 6), .int 100, .int (-1), .int 0, .int 0])), ((bd 1), .inr (4, [.int 0, .ref (bd 7), .int 0])), ((bd 2), .inr (4, [.int 0, .ref (bd 7), .int 0])), ((bd 3), .inr (4, [.int 0, .ref (bd 7), .int 0])), ((bd 4), .inr (4, [.int 0, .ref (bd 7), .int 0])), ((bd 5), .inr (4, [.int 0, .ref (bd 7), .int 0])), ((bd 6), .inr (4, [.int 0, .ref (bd 7), .int 0]))]) hD hS hA [6, 7, 8, 9, 10, 11, 12] rfl
  refine va_calld (va_runV (As := []) (rest := []) ⟨hx, hb, hml, hown, hw⟩ (c_X9_meanThreads l D sa ea bd 0 _) (cwV 0 hw (zg4 zm_1843 zm_1844 zm_1845 zm_53 zm_1846) rfl rfl rfl (by decide +kernel) ⟨Nat.le_of_ble_eq_true rfl, Nat.le_of_ble_eq_true rfl⟩) ⟨zW_blind, va_recv hK hPc (ci := 14) (q0 := 0) rfl rfl, zW_pre hPc (hK.sub (tys' := []) [] rfl) hDc hT hE hS hFc⟩ rfl rfl hl.1 rfl (lv_room (Nat.le_of_ble_eq_true rfl)) dL_law_3380 ⟨Nat.le_of_ble_eq_true rfl, Nat.le_of_ble_eq_true rfl⟩) hS (fun q _ h => hFc q h) hFc (fun r_2 u t H locs ht hvm hw1 hB hz1 hk1 hS => ?_)
  obtain ⟨hP1, hD1⟩ := hB
  rw [ht] at hP1
  obtain ⟨hP, hD⟩ := va_join (wr := [((ad 0), .inr (10, [.ref (ad 1), .ref (ad 2), .ref (ad 3), .ref (ad 4), .ref (ad 5), .int (-1), .int 100, .int 0, .int 0])), ((ad 1), .inr (7, [.ref (ad 6), .ref (ad 7), .ref (ad 8), .int 0])), ((ad 2), .inr (8, [.ref (ad 9), .ref (ad 10), .int 0])), ((ad 3), .inr (4, [.int 0, .ref (ad 14), .int 0])), ((ad 4), .inr (4, [.int 0, .ref (ad 14), .int 0])), ((ad 5), .inr (6, [.ref (ad 11), .ref (ad 12), .ref (ad 13), .int 0, .int 0])), ((ad 6), .inl (kC, 12, .inl (fun _ => 0))), ((ad 7), .inl (kI, 36, .inl (fun _ => 0))), (oa, .inl (kO, 1, .inr (.inl (fun _ => 0)))), (od, .inl (kD, 1, .inr (.inr (.inr (.inl (fun _ => 0))))))]) (w1 := [((bd 0), .inr (14, [.ref (bd 1), .ref (bd 2), .ref (bd 3), .ref (bd 4), .ref (bd 5), .ref (bd 6), .int 100, .int (-1), .int 0, .int 1])), ((bd 1), .inr (4, [.int 0, .ref (bd 7), .int 0])), ((bd 2), .inr (4, [.int 0, .ref (bd 7), .int 0])), ((bd 3), .inr (4, [.int 0, .ref (bd 7), .int 0])), ((bd 4), .inr (4, [.int 0, .ref (bd 7), .int 0])), ((bd 5), .inr (4, [.int 0, .ref (bd 7), .int 0])), ((bd 6), .inr (4, [.int 0, .ref (bd 7), .int 0]))]) hP hD [6, 7, 8, 9, 10, 11, 12] [0, 1, 2, 3, 4, 5, 13, 14, 15, 16] rfl rfl (by decide) (by decide) hk1 hFc hP1 hD1
  have hP : va_P D vwCl [((ad 0), .inr (10, [.ref (ad 1), .ref (ad 2), .ref (ad 3), .ref (ad 4), .ref (ad 5), .int (-1), .int 100, .int 0, .int 0])), ((ad 1), .inr (7, [.ref (ad 6), .ref (ad 7), .ref (ad 8), .int 0])), ((ad 2), .inr (8, [.ref (ad 9), .ref (ad 10), .int 0])), ((ad 3), .inr (4, [.int 0, .ref (ad 14), .int 0])), ((ad 4), .inr (4, [.int 0, .ref (ad 14), .int 0])), ((ad 5), .inr (6, [.ref (ad 11), .ref (ad 12), .ref (ad 13), .int 0, .int 0])), ((ad 6), .inl (kC, 12, .inl (fun _ => 0))), ((ad 7), .inl (kI, 36, .inl (fun _ => 0))), (oa, .inl (kO, 1, .inr (.inl (fun _ => 0)))), (od, .inl (kD, 1, .inr (.inr (.inr (.inl (fun _ => 0)))))), ((bd 0), .inr (14, [.ref (bd 1), .ref (bd 2), .ref (bd 3), .ref (bd 4), .ref (bd 5), .ref (bd 6), .int 100, .int (-1), .int 0, .int 1])), ((bd 1), .inr (4, [.int 0, .ref (bd 7), .int 0])), ((bd 2), .inr (4, [.int 0, .ref (bd 7), .int 0])), ((bd 3), .inr (4, [.int 0, .ref (bd 7), .int 0])), ((bd 4), .inr (4, [.int 0, .ref (bd 7), .int 0])), ((bd 5), .inr (4, [.int 0, .ref (bd 7), .int 0])), ((bd 6), .inr (4, [.int 0, .ref (bd 7), .int 0]))] H := hP
  have hD : va_D A [((ad 0), .inr (10, [.ref (ad 1), .ref (ad 2), .ref (ad 3), .ref (ad 4), .ref (ad 5), .int (-1), .int 100, .int 0, .int 0])), ((ad 1), .inr (7, [.ref (ad 6), .ref (ad 7), .ref (ad 8), .int 0])), ((ad 2), .inr (8, [.ref (ad 9), .ref (ad 10), .int 0])), ((ad 3), .inr (4, [.int 0, .ref (ad 14), .int 0])), ((ad 4), .inr (4, [.int 0, .ref (ad 14), .int 0])), ((ad 5), .inr (6, [.ref (ad 11), .ref (ad 12), .ref (ad 13), .int 0, .int 0])), ((ad 6), .inl (kC, 12, .inl (fun _ => 0))), ((ad 7), .inl (kI, 36, .inl (fun _ => 0))), (oa, .inl (kO, 1, .inr (.inl (fun _ => 0)))), (od, .inl (kD, 1, .inr (.inr (.inr (.inl (fun _ => 0)))))), ((bd 0), .inr (14, [.ref (bd 1), .ref (bd 2), .ref (bd 3), .ref (bd 4), .ref (bd 5), .ref (bd 6), .int 100, .int (-1), .int 0, .int 1])), ((bd 1), .inr (4, [.int 0, .ref (bd 7), .int 0])), ((bd 2), .inr (4, [.int 0, .ref (bd 7), .int 0])), ((bd 3), .inr (4, [.int 0, .ref (bd 7), .int 0])), ((bd 4), .inr (4, [.int 0, .ref (bd 7), .int 0])), ((bd 5), .inr (4, [.int 0, .ref (bd 7), .int 0])), ((bd 6), .inr (4, [.int 0, .ref (bd 7), .int 0]))] := hD
  have hK : va_K D vwCl [(kC, .char), (kI, .int), (kO, .long), (kD, .double)] s := hK
  refine lv_dstore (lv' := [(7, .double r_2), (6, .int 1), (5, .int 0), (4, .ref od), (3, .ref oa), (2, .ref (bd 0)), (1, .ref (ad 0)), (0, .ref b)]) hx hb dL_law_3383 hl (by decide) rfl (fun ls hl => ?_)
  refine lv_aload_n hx hb dL_law_3385 rfl (lv_at hl 5 rfl) ?_
  have hPc := hP.sub (ws' := [((bd 0), .inr (14, [.ref (bd 1), .ref (bd 2), .ref (bd 3), .ref (bd 4), .ref (bd 5), .ref (bd 6), .int 100, .int (-1), .int 0, .int 1])), ((bd 1), .inr (4, [.int 0, .ref (bd 7), .int 0])), ((bd 2), .inr (4, [.int 0, .ref (bd 7), .int 0])), ((bd 3), .inr (4, [.int 0, .ref (bd 7), .int 0])), ((bd 4), .inr (4, [.int 0, .ref (bd 7), .int 0])), ((bd 5), .inr (4, [.int 0, .ref (bd 7), .int 0])), ((bd 6), .inr (4, [.int 0, .ref (bd 7), .int 0]))]) [10, 11, 12, 13, 14, 15, 16] rfl
  refine va_calli (va_runV (As := []) (rest := []) ⟨hx, hb, hml, hown, hw⟩ (c_X9_thrown l D sa bd 1 _) (cwV 0 hw (zg4 zm_1303 zm_1304 zm_1305 zm_53 zm_1306) rfl rfl rfl (by decide +kernel) ⟨Nat.le_of_ble_eq_true rfl, Nat.le_of_ble_eq_true rfl⟩) ⟨zJ_blind, va_recv hK hPc (ci := 14) (q0 := 0) rfl rfl, zJ_pre hPc hK hT⟩ rfl rfl hl.1 rfl (lv_room (Nat.le_of_ble_eq_true rfl)) dL_law_3386 ⟨Nat.le_of_ble_eq_true rfl, Nat.le_of_ble_eq_true rfl⟩) hS zN_in (zN_fr hS hA) (fun r_3 u t H locs ht hvm hw1 hB hz1 hk1 hS => ?_)
  have hP := zN_keep hP hk1
  subst hw1
  refine lv_iload hx hb dL_law_3389 (lv_at hl 1 rfl) ?_
  refine lv_icmp_eq (tgt := 3396) hx hb dL_law_3391 (by decide) (fun _ => ?_) (fun c_4 => absurd (by decide) c_4)
  refine lv_iload hx hb dL_law_3396 (lv_at hl 1 rfl) ?_
  refine lv_if_ne (tgt := 3433) hx hb dL_law_3398 (by decide) (fun _ => ?_) (fun c_5 => absurd c_5 (by decide))
  refine lv_goto (tgt := 3449) hx hb dL_law_3433 (by decide) ?_
  refine W.widen (k := 2000) (n := 20000) (Nat.le_of_ble_eq_true rfl) (Nat.le_of_ble_eq_true rfl) ?_
  exact hend _ _ _ hS (lv_sub hl [2, 7] rfl)
