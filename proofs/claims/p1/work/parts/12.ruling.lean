theorem dX5_setRuling_0 : decode cX5_setRuling 0 = .ok (.iload_n 1, 1) := by decide +kernel
theorem dX5_setRuling_1 : decode cX5_setRuling 1 = .ok (.iconst 0, 1) := by decide +kernel
theorem dX5_setRuling_2 : decode cX5_setRuling 2 = .ok (.sipush 9999, 3) := by decide +kernel
theorem dX5_setRuling_5 : decode cX5_setRuling 5 = .ok (.invokestatic 62, 3) := by decide +kernel
theorem zm_414 : Cond.methodLink RX5 62 yX5_requireWithin ∈ WA := zmm (i := 414) (by decide +kernel) (by decide +kernel)
theorem zm_415 : Cond.static yX5_requireWithin ∈ WA := zmm (i := 415) (by decide +kernel) (by decide +kernel)
theorem zm_416 : Cond.code yX5_requireWithin prog_1_method_52_code 3 (Option.none : Option FieldType) ∈ WA := zmm (i := 416) (by decide +kernel) (by decide +kernel)
set_option maxHeartbeats 4000000 in
set_option maxRecDepth 100000 in
theorem c_X5_setRuling0 (l : Launch) (hst : l.stackTraces = false) (D : va_G) (sa : Nat → Nat) (ad : Nat → Nat) (sz : Nat) (p0 : Int32) (hy0 : z_in p0 0 9999 = 0) : vx_Met l yX5_setRuling ((Cond.code yX5_setRuling prog_1_method_25_code 3 (Option.some FieldType.int)) :: WA) ({ frames := 7, cells := 1, slots := 6, locals := 104 }) (zR D sa (zX ad) [.ref (ad 0), .int p0] sz) zF (zXC "java/lang/IllegalArgumentException" sz) 1 6 (zN sz) := by
  refine vx_ofW (cc := prog_1_method_25_code) (maxL := 3) (ret := (Option.some FieldType.int)) (by decide) rfl ?_
  intro p e s m args below meth c s₁ B hml hnt hv
  obtain ⟨rfl, hsz, hP, hK, hT, hZ⟩ := hv
  have hx := B.exec
  have hb := B.bytes
  have hr := B.returns
  have hts := atoms_spec (ws := (Cond.code yX5_setRuling prog_1_method_25_code 3 (Option.some FieldType.int)) :: WA) B.pre
  have hw : ∀ w ∈ WA, w.before _ s = true := fun w h => hts w (List.mem_cons_of_mem _ h)
  have hown : s.vm.findClass RX5 = some m.cls := findClass_of_methodNamed B.named
  have hlocks := B.notSynchronized
  subst hsz
  have hA : ∀ q : Nat, s.heap.size ≤ q → zN s.heap.size q := fun _ h => h
  have hS : va_S (zN s.heap.size) s.heap s.heap [] := va_S.rf
  have hP : va_P D vwCl [((ad 0), .inr (10, [.ref (ad 1), .ref (ad 2), .ref (ad 3), .ref (ad 4), .ref (ad 5), .int (-1), .int 100, .int 0, .int 0])), ((ad 1), .inr (7, [.ref (ad 6), .ref (ad 7), .ref (ad 8), .int 0])), ((ad 2), .inr (8, [.ref (ad 9), .ref (ad 10), .int 0])), ((ad 3), .inr (4, [.int 0, .ref (ad 14), .int 0])), ((ad 4), .inr (4, [.int 0, .ref (ad 14), .int 0])), ((ad 5), .inr (6, [.ref (ad 11), .ref (ad 12), .ref (ad 13), .int 0, .int 0]))] s.heap := hP
  have hl := lv_entry [.ref (ad 0), .int p0] (n := 3) (Nat.le_of_ble_eq_true rfl)
  rw [lg_entry_eq]
  generalize (lg_sl [.ref (ad 0), .int p0] ++ List.replicate (3 - (lg_sl [.ref (ad 0), .int p0]).length) Slot.unset).toArray = ls at hl ⊢
  have hl : lv_has ls 3 [(0, .ref (ad 0)), (1, .int p0)] := hl
  refine lv_iload_n hx hb dX5_setRuling_0 rfl (lv_at hl 1 rfl) ?_
  refine lv_iconst (v := 0) hx hb dX5_setRuling_1 (by decide) ?_
  refine lv_sipush (v := 9999) hx hb dX5_setRuling_2 (by decide) ?_
  have hPc := hP.sub (ws' := []) [] rfl
  refine zx_call (vx_runS (As := [.int p0, .int 0, .int 9999]) (rest := []) ⟨hx, hb, hml, hown, hw⟩ (c_X5_requireWithin0 l hst D sa _ p0 0 9999 hy0) (va_cwS 3 hw (zg3 zm_414 zm_415 zm_45 zm_416) rfl rfl rfl (by decide +kernel) ⟨Nat.le_of_ble_eq_true rfl, Nat.le_of_ble_eq_true rfl⟩) ⟨zR_blind, zR_pre hPc hK hT hZ hS hA⟩ rfl rfl hl.1 rfl (lv_room (Nat.le_of_ble_eq_true rfl)) dX5_setRuling_5 ⟨Nat.le_of_ble_eq_true rfl, Nat.le_of_ble_eq_true rfl⟩) hS (zN_fr hS hA) zN_in (fun E ce q9 u t H locs ht hvm hu hE hz1 hk1 hS hce hcv hcl => ?_)
  exact vx_out (fun x hx9 => (hnt x hx9).elim) hlocks hce hcv hcl (fun t ht _ => ⟨(), trivial, hE, hS.F ht⟩) (fun z hz => hS.2.2 z hz) (Nat.le_of_ble_eq_true rfl) (Nat.le_of_ble_eq_true rfl)
theorem dL_setRuling_0 : decode cL_setRuling 0 = .ok (.aload_n 2, 1) := by decide +kernel
theorem dL_setRuling_1 : decode cL_setRuling 1 = .ok (.iconst 0, 1) := by decide +kernel
theorem dL_setRuling_2 : decode cL_setRuling 2 = .ok (.aload_n 0, 1) := by decide +kernel
theorem dL_setRuling_3 : decode cL_setRuling 3 = .ok (.iload_n 1, 1) := by decide +kernel
theorem dL_setRuling_4 : decode cL_setRuling 4 = .ok (.invokevirtual 94, 3) := by decide +kernel
theorem zm_959 : Cond.methodLink RL 94 yX5_setRuling ∈ WA := zmm (i := 959) (by decide +kernel) (by decide +kernel)
theorem zm_960 : Cond.instanceMethod yX5_setRuling ∈ WA := zmm (i := 960) (by decide +kernel) (by decide +kernel)
theorem zm_961 : Cond.selects RX5 yX5_setRuling yX5_setRuling ∈ WA := zmm (i := 961) (by decide +kernel) (by decide +kernel)
theorem zm_962 : Cond.code yX5_setRuling prog_1_method_25_code 3 (Option.some FieldType.int) ∈ WA := zmm (i := 962) (by decide +kernel) (by decide +kernel)
theorem zm_335 : Cond.classLink RL 13 "java/lang/IllegalArgumentException" ∈ WA := zmm (i := 335) (by decide +kernel) (by decide +kernel)
theorem dL_setRuling_12 : decode cL_setRuling 12 = .ok (.astore_n 3, 1) := by decide +kernel
theorem dL_setRuling_13 : decode cL_setRuling 13 = .ok (.iconst 1, 1) := by decide +kernel
theorem dL_setRuling_14 : decode cL_setRuling 14 = .ok (.ireturn, 1) := by decide +kernel
set_option maxHeartbeats 4000000 in
set_option maxRecDepth 100000 in
theorem c_L_setRuling0 (l : Launch) (hst : l.stackTraces = false) (D : va_G) (sa : Nat → Nat) (ad : Nat → Nat) (sz : Nat) (p0 : Int32) (oa : Nat) (hy0 : z_in p0 0 9999 = 0) : vx_Met l yL_setRuling ((Cond.codeWith yL_setRuling method_25_code 4 (Option.some FieldType.int) [(0, 9, 12, 13)]) :: WA) ({ frames := 8, cells := 1, slots := 6, locals := 126 }) (zR D sa (zX ad) [.ref (ad 0), .int p0, .ref oa] sz) (va_Qi (fun (r : Int32) (_ : Unit) => r = 1) (fun _ _ => True) (zN sz)) (zX0 sz) 1 6 (zN sz) := by
  refine vx_ofWH (cc := method_25_code) (maxL := 4) (ret := (Option.some FieldType.int)) (hh := [(0, 9, 12, 13)]) (by decide) rfl ?_
  intro p e s m args below meth c s₁ B hml hv
  obtain ⟨rfl, hsz, hP, hK, hT, hZ⟩ := hv
  have hx := B.exec
  have hb := B.bytes
  have hr := B.returns
  have hts := atoms_spec (ws := (Cond.codeWith yL_setRuling method_25_code 4 (Option.some FieldType.int) [(0, 9, 12, 13)]) :: WA) B.pre
  have hw : ∀ w ∈ WA, w.before _ s = true := fun w h => hts w (List.mem_cons_of_mem _ h)
  have htab := vx_table (x := yL_setRuling) B (hts _ List.mem_cons_self)
  have hown : s.vm.findClass RL = some m.cls := findClass_of_methodNamed B.named
  have hlocks := B.notSynchronized
  subst hsz
  have hA : ∀ q : Nat, s.heap.size ≤ q → zN s.heap.size q := fun _ h => h
  have hS : va_S (zN s.heap.size) s.heap s.heap [] := va_S.rf
  have hP : va_P D vwCl [((ad 0), .inr (10, [.ref (ad 1), .ref (ad 2), .ref (ad 3), .ref (ad 4), .ref (ad 5), .int (-1), .int 100, .int 0, .int 0])), ((ad 1), .inr (7, [.ref (ad 6), .ref (ad 7), .ref (ad 8), .int 0])), ((ad 2), .inr (8, [.ref (ad 9), .ref (ad 10), .int 0])), ((ad 3), .inr (4, [.int 0, .ref (ad 14), .int 0])), ((ad 4), .inr (4, [.int 0, .ref (ad 14), .int 0])), ((ad 5), .inr (6, [.ref (ad 11), .ref (ad 12), .ref (ad 13), .int 0, .int 0]))] s.heap := hP
  have hl := lv_entry [.ref (ad 0), .int p0, .ref oa] (n := 4) (Nat.le_of_ble_eq_true rfl)
  rw [lg_entry_eq]
  generalize (lg_sl [.ref (ad 0), .int p0, .ref oa] ++ List.replicate (4 - (lg_sl [.ref (ad 0), .int p0, .ref oa]).length) Slot.unset).toArray = ls at hl ⊢
  have hl : lv_has ls 4 [(0, .ref (ad 0)), (1, .int p0), (2, .ref oa)] := hl
  refine lv_aload_n hx hb dL_setRuling_0 rfl (lv_at hl 2 rfl) ?_
  refine lv_iconst (v := 0) hx hb dL_setRuling_1 (by decide) ?_
  refine lv_aload_n hx hb dL_setRuling_2 rfl (lv_at hl 0 rfl) ?_
  refine lv_iload_n hx hb dL_setRuling_3 rfl (lv_at hl 1 rfl) ?_
  refine zx_call (vx_runV (As := [.int p0]) (rest := [.int 0, .ref oa]) ⟨hx, hb, hml, hown, hw⟩ (c_X5_setRuling0 l hst D sa ad _ p0 hy0) (cwV 1 hw (zg4 zm_959 zm_960 zm_961 zm_45 zm_962) rfl rfl rfl (by decide +kernel) ⟨Nat.le_of_ble_eq_true rfl, Nat.le_of_ble_eq_true rfl⟩) ⟨zR_blind, va_recv hK hP (ci := 10) (q0 := 0) rfl rfl, zR_pre hP hK hT hZ hS hA⟩ rfl rfl hl.1 rfl (lv_room (Nat.le_of_ble_eq_true rfl)) dL_setRuling_4 ⟨Nat.le_of_ble_eq_true rfl, Nat.le_of_ble_eq_true rfl⟩) hS (zN_fr hS hA) zN_in (fun E ce q9 u t H locs ht hvm hu hE hz1 hk1 hS hce hcv hcl => ?_)
  subst hE
  refine vx_catch hown [] ⟨0, 9, 12, 13⟩ (tableOf []) htab (fun z hz => absurd hz List.not_mem_nil) (by decide) (by decide) (hw _ zm_335) (hT.c 0 rfl) hce hcv hcl ?_
  refine lv_astore_n (lv' := [(3, .ref q9), (0, .ref (ad 0)), (1, .int p0), (2, .ref oa)]) hx hb dL_setRuling_12 rfl hl (by decide) rfl (fun ls hl => ?_)
  refine lv_iconst (v := 1) hx hb dL_setRuling_13 (by decide) ?_
  refine vx_ret ?_
  exact W.iret (v := 1) hx hb hr (fun t ht hW => ⟨⟨1, (), rfl, rfl, trivial⟩, hS.F ht⟩) hS.2.2 dL_setRuling_14
theorem dX5_setRuling_8 : decode cX5_setRuling 8 = .ok (.aload_n 0, 1) := by decide +kernel
theorem dX5_setRuling_9 : decode cX5_setRuling 9 = .ok (.getfield 46, 3) := by decide +kernel
theorem zm_188 : Cond.fieldLink RX5 46 RX5 "ruling" "I" ∈ WA := zmm (i := 188) (by decide +kernel) (by decide +kernel)
theorem dX5_setRuling_12 : decode cX5_setRuling 12 = .ok (.istore_n 2, 1) := by decide +kernel
theorem dX5_setRuling_13 : decode cX5_setRuling 13 = .ok (.aload_n 0, 1) := by decide +kernel
theorem dX5_setRuling_14 : decode cX5_setRuling 14 = .ok (.iload_n 1, 1) := by decide +kernel
theorem dX5_setRuling_15 : decode cX5_setRuling 15 = .ok (.putfield 46, 3) := by decide +kernel
theorem dX5_setRuling_18 : decode cX5_setRuling 18 = .ok (.iload_n 2, 1) := by decide +kernel
theorem dX5_setRuling_19 : decode cX5_setRuling 19 = .ok (.ireturn, 1) := by decide +kernel
set_option maxHeartbeats 4000000 in
set_option maxRecDepth 100000 in
theorem c_X5_setRuling1 (l : Launch) (D : va_G) (sa : Nat → Nat) (ea : Nat) (ad : Nat → Nat) (sz : Nat) (p0 : Int32) (hy0 : z_in p0 0 9999 = 1) : Met l yX5_setRuling ((Cond.code yX5_setRuling prog_1_method_25_code 3 (Option.some FieldType.int)) :: WA) ({ frames := 2, cells := 0, slots := 0, locals := 44 }) (zW D sa ea [] (zX ad) [.ref (ad 0), .int p0] sz) (va_Qi (fun (r : Int32) (_ : Unit) => r = 100) (fun _ t => va_P D vwCl [] t.heap ∧ va_D (va_A (zX ad) sz) []) (va_A (zX ad) sz)) 0 0 (va_A (zX ad) sz) := by
  refine Met.ofW (cc := prog_1_method_25_code) (maxL := 3) (ret := (Option.some FieldType.int)) (by decide) rfl ?_
  intro p e s m args below meth c s₁ B hml hv
  obtain ⟨rfl, hsz, hP, hK, hD0, hT, hE⟩ := hv
  have hx := B.exec
  have hb := B.bytes
  have hr := B.returns
  have hts := atoms_spec (ws := (Cond.code yX5_setRuling prog_1_method_25_code 3 (Option.some FieldType.int)) :: WA) B.pre
  have hw : ∀ w ∈ WA, w.before _ s = true := fun w h => hts w (List.mem_cons_of_mem _ h)
  have hown : s.vm.findClass RX5 = some m.cls := findClass_of_methodNamed B.named
  have hlocks := B.notSynchronized
  subst hsz
  have hD := hD0.self (sz := s.heap.size)
  generalize hAe : va_A (zX ad) s.heap.size = A at hD hE ⊢
  have hA : ∀ q : Nat, s.heap.size ≤ q → A q := fun q h => by rw [← hAe]; exact Or.inr h
  have hS : va_S A s.heap s.heap [] := va_S.rf
  have hP : va_P D vwCl [((ad 0), .inr (10, [.ref (ad 1), .ref (ad 2), .ref (ad 3), .ref (ad 4), .ref (ad 5), .int (-1), .int 100, .int 0, .int 0])), ((ad 1), .inr (7, [.ref (ad 6), .ref (ad 7), .ref (ad 8), .int 0])), ((ad 2), .inr (8, [.ref (ad 9), .ref (ad 10), .int 0])), ((ad 3), .inr (4, [.int 0, .ref (ad 14), .int 0])), ((ad 4), .inr (4, [.int 0, .ref (ad 14), .int 0])), ((ad 5), .inr (6, [.ref (ad 11), .ref (ad 12), .ref (ad 13), .int 0, .int 0]))] s.heap := hP
  have hD : va_D A [((ad 0), .inr (10, [.ref (ad 1), .ref (ad 2), .ref (ad 3), .ref (ad 4), .ref (ad 5), .int (-1), .int 100, .int 0, .int 0])), ((ad 1), .inr (7, [.ref (ad 6), .ref (ad 7), .ref (ad 8), .int 0])), ((ad 2), .inr (8, [.ref (ad 9), .ref (ad 10), .int 0])), ((ad 3), .inr (4, [.int 0, .ref (ad 14), .int 0])), ((ad 4), .inr (4, [.int 0, .ref (ad 14), .int 0])), ((ad 5), .inr (6, [.ref (ad 11), .ref (ad 12), .ref (ad 13), .int 0, .int 0]))] := hD
  have hl := lv_entry [.ref (ad 0), .int p0] (n := 3) (Nat.le_of_ble_eq_true rfl)
  rw [lg_entry_eq]
  generalize (lg_sl [.ref (ad 0), .int p0] ++ List.replicate (3 - (lg_sl [.ref (ad 0), .int p0]).length) Slot.unset).toArray = ls at hl ⊢
  have hl : lv_has ls 3 [(0, .ref (ad 0)), (1, .int p0)] := hl
  refine lv_iload_n hx hb dX5_setRuling_0 rfl (lv_at hl 1 rfl) ?_
  refine lv_iconst (v := 0) hx hb dX5_setRuling_1 (by decide) ?_
  refine lv_sipush (v := 9999) hx hb dX5_setRuling_2 (by decide) ?_
  have hPc := hP.sub (ws' := []) [] rfl
  refine va_callv (va_runS (As := [.int p0, .int 0, .int 9999]) (rest := []) ⟨hx, hb, hml, hown, hw⟩ (c_X5_requireWithin1 l D sa _ p0 0 9999 hy0) (va_cwS 3 hw (zg3 zm_414 zm_415 zm_45 zm_416) rfl rfl rfl (by decide +kernel) ⟨Nat.le_of_ble_eq_true rfl, Nat.le_of_ble_eq_true rfl⟩) ⟨zJ_blind, zJ_pre hPc hK hT⟩ rfl rfl hl.1 rfl (lv_room (Nat.le_of_ble_eq_true rfl)) dX5_setRuling_5 ⟨Nat.le_of_ble_eq_true rfl, Nat.le_of_ble_eq_true rfl⟩) hS zN_in (zN_fr hS hA) (fun u t H locs ht hvm hw1 hB hz1 hk1 hS => ?_)
  have hP := zN_keep hP hk1
  refine lv_aload_n hx hb dX5_setRuling_8 rfl (lv_at hl 0 rfl) ?_
  refine va_get (D := D) (ci := 10) (v := .int 100) (C := RX5) (T := TX5) (N := 9) hx hb hw zi_RX5 hown hK hP 0 rfl rfl 6 (by decide) (hw _ zm_188) (fun _ h9 => h9) rfl dX5_setRuling_9 ?_
  refine lv_istore_n (lv' := [(2, .int 100), (0, .ref (ad 0)), (1, .int p0)]) hx hb dX5_setRuling_12 rfl hl (by decide) rfl (fun ls hl => ?_)
  refine lv_aload_n hx hb dX5_setRuling_13 rfl (lv_at hl 1 rfl) ?_
  refine lv_iload_n hx hb dX5_setRuling_14 rfl (lv_at hl 2 rfl) ?_
  refine va_put (D := D) (ci := 10) (v := .int p0) (ty := .int) (C := RX5) (T := TX5) (N := 9) hx hb hw zi_RX5 tyX5 tyX5_ok nmX5 hown hK hP hD hS 0 rfl rfl 6 (by decide) (hw _ zm_188) (fun _ h9 => h9) rfl (by decide +kernel) rfl rfl (Nat.le_of_ble_eq_true rfl) dX5_setRuling_15 (fun H locs hP hD hS => ?_)
  have hP : va_P D vwCl [((ad 0), .inr (10, [.ref (ad 1), .ref (ad 2), .ref (ad 3), .ref (ad 4), .ref (ad 5), .int (-1), .int p0, .int 0, .int 0])), ((ad 1), .inr (7, [.ref (ad 6), .ref (ad 7), .ref (ad 8), .int 0])), ((ad 2), .inr (8, [.ref (ad 9), .ref (ad 10), .int 0])), ((ad 3), .inr (4, [.int 0, .ref (ad 14), .int 0])), ((ad 4), .inr (4, [.int 0, .ref (ad 14), .int 0])), ((ad 5), .inr (6, [.ref (ad 11), .ref (ad 12), .ref (ad 13), .int 0, .int 0]))] H := hP
  have hD : va_D A [((ad 0), .inr (10, [.ref (ad 1), .ref (ad 2), .ref (ad 3), .ref (ad 4), .ref (ad 5), .int (-1), .int p0, .int 0, .int 0])), ((ad 1), .inr (7, [.ref (ad 6), .ref (ad 7), .ref (ad 8), .int 0])), ((ad 2), .inr (8, [.ref (ad 9), .ref (ad 10), .int 0])), ((ad 3), .inr (4, [.int 0, .ref (ad 14), .int 0])), ((ad 4), .inr (4, [.int 0, .ref (ad 14), .int 0])), ((ad 5), .inr (6, [.ref (ad 11), .ref (ad 12), .ref (ad 13), .int 0, .int 0]))] := hD
  refine lv_iload_n hx hb dX5_setRuling_18 rfl (lv_at hl 0 rfl) ?_
  have hP9 := hP.sub (ws' := []) [] rfl
  have hD9 := hD.sub (ws' := []) [] (by decide) rfl
  refine W.widen (k := 0) (n := 0) (Nat.le_of_ble_eq_true rfl) (Nat.le_of_ble_eq_true rfl) ?_
  exact W.iret (v := 100) hx hb hr (fun t ht hW => ⟨⟨100, (), rfl, rfl, by rw [ht]; exact hP9, hD9⟩, hS.F ht⟩) hS.2.2 dX5_setRuling_19
theorem dL_setRuling_7 : decode cL_setRuling 7 = .ok (.i2l, 1) := by decide +kernel
theorem dL_setRuling_8 : decode cL_setRuling 8 = .ok (.lastore, 1) := by decide +kernel
theorem dL_setRuling_9 : decode cL_setRuling 9 = .ok (.goto 6, 3) := by decide +kernel
theorem dL_setRuling_15 : decode cL_setRuling 15 = .ok (.iconst 0, 1) := by decide +kernel
theorem dL_setRuling_16 : decode cL_setRuling 16 = .ok (.ireturn, 1) := by decide +kernel
set_option maxHeartbeats 4000000 in
set_option maxRecDepth 100000 in
theorem c_L_setRuling1 (l : Launch) (D : va_G) (sa : Nat → Nat) (ea : Nat) (ad : Nat → Nat) (oa : Nat) (cO : ClassId) (sz : Nat) (p0 : Int32) (hy0 : z_in p0 0 9999 = 1) : vx_Met l yL_setRuling ((Cond.codeWith yL_setRuling method_25_code 4 (Option.some FieldType.int) [(0, 9, 12, 13)]) :: WA) ({ frames := 3, cells := 0, slots := 0, locals := 66 }) (zW D sa ea [(cO, .long)] [((ad 0), .inr (10, [.ref (ad 1), .ref (ad 2), .ref (ad 3), .ref (ad 4), .ref (ad 5), .int (-1), .int 100, .int 0, .int 0])), ((ad 1), .inr (7, [.ref (ad 6), .ref (ad 7), .ref (ad 8), .int 0])), ((ad 2), .inr (8, [.ref (ad 9), .ref (ad 10), .int 0])), ((ad 3), .inr (4, [.int 0, .ref (ad 14), .int 0])), ((ad 4), .inr (4, [.int 0, .ref (ad 14), .int 0])), ((ad 5), .inr (6, [.ref (ad 11), .ref (ad 12), .ref (ad 13), .int 0, .int 0])), (oa, .inl (cO, 1, .inr (.inl (fun _ => 0))))] [.ref (ad 0), .int p0, .ref oa] sz) (va_Qi (fun (r : Int32) (_ : Unit) => r = 0) (fun _ t => va_P D vwCl [(oa, .inl (cO, 1, .inr (.inl (vp_updL (fun _ => 0) (Int32.toNatClampNeg 0) 100))))] t.heap ∧ va_D (va_A [((ad 0), .inr (10, [.ref (ad 1), .ref (ad 2), .ref (ad 3), .ref (ad 4), .ref (ad 5), .int (-1), .int 100, .int 0, .int 0])), ((ad 1), .inr (7, [.ref (ad 6), .ref (ad 7), .ref (ad 8), .int 0])), ((ad 2), .inr (8, [.ref (ad 9), .ref (ad 10), .int 0])), ((ad 3), .inr (4, [.int 0, .ref (ad 14), .int 0])), ((ad 4), .inr (4, [.int 0, .ref (ad 14), .int 0])), ((ad 5), .inr (6, [.ref (ad 11), .ref (ad 12), .ref (ad 13), .int 0, .int 0])), (oa, .inl (cO, 1, .inr (.inl (fun _ => 0))))] sz) [(oa, .inl (cO, 1, .inr (.inl (vp_updL (fun _ => 0) (Int32.toNatClampNeg 0) 100))))]) (va_A [((ad 0), .inr (10, [.ref (ad 1), .ref (ad 2), .ref (ad 3), .ref (ad 4), .ref (ad 5), .int (-1), .int 100, .int 0, .int 0])), ((ad 1), .inr (7, [.ref (ad 6), .ref (ad 7), .ref (ad 8), .int 0])), ((ad 2), .inr (8, [.ref (ad 9), .ref (ad 10), .int 0])), ((ad 3), .inr (4, [.int 0, .ref (ad 14), .int 0])), ((ad 4), .inr (4, [.int 0, .ref (ad 14), .int 0])), ((ad 5), .inr (6, [.ref (ad 11), .ref (ad 12), .ref (ad 13), .int 0, .int 0])), (oa, .inl (cO, 1, .inr (.inl (fun _ => 0))))] sz)) (zX0 sz) 0 0 (va_A [((ad 0), .inr (10, [.ref (ad 1), .ref (ad 2), .ref (ad 3), .ref (ad 4), .ref (ad 5), .int (-1), .int 100, .int 0, .int 0])), ((ad 1), .inr (7, [.ref (ad 6), .ref (ad 7), .ref (ad 8), .int 0])), ((ad 2), .inr (8, [.ref (ad 9), .ref (ad 10), .int 0])), ((ad 3), .inr (4, [.int 0, .ref (ad 14), .int 0])), ((ad 4), .inr (4, [.int 0, .ref (ad 14), .int 0])), ((ad 5), .inr (6, [.ref (ad 11), .ref (ad 12), .ref (ad 13), .int 0, .int 0])), (oa, .inl (cO, 1, .inr (.inl (fun _ => 0))))] sz) := by
  refine vx_ofWH (cc := method_25_code) (maxL := 4) (ret := (Option.some FieldType.int)) (hh := [(0, 9, 12, 13)]) (by decide) rfl ?_
  intro p e s m args below meth c s₁ B hml hv
  obtain ⟨rfl, hsz, hP, hK, hD0, hT, hE⟩ := hv
  have hx := B.exec
  have hb := B.bytes
  have hr := B.returns
  have hts := atoms_spec (ws := (Cond.codeWith yL_setRuling method_25_code 4 (Option.some FieldType.int) [(0, 9, 12, 13)]) :: WA) B.pre
  have hw : ∀ w ∈ WA, w.before _ s = true := fun w h => hts w (List.mem_cons_of_mem _ h)
  have htab := vx_table (x := yL_setRuling) B (hts _ List.mem_cons_self)
  have hown : s.vm.findClass RL = some m.cls := findClass_of_methodNamed B.named
  have hlocks := B.notSynchronized
  subst hsz
  have hD := hD0.self (sz := s.heap.size)
  generalize hAe : va_A [((ad 0), .inr (10, [.ref (ad 1), .ref (ad 2), .ref (ad 3), .ref (ad 4), .ref (ad 5), .int (-1), .int 100, .int 0, .int 0])), ((ad 1), .inr (7, [.ref (ad 6), .ref (ad 7), .ref (ad 8), .int 0])), ((ad 2), .inr (8, [.ref (ad 9), .ref (ad 10), .int 0])), ((ad 3), .inr (4, [.int 0, .ref (ad 14), .int 0])), ((ad 4), .inr (4, [.int 0, .ref (ad 14), .int 0])), ((ad 5), .inr (6, [.ref (ad 11), .ref (ad 12), .ref (ad 13), .int 0, .int 0])), (oa, .inl (cO, 1, .inr (.inl (fun _ => 0))))] s.heap.size = A at hD hE ⊢
  have hA : ∀ q : Nat, s.heap.size ≤ q → A q := fun q h => by rw [← hAe]; exact Or.inr h
  have hS : va_S A s.heap s.heap [] := va_S.rf
  have hP : va_P D vwCl [((ad 0), .inr (10, [.ref (ad 1), .ref (ad 2), .ref (ad 3), .ref (ad 4), .ref (ad 5), .int (-1), .int 100, .int 0, .int 0])), ((ad 1), .inr (7, [.ref (ad 6), .ref (ad 7), .ref (ad 8), .int 0])), ((ad 2), .inr (8, [.ref (ad 9), .ref (ad 10), .int 0])), ((ad 3), .inr (4, [.int 0, .ref (ad 14), .int 0])), ((ad 4), .inr (4, [.int 0, .ref (ad 14), .int 0])), ((ad 5), .inr (6, [.ref (ad 11), .ref (ad 12), .ref (ad 13), .int 0, .int 0])), (oa, .inl (cO, 1, .inr (.inl (fun _ => 0))))] s.heap := hP
  have hD : va_D A [((ad 0), .inr (10, [.ref (ad 1), .ref (ad 2), .ref (ad 3), .ref (ad 4), .ref (ad 5), .int (-1), .int 100, .int 0, .int 0])), ((ad 1), .inr (7, [.ref (ad 6), .ref (ad 7), .ref (ad 8), .int 0])), ((ad 2), .inr (8, [.ref (ad 9), .ref (ad 10), .int 0])), ((ad 3), .inr (4, [.int 0, .ref (ad 14), .int 0])), ((ad 4), .inr (4, [.int 0, .ref (ad 14), .int 0])), ((ad 5), .inr (6, [.ref (ad 11), .ref (ad 12), .ref (ad 13), .int 0, .int 0])), (oa, .inl (cO, 1, .inr (.inl (fun _ => 0))))] := hD
  have hl := lv_entry [.ref (ad 0), .int p0, .ref oa] (n := 4) (Nat.le_of_ble_eq_true rfl)
  rw [lg_entry_eq]
  generalize (lg_sl [.ref (ad 0), .int p0, .ref oa] ++ List.replicate (4 - (lg_sl [.ref (ad 0), .int p0, .ref oa]).length) Slot.unset).toArray = ls at hl ⊢
  have hl : lv_has ls 4 [(0, .ref (ad 0)), (1, .int p0), (2, .ref oa)] := hl
  refine lv_aload_n hx hb dL_setRuling_0 rfl (lv_at hl 2 rfl) ?_
  refine lv_iconst (v := 0) hx hb dL_setRuling_1 (by decide) ?_
  refine lv_aload_n hx hb dL_setRuling_2 rfl (lv_at hl 0 rfl) ?_
  refine lv_iload_n hx hb dL_setRuling_3 rfl (lv_at hl 1 rfl) ?_
  have hPc := hP.sub (ws' := [((ad 0), .inr (10, [.ref (ad 1), .ref (ad 2), .ref (ad 3), .ref (ad 4), .ref (ad 5), .int (-1), .int 100, .int 0, .int 0])), ((ad 1), .inr (7, [.ref (ad 6), .ref (ad 7), .ref (ad 8), .int 0])), ((ad 2), .inr (8, [.ref (ad 9), .ref (ad 10), .int 0])), ((ad 3), .inr (4, [.int 0, .ref (ad 14), .int 0])), ((ad 4), .inr (4, [.int 0, .ref (ad 14), .int 0])), ((ad 5), .inr (6, [.ref (ad 11), .ref (ad 12), .ref (ad 13), .int 0, .int 0]))]) [0, 1, 2, 3, 4, 5] rfl
  have hDc := hD.sub (ws' := [((ad 0), .inr (10, [.ref (ad 1), .ref (ad 2), .ref (ad 3), .ref (ad 4), .ref (ad 5), .int (-1), .int 100, .int 0, .int 0])), ((ad 1), .inr (7, [.ref (ad 6), .ref (ad 7), .ref (ad 8), .int 0])), ((ad 2), .inr (8, [.ref (ad 9), .ref (ad 10), .int 0])), ((ad 3), .inr (4, [.int 0, .ref (ad 14), .int 0])), ((ad 4), .inr (4, [.int 0, .ref (ad 14), .int 0])), ((ad 5), .inr (6, [.ref (ad 11), .ref (ad 12), .ref (ad 13), .int 0, .int 0]))]) [0, 1, 2, 3, 4, 5] (by decide) rfl
  have hFc := va_free (wc := [((ad 0), .inr (10, [.ref (ad 1), .ref (ad 2), .ref (ad 3), .ref (ad 4), .ref (ad 5), .int (-1), .int 100, .int 0, .int 0])), ((ad 1), .inr (7, [.ref (ad 6), .ref (ad 7), .ref (ad 8), .int 0])), ((ad 2), .inr (8, [.ref (ad 9), .ref (ad 10), .int 0])), ((ad 3), .inr (4, [.int 0, .ref (ad 14), .int 0])), ((ad 4), .inr (4, [.int 0, .ref (ad 14), .int 0])), ((ad 5), .inr (6, [.ref (ad 11), .ref (ad 12), .ref (ad 13), .int 0, .int 0]))]) hD hS hA [0, 1, 2, 3, 4, 5] rfl
  refine va_calli (va_runV (As := [.int p0]) (rest := [.int 0, .ref oa]) ⟨hx, hb, hml, hown, hw⟩ (c_X5_setRuling1 l D sa ea ad _ p0 hy0) (cwV 1 hw (zg4 zm_959 zm_960 zm_961 zm_45 zm_962) rfl rfl rfl (by decide +kernel) ⟨Nat.le_of_ble_eq_true rfl, Nat.le_of_ble_eq_true rfl⟩) ⟨zW_blind, va_recv hK hPc (ci := 10) (q0 := 0) rfl rfl, zW_pre hPc (hK.sub (tys' := []) [] rfl) hDc hT hE hS hFc⟩ rfl rfl hl.1 rfl (lv_room (Nat.le_of_ble_eq_true rfl)) dL_setRuling_4 ⟨Nat.le_of_ble_eq_true rfl, Nat.le_of_ble_eq_true rfl⟩) hS (fun q _ h => hFc q h) hFc (fun r_1 u t H locs ht hvm hw1 hB hz1 hk1 hS => ?_)
  subst hw1
  obtain ⟨hP1, hD1⟩ := hB
  rw [ht] at hP1
  obtain ⟨hP, hD⟩ := va_join (wr := [(oa, .inl (cO, 1, .inr (.inl (fun _ => 0))))]) (w1 := []) hP hD [0, 1, 2, 3, 4, 5] [6] rfl rfl (by decide) (by decide) hk1 hFc hP1 hD1
  have hP : va_P D vwCl [(oa, .inl (cO, 1, .inr (.inl (fun _ => 0))))] H := hP
  have hD : va_D A [(oa, .inl (cO, 1, .inr (.inl (fun _ => 0))))] := hD
  have hK : va_K D vwCl [(cO, .long)] s := hK
  refine lv_i2l (v := 100) hx hb dL_setRuling_7 (by decide) ?_
  refine va_last hx hb hK hP hD hS 0 0 rfl rfl (by unfold vp_in; decide) dL_setRuling_8 (fun H locs hP hD hS => ?_)
  have hP : va_P D vwCl [(oa, .inl (cO, 1, .inr (.inl (vp_updL (fun _ => 0) (Int32.toNatClampNeg 0) 100))))] H := hP
  have hD : va_D A [(oa, .inl (cO, 1, .inr (.inl (vp_updL (fun _ => 0) (Int32.toNatClampNeg 0) 100))))] := hD
  have hK : va_K D vwCl [(cO, .long)] s := hK
  refine lv_goto (tgt := 15) hx hb dL_setRuling_9 (by decide) ?_
  refine lv_iconst (v := 0) hx hb dL_setRuling_15 (by decide) ?_
  refine vx_ret ?_
  have hP9 := hP.sub (ws' := [(oa, .inl (cO, 1, .inr (.inl (vp_updL (fun _ => 0) (Int32.toNatClampNeg 0) 100))))]) [0] rfl
  have hD9 := hD.sub (ws' := [(oa, .inl (cO, 1, .inr (.inl (vp_updL (fun _ => 0) (Int32.toNatClampNeg 0) 100))))]) [0] (by decide) rfl
  refine W.widen (k := 0) (n := 0) (Nat.le_of_ble_eq_true rfl) (Nat.le_of_ble_eq_true rfl) ?_
  exact W.iret (v := 0) hx hb hr (fun t ht hW => ⟨⟨0, (), rfl, rfl, by rw [ht]; exact hP9, hD9⟩, hS.F ht⟩) hS.2.2 dL_setRuling_16
theorem dX9_setRuling_0 : decode cX9_setRuling 0 = .ok (.aload_n 0, 1) := by decide +kernel
theorem dX9_setRuling_1 : decode cX9_setRuling 1 = .ok (.iload_n 1, 1) := by decide +kernel
theorem dX9_setRuling_2 : decode cX9_setRuling 2 = .ok (.iconst 0, 1) := by decide +kernel
theorem dX9_setRuling_3 : decode cX9_setRuling 3 = .ok (.sipush 9999, 3) := by decide +kernel
theorem dX9_setRuling_6 : decode cX9_setRuling 6 = .ok (.invokestatic 47, 3) := by decide +kernel
theorem dX9_setRuling_9 : decode cX9_setRuling 9 = .ok (.iconst 1, 1) := by decide +kernel
theorem dX9_setRuling_10 : decode cX9_setRuling 10 = .ok (.invokevirtual 51, 3) := by decide +kernel
theorem dX9_setRuling_13 : decode cX9_setRuling 13 = .ok (.ifCond .eq 5, 3) := by decide +kernel
theorem dX9_setRuling_16 : decode cX9_setRuling 16 = .ok (.iconst 0, 1) := by decide +kernel
theorem dX9_setRuling_17 : decode cX9_setRuling 17 = .ok (.ireturn, 1) := by decide +kernel
set_option maxHeartbeats 4000000 in
set_option maxRecDepth 100000 in
theorem c_X9_setRuling0 (l : Launch) (D : va_G) (sa : Nat → Nat) (ea : Nat) (bd : Nat → Nat) (th : Int32) (sz : Nat) (p0 : Int32) (hy0 : z_in p0 0 9999 = 0) : Met l yX9_setRuling ((Cond.code yX9_setRuling prog_8_method_36_code 3 (Option.some FieldType.int)) :: WA) ({ frames := 1, cells := 0, slots := 0, locals := 22 }) (zW D sa ea [] (zM bd th) [.ref (bd 0), .int p0] sz) (va_Qi (fun (r : Int32) (_ : Unit) => r = 0) (fun _ t => va_P D vwCl [((bd 0), .inr (14, [.ref (bd 1), .ref (bd 2), .ref (bd 3), .ref (bd 4), .ref (bd 5), .ref (bd 6), .int 100, .int (-1), .int 0, .int 1])), ((bd 1), .inr (4, [.int 0, .ref (bd 7), .int 0])), ((bd 2), .inr (4, [.int 0, .ref (bd 7), .int 0])), ((bd 3), .inr (4, [.int 0, .ref (bd 7), .int 0])), ((bd 4), .inr (4, [.int 0, .ref (bd 7), .int 0])), ((bd 5), .inr (4, [.int 0, .ref (bd 7), .int 0])), ((bd 6), .inr (4, [.int 0, .ref (bd 7), .int 0]))] t.heap ∧ va_D (va_A (zM bd th) sz) [((bd 0), .inr (14, [.ref (bd 1), .ref (bd 2), .ref (bd 3), .ref (bd 4), .ref (bd 5), .ref (bd 6), .int 100, .int (-1), .int 0, .int 1])), ((bd 1), .inr (4, [.int 0, .ref (bd 7), .int 0])), ((bd 2), .inr (4, [.int 0, .ref (bd 7), .int 0])), ((bd 3), .inr (4, [.int 0, .ref (bd 7), .int 0])), ((bd 4), .inr (4, [.int 0, .ref (bd 7), .int 0])), ((bd 5), .inr (4, [.int 0, .ref (bd 7), .int 0])), ((bd 6), .inr (4, [.int 0, .ref (bd 7), .int 0]))]) (va_A (zM bd th) sz)) 0 0 (va_A (zM bd th) sz) := by
  refine Met.ofW (cc := prog_8_method_36_code) (maxL := 3) (ret := (Option.some FieldType.int)) (by decide) rfl ?_
  intro p e s m args below meth c s₁ B hml hv
  obtain ⟨rfl, hsz, hP, hK, hD0, hT, hE⟩ := hv
  have hx := B.exec
  have hb := B.bytes
  have hr := B.returns
  have hts := atoms_spec (ws := (Cond.code yX9_setRuling prog_8_method_36_code 3 (Option.some FieldType.int)) :: WA) B.pre
  have hw : ∀ w ∈ WA, w.before _ s = true := fun w h => hts w (List.mem_cons_of_mem _ h)
  have hown : s.vm.findClass RX9 = some m.cls := findClass_of_methodNamed B.named
  have hlocks := B.notSynchronized
  subst hsz
  have hD := hD0.self (sz := s.heap.size)
  generalize hAe : va_A (zM bd th) s.heap.size = A at hD hE ⊢
  have hA : ∀ q : Nat, s.heap.size ≤ q → A q := fun q h => by rw [← hAe]; exact Or.inr h
  have hS : va_S A s.heap s.heap [] := va_S.rf
  have hP : va_P D vwCl [((bd 0), .inr (14, [.ref (bd 1), .ref (bd 2), .ref (bd 3), .ref (bd 4), .ref (bd 5), .ref (bd 6), .int 100, .int (-1), .int 0, .int th])), ((bd 1), .inr (4, [.int 0, .ref (bd 7), .int 0])), ((bd 2), .inr (4, [.int 0, .ref (bd 7), .int 0])), ((bd 3), .inr (4, [.int 0, .ref (bd 7), .int 0])), ((bd 4), .inr (4, [.int 0, .ref (bd 7), .int 0])), ((bd 5), .inr (4, [.int 0, .ref (bd 7), .int 0])), ((bd 6), .inr (4, [.int 0, .ref (bd 7), .int 0]))] s.heap := hP
  have hD : va_D A [((bd 0), .inr (14, [.ref (bd 1), .ref (bd 2), .ref (bd 3), .ref (bd 4), .ref (bd 5), .ref (bd 6), .int 100, .int (-1), .int 0, .int th])), ((bd 1), .inr (4, [.int 0, .ref (bd 7), .int 0])), ((bd 2), .inr (4, [.int 0, .ref (bd 7), .int 0])), ((bd 3), .inr (4, [.int 0, .ref (bd 7), .int 0])), ((bd 4), .inr (4, [.int 0, .ref (bd 7), .int 0])), ((bd 5), .inr (4, [.int 0, .ref (bd 7), .int 0])), ((bd 6), .inr (4, [.int 0, .ref (bd 7), .int 0]))] := hD
  have hl := lv_entry [.ref (bd 0), .int p0] (n := 3) (Nat.le_of_ble_eq_true rfl)
  rw [lg_entry_eq]
  generalize (lg_sl [.ref (bd 0), .int p0] ++ List.replicate (3 - (lg_sl [.ref (bd 0), .int p0]).length) Slot.unset).toArray = ls at hl ⊢
  have hl : lv_has ls 3 [(0, .ref (bd 0)), (1, .int p0)] := hl
  refine lv_aload_n hx hb dX9_setRuling_0 rfl (lv_at hl 0 rfl) ?_
  refine lv_iload_n hx hb dX9_setRuling_1 rfl (lv_at hl 1 rfl) ?_
  refine lv_iconst (v := 0) hx hb dX9_setRuling_2 (by decide) ?_
  refine lv_sipush (v := 9999) hx hb dX9_setRuling_3 (by decide) ?_
  have hPc := hP.sub (ws' := []) [] rfl
  refine va_calli (va_runS (As := [.int p0, .int 0, .int 9999]) (rest := [.ref (bd 0)]) ⟨hx, hb, hml, hown, hw⟩ (c_X9_isIn l D sa _ p0 0 9999) (va_cwS 3 hw (zg3 zm_1311 zm_1312 zm_53 zm_1313) rfl rfl rfl (by decide +kernel) ⟨Nat.le_of_ble_eq_true rfl, Nat.le_of_ble_eq_true rfl⟩) ⟨zJ_blind, zJ_pre hPc hK hT⟩ rfl rfl hl.1 rfl (lv_room (Nat.le_of_ble_eq_true rfl)) dX9_setRuling_6 ⟨Nat.le_of_ble_eq_true rfl, Nat.le_of_ble_eq_true rfl⟩) hS zN_in (zN_fr hS hA) (fun r_1 u t H locs ht hvm hw1 hB hz1 hk1 hS => ?_)
  have hP := zN_keep hP hk1
  rw [hy0] at hw1
  subst hw1
  refine lv_iconst (v := 1) hx hb dX9_setRuling_9 (by decide) ?_
  have hFc := va_free (wc := [((bd 0), .inr (14, [.ref (bd 1), .ref (bd 2), .ref (bd 3), .ref (bd 4), .ref (bd 5), .ref (bd 6), .int 100, .int (-1), .int 0, .int th])), ((bd 1), .inr (4, [.int 0, .ref (bd 7), .int 0])), ((bd 2), .inr (4, [.int 0, .ref (bd 7), .int 0])), ((bd 3), .inr (4, [.int 0, .ref (bd 7), .int 0])), ((bd 4), .inr (4, [.int 0, .ref (bd 7), .int 0])), ((bd 5), .inr (4, [.int 0, .ref (bd 7), .int 0])), ((bd 6), .inr (4, [.int 0, .ref (bd 7), .int 0]))]) hD hS hA [0, 1, 2, 3, 4, 5, 6] rfl
  refine va_calli (va_runV (As := [.int 0, .int 1]) (rest := []) ⟨hx, hb, hml, hown, hw⟩ (c_X9_no0 l D sa ea bd th _ 1) (cwV 2 hw (zg4 zm_1314 zm_1316 zm_26 zm_53 zm_1317) rfl rfl rfl (by decide +kernel) ⟨Nat.le_of_ble_eq_true rfl, Nat.le_of_ble_eq_true rfl⟩) ⟨zW_blind, va_recv hK hP (ci := 14) (q0 := 0) rfl rfl, zW_pre hP hK hD hT hE hS hFc⟩ rfl rfl hl.1 rfl (lv_room (Nat.le_of_ble_eq_true rfl)) dX9_setRuling_10 ⟨Nat.le_of_ble_eq_true rfl, Nat.le_of_ble_eq_true rfl⟩) hS (fun q _ h => hFc q h) hFc (fun r_2 u t H locs ht hvm hw1 hB hz1 hk1 hS => ?_)
  subst hw1
  obtain ⟨hP1, hD1⟩ := hB
  rw [ht] at hP1
  obtain ⟨hP, hD⟩ := va_join (wr := []) (w1 := [((bd 0), .inr (14, [.ref (bd 1), .ref (bd 2), .ref (bd 3), .ref (bd 4), .ref (bd 5), .ref (bd 6), .int 100, .int (-1), .int 0, .int 1])), ((bd 1), .inr (4, [.int 0, .ref (bd 7), .int 0])), ((bd 2), .inr (4, [.int 0, .ref (bd 7), .int 0])), ((bd 3), .inr (4, [.int 0, .ref (bd 7), .int 0])), ((bd 4), .inr (4, [.int 0, .ref (bd 7), .int 0])), ((bd 5), .inr (4, [.int 0, .ref (bd 7), .int 0])), ((bd 6), .inr (4, [.int 0, .ref (bd 7), .int 0]))]) hP hD [0, 1, 2, 3, 4, 5, 6] [] rfl rfl (by decide) (by decide) hk1 hFc hP1 hD1
  have hP : va_P D vwCl [((bd 0), .inr (14, [.ref (bd 1), .ref (bd 2), .ref (bd 3), .ref (bd 4), .ref (bd 5), .ref (bd 6), .int 100, .int (-1), .int 0, .int 1])), ((bd 1), .inr (4, [.int 0, .ref (bd 7), .int 0])), ((bd 2), .inr (4, [.int 0, .ref (bd 7), .int 0])), ((bd 3), .inr (4, [.int 0, .ref (bd 7), .int 0])), ((bd 4), .inr (4, [.int 0, .ref (bd 7), .int 0])), ((bd 5), .inr (4, [.int 0, .ref (bd 7), .int 0])), ((bd 6), .inr (4, [.int 0, .ref (bd 7), .int 0]))] H := hP
  have hD : va_D A [((bd 0), .inr (14, [.ref (bd 1), .ref (bd 2), .ref (bd 3), .ref (bd 4), .ref (bd 5), .ref (bd 6), .int 100, .int (-1), .int 0, .int 1])), ((bd 1), .inr (4, [.int 0, .ref (bd 7), .int 0])), ((bd 2), .inr (4, [.int 0, .ref (bd 7), .int 0])), ((bd 3), .inr (4, [.int 0, .ref (bd 7), .int 0])), ((bd 4), .inr (4, [.int 0, .ref (bd 7), .int 0])), ((bd 5), .inr (4, [.int 0, .ref (bd 7), .int 0])), ((bd 6), .inr (4, [.int 0, .ref (bd 7), .int 0]))] := hD
  refine lv_if_eq (tgt := 18) hx hb dX9_setRuling_13 (by decide) (fun c_3 => absurd c_3 (by decide)) (fun _ => ?_)
  refine lv_iconst (v := 0) hx hb dX9_setRuling_16 (by decide) ?_
  have hP9 := hP.sub (ws' := [((bd 0), .inr (14, [.ref (bd 1), .ref (bd 2), .ref (bd 3), .ref (bd 4), .ref (bd 5), .ref (bd 6), .int 100, .int (-1), .int 0, .int 1])), ((bd 1), .inr (4, [.int 0, .ref (bd 7), .int 0])), ((bd 2), .inr (4, [.int 0, .ref (bd 7), .int 0])), ((bd 3), .inr (4, [.int 0, .ref (bd 7), .int 0])), ((bd 4), .inr (4, [.int 0, .ref (bd 7), .int 0])), ((bd 5), .inr (4, [.int 0, .ref (bd 7), .int 0])), ((bd 6), .inr (4, [.int 0, .ref (bd 7), .int 0]))]) [0, 1, 2, 3, 4, 5, 6] rfl
  have hD9 := hD.sub (ws' := [((bd 0), .inr (14, [.ref (bd 1), .ref (bd 2), .ref (bd 3), .ref (bd 4), .ref (bd 5), .ref (bd 6), .int 100, .int (-1), .int 0, .int 1])), ((bd 1), .inr (4, [.int 0, .ref (bd 7), .int 0])), ((bd 2), .inr (4, [.int 0, .ref (bd 7), .int 0])), ((bd 3), .inr (4, [.int 0, .ref (bd 7), .int 0])), ((bd 4), .inr (4, [.int 0, .ref (bd 7), .int 0])), ((bd 5), .inr (4, [.int 0, .ref (bd 7), .int 0])), ((bd 6), .inr (4, [.int 0, .ref (bd 7), .int 0]))]) [0, 1, 2, 3, 4, 5, 6] (by decide) rfl
  refine W.widen (k := 0) (n := 0) (Nat.le_of_ble_eq_true rfl) (Nat.le_of_ble_eq_true rfl) ?_
  exact W.iret (v := 0) hx hb hr (fun t ht hW => ⟨⟨0, (), rfl, rfl, by rw [ht]; exact hP9, hD9⟩, hS.F ht⟩) hS.2.2 dX9_setRuling_17
theorem dX9_setRuling_18 : decode cX9_setRuling 18 = .ok (.aload_n 0, 1) := by decide +kernel
theorem dX9_setRuling_19 : decode cX9_setRuling 19 = .ok (.getfield 31, 3) := by decide +kernel
theorem zm_1278 : Cond.fieldLink RX9 31 RX9 "ruling" "I" ∈ WA := zmm (i := 1278) (by decide +kernel) (by decide +kernel)
theorem dX9_setRuling_22 : decode cX9_setRuling 22 = .ok (.istore_n 2, 1) := by decide +kernel
theorem dX9_setRuling_23 : decode cX9_setRuling 23 = .ok (.aload_n 0, 1) := by decide +kernel
theorem dX9_setRuling_24 : decode cX9_setRuling 24 = .ok (.iload_n 1, 1) := by decide +kernel
theorem dX9_setRuling_25 : decode cX9_setRuling 25 = .ok (.putfield 31, 3) := by decide +kernel
theorem dX9_setRuling_28 : decode cX9_setRuling 28 = .ok (.iload_n 2, 1) := by decide +kernel
theorem dX9_setRuling_29 : decode cX9_setRuling 29 = .ok (.ireturn, 1) := by decide +kernel
set_option maxHeartbeats 4000000 in
set_option maxRecDepth 100000 in
theorem c_X9_setRuling1 (l : Launch) (D : va_G) (sa : Nat → Nat) (ea : Nat) (bd : Nat → Nat) (th : Int32) (sz : Nat) (p0 : Int32) (hy0 : z_in p0 0 9999 = 1) : Met l yX9_setRuling ((Cond.code yX9_setRuling prog_8_method_36_code 3 (Option.some FieldType.int)) :: WA) ({ frames := 1, cells := 0, slots := 0, locals := 22 }) (zW D sa ea [] (zM bd th) [.ref (bd 0), .int p0] sz) (va_Qi (fun (r : Int32) (_ : Unit) => r = 100) (fun _ t => va_P D vwCl [((bd 0), .inr (14, [.ref (bd 1), .ref (bd 2), .ref (bd 3), .ref (bd 4), .ref (bd 5), .ref (bd 6), .int p0, .int (-1), .int 0, .int 0]))] t.heap ∧ va_D (va_A (zM bd th) sz) [((bd 0), .inr (14, [.ref (bd 1), .ref (bd 2), .ref (bd 3), .ref (bd 4), .ref (bd 5), .ref (bd 6), .int p0, .int (-1), .int 0, .int 0]))]) (va_A (zM bd th) sz)) 0 0 (va_A (zM bd th) sz) := by
  refine Met.ofW (cc := prog_8_method_36_code) (maxL := 3) (ret := (Option.some FieldType.int)) (by decide) rfl ?_
  intro p e s m args below meth c s₁ B hml hv
  obtain ⟨rfl, hsz, hP, hK, hD0, hT, hE⟩ := hv
  have hx := B.exec
  have hb := B.bytes
  have hr := B.returns
  have hts := atoms_spec (ws := (Cond.code yX9_setRuling prog_8_method_36_code 3 (Option.some FieldType.int)) :: WA) B.pre
  have hw : ∀ w ∈ WA, w.before _ s = true := fun w h => hts w (List.mem_cons_of_mem _ h)
  have hown : s.vm.findClass RX9 = some m.cls := findClass_of_methodNamed B.named
  have hlocks := B.notSynchronized
  subst hsz
  have hD := hD0.self (sz := s.heap.size)
  generalize hAe : va_A (zM bd th) s.heap.size = A at hD hE ⊢
  have hA : ∀ q : Nat, s.heap.size ≤ q → A q := fun q h => by rw [← hAe]; exact Or.inr h
  have hS : va_S A s.heap s.heap [] := va_S.rf
  have hP : va_P D vwCl [((bd 0), .inr (14, [.ref (bd 1), .ref (bd 2), .ref (bd 3), .ref (bd 4), .ref (bd 5), .ref (bd 6), .int 100, .int (-1), .int 0, .int th])), ((bd 1), .inr (4, [.int 0, .ref (bd 7), .int 0])), ((bd 2), .inr (4, [.int 0, .ref (bd 7), .int 0])), ((bd 3), .inr (4, [.int 0, .ref (bd 7), .int 0])), ((bd 4), .inr (4, [.int 0, .ref (bd 7), .int 0])), ((bd 5), .inr (4, [.int 0, .ref (bd 7), .int 0])), ((bd 6), .inr (4, [.int 0, .ref (bd 7), .int 0]))] s.heap := hP
  have hD : va_D A [((bd 0), .inr (14, [.ref (bd 1), .ref (bd 2), .ref (bd 3), .ref (bd 4), .ref (bd 5), .ref (bd 6), .int 100, .int (-1), .int 0, .int th])), ((bd 1), .inr (4, [.int 0, .ref (bd 7), .int 0])), ((bd 2), .inr (4, [.int 0, .ref (bd 7), .int 0])), ((bd 3), .inr (4, [.int 0, .ref (bd 7), .int 0])), ((bd 4), .inr (4, [.int 0, .ref (bd 7), .int 0])), ((bd 5), .inr (4, [.int 0, .ref (bd 7), .int 0])), ((bd 6), .inr (4, [.int 0, .ref (bd 7), .int 0]))] := hD
  have hl := lv_entry [.ref (bd 0), .int p0] (n := 3) (Nat.le_of_ble_eq_true rfl)
  rw [lg_entry_eq]
  generalize (lg_sl [.ref (bd 0), .int p0] ++ List.replicate (3 - (lg_sl [.ref (bd 0), .int p0]).length) Slot.unset).toArray = ls at hl ⊢
  have hl : lv_has ls 3 [(0, .ref (bd 0)), (1, .int p0)] := hl
  refine lv_aload_n hx hb dX9_setRuling_0 rfl (lv_at hl 0 rfl) ?_
  refine lv_iload_n hx hb dX9_setRuling_1 rfl (lv_at hl 1 rfl) ?_
  refine lv_iconst (v := 0) hx hb dX9_setRuling_2 (by decide) ?_
  refine lv_sipush (v := 9999) hx hb dX9_setRuling_3 (by decide) ?_
  have hPc := hP.sub (ws' := []) [] rfl
  refine va_calli (va_runS (As := [.int p0, .int 0, .int 9999]) (rest := [.ref (bd 0)]) ⟨hx, hb, hml, hown, hw⟩ (c_X9_isIn l D sa _ p0 0 9999) (va_cwS 3 hw (zg3 zm_1311 zm_1312 zm_53 zm_1313) rfl rfl rfl (by decide +kernel) ⟨Nat.le_of_ble_eq_true rfl, Nat.le_of_ble_eq_true rfl⟩) ⟨zJ_blind, zJ_pre hPc hK hT⟩ rfl rfl hl.1 rfl (lv_room (Nat.le_of_ble_eq_true rfl)) dX9_setRuling_6 ⟨Nat.le_of_ble_eq_true rfl, Nat.le_of_ble_eq_true rfl⟩) hS zN_in (zN_fr hS hA) (fun r_1 u t H locs ht hvm hw1 hB hz1 hk1 hS => ?_)
  have hP := zN_keep hP hk1
  rw [hy0] at hw1
  subst hw1
  refine lv_iconst (v := 1) hx hb dX9_setRuling_9 (by decide) ?_
  have hFc := va_free (wc := [((bd 0), .inr (14, [.ref (bd 1), .ref (bd 2), .ref (bd 3), .ref (bd 4), .ref (bd 5), .ref (bd 6), .int 100, .int (-1), .int 0, .int th])), ((bd 1), .inr (4, [.int 0, .ref (bd 7), .int 0])), ((bd 2), .inr (4, [.int 0, .ref (bd 7), .int 0])), ((bd 3), .inr (4, [.int 0, .ref (bd 7), .int 0])), ((bd 4), .inr (4, [.int 0, .ref (bd 7), .int 0])), ((bd 5), .inr (4, [.int 0, .ref (bd 7), .int 0])), ((bd 6), .inr (4, [.int 0, .ref (bd 7), .int 0]))]) hD hS hA [0, 1, 2, 3, 4, 5, 6] rfl
  refine va_calli (va_runV (As := [.int 1, .int 1]) (rest := []) ⟨hx, hb, hml, hown, hw⟩ (c_X9_no1 l D sa ea bd th _ 1) (cwV 2 hw (zg4 zm_1314 zm_1316 zm_26 zm_53 zm_1317) rfl rfl rfl (by decide +kernel) ⟨Nat.le_of_ble_eq_true rfl, Nat.le_of_ble_eq_true rfl⟩) ⟨zW_blind, va_recv hK hP (ci := 14) (q0 := 0) rfl rfl, zW_pre hP hK hD hT hE hS hFc⟩ rfl rfl hl.1 rfl (lv_room (Nat.le_of_ble_eq_true rfl)) dX9_setRuling_10 ⟨Nat.le_of_ble_eq_true rfl, Nat.le_of_ble_eq_true rfl⟩) hS (fun q _ h => hFc q h) hFc (fun r_2 u t H locs ht hvm hw1 hB hz1 hk1 hS => ?_)
  subst hw1
  obtain ⟨hP1, hD1⟩ := hB
  rw [ht] at hP1
  obtain ⟨hP, hD⟩ := va_join (wr := []) (w1 := [((bd 0), .inr (14, [.ref (bd 1), .ref (bd 2), .ref (bd 3), .ref (bd 4), .ref (bd 5), .ref (bd 6), .int 100, .int (-1), .int 0, .int 0])), ((bd 1), .inr (4, [.int 0, .ref (bd 7), .int 0])), ((bd 2), .inr (4, [.int 0, .ref (bd 7), .int 0])), ((bd 3), .inr (4, [.int 0, .ref (bd 7), .int 0])), ((bd 4), .inr (4, [.int 0, .ref (bd 7), .int 0])), ((bd 5), .inr (4, [.int 0, .ref (bd 7), .int 0])), ((bd 6), .inr (4, [.int 0, .ref (bd 7), .int 0]))]) hP hD [0, 1, 2, 3, 4, 5, 6] [] rfl rfl (by decide) (by decide) hk1 hFc hP1 hD1
  have hP : va_P D vwCl [((bd 0), .inr (14, [.ref (bd 1), .ref (bd 2), .ref (bd 3), .ref (bd 4), .ref (bd 5), .ref (bd 6), .int 100, .int (-1), .int 0, .int 0])), ((bd 1), .inr (4, [.int 0, .ref (bd 7), .int 0])), ((bd 2), .inr (4, [.int 0, .ref (bd 7), .int 0])), ((bd 3), .inr (4, [.int 0, .ref (bd 7), .int 0])), ((bd 4), .inr (4, [.int 0, .ref (bd 7), .int 0])), ((bd 5), .inr (4, [.int 0, .ref (bd 7), .int 0])), ((bd 6), .inr (4, [.int 0, .ref (bd 7), .int 0]))] H := hP
  have hD : va_D A [((bd 0), .inr (14, [.ref (bd 1), .ref (bd 2), .ref (bd 3), .ref (bd 4), .ref (bd 5), .ref (bd 6), .int 100, .int (-1), .int 0, .int 0])), ((bd 1), .inr (4, [.int 0, .ref (bd 7), .int 0])), ((bd 2), .inr (4, [.int 0, .ref (bd 7), .int 0])), ((bd 3), .inr (4, [.int 0, .ref (bd 7), .int 0])), ((bd 4), .inr (4, [.int 0, .ref (bd 7), .int 0])), ((bd 5), .inr (4, [.int 0, .ref (bd 7), .int 0])), ((bd 6), .inr (4, [.int 0, .ref (bd 7), .int 0]))] := hD
  refine lv_if_eq (tgt := 18) hx hb dX9_setRuling_13 (by decide) (fun _ => ?_) (fun c_3 => absurd (by decide) c_3)
  refine lv_aload_n hx hb dX9_setRuling_18 rfl (lv_at hl 0 rfl) ?_
  refine va_get (D := D) (ci := 14) (v := .int 100) (C := RX9) (T := TX9) (N := 10) hx hb hw zi_RX9 hown hK hP 0 rfl rfl 6 (by decide) (hw _ zm_1278) (fun _ h9 => h9) rfl dX9_setRuling_19 ?_
  refine lv_istore_n (lv' := [(2, .int 100), (0, .ref (bd 0)), (1, .int p0)]) hx hb dX9_setRuling_22 rfl hl (by decide) rfl (fun ls hl => ?_)
  refine lv_aload_n hx hb dX9_setRuling_23 rfl (lv_at hl 1 rfl) ?_
  refine lv_iload_n hx hb dX9_setRuling_24 rfl (lv_at hl 2 rfl) ?_
  refine va_put (D := D) (ci := 14) (v := .int p0) (ty := .int) (C := RX9) (T := TX9) (N := 10) hx hb hw zi_RX9 tyX9 tyX9_ok nmX9 hown hK hP hD hS 0 rfl rfl 6 (by decide) (hw _ zm_1278) (fun _ h9 => h9) rfl (by decide +kernel) rfl rfl (Nat.le_of_ble_eq_true rfl) dX9_setRuling_25 (fun H locs hP hD hS => ?_)
  have hP : va_P D vwCl [((bd 0), .inr (14, [.ref (bd 1), .ref (bd 2), .ref (bd 3), .ref (bd 4), .ref (bd 5), .ref (bd 6), .int p0, .int (-1), .int 0, .int 0])), ((bd 1), .inr (4, [.int 0, .ref (bd 7), .int 0])), ((bd 2), .inr (4, [.int 0, .ref (bd 7), .int 0])), ((bd 3), .inr (4, [.int 0, .ref (bd 7), .int 0])), ((bd 4), .inr (4, [.int 0, .ref (bd 7), .int 0])), ((bd 5), .inr (4, [.int 0, .ref (bd 7), .int 0])), ((bd 6), .inr (4, [.int 0, .ref (bd 7), .int 0]))] H := hP
  have hD : va_D A [((bd 0), .inr (14, [.ref (bd 1), .ref (bd 2), .ref (bd 3), .ref (bd 4), .ref (bd 5), .ref (bd 6), .int p0, .int (-1), .int 0, .int 0])), ((bd 1), .inr (4, [.int 0, .ref (bd 7), .int 0])), ((bd 2), .inr (4, [.int 0, .ref (bd 7), .int 0])), ((bd 3), .inr (4, [.int 0, .ref (bd 7), .int 0])), ((bd 4), .inr (4, [.int 0, .ref (bd 7), .int 0])), ((bd 5), .inr (4, [.int 0, .ref (bd 7), .int 0])), ((bd 6), .inr (4, [.int 0, .ref (bd 7), .int 0]))] := hD
  refine lv_iload_n hx hb dX9_setRuling_28 rfl (lv_at hl 0 rfl) ?_
  have hP9 := hP.sub (ws' := [((bd 0), .inr (14, [.ref (bd 1), .ref (bd 2), .ref (bd 3), .ref (bd 4), .ref (bd 5), .ref (bd 6), .int p0, .int (-1), .int 0, .int 0]))]) [0] rfl
  have hD9 := hD.sub (ws' := [((bd 0), .inr (14, [.ref (bd 1), .ref (bd 2), .ref (bd 3), .ref (bd 4), .ref (bd 5), .ref (bd 6), .int p0, .int (-1), .int 0, .int 0]))]) [0] (by decide) rfl
  refine W.widen (k := 0) (n := 0) (Nat.le_of_ble_eq_true rfl) (Nat.le_of_ble_eq_true rfl) ?_
  exact W.iret (v := 100) hx hb hr (fun t ht hW => ⟨⟨100, (), rfl, rfl, by rw [ht]; exact hP9, hD9⟩, hS.F ht⟩) hS.2.2 dX9_setRuling_29
set_option maxHeartbeats 4000000 in
set_option maxRecDepth 100000 in
theorem c_X9_thrown0 (l : Launch) (D : va_G) (sa : Nat → Nat) (bd : Nat → Nat) (x7 th : Int32) (sz : Nat) : Met l yX9_thrown ((Cond.code yX9_thrown prog_8_method_2_code 1 (Option.some FieldType.int)) :: WA) ({ frames := 0, cells := 0, slots := 0, locals := 0 }) (zJ D sa [((bd 0), .inr (14, [.ref (bd 1), .ref (bd 2), .ref (bd 3), .ref (bd 4), .ref (bd 5), .ref (bd 6), .int x7, .int (-1), .int 0, .int th]))] [.ref (bd 0)] sz) (va_Qi (fun (r : Int32) (_ : Unit) => r = th) (fun _ _ => True) (zN sz)) 0 0 (zN sz) := by
  refine Met.ofW (cc := prog_8_method_2_code) (maxL := 1) (ret := (Option.some FieldType.int)) (by decide) rfl ?_
  intro p e s m args below meth c s₁ B hml hv
  obtain ⟨rfl, hsz, hP, hK, hT⟩ := hv
  have hx := B.exec
  have hb := B.bytes
  have hr := B.returns
  have hts := atoms_spec (ws := (Cond.code yX9_thrown prog_8_method_2_code 1 (Option.some FieldType.int)) :: WA) B.pre
  have hw : ∀ w ∈ WA, w.before _ s = true := fun w h => hts w (List.mem_cons_of_mem _ h)
  have hown : s.vm.findClass RX9 = some m.cls := findClass_of_methodNamed B.named
  have hlocks := B.notSynchronized
  subst hsz
  have hA : ∀ q : Nat, s.heap.size ≤ q → zN s.heap.size q := fun _ h => h
  have hS : va_S (zN s.heap.size) s.heap s.heap [] := va_S.rf
  have hP : va_P D vwCl [((bd 0), .inr (14, [.ref (bd 1), .ref (bd 2), .ref (bd 3), .ref (bd 4), .ref (bd 5), .ref (bd 6), .int x7, .int (-1), .int 0, .int th]))] s.heap := hP
  have hl := lv_entry [.ref (bd 0)] (n := 1) (Nat.le_of_ble_eq_true rfl)
  rw [lg_entry_eq]
  generalize (lg_sl [.ref (bd 0)] ++ List.replicate (1 - (lg_sl [.ref (bd 0)]).length) Slot.unset).toArray = ls at hl ⊢
  have hl : lv_has ls 1 [(0, .ref (bd 0))] := hl
  refine lv_aload_n hx hb dX9_thrown_0 rfl (lv_at hl 0 rfl) ?_
  refine va_get (D := D) (ci := 14) (v := .int th) (C := RX9) (T := TX9) (N := 10) hx hb hw zi_RX9 hown hK hP 0 rfl rfl 9 (by decide) (hw _ zm_1281) (fun _ h9 => h9) rfl dX9_thrown_1 ?_
  exact W.iret (v := th) hx hb hr (fun t ht hW => ⟨⟨th, (), rfl, rfl, trivial⟩, hS.F ht⟩) hS.2.2 dX9_thrown_4
