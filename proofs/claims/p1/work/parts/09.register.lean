theorem dX5_register_0 : decode cX5_register 0 = .ok (.aload_n 0, 1) := by decide +kernel
theorem dX5_register_1 : decode cX5_register 1 = .ok (.iload_n 1, 1) := by decide +kernel
theorem dX5_register_2 : decode cX5_register 2 = .ok (.invokevirtual 137, 3) := by decide +kernel
set_option maxHeartbeats 4000000 in
set_option maxRecDepth 100000 in
theorem c_X5_register (l : Launch) (hst : l.stackTraces = false) (D : va_G) (sa : Nat → Nat) (ad : Nat → Nat) (sz : Nat) (p0 : Int32) (p1 : Int32) (p2 : Int32) (p3 : Int32) : vx_Met l yX5_register ((Cond.code yX5_register prog_1_method_26_code 6 (Option.some FieldType.int)) :: WA) ({ frames := 7, cells := 1, slots := 6, locals := 103 }) (zR D sa (zX ad) [.ref (ad 0), .int p0, .int p1, .int p2, .int p3] sz) zF (zXC "java/lang/IndexOutOfBoundsException" sz) 1 6 (zN sz) := by
  refine vx_ofW (cc := prog_1_method_26_code) (maxL := 6) (ret := (Option.some FieldType.int)) (by decide) rfl ?_
  intro p e s m args below meth c s₁ B hml hnt hv
  obtain ⟨rfl, hsz, hP, hK, hT, hZ⟩ := hv
  have hx := B.exec
  have hb := B.bytes
  have hr := B.returns
  have hts := atoms_spec (ws := (Cond.code yX5_register prog_1_method_26_code 6 (Option.some FieldType.int)) :: WA) B.pre
  have hw : ∀ w ∈ WA, w.before _ s = true := fun w h => hts w (List.mem_cons_of_mem _ h)
  have hown : s.vm.findClass RX5 = some m.cls := findClass_of_methodNamed B.named
  have hlocks := B.notSynchronized
  subst hsz
  have hA : ∀ q : Nat, s.heap.size ≤ q → zN s.heap.size q := fun _ h => h
  have hS : va_S (zN s.heap.size) s.heap s.heap [] := va_S.rf
  have hP : va_P D vwCl [((ad 0), .inr (10, [.ref (ad 1), .ref (ad 2), .ref (ad 3), .ref (ad 4), .ref (ad 5), .int (-1), .int 100, .int 0, .int 0])), ((ad 1), .inr (7, [.ref (ad 6), .ref (ad 7), .ref (ad 8), .int 0])), ((ad 2), .inr (8, [.ref (ad 9), .ref (ad 10), .int 0])), ((ad 3), .inr (4, [.int 0, .ref (ad 14), .int 0])), ((ad 4), .inr (4, [.int 0, .ref (ad 14), .int 0])), ((ad 5), .inr (6, [.ref (ad 11), .ref (ad 12), .ref (ad 13), .int 0, .int 0]))] s.heap := hP
  have hl := lv_entry [.ref (ad 0), .int p0, .int p1, .int p2, .int p3] (n := 6) (Nat.le_of_ble_eq_true rfl)
  rw [lg_entry_eq]
  generalize (lg_sl [.ref (ad 0), .int p0, .int p1, .int p2, .int p3] ++ List.replicate (6 - (lg_sl [.ref (ad 0), .int p0, .int p1, .int p2, .int p3]).length) Slot.unset).toArray = ls at hl ⊢
  have hl : lv_has ls 6 [(0, .ref (ad 0)), (1, .int p0), (2, .int p1), (3, .int p2), (4, .int p3)] := hl
  refine lv_aload_n hx hb dX5_register_0 rfl (lv_at hl 0 rfl) ?_
  refine lv_iload_n hx hb dX5_register_1 rfl (lv_at hl 1 rfl) ?_
  refine zx_call (vx_runV (As := [.int p0]) (rest := []) ⟨hx, hb, hml, hown, hw⟩ (c_X5_settAt l hst D sa ad _ p0) (cwV 1 hw (zg4 zm_751 zm_753 zm_15 zm_45 zm_754) rfl rfl rfl (by decide +kernel) ⟨Nat.le_of_ble_eq_true rfl, Nat.le_of_ble_eq_true rfl⟩) ⟨zR_blind, va_recv hK hP (ci := 10) (q0 := 0) rfl rfl, zR_pre hP hK hT hZ hS hA⟩ rfl rfl hl.1 rfl (lv_room (Nat.le_of_ble_eq_true rfl)) dX5_register_2 ⟨Nat.le_of_ble_eq_true rfl, Nat.le_of_ble_eq_true rfl⟩) hS (zN_fr hS hA) zN_in (fun E ce q9 u t H locs ht hvm hu hE hz1 hk1 hS hce hcv hcl => ?_)
  exact vx_out (fun x hx9 => (hnt x hx9).elim) hlocks hce hcv hcl (fun t ht _ => ⟨(), trivial, hE, hS.F ht⟩) (fun z hz => hS.2.2 z hz) (Nat.le_of_ble_eq_true rfl) (Nat.le_of_ble_eq_true rfl)
theorem dL_register_0 : decode cL_register 0 = .ok (.aload 5, 2) := by decide +kernel
theorem dL_register_2 : decode cL_register 2 = .ok (.iconst 0, 1) := by decide +kernel
theorem dL_register_3 : decode cL_register 3 = .ok (.aload_n 0, 1) := by decide +kernel
theorem dL_register_4 : decode cL_register 4 = .ok (.iload_n 1, 1) := by decide +kernel
theorem dL_register_5 : decode cL_register 5 = .ok (.iload_n 2, 1) := by decide +kernel
theorem dL_register_6 : decode cL_register 6 = .ok (.iload_n 3, 1) := by decide +kernel
theorem dL_register_7 : decode cL_register 7 = .ok (.iload 4, 2) := by decide +kernel
theorem dL_register_9 : decode cL_register 9 = .ok (.invokevirtual 97, 3) := by decide +kernel
theorem zm_966 : Cond.methodLink RL 97 yX5_register ∈ WA := zmm (i := 966) (by decide +kernel) (by decide +kernel)
theorem zm_967 : Cond.instanceMethod yX5_register ∈ WA := zmm (i := 967) (by decide +kernel) (by decide +kernel)
theorem zm_968 : Cond.selects RX5 yX5_register yX5_register ∈ WA := zmm (i := 968) (by decide +kernel) (by decide +kernel)
theorem zm_969 : Cond.code yX5_register prog_1_method_26_code 6 (Option.some FieldType.int) ∈ WA := zmm (i := 969) (by decide +kernel) (by decide +kernel)
theorem dL_register_17 : decode cL_register 17 = .ok (.astore 6, 2) := by decide +kernel
theorem dL_register_19 : decode cL_register 19 = .ok (.iconst 1, 1) := by decide +kernel
theorem dL_register_20 : decode cL_register 20 = .ok (.ireturn, 1) := by decide +kernel
set_option maxHeartbeats 4000000 in
set_option maxRecDepth 100000 in
theorem c_L_register (l : Launch) (hst : l.stackTraces = false) (D : va_G) (sa : Nat → Nat) (ad : Nat → Nat) (sz : Nat) (p0 : Int32) (p1 : Int32) (p2 : Int32) (p3 : Int32) (oa : Nat) : vx_Met l yL_register ((Cond.codeWith yL_register method_26_code 7 (Option.some FieldType.int) [(0, 14, 17, 23), (0, 14, 21, 13), (0, 14, 25, 15)]) :: WA) ({ frames := 8, cells := 1, slots := 6, locals := 128 }) (zR D sa (zX ad) [.ref (ad 0), .int p0, .int p1, .int p2, .int p3, .ref oa] sz) (va_Qi (fun (r : Int32) (_ : Unit) => r = 1) (fun _ _ => True) (zN sz)) (zX0 sz) 1 6 (zN sz) := by
  refine vx_ofWH (cc := method_26_code) (maxL := 7) (ret := (Option.some FieldType.int)) (hh := [(0, 14, 17, 23), (0, 14, 21, 13), (0, 14, 25, 15)]) (by decide) rfl ?_
  intro p e s m args below meth c s₁ B hml hv
  obtain ⟨rfl, hsz, hP, hK, hT, hZ⟩ := hv
  have hx := B.exec
  have hb := B.bytes
  have hr := B.returns
  have hts := atoms_spec (ws := (Cond.codeWith yL_register method_26_code 7 (Option.some FieldType.int) [(0, 14, 17, 23), (0, 14, 21, 13), (0, 14, 25, 15)]) :: WA) B.pre
  have hw : ∀ w ∈ WA, w.before _ s = true := fun w h => hts w (List.mem_cons_of_mem _ h)
  have htab := vx_table (x := yL_register) B (hts _ List.mem_cons_self)
  have hown : s.vm.findClass RL = some m.cls := findClass_of_methodNamed B.named
  have hlocks := B.notSynchronized
  subst hsz
  have hA : ∀ q : Nat, s.heap.size ≤ q → zN s.heap.size q := fun _ h => h
  have hS : va_S (zN s.heap.size) s.heap s.heap [] := va_S.rf
  have hP : va_P D vwCl [((ad 0), .inr (10, [.ref (ad 1), .ref (ad 2), .ref (ad 3), .ref (ad 4), .ref (ad 5), .int (-1), .int 100, .int 0, .int 0])), ((ad 1), .inr (7, [.ref (ad 6), .ref (ad 7), .ref (ad 8), .int 0])), ((ad 2), .inr (8, [.ref (ad 9), .ref (ad 10), .int 0])), ((ad 3), .inr (4, [.int 0, .ref (ad 14), .int 0])), ((ad 4), .inr (4, [.int 0, .ref (ad 14), .int 0])), ((ad 5), .inr (6, [.ref (ad 11), .ref (ad 12), .ref (ad 13), .int 0, .int 0]))] s.heap := hP
  have hl := lv_entry [.ref (ad 0), .int p0, .int p1, .int p2, .int p3, .ref oa] (n := 7) (Nat.le_of_ble_eq_true rfl)
  rw [lg_entry_eq]
  generalize (lg_sl [.ref (ad 0), .int p0, .int p1, .int p2, .int p3, .ref oa] ++ List.replicate (7 - (lg_sl [.ref (ad 0), .int p0, .int p1, .int p2, .int p3, .ref oa]).length) Slot.unset).toArray = ls at hl ⊢
  have hl : lv_has ls 7 [(0, .ref (ad 0)), (1, .int p0), (2, .int p1), (3, .int p2), (4, .int p3), (5, .ref oa)] := hl
  refine lv_aload hx hb dL_register_0 (lv_at hl 5 rfl) ?_
  refine lv_iconst (v := 0) hx hb dL_register_2 (by decide) ?_
  refine lv_aload_n hx hb dL_register_3 rfl (lv_at hl 0 rfl) ?_
  refine lv_iload_n hx hb dL_register_4 rfl (lv_at hl 1 rfl) ?_
  refine lv_iload_n hx hb dL_register_5 rfl (lv_at hl 2 rfl) ?_
  refine lv_iload_n hx hb dL_register_6 rfl (lv_at hl 3 rfl) ?_
  refine lv_iload hx hb dL_register_7 (lv_at hl 4 rfl) ?_
  refine zx_call (vx_runV (As := [.int p0, .int p1, .int p2, .int p3]) (rest := [.int 0, .ref oa]) ⟨hx, hb, hml, hown, hw⟩ (c_X5_register l hst D sa ad _ p0 p1 p2 p3) (cwV 4 hw (zg4 zm_966 zm_967 zm_968 zm_45 zm_969) rfl rfl rfl (by decide +kernel) ⟨Nat.le_of_ble_eq_true rfl, Nat.le_of_ble_eq_true rfl⟩) ⟨zR_blind, va_recv hK hP (ci := 10) (q0 := 0) rfl rfl, zR_pre hP hK hT hZ hS hA⟩ rfl rfl hl.1 rfl (lv_room (Nat.le_of_ble_eq_true rfl)) dL_register_9 ⟨Nat.le_of_ble_eq_true rfl, Nat.le_of_ble_eq_true rfl⟩) hS (zN_fr hS hA) zN_in (fun E ce q9 u t H locs ht hvm hu hE hz1 hk1 hS hce hcv hcl => ?_)
  subst hE
  refine vx_catch hown [] ⟨0, 14, 17, 23⟩ (tableOf [(0, 14, 21, 13), (0, 14, 25, 15)]) htab (fun z hz => absurd hz List.not_mem_nil) (by decide) (by decide) (hw _ zm_487) (hT.c 3 rfl) hce hcv hcl ?_
  refine lv_astore (lv' := [(6, .ref q9), (0, .ref (ad 0)), (1, .int p0), (2, .int p1), (3, .int p2), (4, .int p3), (5, .ref oa)]) hx hb dL_register_17 hl (by decide) rfl (fun ls hl => ?_)
  refine lv_iconst (v := 1) hx hb dL_register_19 (by decide) ?_
  refine vx_ret ?_
  exact W.iret (v := 1) hx hb hr (fun t ht hW => ⟨⟨1, (), rfl, rfl, trivial⟩, hS.F ht⟩) hS.2.2 dL_register_20
theorem dX9_register_0 : decode cX9_register 0 = .ok (.iload_n 2, 1) := by decide +kernel
theorem dX9_register_1 : decode cX9_register 1 = .ok (.bipush 99, 2) := by decide +kernel
theorem dX9_register_3 : decode cX9_register 3 = .ok (.if_icmp .eq 27, 3) := by decide +kernel
theorem dX9_register_30 : decode cX9_register 30 = .ok (.iconst 1, 1) := by decide +kernel
theorem dX9_register_31 : decode cX9_register 31 = .ok (.goto 4, 3) := by decide +kernel
theorem dX9_register_35 : decode cX9_register 35 = .ok (.istore 5, 2) := by decide +kernel
theorem dX9_register_37 : decode cX9_register 37 = .ok (.aload_n 0, 1) := by decide +kernel
theorem dX9_register_38 : decode cX9_register 38 = .ok (.aload_n 0, 1) := by decide +kernel
theorem dX9_register_39 : decode cX9_register 39 = .ok (.iload_n 1, 1) := by decide +kernel
theorem dX9_register_40 : decode cX9_register 40 = .ok (.invokevirtual 118, 3) := by decide +kernel
theorem dX9_register_43 : decode cX9_register 43 = .ok (.iconst 1, 1) := by decide +kernel
theorem dX9_register_44 : decode cX9_register 44 = .ok (.invokevirtual 51, 3) := by decide +kernel
theorem dX9_register_47 : decode cX9_register 47 = .ok (.ifCond .ne 66, 3) := by decide +kernel
theorem dX9_register_113 : decode cX9_register 113 = .ok (.iconst 0, 1) := by decide +kernel
theorem dX9_register_114 : decode cX9_register 114 = .ok (.ireturn, 1) := by decide +kernel
theorem dX9_register_6 : decode cX9_register 6 = .ok (.iload_n 2, 1) := by decide +kernel
theorem dX9_register_7 : decode cX9_register 7 = .ok (.bipush 100, 2) := by decide +kernel
theorem dX9_register_9 : decode cX9_register 9 = .ok (.if_icmp .eq 21, 3) := by decide +kernel
theorem dX9_register_12 : decode cX9_register 12 = .ok (.iload_n 2, 1) := by decide +kernel
theorem dX9_register_13 : decode cX9_register 13 = .ok (.bipush 102, 2) := by decide +kernel
theorem dX9_register_15 : decode cX9_register 15 = .ok (.if_icmp .eq 15, 3) := by decide +kernel
theorem dX9_register_18 : decode cX9_register 18 = .ok (.iload_n 2, 1) := by decide +kernel
theorem dX9_register_19 : decode cX9_register 19 = .ok (.bipush 112, 2) := by decide +kernel
theorem dX9_register_21 : decode cX9_register 21 = .ok (.if_icmp .eq 9, 3) := by decide +kernel
theorem dX9_register_24 : decode cX9_register 24 = .ok (.iload_n 2, 1) := by decide +kernel
theorem dX9_register_25 : decode cX9_register 25 = .ok (.bipush 110, 2) := by decide +kernel
theorem dX9_register_27 : decode cX9_register 27 = .ok (.if_icmp .ne 7, 3) := by decide +kernel
theorem dX9_register_34 : decode cX9_register 34 = .ok (.iconst 0, 1) := by decide +kernel
set_option maxHeartbeats 4000000 in
set_option maxRecDepth 100000 in
theorem c_X9_register (l : Launch) (D : va_G) (sa : Nat → Nat) (ea : Nat) (bd : Nat → Nat) (th : Int32) (sz : Nat) (p0 : Int32) (p1 : Int32) (p2 : Int32) (p3 : Int32) : Met l yX9_register ((Cond.code yX9_register prog_8_method_38_code 9 (Option.some FieldType.int)) :: WA) ({ frames := 2, cells := 0, slots := 0, locals := 43 }) (zW D sa ea [] (zM bd th) [.ref (bd 0), .int p0, .int p1, .int p2, .int p3] sz) (va_Qi (fun (r : Int32) (_ : Unit) => r = 0) (fun _ t => va_P D vwCl [((bd 0), .inr (14, [.ref (bd 1), .ref (bd 2), .ref (bd 3), .ref (bd 4), .ref (bd 5), .ref (bd 6), .int 100, .int (-1), .int 0, .int 1])), ((bd 1), .inr (4, [.int 0, .ref (bd 7), .int 0])), ((bd 2), .inr (4, [.int 0, .ref (bd 7), .int 0])), ((bd 3), .inr (4, [.int 0, .ref (bd 7), .int 0])), ((bd 4), .inr (4, [.int 0, .ref (bd 7), .int 0])), ((bd 5), .inr (4, [.int 0, .ref (bd 7), .int 0])), ((bd 6), .inr (4, [.int 0, .ref (bd 7), .int 0]))] t.heap ∧ va_D (va_A (zM bd th) sz) [((bd 0), .inr (14, [.ref (bd 1), .ref (bd 2), .ref (bd 3), .ref (bd 4), .ref (bd 5), .ref (bd 6), .int 100, .int (-1), .int 0, .int 1])), ((bd 1), .inr (4, [.int 0, .ref (bd 7), .int 0])), ((bd 2), .inr (4, [.int 0, .ref (bd 7), .int 0])), ((bd 3), .inr (4, [.int 0, .ref (bd 7), .int 0])), ((bd 4), .inr (4, [.int 0, .ref (bd 7), .int 0])), ((bd 5), .inr (4, [.int 0, .ref (bd 7), .int 0])), ((bd 6), .inr (4, [.int 0, .ref (bd 7), .int 0]))]) (va_A (zM bd th) sz)) 0 0 (va_A (zM bd th) sz) := by
  refine Met.ofW (cc := prog_8_method_38_code) (maxL := 9) (ret := (Option.some FieldType.int)) (by decide) rfl ?_
  intro p e s m args below meth c s₁ B hml hv
  obtain ⟨rfl, hsz, hP, hK, hD0, hT, hE⟩ := hv
  have hx := B.exec
  have hb := B.bytes
  have hr := B.returns
  have hts := atoms_spec (ws := (Cond.code yX9_register prog_8_method_38_code 9 (Option.some FieldType.int)) :: WA) B.pre
  have hw : ∀ w ∈ WA, w.before _ s = true := fun w h => hts w (List.mem_cons_of_mem _ h)
  have hown : s.vm.findClass RX9 = some m.cls := findClass_of_methodNamed B.named
  have hlocks := B.notSynchronized
  subst hsz
  have hD := hD0.self (sz := s.heap.size)
  generalize hAe : va_A (zM bd th) s.heap.size = A at hD hE ⊢
  have hA : ∀ q : Nat, s.heap.size ≤ q → A q := fun q h => by rw [← hAe]; exact Or.inr h
  have hS : va_S A s.heap s.heap [] := va_S.rf
  have hP : va_P D vwCl [((bd 0), .inr (14, [.ref (bd 1), .ref (bd 2), .ref (bd 3), .ref (bd 4), .ref (bd 5), .ref (bd 6), .int 100, .int (-1), .int 0, .int th])), ((bd 1), .inr (4, [.int 0, .ref (bd 7), .int 0])), ((bd 2), .inr (4, [.int 0, .ref (bd 7), .int 0])), ((bd 3), .inr (4, [.int 0, .ref (bd 7), .int 0])), ((bd 4), .inr (4, [.int 0, .ref (bd 7), .int 0])), ((bd 5), .inr (4, [.int 0, .ref (bd 7), .int 0])), ((bd 6), .inr (4, [.int 0, .ref (bd 7), .int 0]))] s.heap := hP
  have hD : va_D A [((bd 0), .inr (14, [.ref (bd 1), .ref (bd 2), .ref (bd 3), .ref (bd 4), .ref (bd 5), .ref (bd 6), .int 100, .int (-1), .int 0, .int th])), ((bd 1), .inr (4, [.int 0, .ref (bd 7), .int 0])), ((bd 2), .inr (4, [.int 0, .ref (bd 7), .int 0])), ((bd 3), .inr (4, [.int 0, .ref (bd 7), .int 0])), ((bd 4), .inr (4, [.int 0, .ref (bd 7), .int 0])), ((bd 5), .inr (4, [.int 0, .ref (bd 7), .int 0])), ((bd 6), .inr (4, [.int 0, .ref (bd 7), .int 0]))] := hD
  have hl := lv_entry [.ref (bd 0), .int p0, .int p1, .int p2, .int p3] (n := 9) (Nat.le_of_ble_eq_true rfl)
  rw [lg_entry_eq]
  generalize (lg_sl [.ref (bd 0), .int p0, .int p1, .int p2, .int p3] ++ List.replicate (9 - (lg_sl [.ref (bd 0), .int p0, .int p1, .int p2, .int p3]).length) Slot.unset).toArray = ls at hl ⊢
  have hl : lv_has ls 9 [(0, .ref (bd 0)), (1, .int p0), (2, .int p1), (3, .int p2), (4, .int p3)] := hl
  refine lv_iload_n hx hb dX9_register_0 rfl (lv_at hl 2 rfl) ?_
  refine lv_bipush (v := 99) hx hb dX9_register_1 (by decide) ?_
  refine lv_icmp_eq (tgt := 30) hx hb dX9_register_3 (by decide) (fun c_1 => ?_) (fun c_1 => ?_)
  · refine lv_iconst (v := 1) hx hb dX9_register_30 (by decide) ?_
    refine lv_goto (tgt := 35) hx hb dX9_register_31 (by decide) ?_
    refine lv_istore (lv' := [(5, .int 1), (0, .ref (bd 0)), (1, .int p0), (2, .int p1), (3, .int p2), (4, .int p3)]) hx hb dX9_register_35 hl (by decide) rfl (fun ls hl => ?_)
    refine lv_aload_n hx hb dX9_register_37 rfl (lv_at hl 1 rfl) ?_
    refine lv_aload_n hx hb dX9_register_38 rfl (lv_at hl 1 rfl) ?_
    refine lv_iload_n hx hb dX9_register_39 rfl (lv_at hl 2 rfl) ?_
    refine va_calli (va_runV (As := [.int p0]) (rest := [.ref (bd 0)]) ⟨hx, hb, hml, hown, hw⟩ (c_X9_isSett l D sa bd th _ p0) (cwV 1 hw (zg4 zm_1521 zm_1523 zm_29 zm_53 zm_1524) rfl rfl rfl (by decide +kernel) ⟨Nat.le_of_ble_eq_true rfl, Nat.le_of_ble_eq_true rfl⟩) ⟨zJ_blind, va_recv hK hP (ci := 14) (q0 := 0) rfl rfl, zJ_pre hP hK hT⟩ rfl rfl hl.1 rfl (lv_room (Nat.le_of_ble_eq_true rfl)) dX9_register_40 ⟨Nat.le_of_ble_eq_true rfl, Nat.le_of_ble_eq_true rfl⟩) hS zN_in (zN_fr hS hA) (fun r_2 u t H locs ht hvm hw1 hB hz1 hk1 hS => ?_)
    have hP := zN_keep hP hk1
    subst hw1
    refine lv_iconst (v := 1) hx hb dX9_register_43 (by decide) ?_
    have hFc := va_free (wc := [((bd 0), .inr (14, [.ref (bd 1), .ref (bd 2), .ref (bd 3), .ref (bd 4), .ref (bd 5), .ref (bd 6), .int 100, .int (-1), .int 0, .int th])), ((bd 1), .inr (4, [.int 0, .ref (bd 7), .int 0])), ((bd 2), .inr (4, [.int 0, .ref (bd 7), .int 0])), ((bd 3), .inr (4, [.int 0, .ref (bd 7), .int 0])), ((bd 4), .inr (4, [.int 0, .ref (bd 7), .int 0])), ((bd 5), .inr (4, [.int 0, .ref (bd 7), .int 0])), ((bd 6), .inr (4, [.int 0, .ref (bd 7), .int 0]))]) hD hS hA [0, 1, 2, 3, 4, 5, 6] rfl
    refine va_calli (va_runV (As := [.int 0, .int 1]) (rest := []) ⟨hx, hb, hml, hown, hw⟩ (c_X9_no0 l D sa ea bd th _ 1) (cwV 2 hw (zg4 zm_1314 zm_1316 zm_26 zm_53 zm_1317) rfl rfl rfl (by decide +kernel) ⟨Nat.le_of_ble_eq_true rfl, Nat.le_of_ble_eq_true rfl⟩) ⟨zW_blind, va_recv hK hP (ci := 14) (q0 := 0) rfl rfl, zW_pre hP hK hD hT hE hS hFc⟩ rfl rfl hl.1 rfl (lv_room (Nat.le_of_ble_eq_true rfl)) dX9_register_44 ⟨Nat.le_of_ble_eq_true rfl, Nat.le_of_ble_eq_true rfl⟩) hS (fun q _ h => hFc q h) hFc (fun r_3 u t H locs ht hvm hw1 hB hz1 hk1 hS => ?_)
    subst hw1
    obtain ⟨hP1, hD1⟩ := hB
    rw [ht] at hP1
    obtain ⟨hP, hD⟩ := va_join (wr := []) (w1 := [((bd 0), .inr (14, [.ref (bd 1), .ref (bd 2), .ref (bd 3), .ref (bd 4), .ref (bd 5), .ref (bd 6), .int 100, .int (-1), .int 0, .int 1])), ((bd 1), .inr (4, [.int 0, .ref (bd 7), .int 0])), ((bd 2), .inr (4, [.int 0, .ref (bd 7), .int 0])), ((bd 3), .inr (4, [.int 0, .ref (bd 7), .int 0])), ((bd 4), .inr (4, [.int 0, .ref (bd 7), .int 0])), ((bd 5), .inr (4, [.int 0, .ref (bd 7), .int 0])), ((bd 6), .inr (4, [.int 0, .ref (bd 7), .int 0]))]) hP hD [0, 1, 2, 3, 4, 5, 6] [] rfl rfl (by decide) (by decide) hk1 hFc hP1 hD1
    have hP : va_P D vwCl [((bd 0), .inr (14, [.ref (bd 1), .ref (bd 2), .ref (bd 3), .ref (bd 4), .ref (bd 5), .ref (bd 6), .int 100, .int (-1), .int 0, .int 1])), ((bd 1), .inr (4, [.int 0, .ref (bd 7), .int 0])), ((bd 2), .inr (4, [.int 0, .ref (bd 7), .int 0])), ((bd 3), .inr (4, [.int 0, .ref (bd 7), .int 0])), ((bd 4), .inr (4, [.int 0, .ref (bd 7), .int 0])), ((bd 5), .inr (4, [.int 0, .ref (bd 7), .int 0])), ((bd 6), .inr (4, [.int 0, .ref (bd 7), .int 0]))] H := hP
    have hD : va_D A [((bd 0), .inr (14, [.ref (bd 1), .ref (bd 2), .ref (bd 3), .ref (bd 4), .ref (bd 5), .ref (bd 6), .int 100, .int (-1), .int 0, .int 1])), ((bd 1), .inr (4, [.int 0, .ref (bd 7), .int 0])), ((bd 2), .inr (4, [.int 0, .ref (bd 7), .int 0])), ((bd 3), .inr (4, [.int 0, .ref (bd 7), .int 0])), ((bd 4), .inr (4, [.int 0, .ref (bd 7), .int 0])), ((bd 5), .inr (4, [.int 0, .ref (bd 7), .int 0])), ((bd 6), .inr (4, [.int 0, .ref (bd 7), .int 0]))] := hD
    refine lv_if_ne (tgt := 113) hx hb dX9_register_47 (by decide) (fun _ => ?_) (fun c_4 => absurd c_4 (by decide))
    refine lv_iconst (v := 0) hx hb dX9_register_113 (by decide) ?_
    have hP9 := hP.sub (ws' := [((bd 0), .inr (14, [.ref (bd 1), .ref (bd 2), .ref (bd 3), .ref (bd 4), .ref (bd 5), .ref (bd 6), .int 100, .int (-1), .int 0, .int 1])), ((bd 1), .inr (4, [.int 0, .ref (bd 7), .int 0])), ((bd 2), .inr (4, [.int 0, .ref (bd 7), .int 0])), ((bd 3), .inr (4, [.int 0, .ref (bd 7), .int 0])), ((bd 4), .inr (4, [.int 0, .ref (bd 7), .int 0])), ((bd 5), .inr (4, [.int 0, .ref (bd 7), .int 0])), ((bd 6), .inr (4, [.int 0, .ref (bd 7), .int 0]))]) [0, 1, 2, 3, 4, 5, 6] rfl
    have hD9 := hD.sub (ws' := [((bd 0), .inr (14, [.ref (bd 1), .ref (bd 2), .ref (bd 3), .ref (bd 4), .ref (bd 5), .ref (bd 6), .int 100, .int (-1), .int 0, .int 1])), ((bd 1), .inr (4, [.int 0, .ref (bd 7), .int 0])), ((bd 2), .inr (4, [.int 0, .ref (bd 7), .int 0])), ((bd 3), .inr (4, [.int 0, .ref (bd 7), .int 0])), ((bd 4), .inr (4, [.int 0, .ref (bd 7), .int 0])), ((bd 5), .inr (4, [.int 0, .ref (bd 7), .int 0])), ((bd 6), .inr (4, [.int 0, .ref (bd 7), .int 0]))]) [0, 1, 2, 3, 4, 5, 6] (by decide) rfl
    refine W.widen (k := 0) (n := 0) (Nat.le_of_ble_eq_true rfl) (Nat.le_of_ble_eq_true rfl) ?_
    exact W.iret (v := 0) hx hb hr (fun t ht hW => ⟨⟨0, (), rfl, rfl, by rw [ht]; exact hP9, hD9⟩, hS.F ht⟩) hS.2.2 dX9_register_114
  · refine lv_iload_n hx hb dX9_register_6 rfl (lv_at hl 2 rfl) ?_
    refine lv_bipush (v := 100) hx hb dX9_register_7 (by decide) ?_
    refine lv_icmp_eq (tgt := 30) hx hb dX9_register_9 (by decide) (fun c_5 => ?_) (fun c_5 => ?_)
    · refine lv_iconst (v := 1) hx hb dX9_register_30 (by decide) ?_
      refine lv_goto (tgt := 35) hx hb dX9_register_31 (by decide) ?_
      refine lv_istore (lv' := [(5, .int 1), (0, .ref (bd 0)), (1, .int p0), (2, .int p1), (3, .int p2), (4, .int p3)]) hx hb dX9_register_35 hl (by decide) rfl (fun ls hl => ?_)
      refine lv_aload_n hx hb dX9_register_37 rfl (lv_at hl 1 rfl) ?_
      refine lv_aload_n hx hb dX9_register_38 rfl (lv_at hl 1 rfl) ?_
      refine lv_iload_n hx hb dX9_register_39 rfl (lv_at hl 2 rfl) ?_
      refine va_calli (va_runV (As := [.int p0]) (rest := [.ref (bd 0)]) ⟨hx, hb, hml, hown, hw⟩ (c_X9_isSett l D sa bd th _ p0) (cwV 1 hw (zg4 zm_1521 zm_1523 zm_29 zm_53 zm_1524) rfl rfl rfl (by decide +kernel) ⟨Nat.le_of_ble_eq_true rfl, Nat.le_of_ble_eq_true rfl⟩) ⟨zJ_blind, va_recv hK hP (ci := 14) (q0 := 0) rfl rfl, zJ_pre hP hK hT⟩ rfl rfl hl.1 rfl (lv_room (Nat.le_of_ble_eq_true rfl)) dX9_register_40 ⟨Nat.le_of_ble_eq_true rfl, Nat.le_of_ble_eq_true rfl⟩) hS zN_in (zN_fr hS hA) (fun r_6 u t H locs ht hvm hw1 hB hz1 hk1 hS => ?_)
      have hP := zN_keep hP hk1
      subst hw1
      refine lv_iconst (v := 1) hx hb dX9_register_43 (by decide) ?_
      have hFc := va_free (wc := [((bd 0), .inr (14, [.ref (bd 1), .ref (bd 2), .ref (bd 3), .ref (bd 4), .ref (bd 5), .ref (bd 6), .int 100, .int (-1), .int 0, .int th])), ((bd 1), .inr (4, [.int 0, .ref (bd 7), .int 0])), ((bd 2), .inr (4, [.int 0, .ref (bd 7), .int 0])), ((bd 3), .inr (4, [.int 0, .ref (bd 7), .int 0])), ((bd 4), .inr (4, [.int 0, .ref (bd 7), .int 0])), ((bd 5), .inr (4, [.int 0, .ref (bd 7), .int 0])), ((bd 6), .inr (4, [.int 0, .ref (bd 7), .int 0]))]) hD hS hA [0, 1, 2, 3, 4, 5, 6] rfl
      refine va_calli (va_runV (As := [.int 0, .int 1]) (rest := []) ⟨hx, hb, hml, hown, hw⟩ (c_X9_no0 l D sa ea bd th _ 1) (cwV 2 hw (zg4 zm_1314 zm_1316 zm_26 zm_53 zm_1317) rfl rfl rfl (by decide +kernel) ⟨Nat.le_of_ble_eq_true rfl, Nat.le_of_ble_eq_true rfl⟩) ⟨zW_blind, va_recv hK hP (ci := 14) (q0 := 0) rfl rfl, zW_pre hP hK hD hT hE hS hFc⟩ rfl rfl hl.1 rfl (lv_room (Nat.le_of_ble_eq_true rfl)) dX9_register_44 ⟨Nat.le_of_ble_eq_true rfl, Nat.le_of_ble_eq_true rfl⟩) hS (fun q _ h => hFc q h) hFc (fun r_7 u t H locs ht hvm hw1 hB hz1 hk1 hS => ?_)
      subst hw1
      obtain ⟨hP1, hD1⟩ := hB
      rw [ht] at hP1
      obtain ⟨hP, hD⟩ := va_join (wr := []) (w1 := [((bd 0), .inr (14, [.ref (bd 1), .ref (bd 2), .ref (bd 3), .ref (bd 4), .ref (bd 5), .ref (bd 6), .int 100, .int (-1), .int 0, .int 1])), ((bd 1), .inr (4, [.int 0, .ref (bd 7), .int 0])), ((bd 2), .inr (4, [.int 0, .ref (bd 7), .int 0])), ((bd 3), .inr (4, [.int 0, .ref (bd 7), .int 0])), ((bd 4), .inr (4, [.int 0, .ref (bd 7), .int 0])), ((bd 5), .inr (4, [.int 0, .ref (bd 7), .int 0])), ((bd 6), .inr (4, [.int 0, .ref (bd 7), .int 0]))]) hP hD [0, 1, 2, 3, 4, 5, 6] [] rfl rfl (by decide) (by decide) hk1 hFc hP1 hD1
      have hP : va_P D vwCl [((bd 0), .inr (14, [.ref (bd 1), .ref (bd 2), .ref (bd 3), .ref (bd 4), .ref (bd 5), .ref (bd 6), .int 100, .int (-1), .int 0, .int 1])), ((bd 1), .inr (4, [.int 0, .ref (bd 7), .int 0])), ((bd 2), .inr (4, [.int 0, .ref (bd 7), .int 0])), ((bd 3), .inr (4, [.int 0, .ref (bd 7), .int 0])), ((bd 4), .inr (4, [.int 0, .ref (bd 7), .int 0])), ((bd 5), .inr (4, [.int 0, .ref (bd 7), .int 0])), ((bd 6), .inr (4, [.int 0, .ref (bd 7), .int 0]))] H := hP
      have hD : va_D A [((bd 0), .inr (14, [.ref (bd 1), .ref (bd 2), .ref (bd 3), .ref (bd 4), .ref (bd 5), .ref (bd 6), .int 100, .int (-1), .int 0, .int 1])), ((bd 1), .inr (4, [.int 0, .ref (bd 7), .int 0])), ((bd 2), .inr (4, [.int 0, .ref (bd 7), .int 0])), ((bd 3), .inr (4, [.int 0, .ref (bd 7), .int 0])), ((bd 4), .inr (4, [.int 0, .ref (bd 7), .int 0])), ((bd 5), .inr (4, [.int 0, .ref (bd 7), .int 0])), ((bd 6), .inr (4, [.int 0, .ref (bd 7), .int 0]))] := hD
      refine lv_if_ne (tgt := 113) hx hb dX9_register_47 (by decide) (fun _ => ?_) (fun c_8 => absurd c_8 (by decide))
      refine lv_iconst (v := 0) hx hb dX9_register_113 (by decide) ?_
      have hP9 := hP.sub (ws' := [((bd 0), .inr (14, [.ref (bd 1), .ref (bd 2), .ref (bd 3), .ref (bd 4), .ref (bd 5), .ref (bd 6), .int 100, .int (-1), .int 0, .int 1])), ((bd 1), .inr (4, [.int 0, .ref (bd 7), .int 0])), ((bd 2), .inr (4, [.int 0, .ref (bd 7), .int 0])), ((bd 3), .inr (4, [.int 0, .ref (bd 7), .int 0])), ((bd 4), .inr (4, [.int 0, .ref (bd 7), .int 0])), ((bd 5), .inr (4, [.int 0, .ref (bd 7), .int 0])), ((bd 6), .inr (4, [.int 0, .ref (bd 7), .int 0]))]) [0, 1, 2, 3, 4, 5, 6] rfl
      have hD9 := hD.sub (ws' := [((bd 0), .inr (14, [.ref (bd 1), .ref (bd 2), .ref (bd 3), .ref (bd 4), .ref (bd 5), .ref (bd 6), .int 100, .int (-1), .int 0, .int 1])), ((bd 1), .inr (4, [.int 0, .ref (bd 7), .int 0])), ((bd 2), .inr (4, [.int 0, .ref (bd 7), .int 0])), ((bd 3), .inr (4, [.int 0, .ref (bd 7), .int 0])), ((bd 4), .inr (4, [.int 0, .ref (bd 7), .int 0])), ((bd 5), .inr (4, [.int 0, .ref (bd 7), .int 0])), ((bd 6), .inr (4, [.int 0, .ref (bd 7), .int 0]))]) [0, 1, 2, 3, 4, 5, 6] (by decide) rfl
      refine W.widen (k := 0) (n := 0) (Nat.le_of_ble_eq_true rfl) (Nat.le_of_ble_eq_true rfl) ?_
      exact W.iret (v := 0) hx hb hr (fun t ht hW => ⟨⟨0, (), rfl, rfl, by rw [ht]; exact hP9, hD9⟩, hS.F ht⟩) hS.2.2 dX9_register_114
    · refine lv_iload_n hx hb dX9_register_12 rfl (lv_at hl 2 rfl) ?_
      refine lv_bipush (v := 102) hx hb dX9_register_13 (by decide) ?_
      refine lv_icmp_eq (tgt := 30) hx hb dX9_register_15 (by decide) (fun c_9 => ?_) (fun c_9 => ?_)
      · refine lv_iconst (v := 1) hx hb dX9_register_30 (by decide) ?_
        refine lv_goto (tgt := 35) hx hb dX9_register_31 (by decide) ?_
        refine lv_istore (lv' := [(5, .int 1), (0, .ref (bd 0)), (1, .int p0), (2, .int p1), (3, .int p2), (4, .int p3)]) hx hb dX9_register_35 hl (by decide) rfl (fun ls hl => ?_)
        refine lv_aload_n hx hb dX9_register_37 rfl (lv_at hl 1 rfl) ?_
        refine lv_aload_n hx hb dX9_register_38 rfl (lv_at hl 1 rfl) ?_
        refine lv_iload_n hx hb dX9_register_39 rfl (lv_at hl 2 rfl) ?_
        refine va_calli (va_runV (As := [.int p0]) (rest := [.ref (bd 0)]) ⟨hx, hb, hml, hown, hw⟩ (c_X9_isSett l D sa bd th _ p0) (cwV 1 hw (zg4 zm_1521 zm_1523 zm_29 zm_53 zm_1524) rfl rfl rfl (by decide +kernel) ⟨Nat.le_of_ble_eq_true rfl, Nat.le_of_ble_eq_true rfl⟩) ⟨zJ_blind, va_recv hK hP (ci := 14) (q0 := 0) rfl rfl, zJ_pre hP hK hT⟩ rfl rfl hl.1 rfl (lv_room (Nat.le_of_ble_eq_true rfl)) dX9_register_40 ⟨Nat.le_of_ble_eq_true rfl, Nat.le_of_ble_eq_true rfl⟩) hS zN_in (zN_fr hS hA) (fun r_10 u t H locs ht hvm hw1 hB hz1 hk1 hS => ?_)
        have hP := zN_keep hP hk1
        subst hw1
        refine lv_iconst (v := 1) hx hb dX9_register_43 (by decide) ?_
        have hFc := va_free (wc := [((bd 0), .inr (14, [.ref (bd 1), .ref (bd 2), .ref (bd 3), .ref (bd 4), .ref (bd 5), .ref (bd 6), .int 100, .int (-1), .int 0, .int th])), ((bd 1), .inr (4, [.int 0, .ref (bd 7), .int 0])), ((bd 2), .inr (4, [.int 0, .ref (bd 7), .int 0])), ((bd 3), .inr (4, [.int 0, .ref (bd 7), .int 0])), ((bd 4), .inr (4, [.int 0, .ref (bd 7), .int 0])), ((bd 5), .inr (4, [.int 0, .ref (bd 7), .int 0])), ((bd 6), .inr (4, [.int 0, .ref (bd 7), .int 0]))]) hD hS hA [0, 1, 2, 3, 4, 5, 6] rfl
        refine va_calli (va_runV (As := [.int 0, .int 1]) (rest := []) ⟨hx, hb, hml, hown, hw⟩ (c_X9_no0 l D sa ea bd th _ 1) (cwV 2 hw (zg4 zm_1314 zm_1316 zm_26 zm_53 zm_1317) rfl rfl rfl (by decide +kernel) ⟨Nat.le_of_ble_eq_true rfl, Nat.le_of_ble_eq_true rfl⟩) ⟨zW_blind, va_recv hK hP (ci := 14) (q0 := 0) rfl rfl, zW_pre hP hK hD hT hE hS hFc⟩ rfl rfl hl.1 rfl (lv_room (Nat.le_of_ble_eq_true rfl)) dX9_register_44 ⟨Nat.le_of_ble_eq_true rfl, Nat.le_of_ble_eq_true rfl⟩) hS (fun q _ h => hFc q h) hFc (fun r_11 u t H locs ht hvm hw1 hB hz1 hk1 hS => ?_)
        subst hw1
        obtain ⟨hP1, hD1⟩ := hB
        rw [ht] at hP1
        obtain ⟨hP, hD⟩ := va_join (wr := []) (w1 := [((bd 0), .inr (14, [.ref (bd 1), .ref (bd 2), .ref (bd 3), .ref (bd 4), .ref (bd 5), .ref (bd 6), .int 100, .int (-1), .int 0, .int 1])), ((bd 1), .inr (4, [.int 0, .ref (bd 7), .int 0])), ((bd 2), .inr (4, [.int 0, .ref (bd 7), .int 0])), ((bd 3), .inr (4, [.int 0, .ref (bd 7), .int 0])), ((bd 4), .inr (4, [.int 0, .ref (bd 7), .int 0])), ((bd 5), .inr (4, [.int 0, .ref (bd 7), .int 0])), ((bd 6), .inr (4, [.int 0, .ref (bd 7), .int 0]))]) hP hD [0, 1, 2, 3, 4, 5, 6] [] rfl rfl (by decide) (by decide) hk1 hFc hP1 hD1
        have hP : va_P D vwCl [((bd 0), .inr (14, [.ref (bd 1), .ref (bd 2), .ref (bd 3), .ref (bd 4), .ref (bd 5), .ref (bd 6), .int 100, .int (-1), .int 0, .int 1])), ((bd 1), .inr (4, [.int 0, .ref (bd 7), .int 0])), ((bd 2), .inr (4, [.int 0, .ref (bd 7), .int 0])), ((bd 3), .inr (4, [.int 0, .ref (bd 7), .int 0])), ((bd 4), .inr (4, [.int 0, .ref (bd 7), .int 0])), ((bd 5), .inr (4, [.int 0, .ref (bd 7), .int 0])), ((bd 6), .inr (4, [.int 0, .ref (bd 7), .int 0]))] H := hP
        have hD : va_D A [((bd 0), .inr (14, [.ref (bd 1), .ref (bd 2), .ref (bd 3), .ref (bd 4), .ref (bd 5), .ref (bd 6), .int 100, .int (-1), .int 0, .int 1])), ((bd 1), .inr (4, [.int 0, .ref (bd 7), .int 0])), ((bd 2), .inr (4, [.int 0, .ref (bd 7), .int 0])), ((bd 3), .inr (4, [.int 0, .ref (bd 7), .int 0])), ((bd 4), .inr (4, [.int 0, .ref (bd 7), .int 0])), ((bd 5), .inr (4, [.int 0, .ref (bd 7), .int 0])), ((bd 6), .inr (4, [.int 0, .ref (bd 7), .int 0]))] := hD
        refine lv_if_ne (tgt := 113) hx hb dX9_register_47 (by decide) (fun _ => ?_) (fun c_12 => absurd c_12 (by decide))
        refine lv_iconst (v := 0) hx hb dX9_register_113 (by decide) ?_
        have hP9 := hP.sub (ws' := [((bd 0), .inr (14, [.ref (bd 1), .ref (bd 2), .ref (bd 3), .ref (bd 4), .ref (bd 5), .ref (bd 6), .int 100, .int (-1), .int 0, .int 1])), ((bd 1), .inr (4, [.int 0, .ref (bd 7), .int 0])), ((bd 2), .inr (4, [.int 0, .ref (bd 7), .int 0])), ((bd 3), .inr (4, [.int 0, .ref (bd 7), .int 0])), ((bd 4), .inr (4, [.int 0, .ref (bd 7), .int 0])), ((bd 5), .inr (4, [.int 0, .ref (bd 7), .int 0])), ((bd 6), .inr (4, [.int 0, .ref (bd 7), .int 0]))]) [0, 1, 2, 3, 4, 5, 6] rfl
        have hD9 := hD.sub (ws' := [((bd 0), .inr (14, [.ref (bd 1), .ref (bd 2), .ref (bd 3), .ref (bd 4), .ref (bd 5), .ref (bd 6), .int 100, .int (-1), .int 0, .int 1])), ((bd 1), .inr (4, [.int 0, .ref (bd 7), .int 0])), ((bd 2), .inr (4, [.int 0, .ref (bd 7), .int 0])), ((bd 3), .inr (4, [.int 0, .ref (bd 7), .int 0])), ((bd 4), .inr (4, [.int 0, .ref (bd 7), .int 0])), ((bd 5), .inr (4, [.int 0, .ref (bd 7), .int 0])), ((bd 6), .inr (4, [.int 0, .ref (bd 7), .int 0]))]) [0, 1, 2, 3, 4, 5, 6] (by decide) rfl
        refine W.widen (k := 0) (n := 0) (Nat.le_of_ble_eq_true rfl) (Nat.le_of_ble_eq_true rfl) ?_
        exact W.iret (v := 0) hx hb hr (fun t ht hW => ⟨⟨0, (), rfl, rfl, by rw [ht]; exact hP9, hD9⟩, hS.F ht⟩) hS.2.2 dX9_register_114
      · refine lv_iload_n hx hb dX9_register_18 rfl (lv_at hl 2 rfl) ?_
        refine lv_bipush (v := 112) hx hb dX9_register_19 (by decide) ?_
        refine lv_icmp_eq (tgt := 30) hx hb dX9_register_21 (by decide) (fun c_13 => ?_) (fun c_13 => ?_)
        · refine lv_iconst (v := 1) hx hb dX9_register_30 (by decide) ?_
          refine lv_goto (tgt := 35) hx hb dX9_register_31 (by decide) ?_
          refine lv_istore (lv' := [(5, .int 1), (0, .ref (bd 0)), (1, .int p0), (2, .int p1), (3, .int p2), (4, .int p3)]) hx hb dX9_register_35 hl (by decide) rfl (fun ls hl => ?_)
          refine lv_aload_n hx hb dX9_register_37 rfl (lv_at hl 1 rfl) ?_
          refine lv_aload_n hx hb dX9_register_38 rfl (lv_at hl 1 rfl) ?_
          refine lv_iload_n hx hb dX9_register_39 rfl (lv_at hl 2 rfl) ?_
          refine va_calli (va_runV (As := [.int p0]) (rest := [.ref (bd 0)]) ⟨hx, hb, hml, hown, hw⟩ (c_X9_isSett l D sa bd th _ p0) (cwV 1 hw (zg4 zm_1521 zm_1523 zm_29 zm_53 zm_1524) rfl rfl rfl (by decide +kernel) ⟨Nat.le_of_ble_eq_true rfl, Nat.le_of_ble_eq_true rfl⟩) ⟨zJ_blind, va_recv hK hP (ci := 14) (q0 := 0) rfl rfl, zJ_pre hP hK hT⟩ rfl rfl hl.1 rfl (lv_room (Nat.le_of_ble_eq_true rfl)) dX9_register_40 ⟨Nat.le_of_ble_eq_true rfl, Nat.le_of_ble_eq_true rfl⟩) hS zN_in (zN_fr hS hA) (fun r_14 u t H locs ht hvm hw1 hB hz1 hk1 hS => ?_)
          have hP := zN_keep hP hk1
          subst hw1
          refine lv_iconst (v := 1) hx hb dX9_register_43 (by decide) ?_
          have hFc := va_free (wc := [((bd 0), .inr (14, [.ref (bd 1), .ref (bd 2), .ref (bd 3), .ref (bd 4), .ref (bd 5), .ref (bd 6), .int 100, .int (-1), .int 0, .int th])), ((bd 1), .inr (4, [.int 0, .ref (bd 7), .int 0])), ((bd 2), .inr (4, [.int 0, .ref (bd 7), .int 0])), ((bd 3), .inr (4, [.int 0, .ref (bd 7), .int 0])), ((bd 4), .inr (4, [.int 0, .ref (bd 7), .int 0])), ((bd 5), .inr (4, [.int 0, .ref (bd 7), .int 0])), ((bd 6), .inr (4, [.int 0, .ref (bd 7), .int 0]))]) hD hS hA [0, 1, 2, 3, 4, 5, 6] rfl
          refine va_calli (va_runV (As := [.int 0, .int 1]) (rest := []) ⟨hx, hb, hml, hown, hw⟩ (c_X9_no0 l D sa ea bd th _ 1) (cwV 2 hw (zg4 zm_1314 zm_1316 zm_26 zm_53 zm_1317) rfl rfl rfl (by decide +kernel) ⟨Nat.le_of_ble_eq_true rfl, Nat.le_of_ble_eq_true rfl⟩) ⟨zW_blind, va_recv hK hP (ci := 14) (q0 := 0) rfl rfl, zW_pre hP hK hD hT hE hS hFc⟩ rfl rfl hl.1 rfl (lv_room (Nat.le_of_ble_eq_true rfl)) dX9_register_44 ⟨Nat.le_of_ble_eq_true rfl, Nat.le_of_ble_eq_true rfl⟩) hS (fun q _ h => hFc q h) hFc (fun r_15 u t H locs ht hvm hw1 hB hz1 hk1 hS => ?_)
          subst hw1
          obtain ⟨hP1, hD1⟩ := hB
          rw [ht] at hP1
          obtain ⟨hP, hD⟩ := va_join (wr := []) (w1 := [((bd 0), .inr (14, [.ref (bd 1), .ref (bd 2), .ref (bd 3), .ref (bd 4), .ref (bd 5), .ref (bd 6), .int 100, .int (-1), .int 0, .int 1])), ((bd 1), .inr (4, [.int 0, .ref (bd 7), .int 0])), ((bd 2), .inr (4, [.int 0, .ref (bd 7), .int 0])), ((bd 3), .inr (4, [.int 0, .ref (bd 7), .int 0])), ((bd 4), .inr (4, [.int 0, .ref (bd 7), .int 0])), ((bd 5), .inr (4, [.int 0, .ref (bd 7), .int 0])), ((bd 6), .inr (4, [.int 0, .ref (bd 7), .int 0]))]) hP hD [0, 1, 2, 3, 4, 5, 6] [] rfl rfl (by decide) (by decide) hk1 hFc hP1 hD1
          have hP : va_P D vwCl [((bd 0), .inr (14, [.ref (bd 1), .ref (bd 2), .ref (bd 3), .ref (bd 4), .ref (bd 5), .ref (bd 6), .int 100, .int (-1), .int 0, .int 1])), ((bd 1), .inr (4, [.int 0, .ref (bd 7), .int 0])), ((bd 2), .inr (4, [.int 0, .ref (bd 7), .int 0])), ((bd 3), .inr (4, [.int 0, .ref (bd 7), .int 0])), ((bd 4), .inr (4, [.int 0, .ref (bd 7), .int 0])), ((bd 5), .inr (4, [.int 0, .ref (bd 7), .int 0])), ((bd 6), .inr (4, [.int 0, .ref (bd 7), .int 0]))] H := hP
          have hD : va_D A [((bd 0), .inr (14, [.ref (bd 1), .ref (bd 2), .ref (bd 3), .ref (bd 4), .ref (bd 5), .ref (bd 6), .int 100, .int (-1), .int 0, .int 1])), ((bd 1), .inr (4, [.int 0, .ref (bd 7), .int 0])), ((bd 2), .inr (4, [.int 0, .ref (bd 7), .int 0])), ((bd 3), .inr (4, [.int 0, .ref (bd 7), .int 0])), ((bd 4), .inr (4, [.int 0, .ref (bd 7), .int 0])), ((bd 5), .inr (4, [.int 0, .ref (bd 7), .int 0])), ((bd 6), .inr (4, [.int 0, .ref (bd 7), .int 0]))] := hD
          refine lv_if_ne (tgt := 113) hx hb dX9_register_47 (by decide) (fun _ => ?_) (fun c_16 => absurd c_16 (by decide))
          refine lv_iconst (v := 0) hx hb dX9_register_113 (by decide) ?_
          have hP9 := hP.sub (ws' := [((bd 0), .inr (14, [.ref (bd 1), .ref (bd 2), .ref (bd 3), .ref (bd 4), .ref (bd 5), .ref (bd 6), .int 100, .int (-1), .int 0, .int 1])), ((bd 1), .inr (4, [.int 0, .ref (bd 7), .int 0])), ((bd 2), .inr (4, [.int 0, .ref (bd 7), .int 0])), ((bd 3), .inr (4, [.int 0, .ref (bd 7), .int 0])), ((bd 4), .inr (4, [.int 0, .ref (bd 7), .int 0])), ((bd 5), .inr (4, [.int 0, .ref (bd 7), .int 0])), ((bd 6), .inr (4, [.int 0, .ref (bd 7), .int 0]))]) [0, 1, 2, 3, 4, 5, 6] rfl
          have hD9 := hD.sub (ws' := [((bd 0), .inr (14, [.ref (bd 1), .ref (bd 2), .ref (bd 3), .ref (bd 4), .ref (bd 5), .ref (bd 6), .int 100, .int (-1), .int 0, .int 1])), ((bd 1), .inr (4, [.int 0, .ref (bd 7), .int 0])), ((bd 2), .inr (4, [.int 0, .ref (bd 7), .int 0])), ((bd 3), .inr (4, [.int 0, .ref (bd 7), .int 0])), ((bd 4), .inr (4, [.int 0, .ref (bd 7), .int 0])), ((bd 5), .inr (4, [.int 0, .ref (bd 7), .int 0])), ((bd 6), .inr (4, [.int 0, .ref (bd 7), .int 0]))]) [0, 1, 2, 3, 4, 5, 6] (by decide) rfl
          refine W.widen (k := 0) (n := 0) (Nat.le_of_ble_eq_true rfl) (Nat.le_of_ble_eq_true rfl) ?_
          exact W.iret (v := 0) hx hb hr (fun t ht hW => ⟨⟨0, (), rfl, rfl, by rw [ht]; exact hP9, hD9⟩, hS.F ht⟩) hS.2.2 dX9_register_114
        · refine lv_iload_n hx hb dX9_register_24 rfl (lv_at hl 2 rfl) ?_
          refine lv_bipush (v := 110) hx hb dX9_register_25 (by decide) ?_
          refine lv_icmp_ne (tgt := 34) hx hb dX9_register_27 (by decide) (fun c_17 => ?_) (fun c_17 => ?_)
          · refine lv_iconst (v := 0) hx hb dX9_register_34 (by decide) ?_
            refine lv_istore (lv' := [(5, .int 0), (0, .ref (bd 0)), (1, .int p0), (2, .int p1), (3, .int p2), (4, .int p3)]) hx hb dX9_register_35 hl (by decide) rfl (fun ls hl => ?_)
            refine lv_aload_n hx hb dX9_register_37 rfl (lv_at hl 1 rfl) ?_
            refine lv_aload_n hx hb dX9_register_38 rfl (lv_at hl 1 rfl) ?_
            refine lv_iload_n hx hb dX9_register_39 rfl (lv_at hl 2 rfl) ?_
            refine va_calli (va_runV (As := [.int p0]) (rest := [.ref (bd 0)]) ⟨hx, hb, hml, hown, hw⟩ (c_X9_isSett l D sa bd th _ p0) (cwV 1 hw (zg4 zm_1521 zm_1523 zm_29 zm_53 zm_1524) rfl rfl rfl (by decide +kernel) ⟨Nat.le_of_ble_eq_true rfl, Nat.le_of_ble_eq_true rfl⟩) ⟨zJ_blind, va_recv hK hP (ci := 14) (q0 := 0) rfl rfl, zJ_pre hP hK hT⟩ rfl rfl hl.1 rfl (lv_room (Nat.le_of_ble_eq_true rfl)) dX9_register_40 ⟨Nat.le_of_ble_eq_true rfl, Nat.le_of_ble_eq_true rfl⟩) hS zN_in (zN_fr hS hA) (fun r_18 u t H locs ht hvm hw1 hB hz1 hk1 hS => ?_)
            have hP := zN_keep hP hk1
            subst hw1
            refine lv_iconst (v := 1) hx hb dX9_register_43 (by decide) ?_
            have hFc := va_free (wc := [((bd 0), .inr (14, [.ref (bd 1), .ref (bd 2), .ref (bd 3), .ref (bd 4), .ref (bd 5), .ref (bd 6), .int 100, .int (-1), .int 0, .int th])), ((bd 1), .inr (4, [.int 0, .ref (bd 7), .int 0])), ((bd 2), .inr (4, [.int 0, .ref (bd 7), .int 0])), ((bd 3), .inr (4, [.int 0, .ref (bd 7), .int 0])), ((bd 4), .inr (4, [.int 0, .ref (bd 7), .int 0])), ((bd 5), .inr (4, [.int 0, .ref (bd 7), .int 0])), ((bd 6), .inr (4, [.int 0, .ref (bd 7), .int 0]))]) hD hS hA [0, 1, 2, 3, 4, 5, 6] rfl
            refine va_calli (va_runV (As := [.int 0, .int 1]) (rest := []) ⟨hx, hb, hml, hown, hw⟩ (c_X9_no0 l D sa ea bd th _ 1) (cwV 2 hw (zg4 zm_1314 zm_1316 zm_26 zm_53 zm_1317) rfl rfl rfl (by decide +kernel) ⟨Nat.le_of_ble_eq_true rfl, Nat.le_of_ble_eq_true rfl⟩) ⟨zW_blind, va_recv hK hP (ci := 14) (q0 := 0) rfl rfl, zW_pre hP hK hD hT hE hS hFc⟩ rfl rfl hl.1 rfl (lv_room (Nat.le_of_ble_eq_true rfl)) dX9_register_44 ⟨Nat.le_of_ble_eq_true rfl, Nat.le_of_ble_eq_true rfl⟩) hS (fun q _ h => hFc q h) hFc (fun r_19 u t H locs ht hvm hw1 hB hz1 hk1 hS => ?_)
            subst hw1
            obtain ⟨hP1, hD1⟩ := hB
            rw [ht] at hP1
            obtain ⟨hP, hD⟩ := va_join (wr := []) (w1 := [((bd 0), .inr (14, [.ref (bd 1), .ref (bd 2), .ref (bd 3), .ref (bd 4), .ref (bd 5), .ref (bd 6), .int 100, .int (-1), .int 0, .int 1])), ((bd 1), .inr (4, [.int 0, .ref (bd 7), .int 0])), ((bd 2), .inr (4, [.int 0, .ref (bd 7), .int 0])), ((bd 3), .inr (4, [.int 0, .ref (bd 7), .int 0])), ((bd 4), .inr (4, [.int 0, .ref (bd 7), .int 0])), ((bd 5), .inr (4, [.int 0, .ref (bd 7), .int 0])), ((bd 6), .inr (4, [.int 0, .ref (bd 7), .int 0]))]) hP hD [0, 1, 2, 3, 4, 5, 6] [] rfl rfl (by decide) (by decide) hk1 hFc hP1 hD1
            have hP : va_P D vwCl [((bd 0), .inr (14, [.ref (bd 1), .ref (bd 2), .ref (bd 3), .ref (bd 4), .ref (bd 5), .ref (bd 6), .int 100, .int (-1), .int 0, .int 1])), ((bd 1), .inr (4, [.int 0, .ref (bd 7), .int 0])), ((bd 2), .inr (4, [.int 0, .ref (bd 7), .int 0])), ((bd 3), .inr (4, [.int 0, .ref (bd 7), .int 0])), ((bd 4), .inr (4, [.int 0, .ref (bd 7), .int 0])), ((bd 5), .inr (4, [.int 0, .ref (bd 7), .int 0])), ((bd 6), .inr (4, [.int 0, .ref (bd 7), .int 0]))] H := hP
            have hD : va_D A [((bd 0), .inr (14, [.ref (bd 1), .ref (bd 2), .ref (bd 3), .ref (bd 4), .ref (bd 5), .ref (bd 6), .int 100, .int (-1), .int 0, .int 1])), ((bd 1), .inr (4, [.int 0, .ref (bd 7), .int 0])), ((bd 2), .inr (4, [.int 0, .ref (bd 7), .int 0])), ((bd 3), .inr (4, [.int 0, .ref (bd 7), .int 0])), ((bd 4), .inr (4, [.int 0, .ref (bd 7), .int 0])), ((bd 5), .inr (4, [.int 0, .ref (bd 7), .int 0])), ((bd 6), .inr (4, [.int 0, .ref (bd 7), .int 0]))] := hD
            refine lv_if_ne (tgt := 113) hx hb dX9_register_47 (by decide) (fun _ => ?_) (fun c_20 => absurd c_20 (by decide))
            refine lv_iconst (v := 0) hx hb dX9_register_113 (by decide) ?_
            have hP9 := hP.sub (ws' := [((bd 0), .inr (14, [.ref (bd 1), .ref (bd 2), .ref (bd 3), .ref (bd 4), .ref (bd 5), .ref (bd 6), .int 100, .int (-1), .int 0, .int 1])), ((bd 1), .inr (4, [.int 0, .ref (bd 7), .int 0])), ((bd 2), .inr (4, [.int 0, .ref (bd 7), .int 0])), ((bd 3), .inr (4, [.int 0, .ref (bd 7), .int 0])), ((bd 4), .inr (4, [.int 0, .ref (bd 7), .int 0])), ((bd 5), .inr (4, [.int 0, .ref (bd 7), .int 0])), ((bd 6), .inr (4, [.int 0, .ref (bd 7), .int 0]))]) [0, 1, 2, 3, 4, 5, 6] rfl
            have hD9 := hD.sub (ws' := [((bd 0), .inr (14, [.ref (bd 1), .ref (bd 2), .ref (bd 3), .ref (bd 4), .ref (bd 5), .ref (bd 6), .int 100, .int (-1), .int 0, .int 1])), ((bd 1), .inr (4, [.int 0, .ref (bd 7), .int 0])), ((bd 2), .inr (4, [.int 0, .ref (bd 7), .int 0])), ((bd 3), .inr (4, [.int 0, .ref (bd 7), .int 0])), ((bd 4), .inr (4, [.int 0, .ref (bd 7), .int 0])), ((bd 5), .inr (4, [.int 0, .ref (bd 7), .int 0])), ((bd 6), .inr (4, [.int 0, .ref (bd 7), .int 0]))]) [0, 1, 2, 3, 4, 5, 6] (by decide) rfl
            refine W.widen (k := 0) (n := 0) (Nat.le_of_ble_eq_true rfl) (Nat.le_of_ble_eq_true rfl) ?_
            exact W.iret (v := 0) hx hb hr (fun t ht hW => ⟨⟨0, (), rfl, rfl, by rw [ht]; exact hP9, hD9⟩, hS.F ht⟩) hS.2.2 dX9_register_114
          · refine lv_iconst (v := 1) hx hb dX9_register_30 (by decide) ?_
            refine lv_goto (tgt := 35) hx hb dX9_register_31 (by decide) ?_
            refine lv_istore (lv' := [(5, .int 1), (0, .ref (bd 0)), (1, .int p0), (2, .int p1), (3, .int p2), (4, .int p3)]) hx hb dX9_register_35 hl (by decide) rfl (fun ls hl => ?_)
            refine lv_aload_n hx hb dX9_register_37 rfl (lv_at hl 1 rfl) ?_
            refine lv_aload_n hx hb dX9_register_38 rfl (lv_at hl 1 rfl) ?_
            refine lv_iload_n hx hb dX9_register_39 rfl (lv_at hl 2 rfl) ?_
            refine va_calli (va_runV (As := [.int p0]) (rest := [.ref (bd 0)]) ⟨hx, hb, hml, hown, hw⟩ (c_X9_isSett l D sa bd th _ p0) (cwV 1 hw (zg4 zm_1521 zm_1523 zm_29 zm_53 zm_1524) rfl rfl rfl (by decide +kernel) ⟨Nat.le_of_ble_eq_true rfl, Nat.le_of_ble_eq_true rfl⟩) ⟨zJ_blind, va_recv hK hP (ci := 14) (q0 := 0) rfl rfl, zJ_pre hP hK hT⟩ rfl rfl hl.1 rfl (lv_room (Nat.le_of_ble_eq_true rfl)) dX9_register_40 ⟨Nat.le_of_ble_eq_true rfl, Nat.le_of_ble_eq_true rfl⟩) hS zN_in (zN_fr hS hA) (fun r_21 u t H locs ht hvm hw1 hB hz1 hk1 hS => ?_)
            have hP := zN_keep hP hk1
            subst hw1
            refine lv_iconst (v := 1) hx hb dX9_register_43 (by decide) ?_
            have hFc := va_free (wc := [((bd 0), .inr (14, [.ref (bd 1), .ref (bd 2), .ref (bd 3), .ref (bd 4), .ref (bd 5), .ref (bd 6), .int 100, .int (-1), .int 0, .int th])), ((bd 1), .inr (4, [.int 0, .ref (bd 7), .int 0])), ((bd 2), .inr (4, [.int 0, .ref (bd 7), .int 0])), ((bd 3), .inr (4, [.int 0, .ref (bd 7), .int 0])), ((bd 4), .inr (4, [.int 0, .ref (bd 7), .int 0])), ((bd 5), .inr (4, [.int 0, .ref (bd 7), .int 0])), ((bd 6), .inr (4, [.int 0, .ref (bd 7), .int 0]))]) hD hS hA [0, 1, 2, 3, 4, 5, 6] rfl
            refine va_calli (va_runV (As := [.int 0, .int 1]) (rest := []) ⟨hx, hb, hml, hown, hw⟩ (c_X9_no0 l D sa ea bd th _ 1) (cwV 2 hw (zg4 zm_1314 zm_1316 zm_26 zm_53 zm_1317) rfl rfl rfl (by decide +kernel) ⟨Nat.le_of_ble_eq_true rfl, Nat.le_of_ble_eq_true rfl⟩) ⟨zW_blind, va_recv hK hP (ci := 14) (q0 := 0) rfl rfl, zW_pre hP hK hD hT hE hS hFc⟩ rfl rfl hl.1 rfl (lv_room (Nat.le_of_ble_eq_true rfl)) dX9_register_44 ⟨Nat.le_of_ble_eq_true rfl, Nat.le_of_ble_eq_true rfl⟩) hS (fun q _ h => hFc q h) hFc (fun r_22 u t H locs ht hvm hw1 hB hz1 hk1 hS => ?_)
            subst hw1
            obtain ⟨hP1, hD1⟩ := hB
            rw [ht] at hP1
            obtain ⟨hP, hD⟩ := va_join (wr := []) (w1 := [((bd 0), .inr (14, [.ref (bd 1), .ref (bd 2), .ref (bd 3), .ref (bd 4), .ref (bd 5), .ref (bd 6), .int 100, .int (-1), .int 0, .int 1])), ((bd 1), .inr (4, [.int 0, .ref (bd 7), .int 0])), ((bd 2), .inr (4, [.int 0, .ref (bd 7), .int 0])), ((bd 3), .inr (4, [.int 0, .ref (bd 7), .int 0])), ((bd 4), .inr (4, [.int 0, .ref (bd 7), .int 0])), ((bd 5), .inr (4, [.int 0, .ref (bd 7), .int 0])), ((bd 6), .inr (4, [.int 0, .ref (bd 7), .int 0]))]) hP hD [0, 1, 2, 3, 4, 5, 6] [] rfl rfl (by decide) (by decide) hk1 hFc hP1 hD1
            have hP : va_P D vwCl [((bd 0), .inr (14, [.ref (bd 1), .ref (bd 2), .ref (bd 3), .ref (bd 4), .ref (bd 5), .ref (bd 6), .int 100, .int (-1), .int 0, .int 1])), ((bd 1), .inr (4, [.int 0, .ref (bd 7), .int 0])), ((bd 2), .inr (4, [.int 0, .ref (bd 7), .int 0])), ((bd 3), .inr (4, [.int 0, .ref (bd 7), .int 0])), ((bd 4), .inr (4, [.int 0, .ref (bd 7), .int 0])), ((bd 5), .inr (4, [.int 0, .ref (bd 7), .int 0])), ((bd 6), .inr (4, [.int 0, .ref (bd 7), .int 0]))] H := hP
            have hD : va_D A [((bd 0), .inr (14, [.ref (bd 1), .ref (bd 2), .ref (bd 3), .ref (bd 4), .ref (bd 5), .ref (bd 6), .int 100, .int (-1), .int 0, .int 1])), ((bd 1), .inr (4, [.int 0, .ref (bd 7), .int 0])), ((bd 2), .inr (4, [.int 0, .ref (bd 7), .int 0])), ((bd 3), .inr (4, [.int 0, .ref (bd 7), .int 0])), ((bd 4), .inr (4, [.int 0, .ref (bd 7), .int 0])), ((bd 5), .inr (4, [.int 0, .ref (bd 7), .int 0])), ((bd 6), .inr (4, [.int 0, .ref (bd 7), .int 0]))] := hD
            refine lv_if_ne (tgt := 113) hx hb dX9_register_47 (by decide) (fun _ => ?_) (fun c_23 => absurd c_23 (by decide))
            refine lv_iconst (v := 0) hx hb dX9_register_113 (by decide) ?_
            have hP9 := hP.sub (ws' := [((bd 0), .inr (14, [.ref (bd 1), .ref (bd 2), .ref (bd 3), .ref (bd 4), .ref (bd 5), .ref (bd 6), .int 100, .int (-1), .int 0, .int 1])), ((bd 1), .inr (4, [.int 0, .ref (bd 7), .int 0])), ((bd 2), .inr (4, [.int 0, .ref (bd 7), .int 0])), ((bd 3), .inr (4, [.int 0, .ref (bd 7), .int 0])), ((bd 4), .inr (4, [.int 0, .ref (bd 7), .int 0])), ((bd 5), .inr (4, [.int 0, .ref (bd 7), .int 0])), ((bd 6), .inr (4, [.int 0, .ref (bd 7), .int 0]))]) [0, 1, 2, 3, 4, 5, 6] rfl
            have hD9 := hD.sub (ws' := [((bd 0), .inr (14, [.ref (bd 1), .ref (bd 2), .ref (bd 3), .ref (bd 4), .ref (bd 5), .ref (bd 6), .int 100, .int (-1), .int 0, .int 1])), ((bd 1), .inr (4, [.int 0, .ref (bd 7), .int 0])), ((bd 2), .inr (4, [.int 0, .ref (bd 7), .int 0])), ((bd 3), .inr (4, [.int 0, .ref (bd 7), .int 0])), ((bd 4), .inr (4, [.int 0, .ref (bd 7), .int 0])), ((bd 5), .inr (4, [.int 0, .ref (bd 7), .int 0])), ((bd 6), .inr (4, [.int 0, .ref (bd 7), .int 0]))]) [0, 1, 2, 3, 4, 5, 6] (by decide) rfl
            refine W.widen (k := 0) (n := 0) (Nat.le_of_ble_eq_true rfl) (Nat.le_of_ble_eq_true rfl) ?_
            exact W.iret (v := 0) hx hb hr (fun t ht hW => ⟨⟨0, (), rfl, rfl, by rw [ht]; exact hP9, hD9⟩, hS.F ht⟩) hS.2.2 dX9_register_114
theorem dX5_withdraw_0 : decode cX5_withdraw 0 = .ok (.aload_n 0, 1) := by decide +kernel
theorem dX5_withdraw_1 : decode cX5_withdraw 1 = .ok (.iload_n 1, 1) := by decide +kernel
theorem dX5_withdraw_2 : decode cX5_withdraw 2 = .ok (.invokevirtual 233, 3) := by decide +kernel
theorem zm_979 : Cond.methodLink RX5 233 yX5_registeredAt ∈ WA := zmm (i := 979) (by decide +kernel) (by decide +kernel)
theorem zm_981 : Cond.instanceMethod yX5_registeredAt ∈ WA := zmm (i := 981) (by decide +kernel) (by decide +kernel)
theorem zm_18 : Cond.selects RX5 yX5_registeredAt yX5_registeredAt ∈ WA := zmm (i := 18) (by decide +kernel) (by decide +kernel)
theorem zm_982 : Cond.code yX5_registeredAt prog_1_method_60_code 3 (Option.some (FieldType.object "Settbook$Sett")) ∈ WA := zmm (i := 982) (by decide +kernel) (by decide +kernel)
set_option maxHeartbeats 4000000 in
set_option maxRecDepth 100000 in
theorem c_X5_withdraw (l : Launch) (hst : l.stackTraces = false) (D : va_G) (sa : Nat → Nat) (ad : Nat → Nat) (sz : Nat) (p0 : Int32) : vx_Met l yX5_withdraw ((Cond.code yX5_withdraw prog_1_method_27_code 4 (Option.some FieldType.boolean)) :: WA) ({ frames := 8, cells := 1, slots := 6, locals := 125 }) (zR D sa (zX ad) [.ref (ad 0), .int p0] sz) zF (zXC "java/lang/IndexOutOfBoundsException" sz) 1 6 (zN sz) := by
  refine vx_ofW (cc := prog_1_method_27_code) (maxL := 4) (ret := (Option.some FieldType.boolean)) (by decide) rfl ?_
  intro p e s m args below meth c s₁ B hml hnt hv
  obtain ⟨rfl, hsz, hP, hK, hT, hZ⟩ := hv
  have hx := B.exec
  have hb := B.bytes
  have hr := B.returns
  have hts := atoms_spec (ws := (Cond.code yX5_withdraw prog_1_method_27_code 4 (Option.some FieldType.boolean)) :: WA) B.pre
  have hw : ∀ w ∈ WA, w.before _ s = true := fun w h => hts w (List.mem_cons_of_mem _ h)
  have hown : s.vm.findClass RX5 = some m.cls := findClass_of_methodNamed B.named
  have hlocks := B.notSynchronized
  subst hsz
  have hA : ∀ q : Nat, s.heap.size ≤ q → zN s.heap.size q := fun _ h => h
  have hS : va_S (zN s.heap.size) s.heap s.heap [] := va_S.rf
  have hP : va_P D vwCl [((ad 0), .inr (10, [.ref (ad 1), .ref (ad 2), .ref (ad 3), .ref (ad 4), .ref (ad 5), .int (-1), .int 100, .int 0, .int 0])), ((ad 1), .inr (7, [.ref (ad 6), .ref (ad 7), .ref (ad 8), .int 0])), ((ad 2), .inr (8, [.ref (ad 9), .ref (ad 10), .int 0])), ((ad 3), .inr (4, [.int 0, .ref (ad 14), .int 0])), ((ad 4), .inr (4, [.int 0, .ref (ad 14), .int 0])), ((ad 5), .inr (6, [.ref (ad 11), .ref (ad 12), .ref (ad 13), .int 0, .int 0]))] s.heap := hP
  have hl := lv_entry [.ref (ad 0), .int p0] (n := 4) (Nat.le_of_ble_eq_true rfl)
  rw [lg_entry_eq]
  generalize (lg_sl [.ref (ad 0), .int p0] ++ List.replicate (4 - (lg_sl [.ref (ad 0), .int p0]).length) Slot.unset).toArray = ls at hl ⊢
  have hl : lv_has ls 4 [(0, .ref (ad 0)), (1, .int p0)] := hl
  refine lv_aload_n hx hb dX5_withdraw_0 rfl (lv_at hl 0 rfl) ?_
  refine lv_iload_n hx hb dX5_withdraw_1 rfl (lv_at hl 1 rfl) ?_
  refine zx_call (vx_runV (As := [.int p0]) (rest := []) ⟨hx, hb, hml, hown, hw⟩ (c_X5_registeredAt l hst D sa ad _ p0) (cwV 1 hw (zg4 zm_979 zm_981 zm_18 zm_45 zm_982) rfl rfl rfl (by decide +kernel) ⟨Nat.le_of_ble_eq_true rfl, Nat.le_of_ble_eq_true rfl⟩) ⟨zR_blind, va_recv hK hP (ci := 10) (q0 := 0) rfl rfl, zR_pre hP hK hT hZ hS hA⟩ rfl rfl hl.1 rfl (lv_room (Nat.le_of_ble_eq_true rfl)) dX5_withdraw_2 ⟨Nat.le_of_ble_eq_true rfl, Nat.le_of_ble_eq_true rfl⟩) hS (zN_fr hS hA) zN_in (fun E ce q9 u t H locs ht hvm hu hE hz1 hk1 hS hce hcv hcl => ?_)
  exact vx_out (fun x hx9 => (hnt x hx9).elim) hlocks hce hcv hcl (fun t ht _ => ⟨(), trivial, hE, hS.F ht⟩) (fun z hz => hS.2.2 z hz) (Nat.le_of_ble_eq_true rfl) (Nat.le_of_ble_eq_true rfl)
theorem dL_withdraw_0 : decode cL_withdraw 0 = .ok (.aload_n 2, 1) := by decide +kernel
theorem dL_withdraw_1 : decode cL_withdraw 1 = .ok (.iconst 0, 1) := by decide +kernel
theorem dL_withdraw_2 : decode cL_withdraw 2 = .ok (.aload_n 0, 1) := by decide +kernel
theorem dL_withdraw_3 : decode cL_withdraw 3 = .ok (.iload_n 1, 1) := by decide +kernel
theorem dL_withdraw_4 : decode cL_withdraw 4 = .ok (.invokevirtual 101, 3) := by decide +kernel
theorem zm_975 : Cond.methodLink RL 101 yX5_withdraw ∈ WA := zmm (i := 975) (by decide +kernel) (by decide +kernel)
theorem zm_976 : Cond.instanceMethod yX5_withdraw ∈ WA := zmm (i := 976) (by decide +kernel) (by decide +kernel)
theorem zm_977 : Cond.selects RX5 yX5_withdraw yX5_withdraw ∈ WA := zmm (i := 977) (by decide +kernel) (by decide +kernel)
theorem zm_978 : Cond.code yX5_withdraw prog_1_method_27_code 4 (Option.some FieldType.boolean) ∈ WA := zmm (i := 978) (by decide +kernel) (by decide +kernel)
theorem dL_withdraw_19 : decode cL_withdraw 19 = .ok (.astore_n 3, 1) := by decide +kernel
theorem dL_withdraw_20 : decode cL_withdraw 20 = .ok (.iconst 1, 1) := by decide +kernel
theorem dL_withdraw_21 : decode cL_withdraw 21 = .ok (.ireturn, 1) := by decide +kernel
set_option maxHeartbeats 4000000 in
set_option maxRecDepth 100000 in
theorem c_L_withdraw (l : Launch) (hst : l.stackTraces = false) (D : va_G) (sa : Nat → Nat) (ad : Nat → Nat) (sz : Nat) (p0 : Int32) (oa : Nat) : vx_Met l yL_withdraw ((Cond.codeWith yL_withdraw method_27_code 4 (Option.some FieldType.int) [(0, 16, 19, 23), (0, 16, 22, 15)]) :: WA) ({ frames := 9, cells := 1, slots := 6, locals := 148 }) (zR D sa (zX ad) [.ref (ad 0), .int p0, .ref oa] sz) (va_Qi (fun (r : Int32) (_ : Unit) => r = 1) (fun _ _ => True) (zN sz)) (zX0 sz) 1 6 (zN sz) := by
  refine vx_ofWH (cc := method_27_code) (maxL := 4) (ret := (Option.some FieldType.int)) (hh := [(0, 16, 19, 23), (0, 16, 22, 15)]) (by decide) rfl ?_
  intro p e s m args below meth c s₁ B hml hv
  obtain ⟨rfl, hsz, hP, hK, hT, hZ⟩ := hv
  have hx := B.exec
  have hb := B.bytes
  have hr := B.returns
  have hts := atoms_spec (ws := (Cond.codeWith yL_withdraw method_27_code 4 (Option.some FieldType.int) [(0, 16, 19, 23), (0, 16, 22, 15)]) :: WA) B.pre
  have hw : ∀ w ∈ WA, w.before _ s = true := fun w h => hts w (List.mem_cons_of_mem _ h)
  have htab := vx_table (x := yL_withdraw) B (hts _ List.mem_cons_self)
  have hown : s.vm.findClass RL = some m.cls := findClass_of_methodNamed B.named
  have hlocks := B.notSynchronized
  subst hsz
  have hA : ∀ q : Nat, s.heap.size ≤ q → zN s.heap.size q := fun _ h => h
  have hS : va_S (zN s.heap.size) s.heap s.heap [] := va_S.rf
  have hP : va_P D vwCl [((ad 0), .inr (10, [.ref (ad 1), .ref (ad 2), .ref (ad 3), .ref (ad 4), .ref (ad 5), .int (-1), .int 100, .int 0, .int 0])), ((ad 1), .inr (7, [.ref (ad 6), .ref (ad 7), .ref (ad 8), .int 0])), ((ad 2), .inr (8, [.ref (ad 9), .ref (ad 10), .int 0])), ((ad 3), .inr (4, [.int 0, .ref (ad 14), .int 0])), ((ad 4), .inr (4, [.int 0, .ref (ad 14), .int 0])), ((ad 5), .inr (6, [.ref (ad 11), .ref (ad 12), .ref (ad 13), .int 0, .int 0]))] s.heap := hP
  have hl := lv_entry [.ref (ad 0), .int p0, .ref oa] (n := 4) (Nat.le_of_ble_eq_true rfl)
  rw [lg_entry_eq]
  generalize (lg_sl [.ref (ad 0), .int p0, .ref oa] ++ List.replicate (4 - (lg_sl [.ref (ad 0), .int p0, .ref oa]).length) Slot.unset).toArray = ls at hl ⊢
  have hl : lv_has ls 4 [(0, .ref (ad 0)), (1, .int p0), (2, .ref oa)] := hl
  refine lv_aload_n hx hb dL_withdraw_0 rfl (lv_at hl 2 rfl) ?_
  refine lv_iconst (v := 0) hx hb dL_withdraw_1 (by decide) ?_
  refine lv_aload_n hx hb dL_withdraw_2 rfl (lv_at hl 0 rfl) ?_
  refine lv_iload_n hx hb dL_withdraw_3 rfl (lv_at hl 1 rfl) ?_
  refine zx_call (vx_runV (As := [.int p0]) (rest := [.int 0, .ref oa]) ⟨hx, hb, hml, hown, hw⟩ (c_X5_withdraw l hst D sa ad _ p0) (cwV 1 hw (zg4 zm_975 zm_976 zm_977 zm_45 zm_978) rfl rfl rfl (by decide +kernel) ⟨Nat.le_of_ble_eq_true rfl, Nat.le_of_ble_eq_true rfl⟩) ⟨zR_blind, va_recv hK hP (ci := 10) (q0 := 0) rfl rfl, zR_pre hP hK hT hZ hS hA⟩ rfl rfl hl.1 rfl (lv_room (Nat.le_of_ble_eq_true rfl)) dL_withdraw_4 ⟨Nat.le_of_ble_eq_true rfl, Nat.le_of_ble_eq_true rfl⟩) hS (zN_fr hS hA) zN_in (fun E ce q9 u t H locs ht hvm hu hE hz1 hk1 hS hce hcv hcl => ?_)
  subst hE
  refine vx_catch hown [] ⟨0, 16, 19, 23⟩ (tableOf [(0, 16, 22, 15)]) htab (fun z hz => absurd hz List.not_mem_nil) (by decide) (by decide) (hw _ zm_487) (hT.c 3 rfl) hce hcv hcl ?_
  refine lv_astore_n (lv' := [(3, .ref q9), (0, .ref (ad 0)), (1, .int p0), (2, .ref oa)]) hx hb dL_withdraw_19 rfl hl (by decide) rfl (fun ls hl => ?_)
  refine lv_iconst (v := 1) hx hb dL_withdraw_20 (by decide) ?_
  refine vx_ret ?_
  exact W.iret (v := 1) hx hb hr (fun t ht hW => ⟨⟨1, (), rfl, rfl, trivial⟩, hS.F ht⟩) hS.2.2 dL_withdraw_21
theorem dX9_withdraw_0 : decode cX9_withdraw 0 = .ok (.aload_n 0, 1) := by decide +kernel
theorem dX9_withdraw_1 : decode cX9_withdraw 1 = .ok (.aload_n 0, 1) := by decide +kernel
theorem dX9_withdraw_2 : decode cX9_withdraw 2 = .ok (.iload_n 1, 1) := by decide +kernel
theorem dX9_withdraw_3 : decode cX9_withdraw 3 = .ok (.invokevirtual 118, 3) := by decide +kernel
theorem dX9_withdraw_6 : decode cX9_withdraw 6 = .ok (.iconst 1, 1) := by decide +kernel
theorem dX9_withdraw_7 : decode cX9_withdraw 7 = .ok (.invokevirtual 51, 3) := by decide +kernel
theorem dX9_withdraw_10 : decode cX9_withdraw 10 = .ok (.ifCond .ne 43, 3) := by decide +kernel
theorem dX9_withdraw_53 : decode cX9_withdraw 53 = .ok (.iconst 0, 1) := by decide +kernel
theorem dX9_withdraw_54 : decode cX9_withdraw 54 = .ok (.ireturn, 1) := by decide +kernel
set_option maxHeartbeats 4000000 in
set_option maxRecDepth 100000 in
theorem c_X9_withdraw (l : Launch) (D : va_G) (sa : Nat → Nat) (ea : Nat) (bd : Nat → Nat) (th : Int32) (sz : Nat) (p0 : Int32) : Met l yX9_withdraw ((Cond.code yX9_withdraw prog_8_method_41_code 2 (Option.some FieldType.boolean)) :: WA) ({ frames := 2, cells := 0, slots := 0, locals := 43 }) (zW D sa ea [] (zM bd th) [.ref (bd 0), .int p0] sz) (va_Qi (fun (r : Int32) (_ : Unit) => r = 0) (fun _ t => va_P D vwCl [((bd 0), .inr (14, [.ref (bd 1), .ref (bd 2), .ref (bd 3), .ref (bd 4), .ref (bd 5), .ref (bd 6), .int 100, .int (-1), .int 0, .int 1])), ((bd 1), .inr (4, [.int 0, .ref (bd 7), .int 0])), ((bd 2), .inr (4, [.int 0, .ref (bd 7), .int 0])), ((bd 3), .inr (4, [.int 0, .ref (bd 7), .int 0])), ((bd 4), .inr (4, [.int 0, .ref (bd 7), .int 0])), ((bd 5), .inr (4, [.int 0, .ref (bd 7), .int 0])), ((bd 6), .inr (4, [.int 0, .ref (bd 7), .int 0]))] t.heap ∧ va_D (va_A (zM bd th) sz) [((bd 0), .inr (14, [.ref (bd 1), .ref (bd 2), .ref (bd 3), .ref (bd 4), .ref (bd 5), .ref (bd 6), .int 100, .int (-1), .int 0, .int 1])), ((bd 1), .inr (4, [.int 0, .ref (bd 7), .int 0])), ((bd 2), .inr (4, [.int 0, .ref (bd 7), .int 0])), ((bd 3), .inr (4, [.int 0, .ref (bd 7), .int 0])), ((bd 4), .inr (4, [.int 0, .ref (bd 7), .int 0])), ((bd 5), .inr (4, [.int 0, .ref (bd 7), .int 0])), ((bd 6), .inr (4, [.int 0, .ref (bd 7), .int 0]))]) (va_A (zM bd th) sz)) 0 0 (va_A (zM bd th) sz) := by
  refine Met.ofW (cc := prog_8_method_41_code) (maxL := 2) (ret := (Option.some FieldType.boolean)) (by decide) rfl ?_
  intro p e s m args below meth c s₁ B hml hv
  obtain ⟨rfl, hsz, hP, hK, hD0, hT, hE⟩ := hv
  have hx := B.exec
  have hb := B.bytes
  have hr := B.returns
  have hts := atoms_spec (ws := (Cond.code yX9_withdraw prog_8_method_41_code 2 (Option.some FieldType.boolean)) :: WA) B.pre
  have hw : ∀ w ∈ WA, w.before _ s = true := fun w h => hts w (List.mem_cons_of_mem _ h)
  have hown : s.vm.findClass RX9 = some m.cls := findClass_of_methodNamed B.named
  have hlocks := B.notSynchronized
  subst hsz
  have hD := hD0.self (sz := s.heap.size)
  generalize hAe : va_A (zM bd th) s.heap.size = A at hD hE ⊢
  have hA : ∀ q : Nat, s.heap.size ≤ q → A q := fun q h => by rw [← hAe]; exact Or.inr h
  have hS : va_S A s.heap s.heap [] := va_S.rf
  have hP : va_P D vwCl [((bd 0), .inr (14, [.ref (bd 1), .ref (bd 2), .ref (bd 3), .ref (bd 4), .ref (bd 5), .ref (bd 6), .int 100, .int (-1), .int 0, .int th])), ((bd 1), .inr (4, [.int 0, .ref (bd 7), .int 0])), ((bd 2), .inr (4, [.int 0, .ref (bd 7), .int 0])), ((bd 3), .inr (4, [.int 0, .ref (bd 7), .int 0])), ((bd 4), .inr (4, [.int 0, .ref (bd 7), .int 0])), ((bd 5), .inr (4, [.int 0, .ref (bd 7), .int 0])), ((bd 6), .inr (4, [.int 0, .ref (bd 7), .int 0]))] s.heap := hP
  have hD : va_D A [((bd 0), .inr (14, [.ref (bd 1), .ref (bd 2), .ref (bd 3), .ref (bd 4), .ref (bd 5), .ref (bd 6), .int 100, .int (-1), .int 0, .int th])), ((bd 1), .inr (4, [.int 0, .ref (bd 7), .int 0])), ((bd 2), .inr (4, [.int 0, .ref (bd 7), .int 0])), ((bd 3), .inr (4, [.int 0, .ref (bd 7), .int 0])), ((bd 4), .inr (4, [.int 0, .ref (bd 7), .int 0])), ((bd 5), .inr (4, [.int 0, .ref (bd 7), .int 0])), ((bd 6), .inr (4, [.int 0, .ref (bd 7), .int 0]))] := hD
  have hl := lv_entry [.ref (bd 0), .int p0] (n := 2) (Nat.le_of_ble_eq_true rfl)
  rw [lg_entry_eq]
  generalize (lg_sl [.ref (bd 0), .int p0] ++ List.replicate (2 - (lg_sl [.ref (bd 0), .int p0]).length) Slot.unset).toArray = ls at hl ⊢
  have hl : lv_has ls 2 [(0, .ref (bd 0)), (1, .int p0)] := hl
  refine lv_aload_n hx hb dX9_withdraw_0 rfl (lv_at hl 0 rfl) ?_
  refine lv_aload_n hx hb dX9_withdraw_1 rfl (lv_at hl 0 rfl) ?_
  refine lv_iload_n hx hb dX9_withdraw_2 rfl (lv_at hl 1 rfl) ?_
  refine va_calli (va_runV (As := [.int p0]) (rest := [.ref (bd 0)]) ⟨hx, hb, hml, hown, hw⟩ (c_X9_isSett l D sa bd th _ p0) (cwV 1 hw (zg4 zm_1521 zm_1523 zm_29 zm_53 zm_1524) rfl rfl rfl (by decide +kernel) ⟨Nat.le_of_ble_eq_true rfl, Nat.le_of_ble_eq_true rfl⟩) ⟨zJ_blind, va_recv hK hP (ci := 14) (q0 := 0) rfl rfl, zJ_pre hP hK hT⟩ rfl rfl hl.1 rfl (lv_room (Nat.le_of_ble_eq_true rfl)) dX9_withdraw_3 ⟨Nat.le_of_ble_eq_true rfl, Nat.le_of_ble_eq_true rfl⟩) hS zN_in (zN_fr hS hA) (fun r_1 u t H locs ht hvm hw1 hB hz1 hk1 hS => ?_)
  have hP := zN_keep hP hk1
  subst hw1
  refine lv_iconst (v := 1) hx hb dX9_withdraw_6 (by decide) ?_
  have hFc := va_free (wc := [((bd 0), .inr (14, [.ref (bd 1), .ref (bd 2), .ref (bd 3), .ref (bd 4), .ref (bd 5), .ref (bd 6), .int 100, .int (-1), .int 0, .int th])), ((bd 1), .inr (4, [.int 0, .ref (bd 7), .int 0])), ((bd 2), .inr (4, [.int 0, .ref (bd 7), .int 0])), ((bd 3), .inr (4, [.int 0, .ref (bd 7), .int 0])), ((bd 4), .inr (4, [.int 0, .ref (bd 7), .int 0])), ((bd 5), .inr (4, [.int 0, .ref (bd 7), .int 0])), ((bd 6), .inr (4, [.int 0, .ref (bd 7), .int 0]))]) hD hS hA [0, 1, 2, 3, 4, 5, 6] rfl
  refine va_calli (va_runV (As := [.int 0, .int 1]) (rest := []) ⟨hx, hb, hml, hown, hw⟩ (c_X9_no0 l D sa ea bd th _ 1) (cwV 2 hw (zg4 zm_1314 zm_1316 zm_26 zm_53 zm_1317) rfl rfl rfl (by decide +kernel) ⟨Nat.le_of_ble_eq_true rfl, Nat.le_of_ble_eq_true rfl⟩) ⟨zW_blind, va_recv hK hP (ci := 14) (q0 := 0) rfl rfl, zW_pre hP hK hD hT hE hS hFc⟩ rfl rfl hl.1 rfl (lv_room (Nat.le_of_ble_eq_true rfl)) dX9_withdraw_7 ⟨Nat.le_of_ble_eq_true rfl, Nat.le_of_ble_eq_true rfl⟩) hS (fun q _ h => hFc q h) hFc (fun r_2 u t H locs ht hvm hw1 hB hz1 hk1 hS => ?_)
  subst hw1
  obtain ⟨hP1, hD1⟩ := hB
  rw [ht] at hP1
  obtain ⟨hP, hD⟩ := va_join (wr := []) (w1 := [((bd 0), .inr (14, [.ref (bd 1), .ref (bd 2), .ref (bd 3), .ref (bd 4), .ref (bd 5), .ref (bd 6), .int 100, .int (-1), .int 0, .int 1])), ((bd 1), .inr (4, [.int 0, .ref (bd 7), .int 0])), ((bd 2), .inr (4, [.int 0, .ref (bd 7), .int 0])), ((bd 3), .inr (4, [.int 0, .ref (bd 7), .int 0])), ((bd 4), .inr (4, [.int 0, .ref (bd 7), .int 0])), ((bd 5), .inr (4, [.int 0, .ref (bd 7), .int 0])), ((bd 6), .inr (4, [.int 0, .ref (bd 7), .int 0]))]) hP hD [0, 1, 2, 3, 4, 5, 6] [] rfl rfl (by decide) (by decide) hk1 hFc hP1 hD1
  have hP : va_P D vwCl [((bd 0), .inr (14, [.ref (bd 1), .ref (bd 2), .ref (bd 3), .ref (bd 4), .ref (bd 5), .ref (bd 6), .int 100, .int (-1), .int 0, .int 1])), ((bd 1), .inr (4, [.int 0, .ref (bd 7), .int 0])), ((bd 2), .inr (4, [.int 0, .ref (bd 7), .int 0])), ((bd 3), .inr (4, [.int 0, .ref (bd 7), .int 0])), ((bd 4), .inr (4, [.int 0, .ref (bd 7), .int 0])), ((bd 5), .inr (4, [.int 0, .ref (bd 7), .int 0])), ((bd 6), .inr (4, [.int 0, .ref (bd 7), .int 0]))] H := hP
  have hD : va_D A [((bd 0), .inr (14, [.ref (bd 1), .ref (bd 2), .ref (bd 3), .ref (bd 4), .ref (bd 5), .ref (bd 6), .int 100, .int (-1), .int 0, .int 1])), ((bd 1), .inr (4, [.int 0, .ref (bd 7), .int 0])), ((bd 2), .inr (4, [.int 0, .ref (bd 7), .int 0])), ((bd 3), .inr (4, [.int 0, .ref (bd 7), .int 0])), ((bd 4), .inr (4, [.int 0, .ref (bd 7), .int 0])), ((bd 5), .inr (4, [.int 0, .ref (bd 7), .int 0])), ((bd 6), .inr (4, [.int 0, .ref (bd 7), .int 0]))] := hD
  refine lv_if_ne (tgt := 53) hx hb dX9_withdraw_10 (by decide) (fun _ => ?_) (fun c_3 => absurd c_3 (by decide))
  refine lv_iconst (v := 0) hx hb dX9_withdraw_53 (by decide) ?_
  have hP9 := hP.sub (ws' := [((bd 0), .inr (14, [.ref (bd 1), .ref (bd 2), .ref (bd 3), .ref (bd 4), .ref (bd 5), .ref (bd 6), .int 100, .int (-1), .int 0, .int 1])), ((bd 1), .inr (4, [.int 0, .ref (bd 7), .int 0])), ((bd 2), .inr (4, [.int 0, .ref (bd 7), .int 0])), ((bd 3), .inr (4, [.int 0, .ref (bd 7), .int 0])), ((bd 4), .inr (4, [.int 0, .ref (bd 7), .int 0])), ((bd 5), .inr (4, [.int 0, .ref (bd 7), .int 0])), ((bd 6), .inr (4, [.int 0, .ref (bd 7), .int 0]))]) [0, 1, 2, 3, 4, 5, 6] rfl
  have hD9 := hD.sub (ws' := [((bd 0), .inr (14, [.ref (bd 1), .ref (bd 2), .ref (bd 3), .ref (bd 4), .ref (bd 5), .ref (bd 6), .int 100, .int (-1), .int 0, .int 1])), ((bd 1), .inr (4, [.int 0, .ref (bd 7), .int 0])), ((bd 2), .inr (4, [.int 0, .ref (bd 7), .int 0])), ((bd 3), .inr (4, [.int 0, .ref (bd 7), .int 0])), ((bd 4), .inr (4, [.int 0, .ref (bd 7), .int 0])), ((bd 5), .inr (4, [.int 0, .ref (bd 7), .int 0])), ((bd 6), .inr (4, [.int 0, .ref (bd 7), .int 0]))]) [0, 1, 2, 3, 4, 5, 6] (by decide) rfl
  refine W.widen (k := 0) (n := 0) (Nat.le_of_ble_eq_true rfl) (Nat.le_of_ble_eq_true rfl) ?_
  exact W.zret (v := 0) hx hb hr (by decide) (fun t ht hW => ⟨⟨0, (), rfl, rfl, by rw [ht]; exact hP9, hD9⟩, hS.F ht⟩) hS.2.2 dX9_withdraw_54
theorem dX5_isContested_0 : decode cX5_isContested 0 = .ok (.aload_n 0, 1) := by decide +kernel
theorem dX5_isContested_1 : decode cX5_isContested 1 = .ok (.aload_n 0, 1) := by decide +kernel
theorem dX5_isContested_2 : decode cX5_isContested 2 = .ok (.iload_n 1, 1) := by decide +kernel
theorem dX5_isContested_3 : decode cX5_isContested 3 = .ok (.invokevirtual 233, 3) := by decide +kernel
set_option maxHeartbeats 4000000 in
set_option maxRecDepth 100000 in
theorem c_X5_isContested (l : Launch) (hst : l.stackTraces = false) (D : va_G) (sa : Nat → Nat) (ad : Nat → Nat) (sz : Nat) (p0 : Int32) : vx_Met l yX5_isContested ((Cond.code yX5_isContested prog_1_method_28_code 2 (Option.some FieldType.boolean)) :: WA) ({ frames := 8, cells := 1, slots := 6, locals := 125 }) (zR D sa (zX ad) [.ref (ad 0), .int p0] sz) zF (zXC "java/lang/IndexOutOfBoundsException" sz) 1 6 (zN sz) := by
  refine vx_ofW (cc := prog_1_method_28_code) (maxL := 2) (ret := (Option.some FieldType.boolean)) (by decide) rfl ?_
  intro p e s m args below meth c s₁ B hml hnt hv
  obtain ⟨rfl, hsz, hP, hK, hT, hZ⟩ := hv
  have hx := B.exec
  have hb := B.bytes
  have hr := B.returns
  have hts := atoms_spec (ws := (Cond.code yX5_isContested prog_1_method_28_code 2 (Option.some FieldType.boolean)) :: WA) B.pre
  have hw : ∀ w ∈ WA, w.before _ s = true := fun w h => hts w (List.mem_cons_of_mem _ h)
  have hown : s.vm.findClass RX5 = some m.cls := findClass_of_methodNamed B.named
  have hlocks := B.notSynchronized
  subst hsz
  have hA : ∀ q : Nat, s.heap.size ≤ q → zN s.heap.size q := fun _ h => h
  have hS : va_S (zN s.heap.size) s.heap s.heap [] := va_S.rf
  have hP : va_P D vwCl [((ad 0), .inr (10, [.ref (ad 1), .ref (ad 2), .ref (ad 3), .ref (ad 4), .ref (ad 5), .int (-1), .int 100, .int 0, .int 0])), ((ad 1), .inr (7, [.ref (ad 6), .ref (ad 7), .ref (ad 8), .int 0])), ((ad 2), .inr (8, [.ref (ad 9), .ref (ad 10), .int 0])), ((ad 3), .inr (4, [.int 0, .ref (ad 14), .int 0])), ((ad 4), .inr (4, [.int 0, .ref (ad 14), .int 0])), ((ad 5), .inr (6, [.ref (ad 11), .ref (ad 12), .ref (ad 13), .int 0, .int 0]))] s.heap := hP
  have hl := lv_entry [.ref (ad 0), .int p0] (n := 2) (Nat.le_of_ble_eq_true rfl)
  rw [lg_entry_eq]
  generalize (lg_sl [.ref (ad 0), .int p0] ++ List.replicate (2 - (lg_sl [.ref (ad 0), .int p0]).length) Slot.unset).toArray = ls at hl ⊢
  have hl : lv_has ls 2 [(0, .ref (ad 0)), (1, .int p0)] := hl
  refine lv_aload_n hx hb dX5_isContested_0 rfl (lv_at hl 0 rfl) ?_
  refine lv_aload_n hx hb dX5_isContested_1 rfl (lv_at hl 0 rfl) ?_
  refine lv_iload_n hx hb dX5_isContested_2 rfl (lv_at hl 1 rfl) ?_
  refine zx_call (vx_runV (As := [.int p0]) (rest := [.ref (ad 0)]) ⟨hx, hb, hml, hown, hw⟩ (c_X5_registeredAt l hst D sa ad _ p0) (cwV 1 hw (zg4 zm_979 zm_981 zm_18 zm_45 zm_982) rfl rfl rfl (by decide +kernel) ⟨Nat.le_of_ble_eq_true rfl, Nat.le_of_ble_eq_true rfl⟩) ⟨zR_blind, va_recv hK hP (ci := 10) (q0 := 0) rfl rfl, zR_pre hP hK hT hZ hS hA⟩ rfl rfl hl.1 rfl (lv_room (Nat.le_of_ble_eq_true rfl)) dX5_isContested_3 ⟨Nat.le_of_ble_eq_true rfl, Nat.le_of_ble_eq_true rfl⟩) hS (zN_fr hS hA) zN_in (fun E ce q9 u t H locs ht hvm hu hE hz1 hk1 hS hce hcv hcl => ?_)
  exact vx_out (fun x hx9 => (hnt x hx9).elim) hlocks hce hcv hcl (fun t ht _ => ⟨(), trivial, hE, hS.F ht⟩) (fun z hz => hS.2.2 z hz) (Nat.le_of_ble_eq_true rfl) (Nat.le_of_ble_eq_true rfl)
theorem dL_isContested_0 : decode cL_isContested 0 = .ok (.aload_n 2, 1) := by decide +kernel
theorem dL_isContested_1 : decode cL_isContested 1 = .ok (.iconst 0, 1) := by decide +kernel
theorem dL_isContested_2 : decode cL_isContested 2 = .ok (.aload_n 0, 1) := by decide +kernel
theorem dL_isContested_3 : decode cL_isContested 3 = .ok (.iload_n 1, 1) := by decide +kernel
theorem dL_isContested_4 : decode cL_isContested 4 = .ok (.invokevirtual 105, 3) := by decide +kernel
theorem zm_999 : Cond.methodLink RL 105 yX5_isContested ∈ WA := zmm (i := 999) (by decide +kernel) (by decide +kernel)
theorem zm_1000 : Cond.instanceMethod yX5_isContested ∈ WA := zmm (i := 1000) (by decide +kernel) (by decide +kernel)
theorem zm_1001 : Cond.selects RX5 yX5_isContested yX5_isContested ∈ WA := zmm (i := 1001) (by decide +kernel) (by decide +kernel)
theorem zm_1002 : Cond.code yX5_isContested prog_1_method_28_code 2 (Option.some FieldType.boolean) ∈ WA := zmm (i := 1002) (by decide +kernel) (by decide +kernel)
theorem dL_isContested_19 : decode cL_isContested 19 = .ok (.astore_n 3, 1) := by decide +kernel
theorem dL_isContested_20 : decode cL_isContested 20 = .ok (.iconst 1, 1) := by decide +kernel
theorem dL_isContested_21 : decode cL_isContested 21 = .ok (.ireturn, 1) := by decide +kernel
set_option maxHeartbeats 4000000 in
set_option maxRecDepth 100000 in
theorem c_L_isContested (l : Launch) (hst : l.stackTraces = false) (D : va_G) (sa : Nat → Nat) (ad : Nat → Nat) (sz : Nat) (p0 : Int32) (oa : Nat) : vx_Met l yL_isContested ((Cond.codeWith yL_isContested method_28_code 4 (Option.some FieldType.int) [(0, 16, 19, 23), (0, 16, 22, 15)]) :: WA) ({ frames := 9, cells := 1, slots := 6, locals := 146 }) (zR D sa (zX ad) [.ref (ad 0), .int p0, .ref oa] sz) (va_Qi (fun (r : Int32) (_ : Unit) => r = 1) (fun _ _ => True) (zN sz)) (zX0 sz) 1 6 (zN sz) := by
  refine vx_ofWH (cc := method_28_code) (maxL := 4) (ret := (Option.some FieldType.int)) (hh := [(0, 16, 19, 23), (0, 16, 22, 15)]) (by decide) rfl ?_
  intro p e s m args below meth c s₁ B hml hv
  obtain ⟨rfl, hsz, hP, hK, hT, hZ⟩ := hv
  have hx := B.exec
  have hb := B.bytes
  have hr := B.returns
  have hts := atoms_spec (ws := (Cond.codeWith yL_isContested method_28_code 4 (Option.some FieldType.int) [(0, 16, 19, 23), (0, 16, 22, 15)]) :: WA) B.pre
  have hw : ∀ w ∈ WA, w.before _ s = true := fun w h => hts w (List.mem_cons_of_mem _ h)
  have htab := vx_table (x := yL_isContested) B (hts _ List.mem_cons_self)
  have hown : s.vm.findClass RL = some m.cls := findClass_of_methodNamed B.named
  have hlocks := B.notSynchronized
  subst hsz
  have hA : ∀ q : Nat, s.heap.size ≤ q → zN s.heap.size q := fun _ h => h
  have hS : va_S (zN s.heap.size) s.heap s.heap [] := va_S.rf
  have hP : va_P D vwCl [((ad 0), .inr (10, [.ref (ad 1), .ref (ad 2), .ref (ad 3), .ref (ad 4), .ref (ad 5), .int (-1), .int 100, .int 0, .int 0])), ((ad 1), .inr (7, [.ref (ad 6), .ref (ad 7), .ref (ad 8), .int 0])), ((ad 2), .inr (8, [.ref (ad 9), .ref (ad 10), .int 0])), ((ad 3), .inr (4, [.int 0, .ref (ad 14), .int 0])), ((ad 4), .inr (4, [.int 0, .ref (ad 14), .int 0])), ((ad 5), .inr (6, [.ref (ad 11), .ref (ad 12), .ref (ad 13), .int 0, .int 0]))] s.heap := hP
  have hl := lv_entry [.ref (ad 0), .int p0, .ref oa] (n := 4) (Nat.le_of_ble_eq_true rfl)
  rw [lg_entry_eq]
  generalize (lg_sl [.ref (ad 0), .int p0, .ref oa] ++ List.replicate (4 - (lg_sl [.ref (ad 0), .int p0, .ref oa]).length) Slot.unset).toArray = ls at hl ⊢
  have hl : lv_has ls 4 [(0, .ref (ad 0)), (1, .int p0), (2, .ref oa)] := hl
  refine lv_aload_n hx hb dL_isContested_0 rfl (lv_at hl 2 rfl) ?_
  refine lv_iconst (v := 0) hx hb dL_isContested_1 (by decide) ?_
  refine lv_aload_n hx hb dL_isContested_2 rfl (lv_at hl 0 rfl) ?_
  refine lv_iload_n hx hb dL_isContested_3 rfl (lv_at hl 1 rfl) ?_
  refine zx_call (vx_runV (As := [.int p0]) (rest := [.int 0, .ref oa]) ⟨hx, hb, hml, hown, hw⟩ (c_X5_isContested l hst D sa ad _ p0) (cwV 1 hw (zg4 zm_999 zm_1000 zm_1001 zm_45 zm_1002) rfl rfl rfl (by decide +kernel) ⟨Nat.le_of_ble_eq_true rfl, Nat.le_of_ble_eq_true rfl⟩) ⟨zR_blind, va_recv hK hP (ci := 10) (q0 := 0) rfl rfl, zR_pre hP hK hT hZ hS hA⟩ rfl rfl hl.1 rfl (lv_room (Nat.le_of_ble_eq_true rfl)) dL_isContested_4 ⟨Nat.le_of_ble_eq_true rfl, Nat.le_of_ble_eq_true rfl⟩) hS (zN_fr hS hA) zN_in (fun E ce q9 u t H locs ht hvm hu hE hz1 hk1 hS hce hcv hcl => ?_)
  subst hE
  refine vx_catch hown [] ⟨0, 16, 19, 23⟩ (tableOf [(0, 16, 22, 15)]) htab (fun z hz => absurd hz List.not_mem_nil) (by decide) (by decide) (hw _ zm_487) (hT.c 3 rfl) hce hcv hcl ?_
  refine lv_astore_n (lv' := [(3, .ref q9), (0, .ref (ad 0)), (1, .int p0), (2, .ref oa)]) hx hb dL_isContested_19 rfl hl (by decide) rfl (fun ls hl => ?_)
  refine lv_iconst (v := 1) hx hb dL_isContested_20 (by decide) ?_
  refine vx_ret ?_
  exact W.iret (v := 1) hx hb hr (fun t ht hW => ⟨⟨1, (), rfl, rfl, trivial⟩, hS.F ht⟩) hS.2.2 dL_isContested_21
theorem dX9_isContested_0 : decode cX9_isContested 0 = .ok (.aload_n 0, 1) := by decide +kernel
theorem dX9_isContested_1 : decode cX9_isContested 1 = .ok (.aload_n 0, 1) := by decide +kernel
theorem dX9_isContested_2 : decode cX9_isContested 2 = .ok (.iload_n 1, 1) := by decide +kernel
theorem dX9_isContested_3 : decode cX9_isContested 3 = .ok (.invokevirtual 118, 3) := by decide +kernel
theorem dX9_isContested_6 : decode cX9_isContested 6 = .ok (.iconst 1, 1) := by decide +kernel
theorem dX9_isContested_7 : decode cX9_isContested 7 = .ok (.invokevirtual 51, 3) := by decide +kernel
theorem dX9_isContested_10 : decode cX9_isContested 10 = .ok (.ifCond .ne 28, 3) := by decide +kernel
theorem dX9_isContested_38 : decode cX9_isContested 38 = .ok (.iconst 0, 1) := by decide +kernel
theorem dX9_isContested_39 : decode cX9_isContested 39 = .ok (.ireturn, 1) := by decide +kernel
set_option maxHeartbeats 4000000 in
set_option maxRecDepth 100000 in
theorem c_X9_isContested (l : Launch) (D : va_G) (sa : Nat → Nat) (ea : Nat) (bd : Nat → Nat) (th : Int32) (sz : Nat) (p0 : Int32) : Met l yX9_isContested ((Cond.code yX9_isContested prog_8_method_42_code 2 (Option.some FieldType.boolean)) :: WA) ({ frames := 2, cells := 0, slots := 0, locals := 43 }) (zW D sa ea [] (zM bd th) [.ref (bd 0), .int p0] sz) (va_Qi (fun (r : Int32) (_ : Unit) => r = 0) (fun _ t => va_P D vwCl [((bd 0), .inr (14, [.ref (bd 1), .ref (bd 2), .ref (bd 3), .ref (bd 4), .ref (bd 5), .ref (bd 6), .int 100, .int (-1), .int 0, .int 1])), ((bd 1), .inr (4, [.int 0, .ref (bd 7), .int 0])), ((bd 2), .inr (4, [.int 0, .ref (bd 7), .int 0])), ((bd 3), .inr (4, [.int 0, .ref (bd 7), .int 0])), ((bd 4), .inr (4, [.int 0, .ref (bd 7), .int 0])), ((bd 5), .inr (4, [.int 0, .ref (bd 7), .int 0])), ((bd 6), .inr (4, [.int 0, .ref (bd 7), .int 0]))] t.heap ∧ va_D (va_A (zM bd th) sz) [((bd 0), .inr (14, [.ref (bd 1), .ref (bd 2), .ref (bd 3), .ref (bd 4), .ref (bd 5), .ref (bd 6), .int 100, .int (-1), .int 0, .int 1])), ((bd 1), .inr (4, [.int 0, .ref (bd 7), .int 0])), ((bd 2), .inr (4, [.int 0, .ref (bd 7), .int 0])), ((bd 3), .inr (4, [.int 0, .ref (bd 7), .int 0])), ((bd 4), .inr (4, [.int 0, .ref (bd 7), .int 0])), ((bd 5), .inr (4, [.int 0, .ref (bd 7), .int 0])), ((bd 6), .inr (4, [.int 0, .ref (bd 7), .int 0]))]) (va_A (zM bd th) sz)) 0 0 (va_A (zM bd th) sz) := by
  refine Met.ofW (cc := prog_8_method_42_code) (maxL := 2) (ret := (Option.some FieldType.boolean)) (by decide) rfl ?_
  intro p e s m args below meth c s₁ B hml hv
  obtain ⟨rfl, hsz, hP, hK, hD0, hT, hE⟩ := hv
  have hx := B.exec
  have hb := B.bytes
  have hr := B.returns
  have hts := atoms_spec (ws := (Cond.code yX9_isContested prog_8_method_42_code 2 (Option.some FieldType.boolean)) :: WA) B.pre
  have hw : ∀ w ∈ WA, w.before _ s = true := fun w h => hts w (List.mem_cons_of_mem _ h)
  have hown : s.vm.findClass RX9 = some m.cls := findClass_of_methodNamed B.named
  have hlocks := B.notSynchronized
  subst hsz
  have hD := hD0.self (sz := s.heap.size)
  generalize hAe : va_A (zM bd th) s.heap.size = A at hD hE ⊢
  have hA : ∀ q : Nat, s.heap.size ≤ q → A q := fun q h => by rw [← hAe]; exact Or.inr h
  have hS : va_S A s.heap s.heap [] := va_S.rf
  have hP : va_P D vwCl [((bd 0), .inr (14, [.ref (bd 1), .ref (bd 2), .ref (bd 3), .ref (bd 4), .ref (bd 5), .ref (bd 6), .int 100, .int (-1), .int 0, .int th])), ((bd 1), .inr (4, [.int 0, .ref (bd 7), .int 0])), ((bd 2), .inr (4, [.int 0, .ref (bd 7), .int 0])), ((bd 3), .inr (4, [.int 0, .ref (bd 7), .int 0])), ((bd 4), .inr (4, [.int 0, .ref (bd 7), .int 0])), ((bd 5), .inr (4, [.int 0, .ref (bd 7), .int 0])), ((bd 6), .inr (4, [.int 0, .ref (bd 7), .int 0]))] s.heap := hP
  have hD : va_D A [((bd 0), .inr (14, [.ref (bd 1), .ref (bd 2), .ref (bd 3), .ref (bd 4), .ref (bd 5), .ref (bd 6), .int 100, .int (-1), .int 0, .int th])), ((bd 1), .inr (4, [.int 0, .ref (bd 7), .int 0])), ((bd 2), .inr (4, [.int 0, .ref (bd 7), .int 0])), ((bd 3), .inr (4, [.int 0, .ref (bd 7), .int 0])), ((bd 4), .inr (4, [.int 0, .ref (bd 7), .int 0])), ((bd 5), .inr (4, [.int 0, .ref (bd 7), .int 0])), ((bd 6), .inr (4, [.int 0, .ref (bd 7), .int 0]))] := hD
  have hl := lv_entry [.ref (bd 0), .int p0] (n := 2) (Nat.le_of_ble_eq_true rfl)
  rw [lg_entry_eq]
  generalize (lg_sl [.ref (bd 0), .int p0] ++ List.replicate (2 - (lg_sl [.ref (bd 0), .int p0]).length) Slot.unset).toArray = ls at hl ⊢
  have hl : lv_has ls 2 [(0, .ref (bd 0)), (1, .int p0)] := hl
  refine lv_aload_n hx hb dX9_isContested_0 rfl (lv_at hl 0 rfl) ?_
  refine lv_aload_n hx hb dX9_isContested_1 rfl (lv_at hl 0 rfl) ?_
  refine lv_iload_n hx hb dX9_isContested_2 rfl (lv_at hl 1 rfl) ?_
  refine va_calli (va_runV (As := [.int p0]) (rest := [.ref (bd 0)]) ⟨hx, hb, hml, hown, hw⟩ (c_X9_isSett l D sa bd th _ p0) (cwV 1 hw (zg4 zm_1521 zm_1523 zm_29 zm_53 zm_1524) rfl rfl rfl (by decide +kernel) ⟨Nat.le_of_ble_eq_true rfl, Nat.le_of_ble_eq_true rfl⟩) ⟨zJ_blind, va_recv hK hP (ci := 14) (q0 := 0) rfl rfl, zJ_pre hP hK hT⟩ rfl rfl hl.1 rfl (lv_room (Nat.le_of_ble_eq_true rfl)) dX9_isContested_3 ⟨Nat.le_of_ble_eq_true rfl, Nat.le_of_ble_eq_true rfl⟩) hS zN_in (zN_fr hS hA) (fun r_1 u t H locs ht hvm hw1 hB hz1 hk1 hS => ?_)
  have hP := zN_keep hP hk1
  subst hw1
  refine lv_iconst (v := 1) hx hb dX9_isContested_6 (by decide) ?_
  have hFc := va_free (wc := [((bd 0), .inr (14, [.ref (bd 1), .ref (bd 2), .ref (bd 3), .ref (bd 4), .ref (bd 5), .ref (bd 6), .int 100, .int (-1), .int 0, .int th])), ((bd 1), .inr (4, [.int 0, .ref (bd 7), .int 0])), ((bd 2), .inr (4, [.int 0, .ref (bd 7), .int 0])), ((bd 3), .inr (4, [.int 0, .ref (bd 7), .int 0])), ((bd 4), .inr (4, [.int 0, .ref (bd 7), .int 0])), ((bd 5), .inr (4, [.int 0, .ref (bd 7), .int 0])), ((bd 6), .inr (4, [.int 0, .ref (bd 7), .int 0]))]) hD hS hA [0, 1, 2, 3, 4, 5, 6] rfl
  refine va_calli (va_runV (As := [.int 0, .int 1]) (rest := []) ⟨hx, hb, hml, hown, hw⟩ (c_X9_no0 l D sa ea bd th _ 1) (cwV 2 hw (zg4 zm_1314 zm_1316 zm_26 zm_53 zm_1317) rfl rfl rfl (by decide +kernel) ⟨Nat.le_of_ble_eq_true rfl, Nat.le_of_ble_eq_true rfl⟩) ⟨zW_blind, va_recv hK hP (ci := 14) (q0 := 0) rfl rfl, zW_pre hP hK hD hT hE hS hFc⟩ rfl rfl hl.1 rfl (lv_room (Nat.le_of_ble_eq_true rfl)) dX9_isContested_7 ⟨Nat.le_of_ble_eq_true rfl, Nat.le_of_ble_eq_true rfl⟩) hS (fun q _ h => hFc q h) hFc (fun r_2 u t H locs ht hvm hw1 hB hz1 hk1 hS => ?_)
  subst hw1
  obtain ⟨hP1, hD1⟩ := hB
  rw [ht] at hP1
  obtain ⟨hP, hD⟩ := va_join (wr := []) (w1 := [((bd 0), .inr (14, [.ref (bd 1), .ref (bd 2), .ref (bd 3), .ref (bd 4), .ref (bd 5), .ref (bd 6), .int 100, .int (-1), .int 0, .int 1])), ((bd 1), .inr (4, [.int 0, .ref (bd 7), .int 0])), ((bd 2), .inr (4, [.int 0, .ref (bd 7), .int 0])), ((bd 3), .inr (4, [.int 0, .ref (bd 7), .int 0])), ((bd 4), .inr (4, [.int 0, .ref (bd 7), .int 0])), ((bd 5), .inr (4, [.int 0, .ref (bd 7), .int 0])), ((bd 6), .inr (4, [.int 0, .ref (bd 7), .int 0]))]) hP hD [0, 1, 2, 3, 4, 5, 6] [] rfl rfl (by decide) (by decide) hk1 hFc hP1 hD1
  have hP : va_P D vwCl [((bd 0), .inr (14, [.ref (bd 1), .ref (bd 2), .ref (bd 3), .ref (bd 4), .ref (bd 5), .ref (bd 6), .int 100, .int (-1), .int 0, .int 1])), ((bd 1), .inr (4, [.int 0, .ref (bd 7), .int 0])), ((bd 2), .inr (4, [.int 0, .ref (bd 7), .int 0])), ((bd 3), .inr (4, [.int 0, .ref (bd 7), .int 0])), ((bd 4), .inr (4, [.int 0, .ref (bd 7), .int 0])), ((bd 5), .inr (4, [.int 0, .ref (bd 7), .int 0])), ((bd 6), .inr (4, [.int 0, .ref (bd 7), .int 0]))] H := hP
  have hD : va_D A [((bd 0), .inr (14, [.ref (bd 1), .ref (bd 2), .ref (bd 3), .ref (bd 4), .ref (bd 5), .ref (bd 6), .int 100, .int (-1), .int 0, .int 1])), ((bd 1), .inr (4, [.int 0, .ref (bd 7), .int 0])), ((bd 2), .inr (4, [.int 0, .ref (bd 7), .int 0])), ((bd 3), .inr (4, [.int 0, .ref (bd 7), .int 0])), ((bd 4), .inr (4, [.int 0, .ref (bd 7), .int 0])), ((bd 5), .inr (4, [.int 0, .ref (bd 7), .int 0])), ((bd 6), .inr (4, [.int 0, .ref (bd 7), .int 0]))] := hD
  refine lv_if_ne (tgt := 38) hx hb dX9_isContested_10 (by decide) (fun _ => ?_) (fun c_3 => absurd c_3 (by decide))
  refine lv_iconst (v := 0) hx hb dX9_isContested_38 (by decide) ?_
  have hP9 := hP.sub (ws' := [((bd 0), .inr (14, [.ref (bd 1), .ref (bd 2), .ref (bd 3), .ref (bd 4), .ref (bd 5), .ref (bd 6), .int 100, .int (-1), .int 0, .int 1])), ((bd 1), .inr (4, [.int 0, .ref (bd 7), .int 0])), ((bd 2), .inr (4, [.int 0, .ref (bd 7), .int 0])), ((bd 3), .inr (4, [.int 0, .ref (bd 7), .int 0])), ((bd 4), .inr (4, [.int 0, .ref (bd 7), .int 0])), ((bd 5), .inr (4, [.int 0, .ref (bd 7), .int 0])), ((bd 6), .inr (4, [.int 0, .ref (bd 7), .int 0]))]) [0, 1, 2, 3, 4, 5, 6] rfl
  have hD9 := hD.sub (ws' := [((bd 0), .inr (14, [.ref (bd 1), .ref (bd 2), .ref (bd 3), .ref (bd 4), .ref (bd 5), .ref (bd 6), .int 100, .int (-1), .int 0, .int 1])), ((bd 1), .inr (4, [.int 0, .ref (bd 7), .int 0])), ((bd 2), .inr (4, [.int 0, .ref (bd 7), .int 0])), ((bd 3), .inr (4, [.int 0, .ref (bd 7), .int 0])), ((bd 4), .inr (4, [.int 0, .ref (bd 7), .int 0])), ((bd 5), .inr (4, [.int 0, .ref (bd 7), .int 0])), ((bd 6), .inr (4, [.int 0, .ref (bd 7), .int 0]))]) [0, 1, 2, 3, 4, 5, 6] (by decide) rfl
  refine W.widen (k := 0) (n := 0) (Nat.le_of_ble_eq_true rfl) (Nat.le_of_ble_eq_true rfl) ?_
  exact W.zret (v := 0) hx hb hr (by decide) (fun t ht hW => ⟨⟨0, (), rfl, rfl, by rw [ht]; exact hP9, hD9⟩, hS.F ht⟩) hS.2.2 dX9_isContested_39
theorem dX5_contestedBy_0 : decode cX5_contestedBy 0 = .ok (.aload_n 0, 1) := by decide +kernel
theorem dX5_contestedBy_1 : decode cX5_contestedBy 1 = .ok (.aload_n 0, 1) := by decide +kernel
theorem dX5_contestedBy_2 : decode cX5_contestedBy 2 = .ok (.iload_n 1, 1) := by decide +kernel
theorem dX5_contestedBy_3 : decode cX5_contestedBy 3 = .ok (.invokevirtual 233, 3) := by decide +kernel
set_option maxHeartbeats 4000000 in
set_option maxRecDepth 100000 in
theorem c_X5_contestedBy (l : Launch) (hst : l.stackTraces = false) (D : va_G) (sa : Nat → Nat) (ad : Nat → Nat) (sz : Nat) (p0 : Int32) : vx_Met l yX5_contestedBy ((Cond.code yX5_contestedBy prog_1_method_29_code 3 (Option.some FieldType.int)) :: WA) ({ frames := 8, cells := 1, slots := 6, locals := 125 }) (zR D sa (zX ad) [.ref (ad 0), .int p0] sz) zF (zXC "java/lang/IndexOutOfBoundsException" sz) 1 6 (zN sz) := by
  refine vx_ofW (cc := prog_1_method_29_code) (maxL := 3) (ret := (Option.some FieldType.int)) (by decide) rfl ?_
  intro p e s m args below meth c s₁ B hml hnt hv
  obtain ⟨rfl, hsz, hP, hK, hT, hZ⟩ := hv
  have hx := B.exec
  have hb := B.bytes
  have hr := B.returns
  have hts := atoms_spec (ws := (Cond.code yX5_contestedBy prog_1_method_29_code 3 (Option.some FieldType.int)) :: WA) B.pre
  have hw : ∀ w ∈ WA, w.before _ s = true := fun w h => hts w (List.mem_cons_of_mem _ h)
  have hown : s.vm.findClass RX5 = some m.cls := findClass_of_methodNamed B.named
  have hlocks := B.notSynchronized
  subst hsz
  have hA : ∀ q : Nat, s.heap.size ≤ q → zN s.heap.size q := fun _ h => h
  have hS : va_S (zN s.heap.size) s.heap s.heap [] := va_S.rf
  have hP : va_P D vwCl [((ad 0), .inr (10, [.ref (ad 1), .ref (ad 2), .ref (ad 3), .ref (ad 4), .ref (ad 5), .int (-1), .int 100, .int 0, .int 0])), ((ad 1), .inr (7, [.ref (ad 6), .ref (ad 7), .ref (ad 8), .int 0])), ((ad 2), .inr (8, [.ref (ad 9), .ref (ad 10), .int 0])), ((ad 3), .inr (4, [.int 0, .ref (ad 14), .int 0])), ((ad 4), .inr (4, [.int 0, .ref (ad 14), .int 0])), ((ad 5), .inr (6, [.ref (ad 11), .ref (ad 12), .ref (ad 13), .int 0, .int 0]))] s.heap := hP
  have hl := lv_entry [.ref (ad 0), .int p0] (n := 3) (Nat.le_of_ble_eq_true rfl)
  rw [lg_entry_eq]
  generalize (lg_sl [.ref (ad 0), .int p0] ++ List.replicate (3 - (lg_sl [.ref (ad 0), .int p0]).length) Slot.unset).toArray = ls at hl ⊢
  have hl : lv_has ls 3 [(0, .ref (ad 0)), (1, .int p0)] := hl
  refine lv_aload_n hx hb dX5_contestedBy_0 rfl (lv_at hl 0 rfl) ?_
  refine lv_aload_n hx hb dX5_contestedBy_1 rfl (lv_at hl 0 rfl) ?_
  refine lv_iload_n hx hb dX5_contestedBy_2 rfl (lv_at hl 1 rfl) ?_
  refine zx_call (vx_runV (As := [.int p0]) (rest := [.ref (ad 0)]) ⟨hx, hb, hml, hown, hw⟩ (c_X5_registeredAt l hst D sa ad _ p0) (cwV 1 hw (zg4 zm_979 zm_981 zm_18 zm_45 zm_982) rfl rfl rfl (by decide +kernel) ⟨Nat.le_of_ble_eq_true rfl, Nat.le_of_ble_eq_true rfl⟩) ⟨zR_blind, va_recv hK hP (ci := 10) (q0 := 0) rfl rfl, zR_pre hP hK hT hZ hS hA⟩ rfl rfl hl.1 rfl (lv_room (Nat.le_of_ble_eq_true rfl)) dX5_contestedBy_3 ⟨Nat.le_of_ble_eq_true rfl, Nat.le_of_ble_eq_true rfl⟩) hS (zN_fr hS hA) zN_in (fun E ce q9 u t H locs ht hvm hu hE hz1 hk1 hS hce hcv hcl => ?_)
  exact vx_out (fun x hx9 => (hnt x hx9).elim) hlocks hce hcv hcl (fun t ht _ => ⟨(), trivial, hE, hS.F ht⟩) (fun z hz => hS.2.2 z hz) (Nat.le_of_ble_eq_true rfl) (Nat.le_of_ble_eq_true rfl)
theorem dL_contestedBy_0 : decode cL_contestedBy 0 = .ok (.aload_n 2, 1) := by decide +kernel
theorem dL_contestedBy_1 : decode cL_contestedBy 1 = .ok (.iconst 0, 1) := by decide +kernel
theorem dL_contestedBy_2 : decode cL_contestedBy 2 = .ok (.aload_n 0, 1) := by decide +kernel
theorem dL_contestedBy_3 : decode cL_contestedBy 3 = .ok (.iload_n 1, 1) := by decide +kernel
theorem dL_contestedBy_4 : decode cL_contestedBy 4 = .ok (.invokevirtual 108, 3) := by decide +kernel
theorem zm_1006 : Cond.methodLink RL 108 yX5_contestedBy ∈ WA := zmm (i := 1006) (by decide +kernel) (by decide +kernel)
theorem zm_1007 : Cond.instanceMethod yX5_contestedBy ∈ WA := zmm (i := 1007) (by decide +kernel) (by decide +kernel)
theorem zm_1008 : Cond.selects RX5 yX5_contestedBy yX5_contestedBy ∈ WA := zmm (i := 1008) (by decide +kernel) (by decide +kernel)
theorem zm_1009 : Cond.code yX5_contestedBy prog_1_method_29_code 3 (Option.some FieldType.int) ∈ WA := zmm (i := 1009) (by decide +kernel) (by decide +kernel)
theorem dL_contestedBy_12 : decode cL_contestedBy 12 = .ok (.astore_n 3, 1) := by decide +kernel
theorem dL_contestedBy_13 : decode cL_contestedBy 13 = .ok (.iconst 1, 1) := by decide +kernel
theorem dL_contestedBy_14 : decode cL_contestedBy 14 = .ok (.ireturn, 1) := by decide +kernel
set_option maxHeartbeats 4000000 in
set_option maxRecDepth 100000 in
theorem c_L_contestedBy (l : Launch) (hst : l.stackTraces = false) (D : va_G) (sa : Nat → Nat) (ad : Nat → Nat) (sz : Nat) (p0 : Int32) (oa : Nat) : vx_Met l yL_contestedBy ((Cond.codeWith yL_contestedBy method_29_code 4 (Option.some FieldType.int) [(0, 9, 12, 23), (0, 9, 15, 15), (0, 9, 18, 46)]) :: WA) ({ frames := 9, cells := 1, slots := 6, locals := 147 }) (zR D sa (zX ad) [.ref (ad 0), .int p0, .ref oa] sz) (va_Qi (fun (r : Int32) (_ : Unit) => r = 1) (fun _ _ => True) (zN sz)) (zX0 sz) 1 6 (zN sz) := by
  refine vx_ofWH (cc := method_29_code) (maxL := 4) (ret := (Option.some FieldType.int)) (hh := [(0, 9, 12, 23), (0, 9, 15, 15), (0, 9, 18, 46)]) (by decide) rfl ?_
  intro p e s m args below meth c s₁ B hml hv
  obtain ⟨rfl, hsz, hP, hK, hT, hZ⟩ := hv
  have hx := B.exec
  have hb := B.bytes
  have hr := B.returns
  have hts := atoms_spec (ws := (Cond.codeWith yL_contestedBy method_29_code 4 (Option.some FieldType.int) [(0, 9, 12, 23), (0, 9, 15, 15), (0, 9, 18, 46)]) :: WA) B.pre
  have hw : ∀ w ∈ WA, w.before _ s = true := fun w h => hts w (List.mem_cons_of_mem _ h)
  have htab := vx_table (x := yL_contestedBy) B (hts _ List.mem_cons_self)
  have hown : s.vm.findClass RL = some m.cls := findClass_of_methodNamed B.named
  have hlocks := B.notSynchronized
  subst hsz
  have hA : ∀ q : Nat, s.heap.size ≤ q → zN s.heap.size q := fun _ h => h
  have hS : va_S (zN s.heap.size) s.heap s.heap [] := va_S.rf
  have hP : va_P D vwCl [((ad 0), .inr (10, [.ref (ad 1), .ref (ad 2), .ref (ad 3), .ref (ad 4), .ref (ad 5), .int (-1), .int 100, .int 0, .int 0])), ((ad 1), .inr (7, [.ref (ad 6), .ref (ad 7), .ref (ad 8), .int 0])), ((ad 2), .inr (8, [.ref (ad 9), .ref (ad 10), .int 0])), ((ad 3), .inr (4, [.int 0, .ref (ad 14), .int 0])), ((ad 4), .inr (4, [.int 0, .ref (ad 14), .int 0])), ((ad 5), .inr (6, [.ref (ad 11), .ref (ad 12), .ref (ad 13), .int 0, .int 0]))] s.heap := hP
  have hl := lv_entry [.ref (ad 0), .int p0, .ref oa] (n := 4) (Nat.le_of_ble_eq_true rfl)
  rw [lg_entry_eq]
  generalize (lg_sl [.ref (ad 0), .int p0, .ref oa] ++ List.replicate (4 - (lg_sl [.ref (ad 0), .int p0, .ref oa]).length) Slot.unset).toArray = ls at hl ⊢
  have hl : lv_has ls 4 [(0, .ref (ad 0)), (1, .int p0), (2, .ref oa)] := hl
  refine lv_aload_n hx hb dL_contestedBy_0 rfl (lv_at hl 2 rfl) ?_
  refine lv_iconst (v := 0) hx hb dL_contestedBy_1 (by decide) ?_
  refine lv_aload_n hx hb dL_contestedBy_2 rfl (lv_at hl 0 rfl) ?_
  refine lv_iload_n hx hb dL_contestedBy_3 rfl (lv_at hl 1 rfl) ?_
  refine zx_call (vx_runV (As := [.int p0]) (rest := [.int 0, .ref oa]) ⟨hx, hb, hml, hown, hw⟩ (c_X5_contestedBy l hst D sa ad _ p0) (cwV 1 hw (zg4 zm_1006 zm_1007 zm_1008 zm_45 zm_1009) rfl rfl rfl (by decide +kernel) ⟨Nat.le_of_ble_eq_true rfl, Nat.le_of_ble_eq_true rfl⟩) ⟨zR_blind, va_recv hK hP (ci := 10) (q0 := 0) rfl rfl, zR_pre hP hK hT hZ hS hA⟩ rfl rfl hl.1 rfl (lv_room (Nat.le_of_ble_eq_true rfl)) dL_contestedBy_4 ⟨Nat.le_of_ble_eq_true rfl, Nat.le_of_ble_eq_true rfl⟩) hS (zN_fr hS hA) zN_in (fun E ce q9 u t H locs ht hvm hu hE hz1 hk1 hS hce hcv hcl => ?_)
  subst hE
  refine vx_catch hown [] ⟨0, 9, 12, 23⟩ (tableOf [(0, 9, 15, 15), (0, 9, 18, 46)]) htab (fun z hz => absurd hz List.not_mem_nil) (by decide) (by decide) (hw _ zm_487) (hT.c 3 rfl) hce hcv hcl ?_
  refine lv_astore_n (lv' := [(3, .ref q9), (0, .ref (ad 0)), (1, .int p0), (2, .ref oa)]) hx hb dL_contestedBy_12 rfl hl (by decide) rfl (fun ls hl => ?_)
  refine lv_iconst (v := 1) hx hb dL_contestedBy_13 (by decide) ?_
  refine vx_ret ?_
  exact W.iret (v := 1) hx hb hr (fun t ht hW => ⟨⟨1, (), rfl, rfl, trivial⟩, hS.F ht⟩) hS.2.2 dL_contestedBy_14
theorem dX9_contestedBy_0 : decode cX9_contestedBy 0 = .ok (.aload_n 0, 1) := by decide +kernel
theorem dX9_contestedBy_1 : decode cX9_contestedBy 1 = .ok (.aload_n 0, 1) := by decide +kernel
theorem dX9_contestedBy_2 : decode cX9_contestedBy 2 = .ok (.iload_n 1, 1) := by decide +kernel
theorem dX9_contestedBy_3 : decode cX9_contestedBy 3 = .ok (.invokevirtual 118, 3) := by decide +kernel
theorem dX9_contestedBy_6 : decode cX9_contestedBy 6 = .ok (.iconst 1, 1) := by decide +kernel
theorem dX9_contestedBy_7 : decode cX9_contestedBy 7 = .ok (.invokevirtual 51, 3) := by decide +kernel
theorem dX9_contestedBy_10 : decode cX9_contestedBy 10 = .ok (.ifCond .ne 16, 3) := by decide +kernel
theorem dX9_contestedBy_26 : decode cX9_contestedBy 26 = .ok (.iconst 0, 1) := by decide +kernel
theorem dX9_contestedBy_27 : decode cX9_contestedBy 27 = .ok (.ireturn, 1) := by decide +kernel
set_option maxHeartbeats 4000000 in
set_option maxRecDepth 100000 in
theorem c_X9_contestedBy (l : Launch) (D : va_G) (sa : Nat → Nat) (ea : Nat) (bd : Nat → Nat) (th : Int32) (sz : Nat) (p0 : Int32) : Met l yX9_contestedBy ((Cond.code yX9_contestedBy prog_8_method_43_code 3 (Option.some FieldType.int)) :: WA) ({ frames := 2, cells := 0, slots := 0, locals := 43 }) (zW D sa ea [] (zM bd th) [.ref (bd 0), .int p0] sz) (va_Qi (fun (r : Int32) (_ : Unit) => r = 0) (fun _ t => va_P D vwCl [((bd 0), .inr (14, [.ref (bd 1), .ref (bd 2), .ref (bd 3), .ref (bd 4), .ref (bd 5), .ref (bd 6), .int 100, .int (-1), .int 0, .int 1])), ((bd 1), .inr (4, [.int 0, .ref (bd 7), .int 0])), ((bd 2), .inr (4, [.int 0, .ref (bd 7), .int 0])), ((bd 3), .inr (4, [.int 0, .ref (bd 7), .int 0])), ((bd 4), .inr (4, [.int 0, .ref (bd 7), .int 0])), ((bd 5), .inr (4, [.int 0, .ref (bd 7), .int 0])), ((bd 6), .inr (4, [.int 0, .ref (bd 7), .int 0]))] t.heap ∧ va_D (va_A (zM bd th) sz) [((bd 0), .inr (14, [.ref (bd 1), .ref (bd 2), .ref (bd 3), .ref (bd 4), .ref (bd 5), .ref (bd 6), .int 100, .int (-1), .int 0, .int 1])), ((bd 1), .inr (4, [.int 0, .ref (bd 7), .int 0])), ((bd 2), .inr (4, [.int 0, .ref (bd 7), .int 0])), ((bd 3), .inr (4, [.int 0, .ref (bd 7), .int 0])), ((bd 4), .inr (4, [.int 0, .ref (bd 7), .int 0])), ((bd 5), .inr (4, [.int 0, .ref (bd 7), .int 0])), ((bd 6), .inr (4, [.int 0, .ref (bd 7), .int 0]))]) (va_A (zM bd th) sz)) 0 0 (va_A (zM bd th) sz) := by
  refine Met.ofW (cc := prog_8_method_43_code) (maxL := 3) (ret := (Option.some FieldType.int)) (by decide) rfl ?_
  intro p e s m args below meth c s₁ B hml hv
  obtain ⟨rfl, hsz, hP, hK, hD0, hT, hE⟩ := hv
  have hx := B.exec
  have hb := B.bytes
  have hr := B.returns
  have hts := atoms_spec (ws := (Cond.code yX9_contestedBy prog_8_method_43_code 3 (Option.some FieldType.int)) :: WA) B.pre
  have hw : ∀ w ∈ WA, w.before _ s = true := fun w h => hts w (List.mem_cons_of_mem _ h)
  have hown : s.vm.findClass RX9 = some m.cls := findClass_of_methodNamed B.named
  have hlocks := B.notSynchronized
  subst hsz
  have hD := hD0.self (sz := s.heap.size)
  generalize hAe : va_A (zM bd th) s.heap.size = A at hD hE ⊢
  have hA : ∀ q : Nat, s.heap.size ≤ q → A q := fun q h => by rw [← hAe]; exact Or.inr h
  have hS : va_S A s.heap s.heap [] := va_S.rf
  have hP : va_P D vwCl [((bd 0), .inr (14, [.ref (bd 1), .ref (bd 2), .ref (bd 3), .ref (bd 4), .ref (bd 5), .ref (bd 6), .int 100, .int (-1), .int 0, .int th])), ((bd 1), .inr (4, [.int 0, .ref (bd 7), .int 0])), ((bd 2), .inr (4, [.int 0, .ref (bd 7), .int 0])), ((bd 3), .inr (4, [.int 0, .ref (bd 7), .int 0])), ((bd 4), .inr (4, [.int 0, .ref (bd 7), .int 0])), ((bd 5), .inr (4, [.int 0, .ref (bd 7), .int 0])), ((bd 6), .inr (4, [.int 0, .ref (bd 7), .int 0]))] s.heap := hP
  have hD : va_D A [((bd 0), .inr (14, [.ref (bd 1), .ref (bd 2), .ref (bd 3), .ref (bd 4), .ref (bd 5), .ref (bd 6), .int 100, .int (-1), .int 0, .int th])), ((bd 1), .inr (4, [.int 0, .ref (bd 7), .int 0])), ((bd 2), .inr (4, [.int 0, .ref (bd 7), .int 0])), ((bd 3), .inr (4, [.int 0, .ref (bd 7), .int 0])), ((bd 4), .inr (4, [.int 0, .ref (bd 7), .int 0])), ((bd 5), .inr (4, [.int 0, .ref (bd 7), .int 0])), ((bd 6), .inr (4, [.int 0, .ref (bd 7), .int 0]))] := hD
  have hl := lv_entry [.ref (bd 0), .int p0] (n := 3) (Nat.le_of_ble_eq_true rfl)
  rw [lg_entry_eq]
  generalize (lg_sl [.ref (bd 0), .int p0] ++ List.replicate (3 - (lg_sl [.ref (bd 0), .int p0]).length) Slot.unset).toArray = ls at hl ⊢
  have hl : lv_has ls 3 [(0, .ref (bd 0)), (1, .int p0)] := hl
  refine lv_aload_n hx hb dX9_contestedBy_0 rfl (lv_at hl 0 rfl) ?_
  refine lv_aload_n hx hb dX9_contestedBy_1 rfl (lv_at hl 0 rfl) ?_
  refine lv_iload_n hx hb dX9_contestedBy_2 rfl (lv_at hl 1 rfl) ?_
  refine va_calli (va_runV (As := [.int p0]) (rest := [.ref (bd 0)]) ⟨hx, hb, hml, hown, hw⟩ (c_X9_isSett l D sa bd th _ p0) (cwV 1 hw (zg4 zm_1521 zm_1523 zm_29 zm_53 zm_1524) rfl rfl rfl (by decide +kernel) ⟨Nat.le_of_ble_eq_true rfl, Nat.le_of_ble_eq_true rfl⟩) ⟨zJ_blind, va_recv hK hP (ci := 14) (q0 := 0) rfl rfl, zJ_pre hP hK hT⟩ rfl rfl hl.1 rfl (lv_room (Nat.le_of_ble_eq_true rfl)) dX9_contestedBy_3 ⟨Nat.le_of_ble_eq_true rfl, Nat.le_of_ble_eq_true rfl⟩) hS zN_in (zN_fr hS hA) (fun r_1 u t H locs ht hvm hw1 hB hz1 hk1 hS => ?_)
  have hP := zN_keep hP hk1
  subst hw1
  refine lv_iconst (v := 1) hx hb dX9_contestedBy_6 (by decide) ?_
  have hFc := va_free (wc := [((bd 0), .inr (14, [.ref (bd 1), .ref (bd 2), .ref (bd 3), .ref (bd 4), .ref (bd 5), .ref (bd 6), .int 100, .int (-1), .int 0, .int th])), ((bd 1), .inr (4, [.int 0, .ref (bd 7), .int 0])), ((bd 2), .inr (4, [.int 0, .ref (bd 7), .int 0])), ((bd 3), .inr (4, [.int 0, .ref (bd 7), .int 0])), ((bd 4), .inr (4, [.int 0, .ref (bd 7), .int 0])), ((bd 5), .inr (4, [.int 0, .ref (bd 7), .int 0])), ((bd 6), .inr (4, [.int 0, .ref (bd 7), .int 0]))]) hD hS hA [0, 1, 2, 3, 4, 5, 6] rfl
  refine va_calli (va_runV (As := [.int 0, .int 1]) (rest := []) ⟨hx, hb, hml, hown, hw⟩ (c_X9_no0 l D sa ea bd th _ 1) (cwV 2 hw (zg4 zm_1314 zm_1316 zm_26 zm_53 zm_1317) rfl rfl rfl (by decide +kernel) ⟨Nat.le_of_ble_eq_true rfl, Nat.le_of_ble_eq_true rfl⟩) ⟨zW_blind, va_recv hK hP (ci := 14) (q0 := 0) rfl rfl, zW_pre hP hK hD hT hE hS hFc⟩ rfl rfl hl.1 rfl (lv_room (Nat.le_of_ble_eq_true rfl)) dX9_contestedBy_7 ⟨Nat.le_of_ble_eq_true rfl, Nat.le_of_ble_eq_true rfl⟩) hS (fun q _ h => hFc q h) hFc (fun r_2 u t H locs ht hvm hw1 hB hz1 hk1 hS => ?_)
  subst hw1
  obtain ⟨hP1, hD1⟩ := hB
  rw [ht] at hP1
  obtain ⟨hP, hD⟩ := va_join (wr := []) (w1 := [((bd 0), .inr (14, [.ref (bd 1), .ref (bd 2), .ref (bd 3), .ref (bd 4), .ref (bd 5), .ref (bd 6), .int 100, .int (-1), .int 0, .int 1])), ((bd 1), .inr (4, [.int 0, .ref (bd 7), .int 0])), ((bd 2), .inr (4, [.int 0, .ref (bd 7), .int 0])), ((bd 3), .inr (4, [.int 0, .ref (bd 7), .int 0])), ((bd 4), .inr (4, [.int 0, .ref (bd 7), .int 0])), ((bd 5), .inr (4, [.int 0, .ref (bd 7), .int 0])), ((bd 6), .inr (4, [.int 0, .ref (bd 7), .int 0]))]) hP hD [0, 1, 2, 3, 4, 5, 6] [] rfl rfl (by decide) (by decide) hk1 hFc hP1 hD1
  have hP : va_P D vwCl [((bd 0), .inr (14, [.ref (bd 1), .ref (bd 2), .ref (bd 3), .ref (bd 4), .ref (bd 5), .ref (bd 6), .int 100, .int (-1), .int 0, .int 1])), ((bd 1), .inr (4, [.int 0, .ref (bd 7), .int 0])), ((bd 2), .inr (4, [.int 0, .ref (bd 7), .int 0])), ((bd 3), .inr (4, [.int 0, .ref (bd 7), .int 0])), ((bd 4), .inr (4, [.int 0, .ref (bd 7), .int 0])), ((bd 5), .inr (4, [.int 0, .ref (bd 7), .int 0])), ((bd 6), .inr (4, [.int 0, .ref (bd 7), .int 0]))] H := hP
  have hD : va_D A [((bd 0), .inr (14, [.ref (bd 1), .ref (bd 2), .ref (bd 3), .ref (bd 4), .ref (bd 5), .ref (bd 6), .int 100, .int (-1), .int 0, .int 1])), ((bd 1), .inr (4, [.int 0, .ref (bd 7), .int 0])), ((bd 2), .inr (4, [.int 0, .ref (bd 7), .int 0])), ((bd 3), .inr (4, [.int 0, .ref (bd 7), .int 0])), ((bd 4), .inr (4, [.int 0, .ref (bd 7), .int 0])), ((bd 5), .inr (4, [.int 0, .ref (bd 7), .int 0])), ((bd 6), .inr (4, [.int 0, .ref (bd 7), .int 0]))] := hD
  refine lv_if_ne (tgt := 26) hx hb dX9_contestedBy_10 (by decide) (fun _ => ?_) (fun c_3 => absurd c_3 (by decide))
  refine lv_iconst (v := 0) hx hb dX9_contestedBy_26 (by decide) ?_
  have hP9 := hP.sub (ws' := [((bd 0), .inr (14, [.ref (bd 1), .ref (bd 2), .ref (bd 3), .ref (bd 4), .ref (bd 5), .ref (bd 6), .int 100, .int (-1), .int 0, .int 1])), ((bd 1), .inr (4, [.int 0, .ref (bd 7), .int 0])), ((bd 2), .inr (4, [.int 0, .ref (bd 7), .int 0])), ((bd 3), .inr (4, [.int 0, .ref (bd 7), .int 0])), ((bd 4), .inr (4, [.int 0, .ref (bd 7), .int 0])), ((bd 5), .inr (4, [.int 0, .ref (bd 7), .int 0])), ((bd 6), .inr (4, [.int 0, .ref (bd 7), .int 0]))]) [0, 1, 2, 3, 4, 5, 6] rfl
  have hD9 := hD.sub (ws' := [((bd 0), .inr (14, [.ref (bd 1), .ref (bd 2), .ref (bd 3), .ref (bd 4), .ref (bd 5), .ref (bd 6), .int 100, .int (-1), .int 0, .int 1])), ((bd 1), .inr (4, [.int 0, .ref (bd 7), .int 0])), ((bd 2), .inr (4, [.int 0, .ref (bd 7), .int 0])), ((bd 3), .inr (4, [.int 0, .ref (bd 7), .int 0])), ((bd 4), .inr (4, [.int 0, .ref (bd 7), .int 0])), ((bd 5), .inr (4, [.int 0, .ref (bd 7), .int 0])), ((bd 6), .inr (4, [.int 0, .ref (bd 7), .int 0]))]) [0, 1, 2, 3, 4, 5, 6] (by decide) rfl
  refine W.widen (k := 0) (n := 0) (Nat.le_of_ble_eq_true rfl) (Nat.le_of_ble_eq_true rfl) ?_
  exact W.iret (v := 0) hx hb hr (fun t ht hW => ⟨⟨0, (), rfl, rfl, by rw [ht]; exact hP9, hD9⟩, hS.F ht⟩) hS.2.2 dX9_contestedBy_27
theorem dX5_consent_0 : decode cX5_consent 0 = .ok (.aload_n 0, 1) := by decide +kernel
theorem dX5_consent_1 : decode cX5_consent 1 = .ok (.iload_n 1, 1) := by decide +kernel
theorem dX5_consent_2 : decode cX5_consent 2 = .ok (.invokevirtual 137, 3) := by decide +kernel
set_option maxHeartbeats 4000000 in
set_option maxRecDepth 100000 in
theorem c_X5_consent (l : Launch) (hst : l.stackTraces = false) (D : va_G) (sa : Nat → Nat) (ad : Nat → Nat) (sz : Nat) (p0 : Int32) (p1 : Int32) : vx_Met l yX5_consent ((Cond.code yX5_consent prog_1_method_30_code 5 (Option.some FieldType.boolean)) :: WA) ({ frames := 7, cells := 1, slots := 6, locals := 103 }) (zR D sa (zX ad) [.ref (ad 0), .int p0, .int p1] sz) zF (zXC "java/lang/IndexOutOfBoundsException" sz) 1 6 (zN sz) := by
  refine vx_ofW (cc := prog_1_method_30_code) (maxL := 5) (ret := (Option.some FieldType.boolean)) (by decide) rfl ?_
  intro p e s m args below meth c s₁ B hml hnt hv
  obtain ⟨rfl, hsz, hP, hK, hT, hZ⟩ := hv
  have hx := B.exec
  have hb := B.bytes
  have hr := B.returns
  have hts := atoms_spec (ws := (Cond.code yX5_consent prog_1_method_30_code 5 (Option.some FieldType.boolean)) :: WA) B.pre
  have hw : ∀ w ∈ WA, w.before _ s = true := fun w h => hts w (List.mem_cons_of_mem _ h)
  have hown : s.vm.findClass RX5 = some m.cls := findClass_of_methodNamed B.named
  have hlocks := B.notSynchronized
  subst hsz
  have hA : ∀ q : Nat, s.heap.size ≤ q → zN s.heap.size q := fun _ h => h
  have hS : va_S (zN s.heap.size) s.heap s.heap [] := va_S.rf
  have hP : va_P D vwCl [((ad 0), .inr (10, [.ref (ad 1), .ref (ad 2), .ref (ad 3), .ref (ad 4), .ref (ad 5), .int (-1), .int 100, .int 0, .int 0])), ((ad 1), .inr (7, [.ref (ad 6), .ref (ad 7), .ref (ad 8), .int 0])), ((ad 2), .inr (8, [.ref (ad 9), .ref (ad 10), .int 0])), ((ad 3), .inr (4, [.int 0, .ref (ad 14), .int 0])), ((ad 4), .inr (4, [.int 0, .ref (ad 14), .int 0])), ((ad 5), .inr (6, [.ref (ad 11), .ref (ad 12), .ref (ad 13), .int 0, .int 0]))] s.heap := hP
  have hl := lv_entry [.ref (ad 0), .int p0, .int p1] (n := 5) (Nat.le_of_ble_eq_true rfl)
  rw [lg_entry_eq]
  generalize (lg_sl [.ref (ad 0), .int p0, .int p1] ++ List.replicate (5 - (lg_sl [.ref (ad 0), .int p0, .int p1]).length) Slot.unset).toArray = ls at hl ⊢
  have hl : lv_has ls 5 [(0, .ref (ad 0)), (1, .int p0), (2, .int p1)] := hl
  refine lv_aload_n hx hb dX5_consent_0 rfl (lv_at hl 0 rfl) ?_
  refine lv_iload_n hx hb dX5_consent_1 rfl (lv_at hl 1 rfl) ?_
  refine zx_call (vx_runV (As := [.int p0]) (rest := []) ⟨hx, hb, hml, hown, hw⟩ (c_X5_settAt l hst D sa ad _ p0) (cwV 1 hw (zg4 zm_751 zm_753 zm_15 zm_45 zm_754) rfl rfl rfl (by decide +kernel) ⟨Nat.le_of_ble_eq_true rfl, Nat.le_of_ble_eq_true rfl⟩) ⟨zR_blind, va_recv hK hP (ci := 10) (q0 := 0) rfl rfl, zR_pre hP hK hT hZ hS hA⟩ rfl rfl hl.1 rfl (lv_room (Nat.le_of_ble_eq_true rfl)) dX5_consent_2 ⟨Nat.le_of_ble_eq_true rfl, Nat.le_of_ble_eq_true rfl⟩) hS (zN_fr hS hA) zN_in (fun E ce q9 u t H locs ht hvm hu hE hz1 hk1 hS hce hcv hcl => ?_)
  exact vx_out (fun x hx9 => (hnt x hx9).elim) hlocks hce hcv hcl (fun t ht _ => ⟨(), trivial, hE, hS.F ht⟩) (fun z hz => hS.2.2 z hz) (Nat.le_of_ble_eq_true rfl) (Nat.le_of_ble_eq_true rfl)
theorem dL_consent_0 : decode cL_consent 0 = .ok (.aload_n 3, 1) := by decide +kernel
theorem dL_consent_1 : decode cL_consent 1 = .ok (.iconst 0, 1) := by decide +kernel
theorem dL_consent_2 : decode cL_consent 2 = .ok (.aload_n 0, 1) := by decide +kernel
theorem dL_consent_3 : decode cL_consent 3 = .ok (.iload_n 1, 1) := by decide +kernel
theorem dL_consent_4 : decode cL_consent 4 = .ok (.iload_n 2, 1) := by decide +kernel
theorem dL_consent_5 : decode cL_consent 5 = .ok (.invokevirtual 111, 3) := by decide +kernel
theorem zm_1014 : Cond.methodLink RL 111 yX5_consent ∈ WA := zmm (i := 1014) (by decide +kernel) (by decide +kernel)
theorem zm_1015 : Cond.instanceMethod yX5_consent ∈ WA := zmm (i := 1015) (by decide +kernel) (by decide +kernel)
theorem zm_1016 : Cond.selects RX5 yX5_consent yX5_consent ∈ WA := zmm (i := 1016) (by decide +kernel) (by decide +kernel)
theorem zm_1017 : Cond.code yX5_consent prog_1_method_30_code 5 (Option.some FieldType.boolean) ∈ WA := zmm (i := 1017) (by decide +kernel) (by decide +kernel)
theorem dL_consent_20 : decode cL_consent 20 = .ok (.astore 4, 2) := by decide +kernel
theorem dL_consent_22 : decode cL_consent 22 = .ok (.iconst 1, 1) := by decide +kernel
theorem dL_consent_23 : decode cL_consent 23 = .ok (.ireturn, 1) := by decide +kernel
set_option maxHeartbeats 4000000 in
set_option maxRecDepth 100000 in
theorem c_L_consent (l : Launch) (hst : l.stackTraces = false) (D : va_G) (sa : Nat → Nat) (ad : Nat → Nat) (sz : Nat) (p0 : Int32) (p1 : Int32) (oa : Nat) : vx_Met l yL_consent ((Cond.codeWith yL_consent method_30_code 5 (Option.some FieldType.int) [(0, 17, 20, 23), (0, 17, 24, 13), (0, 17, 28, 15)]) :: WA) ({ frames := 8, cells := 1, slots := 6, locals := 127 }) (zR D sa (zX ad) [.ref (ad 0), .int p0, .int p1, .ref oa] sz) (va_Qi (fun (r : Int32) (_ : Unit) => r = 1) (fun _ _ => True) (zN sz)) (zX0 sz) 1 6 (zN sz) := by
  refine vx_ofWH (cc := method_30_code) (maxL := 5) (ret := (Option.some FieldType.int)) (hh := [(0, 17, 20, 23), (0, 17, 24, 13), (0, 17, 28, 15)]) (by decide) rfl ?_
  intro p e s m args below meth c s₁ B hml hv
  obtain ⟨rfl, hsz, hP, hK, hT, hZ⟩ := hv
  have hx := B.exec
  have hb := B.bytes
  have hr := B.returns
  have hts := atoms_spec (ws := (Cond.codeWith yL_consent method_30_code 5 (Option.some FieldType.int) [(0, 17, 20, 23), (0, 17, 24, 13), (0, 17, 28, 15)]) :: WA) B.pre
  have hw : ∀ w ∈ WA, w.before _ s = true := fun w h => hts w (List.mem_cons_of_mem _ h)
  have htab := vx_table (x := yL_consent) B (hts _ List.mem_cons_self)
  have hown : s.vm.findClass RL = some m.cls := findClass_of_methodNamed B.named
  have hlocks := B.notSynchronized
  subst hsz
  have hA : ∀ q : Nat, s.heap.size ≤ q → zN s.heap.size q := fun _ h => h
  have hS : va_S (zN s.heap.size) s.heap s.heap [] := va_S.rf
  have hP : va_P D vwCl [((ad 0), .inr (10, [.ref (ad 1), .ref (ad 2), .ref (ad 3), .ref (ad 4), .ref (ad 5), .int (-1), .int 100, .int 0, .int 0])), ((ad 1), .inr (7, [.ref (ad 6), .ref (ad 7), .ref (ad 8), .int 0])), ((ad 2), .inr (8, [.ref (ad 9), .ref (ad 10), .int 0])), ((ad 3), .inr (4, [.int 0, .ref (ad 14), .int 0])), ((ad 4), .inr (4, [.int 0, .ref (ad 14), .int 0])), ((ad 5), .inr (6, [.ref (ad 11), .ref (ad 12), .ref (ad 13), .int 0, .int 0]))] s.heap := hP
  have hl := lv_entry [.ref (ad 0), .int p0, .int p1, .ref oa] (n := 5) (Nat.le_of_ble_eq_true rfl)
  rw [lg_entry_eq]
  generalize (lg_sl [.ref (ad 0), .int p0, .int p1, .ref oa] ++ List.replicate (5 - (lg_sl [.ref (ad 0), .int p0, .int p1, .ref oa]).length) Slot.unset).toArray = ls at hl ⊢
  have hl : lv_has ls 5 [(0, .ref (ad 0)), (1, .int p0), (2, .int p1), (3, .ref oa)] := hl
  refine lv_aload_n hx hb dL_consent_0 rfl (lv_at hl 3 rfl) ?_
  refine lv_iconst (v := 0) hx hb dL_consent_1 (by decide) ?_
  refine lv_aload_n hx hb dL_consent_2 rfl (lv_at hl 0 rfl) ?_
  refine lv_iload_n hx hb dL_consent_3 rfl (lv_at hl 1 rfl) ?_
  refine lv_iload_n hx hb dL_consent_4 rfl (lv_at hl 2 rfl) ?_
  refine zx_call (vx_runV (As := [.int p0, .int p1]) (rest := [.int 0, .ref oa]) ⟨hx, hb, hml, hown, hw⟩ (c_X5_consent l hst D sa ad _ p0 p1) (cwV 2 hw (zg4 zm_1014 zm_1015 zm_1016 zm_45 zm_1017) rfl rfl rfl (by decide +kernel) ⟨Nat.le_of_ble_eq_true rfl, Nat.le_of_ble_eq_true rfl⟩) ⟨zR_blind, va_recv hK hP (ci := 10) (q0 := 0) rfl rfl, zR_pre hP hK hT hZ hS hA⟩ rfl rfl hl.1 rfl (lv_room (Nat.le_of_ble_eq_true rfl)) dL_consent_5 ⟨Nat.le_of_ble_eq_true rfl, Nat.le_of_ble_eq_true rfl⟩) hS (zN_fr hS hA) zN_in (fun E ce q9 u t H locs ht hvm hu hE hz1 hk1 hS hce hcv hcl => ?_)
  subst hE
  refine vx_catch hown [] ⟨0, 17, 20, 23⟩ (tableOf [(0, 17, 24, 13), (0, 17, 28, 15)]) htab (fun z hz => absurd hz List.not_mem_nil) (by decide) (by decide) (hw _ zm_487) (hT.c 3 rfl) hce hcv hcl ?_
  refine lv_astore (lv' := [(4, .ref q9), (0, .ref (ad 0)), (1, .int p0), (2, .int p1), (3, .ref oa)]) hx hb dL_consent_20 hl (by decide) rfl (fun ls hl => ?_)
  refine lv_iconst (v := 1) hx hb dL_consent_22 (by decide) ?_
  refine vx_ret ?_
  exact W.iret (v := 1) hx hb hr (fun t ht hW => ⟨⟨1, (), rfl, rfl, trivial⟩, hS.F ht⟩) hS.2.2 dL_consent_23
theorem dX9_consent_0 : decode cX9_consent 0 = .ok (.aload_n 0, 1) := by decide +kernel
theorem dX9_consent_1 : decode cX9_consent 1 = .ok (.aload_n 0, 1) := by decide +kernel
theorem dX9_consent_2 : decode cX9_consent 2 = .ok (.iload_n 1, 1) := by decide +kernel
theorem dX9_consent_3 : decode cX9_consent 3 = .ok (.invokevirtual 118, 3) := by decide +kernel
theorem dX9_consent_6 : decode cX9_consent 6 = .ok (.iconst 1, 1) := by decide +kernel
theorem dX9_consent_7 : decode cX9_consent 7 = .ok (.invokevirtual 51, 3) := by decide +kernel
theorem dX9_consent_10 : decode cX9_consent 10 = .ok (.ifCond .ne 52, 3) := by decide +kernel
theorem dX9_consent_62 : decode cX9_consent 62 = .ok (.iconst 0, 1) := by decide +kernel
theorem dX9_consent_63 : decode cX9_consent 63 = .ok (.ireturn, 1) := by decide +kernel
set_option maxHeartbeats 4000000 in
set_option maxRecDepth 100000 in
theorem c_X9_consent (l : Launch) (D : va_G) (sa : Nat → Nat) (ea : Nat) (bd : Nat → Nat) (th : Int32) (sz : Nat) (p0 : Int32) (p1 : Int32) : Met l yX9_consent ((Cond.code yX9_consent prog_8_method_44_code 4 (Option.some FieldType.boolean)) :: WA) ({ frames := 2, cells := 0, slots := 0, locals := 43 }) (zW D sa ea [] (zM bd th) [.ref (bd 0), .int p0, .int p1] sz) (va_Qi (fun (r : Int32) (_ : Unit) => r = 0) (fun _ t => va_P D vwCl [((bd 0), .inr (14, [.ref (bd 1), .ref (bd 2), .ref (bd 3), .ref (bd 4), .ref (bd 5), .ref (bd 6), .int 100, .int (-1), .int 0, .int 1])), ((bd 1), .inr (4, [.int 0, .ref (bd 7), .int 0])), ((bd 2), .inr (4, [.int 0, .ref (bd 7), .int 0])), ((bd 3), .inr (4, [.int 0, .ref (bd 7), .int 0])), ((bd 4), .inr (4, [.int 0, .ref (bd 7), .int 0])), ((bd 5), .inr (4, [.int 0, .ref (bd 7), .int 0])), ((bd 6), .inr (4, [.int 0, .ref (bd 7), .int 0]))] t.heap ∧ va_D (va_A (zM bd th) sz) [((bd 0), .inr (14, [.ref (bd 1), .ref (bd 2), .ref (bd 3), .ref (bd 4), .ref (bd 5), .ref (bd 6), .int 100, .int (-1), .int 0, .int 1])), ((bd 1), .inr (4, [.int 0, .ref (bd 7), .int 0])), ((bd 2), .inr (4, [.int 0, .ref (bd 7), .int 0])), ((bd 3), .inr (4, [.int 0, .ref (bd 7), .int 0])), ((bd 4), .inr (4, [.int 0, .ref (bd 7), .int 0])), ((bd 5), .inr (4, [.int 0, .ref (bd 7), .int 0])), ((bd 6), .inr (4, [.int 0, .ref (bd 7), .int 0]))]) (va_A (zM bd th) sz)) 0 0 (va_A (zM bd th) sz) := by
  refine Met.ofW (cc := prog_8_method_44_code) (maxL := 4) (ret := (Option.some FieldType.boolean)) (by decide) rfl ?_
  intro p e s m args below meth c s₁ B hml hv
  obtain ⟨rfl, hsz, hP, hK, hD0, hT, hE⟩ := hv
  have hx := B.exec
  have hb := B.bytes
  have hr := B.returns
  have hts := atoms_spec (ws := (Cond.code yX9_consent prog_8_method_44_code 4 (Option.some FieldType.boolean)) :: WA) B.pre
  have hw : ∀ w ∈ WA, w.before _ s = true := fun w h => hts w (List.mem_cons_of_mem _ h)
  have hown : s.vm.findClass RX9 = some m.cls := findClass_of_methodNamed B.named
  have hlocks := B.notSynchronized
  subst hsz
  have hD := hD0.self (sz := s.heap.size)
  generalize hAe : va_A (zM bd th) s.heap.size = A at hD hE ⊢
  have hA : ∀ q : Nat, s.heap.size ≤ q → A q := fun q h => by rw [← hAe]; exact Or.inr h
  have hS : va_S A s.heap s.heap [] := va_S.rf
  have hP : va_P D vwCl [((bd 0), .inr (14, [.ref (bd 1), .ref (bd 2), .ref (bd 3), .ref (bd 4), .ref (bd 5), .ref (bd 6), .int 100, .int (-1), .int 0, .int th])), ((bd 1), .inr (4, [.int 0, .ref (bd 7), .int 0])), ((bd 2), .inr (4, [.int 0, .ref (bd 7), .int 0])), ((bd 3), .inr (4, [.int 0, .ref (bd 7), .int 0])), ((bd 4), .inr (4, [.int 0, .ref (bd 7), .int 0])), ((bd 5), .inr (4, [.int 0, .ref (bd 7), .int 0])), ((bd 6), .inr (4, [.int 0, .ref (bd 7), .int 0]))] s.heap := hP
  have hD : va_D A [((bd 0), .inr (14, [.ref (bd 1), .ref (bd 2), .ref (bd 3), .ref (bd 4), .ref (bd 5), .ref (bd 6), .int 100, .int (-1), .int 0, .int th])), ((bd 1), .inr (4, [.int 0, .ref (bd 7), .int 0])), ((bd 2), .inr (4, [.int 0, .ref (bd 7), .int 0])), ((bd 3), .inr (4, [.int 0, .ref (bd 7), .int 0])), ((bd 4), .inr (4, [.int 0, .ref (bd 7), .int 0])), ((bd 5), .inr (4, [.int 0, .ref (bd 7), .int 0])), ((bd 6), .inr (4, [.int 0, .ref (bd 7), .int 0]))] := hD
  have hl := lv_entry [.ref (bd 0), .int p0, .int p1] (n := 4) (Nat.le_of_ble_eq_true rfl)
  rw [lg_entry_eq]
  generalize (lg_sl [.ref (bd 0), .int p0, .int p1] ++ List.replicate (4 - (lg_sl [.ref (bd 0), .int p0, .int p1]).length) Slot.unset).toArray = ls at hl ⊢
  have hl : lv_has ls 4 [(0, .ref (bd 0)), (1, .int p0), (2, .int p1)] := hl
  refine lv_aload_n hx hb dX9_consent_0 rfl (lv_at hl 0 rfl) ?_
  refine lv_aload_n hx hb dX9_consent_1 rfl (lv_at hl 0 rfl) ?_
  refine lv_iload_n hx hb dX9_consent_2 rfl (lv_at hl 1 rfl) ?_
  refine va_calli (va_runV (As := [.int p0]) (rest := [.ref (bd 0)]) ⟨hx, hb, hml, hown, hw⟩ (c_X9_isSett l D sa bd th _ p0) (cwV 1 hw (zg4 zm_1521 zm_1523 zm_29 zm_53 zm_1524) rfl rfl rfl (by decide +kernel) ⟨Nat.le_of_ble_eq_true rfl, Nat.le_of_ble_eq_true rfl⟩) ⟨zJ_blind, va_recv hK hP (ci := 14) (q0 := 0) rfl rfl, zJ_pre hP hK hT⟩ rfl rfl hl.1 rfl (lv_room (Nat.le_of_ble_eq_true rfl)) dX9_consent_3 ⟨Nat.le_of_ble_eq_true rfl, Nat.le_of_ble_eq_true rfl⟩) hS zN_in (zN_fr hS hA) (fun r_1 u t H locs ht hvm hw1 hB hz1 hk1 hS => ?_)
  have hP := zN_keep hP hk1
  subst hw1
  refine lv_iconst (v := 1) hx hb dX9_consent_6 (by decide) ?_
  have hFc := va_free (wc := [((bd 0), .inr (14, [.ref (bd 1), .ref (bd 2), .ref (bd 3), .ref (bd 4), .ref (bd 5), .ref (bd 6), .int 100, .int (-1), .int 0, .int th])), ((bd 1), .inr (4, [.int 0, .ref (bd 7), .int 0])), ((bd 2), .inr (4, [.int 0, .ref (bd 7), .int 0])), ((bd 3), .inr (4, [.int 0, .ref (bd 7), .int 0])), ((bd 4), .inr (4, [.int 0, .ref (bd 7), .int 0])), ((bd 5), .inr (4, [.int 0, .ref (bd 7), .int 0])), ((bd 6), .inr (4, [.int 0, .ref (bd 7), .int 0]))]) hD hS hA [0, 1, 2, 3, 4, 5, 6] rfl
  refine va_calli (va_runV (As := [.int 0, .int 1]) (rest := []) ⟨hx, hb, hml, hown, hw⟩ (c_X9_no0 l D sa ea bd th _ 1) (cwV 2 hw (zg4 zm_1314 zm_1316 zm_26 zm_53 zm_1317) rfl rfl rfl (by decide +kernel) ⟨Nat.le_of_ble_eq_true rfl, Nat.le_of_ble_eq_true rfl⟩) ⟨zW_blind, va_recv hK hP (ci := 14) (q0 := 0) rfl rfl, zW_pre hP hK hD hT hE hS hFc⟩ rfl rfl hl.1 rfl (lv_room (Nat.le_of_ble_eq_true rfl)) dX9_consent_7 ⟨Nat.le_of_ble_eq_true rfl, Nat.le_of_ble_eq_true rfl⟩) hS (fun q _ h => hFc q h) hFc (fun r_2 u t H locs ht hvm hw1 hB hz1 hk1 hS => ?_)
  subst hw1
  obtain ⟨hP1, hD1⟩ := hB
  rw [ht] at hP1
  obtain ⟨hP, hD⟩ := va_join (wr := []) (w1 := [((bd 0), .inr (14, [.ref (bd 1), .ref (bd 2), .ref (bd 3), .ref (bd 4), .ref (bd 5), .ref (bd 6), .int 100, .int (-1), .int 0, .int 1])), ((bd 1), .inr (4, [.int 0, .ref (bd 7), .int 0])), ((bd 2), .inr (4, [.int 0, .ref (bd 7), .int 0])), ((bd 3), .inr (4, [.int 0, .ref (bd 7), .int 0])), ((bd 4), .inr (4, [.int 0, .ref (bd 7), .int 0])), ((bd 5), .inr (4, [.int 0, .ref (bd 7), .int 0])), ((bd 6), .inr (4, [.int 0, .ref (bd 7), .int 0]))]) hP hD [0, 1, 2, 3, 4, 5, 6] [] rfl rfl (by decide) (by decide) hk1 hFc hP1 hD1
  have hP : va_P D vwCl [((bd 0), .inr (14, [.ref (bd 1), .ref (bd 2), .ref (bd 3), .ref (bd 4), .ref (bd 5), .ref (bd 6), .int 100, .int (-1), .int 0, .int 1])), ((bd 1), .inr (4, [.int 0, .ref (bd 7), .int 0])), ((bd 2), .inr (4, [.int 0, .ref (bd 7), .int 0])), ((bd 3), .inr (4, [.int 0, .ref (bd 7), .int 0])), ((bd 4), .inr (4, [.int 0, .ref (bd 7), .int 0])), ((bd 5), .inr (4, [.int 0, .ref (bd 7), .int 0])), ((bd 6), .inr (4, [.int 0, .ref (bd 7), .int 0]))] H := hP
  have hD : va_D A [((bd 0), .inr (14, [.ref (bd 1), .ref (bd 2), .ref (bd 3), .ref (bd 4), .ref (bd 5), .ref (bd 6), .int 100, .int (-1), .int 0, .int 1])), ((bd 1), .inr (4, [.int 0, .ref (bd 7), .int 0])), ((bd 2), .inr (4, [.int 0, .ref (bd 7), .int 0])), ((bd 3), .inr (4, [.int 0, .ref (bd 7), .int 0])), ((bd 4), .inr (4, [.int 0, .ref (bd 7), .int 0])), ((bd 5), .inr (4, [.int 0, .ref (bd 7), .int 0])), ((bd 6), .inr (4, [.int 0, .ref (bd 7), .int 0]))] := hD
  refine lv_if_ne (tgt := 62) hx hb dX9_consent_10 (by decide) (fun _ => ?_) (fun c_3 => absurd c_3 (by decide))
  refine lv_iconst (v := 0) hx hb dX9_consent_62 (by decide) ?_
  have hP9 := hP.sub (ws' := [((bd 0), .inr (14, [.ref (bd 1), .ref (bd 2), .ref (bd 3), .ref (bd 4), .ref (bd 5), .ref (bd 6), .int 100, .int (-1), .int 0, .int 1])), ((bd 1), .inr (4, [.int 0, .ref (bd 7), .int 0])), ((bd 2), .inr (4, [.int 0, .ref (bd 7), .int 0])), ((bd 3), .inr (4, [.int 0, .ref (bd 7), .int 0])), ((bd 4), .inr (4, [.int 0, .ref (bd 7), .int 0])), ((bd 5), .inr (4, [.int 0, .ref (bd 7), .int 0])), ((bd 6), .inr (4, [.int 0, .ref (bd 7), .int 0]))]) [0, 1, 2, 3, 4, 5, 6] rfl
  have hD9 := hD.sub (ws' := [((bd 0), .inr (14, [.ref (bd 1), .ref (bd 2), .ref (bd 3), .ref (bd 4), .ref (bd 5), .ref (bd 6), .int 100, .int (-1), .int 0, .int 1])), ((bd 1), .inr (4, [.int 0, .ref (bd 7), .int 0])), ((bd 2), .inr (4, [.int 0, .ref (bd 7), .int 0])), ((bd 3), .inr (4, [.int 0, .ref (bd 7), .int 0])), ((bd 4), .inr (4, [.int 0, .ref (bd 7), .int 0])), ((bd 5), .inr (4, [.int 0, .ref (bd 7), .int 0])), ((bd 6), .inr (4, [.int 0, .ref (bd 7), .int 0]))]) [0, 1, 2, 3, 4, 5, 6] (by decide) rfl
  refine W.widen (k := 0) (n := 0) (Nat.le_of_ble_eq_true rfl) (Nat.le_of_ble_eq_true rfl) ?_
  exact W.zret (v := 0) hx hb hr (by decide) (fun t ht hW => ⟨⟨0, (), rfl, rfl, by rw [ht]; exact hP9, hD9⟩, hS.F ht⟩) hS.2.2 dX9_consent_63
theorem dX5_mayWeave_0 : decode cX5_mayWeave 0 = .ok (.aload_n 0, 1) := by decide +kernel
theorem dX5_mayWeave_1 : decode cX5_mayWeave 1 = .ok (.iload_n 1, 1) := by decide +kernel
theorem dX5_mayWeave_2 : decode cX5_mayWeave 2 = .ok (.invokevirtual 137, 3) := by decide +kernel
set_option maxHeartbeats 4000000 in
set_option maxRecDepth 100000 in
theorem c_X5_mayWeave (l : Launch) (hst : l.stackTraces = false) (D : va_G) (sa : Nat → Nat) (ad : Nat → Nat) (sz : Nat) (p0 : Int32) (p1 : Int32) : vx_Met l yX5_mayWeave ((Cond.code yX5_mayWeave prog_1_method_31_code 4 (Option.some FieldType.boolean)) :: WA) ({ frames := 7, cells := 1, slots := 6, locals := 103 }) (zR D sa (zX ad) [.ref (ad 0), .int p0, .int p1] sz) zF (zXC "java/lang/IndexOutOfBoundsException" sz) 1 6 (zN sz) := by
  refine vx_ofW (cc := prog_1_method_31_code) (maxL := 4) (ret := (Option.some FieldType.boolean)) (by decide) rfl ?_
  intro p e s m args below meth c s₁ B hml hnt hv
  obtain ⟨rfl, hsz, hP, hK, hT, hZ⟩ := hv
  have hx := B.exec
  have hb := B.bytes
  have hr := B.returns
  have hts := atoms_spec (ws := (Cond.code yX5_mayWeave prog_1_method_31_code 4 (Option.some FieldType.boolean)) :: WA) B.pre
  have hw : ∀ w ∈ WA, w.before _ s = true := fun w h => hts w (List.mem_cons_of_mem _ h)
  have hown : s.vm.findClass RX5 = some m.cls := findClass_of_methodNamed B.named
  have hlocks := B.notSynchronized
  subst hsz
  have hA : ∀ q : Nat, s.heap.size ≤ q → zN s.heap.size q := fun _ h => h
  have hS : va_S (zN s.heap.size) s.heap s.heap [] := va_S.rf
  have hP : va_P D vwCl [((ad 0), .inr (10, [.ref (ad 1), .ref (ad 2), .ref (ad 3), .ref (ad 4), .ref (ad 5), .int (-1), .int 100, .int 0, .int 0])), ((ad 1), .inr (7, [.ref (ad 6), .ref (ad 7), .ref (ad 8), .int 0])), ((ad 2), .inr (8, [.ref (ad 9), .ref (ad 10), .int 0])), ((ad 3), .inr (4, [.int 0, .ref (ad 14), .int 0])), ((ad 4), .inr (4, [.int 0, .ref (ad 14), .int 0])), ((ad 5), .inr (6, [.ref (ad 11), .ref (ad 12), .ref (ad 13), .int 0, .int 0]))] s.heap := hP
  have hl := lv_entry [.ref (ad 0), .int p0, .int p1] (n := 4) (Nat.le_of_ble_eq_true rfl)
  rw [lg_entry_eq]
  generalize (lg_sl [.ref (ad 0), .int p0, .int p1] ++ List.replicate (4 - (lg_sl [.ref (ad 0), .int p0, .int p1]).length) Slot.unset).toArray = ls at hl ⊢
  have hl : lv_has ls 4 [(0, .ref (ad 0)), (1, .int p0), (2, .int p1)] := hl
  refine lv_aload_n hx hb dX5_mayWeave_0 rfl (lv_at hl 0 rfl) ?_
  refine lv_iload_n hx hb dX5_mayWeave_1 rfl (lv_at hl 1 rfl) ?_
  refine zx_call (vx_runV (As := [.int p0]) (rest := []) ⟨hx, hb, hml, hown, hw⟩ (c_X5_settAt l hst D sa ad _ p0) (cwV 1 hw (zg4 zm_751 zm_753 zm_15 zm_45 zm_754) rfl rfl rfl (by decide +kernel) ⟨Nat.le_of_ble_eq_true rfl, Nat.le_of_ble_eq_true rfl⟩) ⟨zR_blind, va_recv hK hP (ci := 10) (q0 := 0) rfl rfl, zR_pre hP hK hT hZ hS hA⟩ rfl rfl hl.1 rfl (lv_room (Nat.le_of_ble_eq_true rfl)) dX5_mayWeave_2 ⟨Nat.le_of_ble_eq_true rfl, Nat.le_of_ble_eq_true rfl⟩) hS (zN_fr hS hA) zN_in (fun E ce q9 u t H locs ht hvm hu hE hz1 hk1 hS hce hcv hcl => ?_)
  exact vx_out (fun x hx9 => (hnt x hx9).elim) hlocks hce hcv hcl (fun t ht _ => ⟨(), trivial, hE, hS.F ht⟩) (fun z hz => hS.2.2 z hz) (Nat.le_of_ble_eq_true rfl) (Nat.le_of_ble_eq_true rfl)
theorem dL_mayWeave_0 : decode cL_mayWeave 0 = .ok (.aload_n 3, 1) := by decide +kernel
theorem dL_mayWeave_1 : decode cL_mayWeave 1 = .ok (.iconst 0, 1) := by decide +kernel
theorem dL_mayWeave_2 : decode cL_mayWeave 2 = .ok (.aload_n 0, 1) := by decide +kernel
theorem dL_mayWeave_3 : decode cL_mayWeave 3 = .ok (.iload_n 1, 1) := by decide +kernel
theorem dL_mayWeave_4 : decode cL_mayWeave 4 = .ok (.iload_n 2, 1) := by decide +kernel
theorem dL_mayWeave_5 : decode cL_mayWeave 5 = .ok (.invokevirtual 114, 3) := by decide +kernel
theorem zm_1026 : Cond.methodLink RL 114 yX5_mayWeave ∈ WA := zmm (i := 1026) (by decide +kernel) (by decide +kernel)
theorem zm_1027 : Cond.instanceMethod yX5_mayWeave ∈ WA := zmm (i := 1027) (by decide +kernel) (by decide +kernel)
theorem zm_1028 : Cond.selects RX5 yX5_mayWeave yX5_mayWeave ∈ WA := zmm (i := 1028) (by decide +kernel) (by decide +kernel)
theorem zm_1029 : Cond.code yX5_mayWeave prog_1_method_31_code 4 (Option.some FieldType.boolean) ∈ WA := zmm (i := 1029) (by decide +kernel) (by decide +kernel)
theorem dL_mayWeave_20 : decode cL_mayWeave 20 = .ok (.astore 4, 2) := by decide +kernel
theorem dL_mayWeave_22 : decode cL_mayWeave 22 = .ok (.iconst 1, 1) := by decide +kernel
theorem dL_mayWeave_23 : decode cL_mayWeave 23 = .ok (.ireturn, 1) := by decide +kernel
set_option maxHeartbeats 4000000 in
set_option maxRecDepth 100000 in
theorem c_L_mayWeave (l : Launch) (hst : l.stackTraces = false) (D : va_G) (sa : Nat → Nat) (ad : Nat → Nat) (sz : Nat) (p0 : Int32) (p1 : Int32) (oa : Nat) : vx_Met l yL_mayWeave ((Cond.codeWith yL_mayWeave method_31_code 5 (Option.some FieldType.int) [(0, 17, 20, 23), (0, 17, 24, 13)]) :: WA) ({ frames := 8, cells := 1, slots := 6, locals := 126 }) (zR D sa (zX ad) [.ref (ad 0), .int p0, .int p1, .ref oa] sz) (va_Qi (fun (r : Int32) (_ : Unit) => r = 1) (fun _ _ => True) (zN sz)) (zX0 sz) 1 6 (zN sz) := by
  refine vx_ofWH (cc := method_31_code) (maxL := 5) (ret := (Option.some FieldType.int)) (hh := [(0, 17, 20, 23), (0, 17, 24, 13)]) (by decide) rfl ?_
  intro p e s m args below meth c s₁ B hml hv
  obtain ⟨rfl, hsz, hP, hK, hT, hZ⟩ := hv
  have hx := B.exec
  have hb := B.bytes
  have hr := B.returns
  have hts := atoms_spec (ws := (Cond.codeWith yL_mayWeave method_31_code 5 (Option.some FieldType.int) [(0, 17, 20, 23), (0, 17, 24, 13)]) :: WA) B.pre
  have hw : ∀ w ∈ WA, w.before _ s = true := fun w h => hts w (List.mem_cons_of_mem _ h)
  have htab := vx_table (x := yL_mayWeave) B (hts _ List.mem_cons_self)
  have hown : s.vm.findClass RL = some m.cls := findClass_of_methodNamed B.named
  have hlocks := B.notSynchronized
  subst hsz
  have hA : ∀ q : Nat, s.heap.size ≤ q → zN s.heap.size q := fun _ h => h
  have hS : va_S (zN s.heap.size) s.heap s.heap [] := va_S.rf
  have hP : va_P D vwCl [((ad 0), .inr (10, [.ref (ad 1), .ref (ad 2), .ref (ad 3), .ref (ad 4), .ref (ad 5), .int (-1), .int 100, .int 0, .int 0])), ((ad 1), .inr (7, [.ref (ad 6), .ref (ad 7), .ref (ad 8), .int 0])), ((ad 2), .inr (8, [.ref (ad 9), .ref (ad 10), .int 0])), ((ad 3), .inr (4, [.int 0, .ref (ad 14), .int 0])), ((ad 4), .inr (4, [.int 0, .ref (ad 14), .int 0])), ((ad 5), .inr (6, [.ref (ad 11), .ref (ad 12), .ref (ad 13), .int 0, .int 0]))] s.heap := hP
  have hl := lv_entry [.ref (ad 0), .int p0, .int p1, .ref oa] (n := 5) (Nat.le_of_ble_eq_true rfl)
  rw [lg_entry_eq]
  generalize (lg_sl [.ref (ad 0), .int p0, .int p1, .ref oa] ++ List.replicate (5 - (lg_sl [.ref (ad 0), .int p0, .int p1, .ref oa]).length) Slot.unset).toArray = ls at hl ⊢
  have hl : lv_has ls 5 [(0, .ref (ad 0)), (1, .int p0), (2, .int p1), (3, .ref oa)] := hl
  refine lv_aload_n hx hb dL_mayWeave_0 rfl (lv_at hl 3 rfl) ?_
  refine lv_iconst (v := 0) hx hb dL_mayWeave_1 (by decide) ?_
  refine lv_aload_n hx hb dL_mayWeave_2 rfl (lv_at hl 0 rfl) ?_
  refine lv_iload_n hx hb dL_mayWeave_3 rfl (lv_at hl 1 rfl) ?_
  refine lv_iload_n hx hb dL_mayWeave_4 rfl (lv_at hl 2 rfl) ?_
  refine zx_call (vx_runV (As := [.int p0, .int p1]) (rest := [.int 0, .ref oa]) ⟨hx, hb, hml, hown, hw⟩ (c_X5_mayWeave l hst D sa ad _ p0 p1) (cwV 2 hw (zg4 zm_1026 zm_1027 zm_1028 zm_45 zm_1029) rfl rfl rfl (by decide +kernel) ⟨Nat.le_of_ble_eq_true rfl, Nat.le_of_ble_eq_true rfl⟩) ⟨zR_blind, va_recv hK hP (ci := 10) (q0 := 0) rfl rfl, zR_pre hP hK hT hZ hS hA⟩ rfl rfl hl.1 rfl (lv_room (Nat.le_of_ble_eq_true rfl)) dL_mayWeave_5 ⟨Nat.le_of_ble_eq_true rfl, Nat.le_of_ble_eq_true rfl⟩) hS (zN_fr hS hA) zN_in (fun E ce q9 u t H locs ht hvm hu hE hz1 hk1 hS hce hcv hcl => ?_)
  subst hE
  refine vx_catch hown [] ⟨0, 17, 20, 23⟩ (tableOf [(0, 17, 24, 13)]) htab (fun z hz => absurd hz List.not_mem_nil) (by decide) (by decide) (hw _ zm_487) (hT.c 3 rfl) hce hcv hcl ?_
  refine lv_astore (lv' := [(4, .ref q9), (0, .ref (ad 0)), (1, .int p0), (2, .int p1), (3, .ref oa)]) hx hb dL_mayWeave_20 hl (by decide) rfl (fun ls hl => ?_)
  refine lv_iconst (v := 1) hx hb dL_mayWeave_22 (by decide) ?_
  refine vx_ret ?_
  exact W.iret (v := 1) hx hb hr (fun t ht hW => ⟨⟨1, (), rfl, rfl, trivial⟩, hS.F ht⟩) hS.2.2 dL_mayWeave_23
theorem dX9_mayWeave_0 : decode cX9_mayWeave 0 = .ok (.aload_n 0, 1) := by decide +kernel
theorem dX9_mayWeave_1 : decode cX9_mayWeave 1 = .ok (.aload_n 0, 1) := by decide +kernel
theorem dX9_mayWeave_2 : decode cX9_mayWeave 2 = .ok (.iload_n 1, 1) := by decide +kernel
theorem dX9_mayWeave_3 : decode cX9_mayWeave 3 = .ok (.invokevirtual 118, 3) := by decide +kernel
theorem dX9_mayWeave_6 : decode cX9_mayWeave 6 = .ok (.iconst 1, 1) := by decide +kernel
theorem dX9_mayWeave_7 : decode cX9_mayWeave 7 = .ok (.invokevirtual 51, 3) := by decide +kernel
theorem dX9_mayWeave_10 : decode cX9_mayWeave 10 = .ok (.ifCond .ne 31, 3) := by decide +kernel
theorem dX9_mayWeave_41 : decode cX9_mayWeave 41 = .ok (.iconst 0, 1) := by decide +kernel
theorem dX9_mayWeave_42 : decode cX9_mayWeave 42 = .ok (.ireturn, 1) := by decide +kernel
set_option maxHeartbeats 4000000 in
set_option maxRecDepth 100000 in
theorem c_X9_mayWeave (l : Launch) (D : va_G) (sa : Nat → Nat) (ea : Nat) (bd : Nat → Nat) (th : Int32) (sz : Nat) (p0 : Int32) (p1 : Int32) : Met l yX9_mayWeave ((Cond.code yX9_mayWeave prog_8_method_47_code 3 (Option.some FieldType.boolean)) :: WA) ({ frames := 2, cells := 0, slots := 0, locals := 43 }) (zW D sa ea [] (zM bd th) [.ref (bd 0), .int p0, .int p1] sz) (va_Qi (fun (r : Int32) (_ : Unit) => r = 0) (fun _ t => va_P D vwCl [((bd 0), .inr (14, [.ref (bd 1), .ref (bd 2), .ref (bd 3), .ref (bd 4), .ref (bd 5), .ref (bd 6), .int 100, .int (-1), .int 0, .int 1])), ((bd 1), .inr (4, [.int 0, .ref (bd 7), .int 0])), ((bd 2), .inr (4, [.int 0, .ref (bd 7), .int 0])), ((bd 3), .inr (4, [.int 0, .ref (bd 7), .int 0])), ((bd 4), .inr (4, [.int 0, .ref (bd 7), .int 0])), ((bd 5), .inr (4, [.int 0, .ref (bd 7), .int 0])), ((bd 6), .inr (4, [.int 0, .ref (bd 7), .int 0]))] t.heap ∧ va_D (va_A (zM bd th) sz) [((bd 0), .inr (14, [.ref (bd 1), .ref (bd 2), .ref (bd 3), .ref (bd 4), .ref (bd 5), .ref (bd 6), .int 100, .int (-1), .int 0, .int 1])), ((bd 1), .inr (4, [.int 0, .ref (bd 7), .int 0])), ((bd 2), .inr (4, [.int 0, .ref (bd 7), .int 0])), ((bd 3), .inr (4, [.int 0, .ref (bd 7), .int 0])), ((bd 4), .inr (4, [.int 0, .ref (bd 7), .int 0])), ((bd 5), .inr (4, [.int 0, .ref (bd 7), .int 0])), ((bd 6), .inr (4, [.int 0, .ref (bd 7), .int 0]))]) (va_A (zM bd th) sz)) 0 0 (va_A (zM bd th) sz) := by
  refine Met.ofW (cc := prog_8_method_47_code) (maxL := 3) (ret := (Option.some FieldType.boolean)) (by decide) rfl ?_
  intro p e s m args below meth c s₁ B hml hv
  obtain ⟨rfl, hsz, hP, hK, hD0, hT, hE⟩ := hv
  have hx := B.exec
  have hb := B.bytes
  have hr := B.returns
  have hts := atoms_spec (ws := (Cond.code yX9_mayWeave prog_8_method_47_code 3 (Option.some FieldType.boolean)) :: WA) B.pre
  have hw : ∀ w ∈ WA, w.before _ s = true := fun w h => hts w (List.mem_cons_of_mem _ h)
  have hown : s.vm.findClass RX9 = some m.cls := findClass_of_methodNamed B.named
  have hlocks := B.notSynchronized
  subst hsz
  have hD := hD0.self (sz := s.heap.size)
  generalize hAe : va_A (zM bd th) s.heap.size = A at hD hE ⊢
  have hA : ∀ q : Nat, s.heap.size ≤ q → A q := fun q h => by rw [← hAe]; exact Or.inr h
  have hS : va_S A s.heap s.heap [] := va_S.rf
  have hP : va_P D vwCl [((bd 0), .inr (14, [.ref (bd 1), .ref (bd 2), .ref (bd 3), .ref (bd 4), .ref (bd 5), .ref (bd 6), .int 100, .int (-1), .int 0, .int th])), ((bd 1), .inr (4, [.int 0, .ref (bd 7), .int 0])), ((bd 2), .inr (4, [.int 0, .ref (bd 7), .int 0])), ((bd 3), .inr (4, [.int 0, .ref (bd 7), .int 0])), ((bd 4), .inr (4, [.int 0, .ref (bd 7), .int 0])), ((bd 5), .inr (4, [.int 0, .ref (bd 7), .int 0])), ((bd 6), .inr (4, [.int 0, .ref (bd 7), .int 0]))] s.heap := hP
  have hD : va_D A [((bd 0), .inr (14, [.ref (bd 1), .ref (bd 2), .ref (bd 3), .ref (bd 4), .ref (bd 5), .ref (bd 6), .int 100, .int (-1), .int 0, .int th])), ((bd 1), .inr (4, [.int 0, .ref (bd 7), .int 0])), ((bd 2), .inr (4, [.int 0, .ref (bd 7), .int 0])), ((bd 3), .inr (4, [.int 0, .ref (bd 7), .int 0])), ((bd 4), .inr (4, [.int 0, .ref (bd 7), .int 0])), ((bd 5), .inr (4, [.int 0, .ref (bd 7), .int 0])), ((bd 6), .inr (4, [.int 0, .ref (bd 7), .int 0]))] := hD
  have hl := lv_entry [.ref (bd 0), .int p0, .int p1] (n := 3) (Nat.le_of_ble_eq_true rfl)
  rw [lg_entry_eq]
  generalize (lg_sl [.ref (bd 0), .int p0, .int p1] ++ List.replicate (3 - (lg_sl [.ref (bd 0), .int p0, .int p1]).length) Slot.unset).toArray = ls at hl ⊢
  have hl : lv_has ls 3 [(0, .ref (bd 0)), (1, .int p0), (2, .int p1)] := hl
  refine lv_aload_n hx hb dX9_mayWeave_0 rfl (lv_at hl 0 rfl) ?_
  refine lv_aload_n hx hb dX9_mayWeave_1 rfl (lv_at hl 0 rfl) ?_
  refine lv_iload_n hx hb dX9_mayWeave_2 rfl (lv_at hl 1 rfl) ?_
  refine va_calli (va_runV (As := [.int p0]) (rest := [.ref (bd 0)]) ⟨hx, hb, hml, hown, hw⟩ (c_X9_isSett l D sa bd th _ p0) (cwV 1 hw (zg4 zm_1521 zm_1523 zm_29 zm_53 zm_1524) rfl rfl rfl (by decide +kernel) ⟨Nat.le_of_ble_eq_true rfl, Nat.le_of_ble_eq_true rfl⟩) ⟨zJ_blind, va_recv hK hP (ci := 14) (q0 := 0) rfl rfl, zJ_pre hP hK hT⟩ rfl rfl hl.1 rfl (lv_room (Nat.le_of_ble_eq_true rfl)) dX9_mayWeave_3 ⟨Nat.le_of_ble_eq_true rfl, Nat.le_of_ble_eq_true rfl⟩) hS zN_in (zN_fr hS hA) (fun r_1 u t H locs ht hvm hw1 hB hz1 hk1 hS => ?_)
  have hP := zN_keep hP hk1
  subst hw1
  refine lv_iconst (v := 1) hx hb dX9_mayWeave_6 (by decide) ?_
  have hFc := va_free (wc := [((bd 0), .inr (14, [.ref (bd 1), .ref (bd 2), .ref (bd 3), .ref (bd 4), .ref (bd 5), .ref (bd 6), .int 100, .int (-1), .int 0, .int th])), ((bd 1), .inr (4, [.int 0, .ref (bd 7), .int 0])), ((bd 2), .inr (4, [.int 0, .ref (bd 7), .int 0])), ((bd 3), .inr (4, [.int 0, .ref (bd 7), .int 0])), ((bd 4), .inr (4, [.int 0, .ref (bd 7), .int 0])), ((bd 5), .inr (4, [.int 0, .ref (bd 7), .int 0])), ((bd 6), .inr (4, [.int 0, .ref (bd 7), .int 0]))]) hD hS hA [0, 1, 2, 3, 4, 5, 6] rfl
  refine va_calli (va_runV (As := [.int 0, .int 1]) (rest := []) ⟨hx, hb, hml, hown, hw⟩ (c_X9_no0 l D sa ea bd th _ 1) (cwV 2 hw (zg4 zm_1314 zm_1316 zm_26 zm_53 zm_1317) rfl rfl rfl (by decide +kernel) ⟨Nat.le_of_ble_eq_true rfl, Nat.le_of_ble_eq_true rfl⟩) ⟨zW_blind, va_recv hK hP (ci := 14) (q0 := 0) rfl rfl, zW_pre hP hK hD hT hE hS hFc⟩ rfl rfl hl.1 rfl (lv_room (Nat.le_of_ble_eq_true rfl)) dX9_mayWeave_7 ⟨Nat.le_of_ble_eq_true rfl, Nat.le_of_ble_eq_true rfl⟩) hS (fun q _ h => hFc q h) hFc (fun r_2 u t H locs ht hvm hw1 hB hz1 hk1 hS => ?_)
  subst hw1
  obtain ⟨hP1, hD1⟩ := hB
  rw [ht] at hP1
  obtain ⟨hP, hD⟩ := va_join (wr := []) (w1 := [((bd 0), .inr (14, [.ref (bd 1), .ref (bd 2), .ref (bd 3), .ref (bd 4), .ref (bd 5), .ref (bd 6), .int 100, .int (-1), .int 0, .int 1])), ((bd 1), .inr (4, [.int 0, .ref (bd 7), .int 0])), ((bd 2), .inr (4, [.int 0, .ref (bd 7), .int 0])), ((bd 3), .inr (4, [.int 0, .ref (bd 7), .int 0])), ((bd 4), .inr (4, [.int 0, .ref (bd 7), .int 0])), ((bd 5), .inr (4, [.int 0, .ref (bd 7), .int 0])), ((bd 6), .inr (4, [.int 0, .ref (bd 7), .int 0]))]) hP hD [0, 1, 2, 3, 4, 5, 6] [] rfl rfl (by decide) (by decide) hk1 hFc hP1 hD1
  have hP : va_P D vwCl [((bd 0), .inr (14, [.ref (bd 1), .ref (bd 2), .ref (bd 3), .ref (bd 4), .ref (bd 5), .ref (bd 6), .int 100, .int (-1), .int 0, .int 1])), ((bd 1), .inr (4, [.int 0, .ref (bd 7), .int 0])), ((bd 2), .inr (4, [.int 0, .ref (bd 7), .int 0])), ((bd 3), .inr (4, [.int 0, .ref (bd 7), .int 0])), ((bd 4), .inr (4, [.int 0, .ref (bd 7), .int 0])), ((bd 5), .inr (4, [.int 0, .ref (bd 7), .int 0])), ((bd 6), .inr (4, [.int 0, .ref (bd 7), .int 0]))] H := hP
  have hD : va_D A [((bd 0), .inr (14, [.ref (bd 1), .ref (bd 2), .ref (bd 3), .ref (bd 4), .ref (bd 5), .ref (bd 6), .int 100, .int (-1), .int 0, .int 1])), ((bd 1), .inr (4, [.int 0, .ref (bd 7), .int 0])), ((bd 2), .inr (4, [.int 0, .ref (bd 7), .int 0])), ((bd 3), .inr (4, [.int 0, .ref (bd 7), .int 0])), ((bd 4), .inr (4, [.int 0, .ref (bd 7), .int 0])), ((bd 5), .inr (4, [.int 0, .ref (bd 7), .int 0])), ((bd 6), .inr (4, [.int 0, .ref (bd 7), .int 0]))] := hD
  refine lv_if_ne (tgt := 41) hx hb dX9_mayWeave_10 (by decide) (fun _ => ?_) (fun c_3 => absurd c_3 (by decide))
  refine lv_iconst (v := 0) hx hb dX9_mayWeave_41 (by decide) ?_
  have hP9 := hP.sub (ws' := [((bd 0), .inr (14, [.ref (bd 1), .ref (bd 2), .ref (bd 3), .ref (bd 4), .ref (bd 5), .ref (bd 6), .int 100, .int (-1), .int 0, .int 1])), ((bd 1), .inr (4, [.int 0, .ref (bd 7), .int 0])), ((bd 2), .inr (4, [.int 0, .ref (bd 7), .int 0])), ((bd 3), .inr (4, [.int 0, .ref (bd 7), .int 0])), ((bd 4), .inr (4, [.int 0, .ref (bd 7), .int 0])), ((bd 5), .inr (4, [.int 0, .ref (bd 7), .int 0])), ((bd 6), .inr (4, [.int 0, .ref (bd 7), .int 0]))]) [0, 1, 2, 3, 4, 5, 6] rfl
  have hD9 := hD.sub (ws' := [((bd 0), .inr (14, [.ref (bd 1), .ref (bd 2), .ref (bd 3), .ref (bd 4), .ref (bd 5), .ref (bd 6), .int 100, .int (-1), .int 0, .int 1])), ((bd 1), .inr (4, [.int 0, .ref (bd 7), .int 0])), ((bd 2), .inr (4, [.int 0, .ref (bd 7), .int 0])), ((bd 3), .inr (4, [.int 0, .ref (bd 7), .int 0])), ((bd 4), .inr (4, [.int 0, .ref (bd 7), .int 0])), ((bd 5), .inr (4, [.int 0, .ref (bd 7), .int 0])), ((bd 6), .inr (4, [.int 0, .ref (bd 7), .int 0]))]) [0, 1, 2, 3, 4, 5, 6] (by decide) rfl
  refine W.widen (k := 0) (n := 0) (Nat.le_of_ble_eq_true rfl) (Nat.le_of_ble_eq_true rfl) ?_
  exact W.zret (v := 0) hx hb hr (by decide) (fun t ht hW => ⟨⟨0, (), rfl, rfl, by rw [ht]; exact hP9, hD9⟩, hS.F ht⟩) hS.2.2 dX9_mayWeave_42
theorem dX5_rightOf_0 : decode cX5_rightOf 0 = .ok (.aload_n 0, 1) := by decide +kernel
theorem dX5_rightOf_1 : decode cX5_rightOf 1 = .ok (.aload_n 0, 1) := by decide +kernel
theorem dX5_rightOf_2 : decode cX5_rightOf 2 = .ok (.iload_n 1, 1) := by decide +kernel
theorem dX5_rightOf_3 : decode cX5_rightOf 3 = .ok (.invokevirtual 137, 3) := by decide +kernel
set_option maxHeartbeats 4000000 in
set_option maxRecDepth 100000 in
theorem c_X5_rightOf (l : Launch) (hst : l.stackTraces = false) (D : va_G) (sa : Nat → Nat) (ad : Nat → Nat) (sz : Nat) (p0 : Int32) : vx_Met l yX5_rightOf ((Cond.code yX5_rightOf prog_1_method_32_code 3 (Option.some FieldType.int)) :: WA) ({ frames := 7, cells := 1, slots := 6, locals := 103 }) (zR D sa (zX ad) [.ref (ad 0), .int p0] sz) zF (zXC "java/lang/IndexOutOfBoundsException" sz) 1 6 (zN sz) := by
  refine vx_ofW (cc := prog_1_method_32_code) (maxL := 3) (ret := (Option.some FieldType.int)) (by decide) rfl ?_
  intro p e s m args below meth c s₁ B hml hnt hv
  obtain ⟨rfl, hsz, hP, hK, hT, hZ⟩ := hv
  have hx := B.exec
  have hb := B.bytes
  have hr := B.returns
  have hts := atoms_spec (ws := (Cond.code yX5_rightOf prog_1_method_32_code 3 (Option.some FieldType.int)) :: WA) B.pre
  have hw : ∀ w ∈ WA, w.before _ s = true := fun w h => hts w (List.mem_cons_of_mem _ h)
  have hown : s.vm.findClass RX5 = some m.cls := findClass_of_methodNamed B.named
  have hlocks := B.notSynchronized
  subst hsz
  have hA : ∀ q : Nat, s.heap.size ≤ q → zN s.heap.size q := fun _ h => h
  have hS : va_S (zN s.heap.size) s.heap s.heap [] := va_S.rf
  have hP : va_P D vwCl [((ad 0), .inr (10, [.ref (ad 1), .ref (ad 2), .ref (ad 3), .ref (ad 4), .ref (ad 5), .int (-1), .int 100, .int 0, .int 0])), ((ad 1), .inr (7, [.ref (ad 6), .ref (ad 7), .ref (ad 8), .int 0])), ((ad 2), .inr (8, [.ref (ad 9), .ref (ad 10), .int 0])), ((ad 3), .inr (4, [.int 0, .ref (ad 14), .int 0])), ((ad 4), .inr (4, [.int 0, .ref (ad 14), .int 0])), ((ad 5), .inr (6, [.ref (ad 11), .ref (ad 12), .ref (ad 13), .int 0, .int 0]))] s.heap := hP
  have hl := lv_entry [.ref (ad 0), .int p0] (n := 3) (Nat.le_of_ble_eq_true rfl)
  rw [lg_entry_eq]
  generalize (lg_sl [.ref (ad 0), .int p0] ++ List.replicate (3 - (lg_sl [.ref (ad 0), .int p0]).length) Slot.unset).toArray = ls at hl ⊢
  have hl : lv_has ls 3 [(0, .ref (ad 0)), (1, .int p0)] := hl
  refine lv_aload_n hx hb dX5_rightOf_0 rfl (lv_at hl 0 rfl) ?_
  refine lv_aload_n hx hb dX5_rightOf_1 rfl (lv_at hl 0 rfl) ?_
  refine lv_iload_n hx hb dX5_rightOf_2 rfl (lv_at hl 1 rfl) ?_
  refine zx_call (vx_runV (As := [.int p0]) (rest := [.ref (ad 0)]) ⟨hx, hb, hml, hown, hw⟩ (c_X5_settAt l hst D sa ad _ p0) (cwV 1 hw (zg4 zm_751 zm_753 zm_15 zm_45 zm_754) rfl rfl rfl (by decide +kernel) ⟨Nat.le_of_ble_eq_true rfl, Nat.le_of_ble_eq_true rfl⟩) ⟨zR_blind, va_recv hK hP (ci := 10) (q0 := 0) rfl rfl, zR_pre hP hK hT hZ hS hA⟩ rfl rfl hl.1 rfl (lv_room (Nat.le_of_ble_eq_true rfl)) dX5_rightOf_3 ⟨Nat.le_of_ble_eq_true rfl, Nat.le_of_ble_eq_true rfl⟩) hS (zN_fr hS hA) zN_in (fun E ce q9 u t H locs ht hvm hu hE hz1 hk1 hS hce hcv hcl => ?_)
  exact vx_out (fun x hx9 => (hnt x hx9).elim) hlocks hce hcv hcl (fun t ht _ => ⟨(), trivial, hE, hS.F ht⟩) (fun z hz => hS.2.2 z hz) (Nat.le_of_ble_eq_true rfl) (Nat.le_of_ble_eq_true rfl)
theorem dL_rightOf_0 : decode cL_rightOf 0 = .ok (.aload_n 2, 1) := by decide +kernel
theorem dL_rightOf_1 : decode cL_rightOf 1 = .ok (.iconst 0, 1) := by decide +kernel
theorem dL_rightOf_2 : decode cL_rightOf 2 = .ok (.aload_n 0, 1) := by decide +kernel
theorem dL_rightOf_3 : decode cL_rightOf 3 = .ok (.iload_n 1, 1) := by decide +kernel
theorem dL_rightOf_4 : decode cL_rightOf 4 = .ok (.invokevirtual 117, 3) := by decide +kernel
theorem zm_1041 : Cond.methodLink RL 117 yX5_rightOf ∈ WA := zmm (i := 1041) (by decide +kernel) (by decide +kernel)
theorem zm_1042 : Cond.instanceMethod yX5_rightOf ∈ WA := zmm (i := 1042) (by decide +kernel) (by decide +kernel)
theorem zm_1043 : Cond.selects RX5 yX5_rightOf yX5_rightOf ∈ WA := zmm (i := 1043) (by decide +kernel) (by decide +kernel)
theorem zm_1044 : Cond.code yX5_rightOf prog_1_method_32_code 3 (Option.some FieldType.int) ∈ WA := zmm (i := 1044) (by decide +kernel) (by decide +kernel)
theorem dL_rightOf_12 : decode cL_rightOf 12 = .ok (.astore_n 3, 1) := by decide +kernel
theorem dL_rightOf_13 : decode cL_rightOf 13 = .ok (.iconst 1, 1) := by decide +kernel
theorem dL_rightOf_14 : decode cL_rightOf 14 = .ok (.ireturn, 1) := by decide +kernel
set_option maxHeartbeats 4000000 in
set_option maxRecDepth 100000 in
theorem c_L_rightOf (l : Launch) (hst : l.stackTraces = false) (D : va_G) (sa : Nat → Nat) (ad : Nat → Nat) (sz : Nat) (p0 : Int32) (oa : Nat) : vx_Met l yL_rightOf ((Cond.codeWith yL_rightOf method_32_code 4 (Option.some FieldType.int) [(0, 9, 12, 23), (0, 9, 15, 46)]) :: WA) ({ frames := 8, cells := 1, slots := 6, locals := 125 }) (zR D sa (zX ad) [.ref (ad 0), .int p0, .ref oa] sz) (va_Qi (fun (r : Int32) (_ : Unit) => r = 1) (fun _ _ => True) (zN sz)) (zX0 sz) 1 6 (zN sz) := by
  refine vx_ofWH (cc := method_32_code) (maxL := 4) (ret := (Option.some FieldType.int)) (hh := [(0, 9, 12, 23), (0, 9, 15, 46)]) (by decide) rfl ?_
  intro p e s m args below meth c s₁ B hml hv
  obtain ⟨rfl, hsz, hP, hK, hT, hZ⟩ := hv
  have hx := B.exec
  have hb := B.bytes
  have hr := B.returns
  have hts := atoms_spec (ws := (Cond.codeWith yL_rightOf method_32_code 4 (Option.some FieldType.int) [(0, 9, 12, 23), (0, 9, 15, 46)]) :: WA) B.pre
  have hw : ∀ w ∈ WA, w.before _ s = true := fun w h => hts w (List.mem_cons_of_mem _ h)
  have htab := vx_table (x := yL_rightOf) B (hts _ List.mem_cons_self)
  have hown : s.vm.findClass RL = some m.cls := findClass_of_methodNamed B.named
  have hlocks := B.notSynchronized
  subst hsz
  have hA : ∀ q : Nat, s.heap.size ≤ q → zN s.heap.size q := fun _ h => h
  have hS : va_S (zN s.heap.size) s.heap s.heap [] := va_S.rf
  have hP : va_P D vwCl [((ad 0), .inr (10, [.ref (ad 1), .ref (ad 2), .ref (ad 3), .ref (ad 4), .ref (ad 5), .int (-1), .int 100, .int 0, .int 0])), ((ad 1), .inr (7, [.ref (ad 6), .ref (ad 7), .ref (ad 8), .int 0])), ((ad 2), .inr (8, [.ref (ad 9), .ref (ad 10), .int 0])), ((ad 3), .inr (4, [.int 0, .ref (ad 14), .int 0])), ((ad 4), .inr (4, [.int 0, .ref (ad 14), .int 0])), ((ad 5), .inr (6, [.ref (ad 11), .ref (ad 12), .ref (ad 13), .int 0, .int 0]))] s.heap := hP
  have hl := lv_entry [.ref (ad 0), .int p0, .ref oa] (n := 4) (Nat.le_of_ble_eq_true rfl)
  rw [lg_entry_eq]
  generalize (lg_sl [.ref (ad 0), .int p0, .ref oa] ++ List.replicate (4 - (lg_sl [.ref (ad 0), .int p0, .ref oa]).length) Slot.unset).toArray = ls at hl ⊢
  have hl : lv_has ls 4 [(0, .ref (ad 0)), (1, .int p0), (2, .ref oa)] := hl
  refine lv_aload_n hx hb dL_rightOf_0 rfl (lv_at hl 2 rfl) ?_
  refine lv_iconst (v := 0) hx hb dL_rightOf_1 (by decide) ?_
  refine lv_aload_n hx hb dL_rightOf_2 rfl (lv_at hl 0 rfl) ?_
  refine lv_iload_n hx hb dL_rightOf_3 rfl (lv_at hl 1 rfl) ?_
  refine zx_call (vx_runV (As := [.int p0]) (rest := [.int 0, .ref oa]) ⟨hx, hb, hml, hown, hw⟩ (c_X5_rightOf l hst D sa ad _ p0) (cwV 1 hw (zg4 zm_1041 zm_1042 zm_1043 zm_45 zm_1044) rfl rfl rfl (by decide +kernel) ⟨Nat.le_of_ble_eq_true rfl, Nat.le_of_ble_eq_true rfl⟩) ⟨zR_blind, va_recv hK hP (ci := 10) (q0 := 0) rfl rfl, zR_pre hP hK hT hZ hS hA⟩ rfl rfl hl.1 rfl (lv_room (Nat.le_of_ble_eq_true rfl)) dL_rightOf_4 ⟨Nat.le_of_ble_eq_true rfl, Nat.le_of_ble_eq_true rfl⟩) hS (zN_fr hS hA) zN_in (fun E ce q9 u t H locs ht hvm hu hE hz1 hk1 hS hce hcv hcl => ?_)
  subst hE
  refine vx_catch hown [] ⟨0, 9, 12, 23⟩ (tableOf [(0, 9, 15, 46)]) htab (fun z hz => absurd hz List.not_mem_nil) (by decide) (by decide) (hw _ zm_487) (hT.c 3 rfl) hce hcv hcl ?_
  refine lv_astore_n (lv' := [(3, .ref q9), (0, .ref (ad 0)), (1, .int p0), (2, .ref oa)]) hx hb dL_rightOf_12 rfl hl (by decide) rfl (fun ls hl => ?_)
  refine lv_iconst (v := 1) hx hb dL_rightOf_13 (by decide) ?_
  refine vx_ret ?_
  exact W.iret (v := 1) hx hb hr (fun t ht hW => ⟨⟨1, (), rfl, rfl, trivial⟩, hS.F ht⟩) hS.2.2 dL_rightOf_14
theorem dX9_rightOf_0 : decode cX9_rightOf 0 = .ok (.aload_n 0, 1) := by decide +kernel
theorem dX9_rightOf_1 : decode cX9_rightOf 1 = .ok (.aload_n 0, 1) := by decide +kernel
theorem dX9_rightOf_2 : decode cX9_rightOf 2 = .ok (.iload_n 1, 1) := by decide +kernel
theorem dX9_rightOf_3 : decode cX9_rightOf 3 = .ok (.invokevirtual 118, 3) := by decide +kernel
theorem dX9_rightOf_6 : decode cX9_rightOf 6 = .ok (.iconst 1, 1) := by decide +kernel
theorem dX9_rightOf_7 : decode cX9_rightOf 7 = .ok (.invokevirtual 51, 3) := by decide +kernel
theorem dX9_rightOf_10 : decode cX9_rightOf 10 = .ok (.ifCond .eq 5, 3) := by decide +kernel
theorem dX9_rightOf_13 : decode cX9_rightOf 13 = .ok (.iconst 0, 1) := by decide +kernel
theorem dX9_rightOf_14 : decode cX9_rightOf 14 = .ok (.ireturn, 1) := by decide +kernel
set_option maxHeartbeats 4000000 in
set_option maxRecDepth 100000 in
theorem c_X9_rightOf (l : Launch) (D : va_G) (sa : Nat → Nat) (ea : Nat) (bd : Nat → Nat) (th : Int32) (sz : Nat) (p0 : Int32) : Met l yX9_rightOf ((Cond.code yX9_rightOf prog_8_method_48_code 3 (Option.some FieldType.int)) :: WA) ({ frames := 2, cells := 0, slots := 0, locals := 43 }) (zW D sa ea [] (zM bd th) [.ref (bd 0), .int p0] sz) (va_Qi (fun (r : Int32) (_ : Unit) => r = 0) (fun _ t => va_P D vwCl [((bd 0), .inr (14, [.ref (bd 1), .ref (bd 2), .ref (bd 3), .ref (bd 4), .ref (bd 5), .ref (bd 6), .int 100, .int (-1), .int 0, .int 1])), ((bd 1), .inr (4, [.int 0, .ref (bd 7), .int 0])), ((bd 2), .inr (4, [.int 0, .ref (bd 7), .int 0])), ((bd 3), .inr (4, [.int 0, .ref (bd 7), .int 0])), ((bd 4), .inr (4, [.int 0, .ref (bd 7), .int 0])), ((bd 5), .inr (4, [.int 0, .ref (bd 7), .int 0])), ((bd 6), .inr (4, [.int 0, .ref (bd 7), .int 0]))] t.heap ∧ va_D (va_A (zM bd th) sz) [((bd 0), .inr (14, [.ref (bd 1), .ref (bd 2), .ref (bd 3), .ref (bd 4), .ref (bd 5), .ref (bd 6), .int 100, .int (-1), .int 0, .int 1])), ((bd 1), .inr (4, [.int 0, .ref (bd 7), .int 0])), ((bd 2), .inr (4, [.int 0, .ref (bd 7), .int 0])), ((bd 3), .inr (4, [.int 0, .ref (bd 7), .int 0])), ((bd 4), .inr (4, [.int 0, .ref (bd 7), .int 0])), ((bd 5), .inr (4, [.int 0, .ref (bd 7), .int 0])), ((bd 6), .inr (4, [.int 0, .ref (bd 7), .int 0]))]) (va_A (zM bd th) sz)) 0 0 (va_A (zM bd th) sz) := by
  refine Met.ofW (cc := prog_8_method_48_code) (maxL := 3) (ret := (Option.some FieldType.int)) (by decide) rfl ?_
  intro p e s m args below meth c s₁ B hml hv
  obtain ⟨rfl, hsz, hP, hK, hD0, hT, hE⟩ := hv
  have hx := B.exec
  have hb := B.bytes
  have hr := B.returns
  have hts := atoms_spec (ws := (Cond.code yX9_rightOf prog_8_method_48_code 3 (Option.some FieldType.int)) :: WA) B.pre
  have hw : ∀ w ∈ WA, w.before _ s = true := fun w h => hts w (List.mem_cons_of_mem _ h)
  have hown : s.vm.findClass RX9 = some m.cls := findClass_of_methodNamed B.named
  have hlocks := B.notSynchronized
  subst hsz
  have hD := hD0.self (sz := s.heap.size)
  generalize hAe : va_A (zM bd th) s.heap.size = A at hD hE ⊢
  have hA : ∀ q : Nat, s.heap.size ≤ q → A q := fun q h => by rw [← hAe]; exact Or.inr h
  have hS : va_S A s.heap s.heap [] := va_S.rf
  have hP : va_P D vwCl [((bd 0), .inr (14, [.ref (bd 1), .ref (bd 2), .ref (bd 3), .ref (bd 4), .ref (bd 5), .ref (bd 6), .int 100, .int (-1), .int 0, .int th])), ((bd 1), .inr (4, [.int 0, .ref (bd 7), .int 0])), ((bd 2), .inr (4, [.int 0, .ref (bd 7), .int 0])), ((bd 3), .inr (4, [.int 0, .ref (bd 7), .int 0])), ((bd 4), .inr (4, [.int 0, .ref (bd 7), .int 0])), ((bd 5), .inr (4, [.int 0, .ref (bd 7), .int 0])), ((bd 6), .inr (4, [.int 0, .ref (bd 7), .int 0]))] s.heap := hP
  have hD : va_D A [((bd 0), .inr (14, [.ref (bd 1), .ref (bd 2), .ref (bd 3), .ref (bd 4), .ref (bd 5), .ref (bd 6), .int 100, .int (-1), .int 0, .int th])), ((bd 1), .inr (4, [.int 0, .ref (bd 7), .int 0])), ((bd 2), .inr (4, [.int 0, .ref (bd 7), .int 0])), ((bd 3), .inr (4, [.int 0, .ref (bd 7), .int 0])), ((bd 4), .inr (4, [.int 0, .ref (bd 7), .int 0])), ((bd 5), .inr (4, [.int 0, .ref (bd 7), .int 0])), ((bd 6), .inr (4, [.int 0, .ref (bd 7), .int 0]))] := hD
  have hl := lv_entry [.ref (bd 0), .int p0] (n := 3) (Nat.le_of_ble_eq_true rfl)
  rw [lg_entry_eq]
  generalize (lg_sl [.ref (bd 0), .int p0] ++ List.replicate (3 - (lg_sl [.ref (bd 0), .int p0]).length) Slot.unset).toArray = ls at hl ⊢
  have hl : lv_has ls 3 [(0, .ref (bd 0)), (1, .int p0)] := hl
  refine lv_aload_n hx hb dX9_rightOf_0 rfl (lv_at hl 0 rfl) ?_
  refine lv_aload_n hx hb dX9_rightOf_1 rfl (lv_at hl 0 rfl) ?_
  refine lv_iload_n hx hb dX9_rightOf_2 rfl (lv_at hl 1 rfl) ?_
  refine va_calli (va_runV (As := [.int p0]) (rest := [.ref (bd 0)]) ⟨hx, hb, hml, hown, hw⟩ (c_X9_isSett l D sa bd th _ p0) (cwV 1 hw (zg4 zm_1521 zm_1523 zm_29 zm_53 zm_1524) rfl rfl rfl (by decide +kernel) ⟨Nat.le_of_ble_eq_true rfl, Nat.le_of_ble_eq_true rfl⟩) ⟨zJ_blind, va_recv hK hP (ci := 14) (q0 := 0) rfl rfl, zJ_pre hP hK hT⟩ rfl rfl hl.1 rfl (lv_room (Nat.le_of_ble_eq_true rfl)) dX9_rightOf_3 ⟨Nat.le_of_ble_eq_true rfl, Nat.le_of_ble_eq_true rfl⟩) hS zN_in (zN_fr hS hA) (fun r_1 u t H locs ht hvm hw1 hB hz1 hk1 hS => ?_)
  have hP := zN_keep hP hk1
  subst hw1
  refine lv_iconst (v := 1) hx hb dX9_rightOf_6 (by decide) ?_
  have hFc := va_free (wc := [((bd 0), .inr (14, [.ref (bd 1), .ref (bd 2), .ref (bd 3), .ref (bd 4), .ref (bd 5), .ref (bd 6), .int 100, .int (-1), .int 0, .int th])), ((bd 1), .inr (4, [.int 0, .ref (bd 7), .int 0])), ((bd 2), .inr (4, [.int 0, .ref (bd 7), .int 0])), ((bd 3), .inr (4, [.int 0, .ref (bd 7), .int 0])), ((bd 4), .inr (4, [.int 0, .ref (bd 7), .int 0])), ((bd 5), .inr (4, [.int 0, .ref (bd 7), .int 0])), ((bd 6), .inr (4, [.int 0, .ref (bd 7), .int 0]))]) hD hS hA [0, 1, 2, 3, 4, 5, 6] rfl
  refine va_calli (va_runV (As := [.int 0, .int 1]) (rest := []) ⟨hx, hb, hml, hown, hw⟩ (c_X9_no0 l D sa ea bd th _ 1) (cwV 2 hw (zg4 zm_1314 zm_1316 zm_26 zm_53 zm_1317) rfl rfl rfl (by decide +kernel) ⟨Nat.le_of_ble_eq_true rfl, Nat.le_of_ble_eq_true rfl⟩) ⟨zW_blind, va_recv hK hP (ci := 14) (q0 := 0) rfl rfl, zW_pre hP hK hD hT hE hS hFc⟩ rfl rfl hl.1 rfl (lv_room (Nat.le_of_ble_eq_true rfl)) dX9_rightOf_7 ⟨Nat.le_of_ble_eq_true rfl, Nat.le_of_ble_eq_true rfl⟩) hS (fun q _ h => hFc q h) hFc (fun r_2 u t H locs ht hvm hw1 hB hz1 hk1 hS => ?_)
  subst hw1
  obtain ⟨hP1, hD1⟩ := hB
  rw [ht] at hP1
  obtain ⟨hP, hD⟩ := va_join (wr := []) (w1 := [((bd 0), .inr (14, [.ref (bd 1), .ref (bd 2), .ref (bd 3), .ref (bd 4), .ref (bd 5), .ref (bd 6), .int 100, .int (-1), .int 0, .int 1])), ((bd 1), .inr (4, [.int 0, .ref (bd 7), .int 0])), ((bd 2), .inr (4, [.int 0, .ref (bd 7), .int 0])), ((bd 3), .inr (4, [.int 0, .ref (bd 7), .int 0])), ((bd 4), .inr (4, [.int 0, .ref (bd 7), .int 0])), ((bd 5), .inr (4, [.int 0, .ref (bd 7), .int 0])), ((bd 6), .inr (4, [.int 0, .ref (bd 7), .int 0]))]) hP hD [0, 1, 2, 3, 4, 5, 6] [] rfl rfl (by decide) (by decide) hk1 hFc hP1 hD1
  have hP : va_P D vwCl [((bd 0), .inr (14, [.ref (bd 1), .ref (bd 2), .ref (bd 3), .ref (bd 4), .ref (bd 5), .ref (bd 6), .int 100, .int (-1), .int 0, .int 1])), ((bd 1), .inr (4, [.int 0, .ref (bd 7), .int 0])), ((bd 2), .inr (4, [.int 0, .ref (bd 7), .int 0])), ((bd 3), .inr (4, [.int 0, .ref (bd 7), .int 0])), ((bd 4), .inr (4, [.int 0, .ref (bd 7), .int 0])), ((bd 5), .inr (4, [.int 0, .ref (bd 7), .int 0])), ((bd 6), .inr (4, [.int 0, .ref (bd 7), .int 0]))] H := hP
  have hD : va_D A [((bd 0), .inr (14, [.ref (bd 1), .ref (bd 2), .ref (bd 3), .ref (bd 4), .ref (bd 5), .ref (bd 6), .int 100, .int (-1), .int 0, .int 1])), ((bd 1), .inr (4, [.int 0, .ref (bd 7), .int 0])), ((bd 2), .inr (4, [.int 0, .ref (bd 7), .int 0])), ((bd 3), .inr (4, [.int 0, .ref (bd 7), .int 0])), ((bd 4), .inr (4, [.int 0, .ref (bd 7), .int 0])), ((bd 5), .inr (4, [.int 0, .ref (bd 7), .int 0])), ((bd 6), .inr (4, [.int 0, .ref (bd 7), .int 0]))] := hD
  refine lv_if_eq (tgt := 15) hx hb dX9_rightOf_10 (by decide) (fun c_3 => absurd c_3 (by decide)) (fun _ => ?_)
  refine lv_iconst (v := 0) hx hb dX9_rightOf_13 (by decide) ?_
  have hP9 := hP.sub (ws' := [((bd 0), .inr (14, [.ref (bd 1), .ref (bd 2), .ref (bd 3), .ref (bd 4), .ref (bd 5), .ref (bd 6), .int 100, .int (-1), .int 0, .int 1])), ((bd 1), .inr (4, [.int 0, .ref (bd 7), .int 0])), ((bd 2), .inr (4, [.int 0, .ref (bd 7), .int 0])), ((bd 3), .inr (4, [.int 0, .ref (bd 7), .int 0])), ((bd 4), .inr (4, [.int 0, .ref (bd 7), .int 0])), ((bd 5), .inr (4, [.int 0, .ref (bd 7), .int 0])), ((bd 6), .inr (4, [.int 0, .ref (bd 7), .int 0]))]) [0, 1, 2, 3, 4, 5, 6] rfl
  have hD9 := hD.sub (ws' := [((bd 0), .inr (14, [.ref (bd 1), .ref (bd 2), .ref (bd 3), .ref (bd 4), .ref (bd 5), .ref (bd 6), .int 100, .int (-1), .int 0, .int 1])), ((bd 1), .inr (4, [.int 0, .ref (bd 7), .int 0])), ((bd 2), .inr (4, [.int 0, .ref (bd 7), .int 0])), ((bd 3), .inr (4, [.int 0, .ref (bd 7), .int 0])), ((bd 4), .inr (4, [.int 0, .ref (bd 7), .int 0])), ((bd 5), .inr (4, [.int 0, .ref (bd 7), .int 0])), ((bd 6), .inr (4, [.int 0, .ref (bd 7), .int 0]))]) [0, 1, 2, 3, 4, 5, 6] (by decide) rfl
  refine W.widen (k := 0) (n := 0) (Nat.le_of_ble_eq_true rfl) (Nat.le_of_ble_eq_true rfl) ?_
  exact W.iret (v := 0) hx hb hr (fun t ht hW => ⟨⟨0, (), rfl, rfl, by rw [ht]; exact hP9, hD9⟩, hS.F ht⟩) hS.2.2 dX9_rightOf_14
theorem dX5_pleatShade_0 : decode cX5_pleatShade 0 = .ok (.aload_n 0, 1) := by decide +kernel
theorem dX5_pleatShade_1 : decode cX5_pleatShade 1 = .ok (.iload_n 1, 1) := by decide +kernel
theorem dX5_pleatShade_2 : decode cX5_pleatShade 2 = .ok (.invokevirtual 137, 3) := by decide +kernel
set_option maxHeartbeats 4000000 in
set_option maxRecDepth 100000 in
theorem c_X5_pleatShade (l : Launch) (hst : l.stackTraces = false) (D : va_G) (sa : Nat → Nat) (ad : Nat → Nat) (sz : Nat) (p0 : Int32) (p1 : Int32) (p2 : Int32) (p3 : Int32) (p4 : Int32) (p5 : Int32) : vx_Met l yX5_pleatShade ((Cond.code yX5_pleatShade prog_1_method_33_code 8 (Option.some FieldType.int)) :: WA) ({ frames := 7, cells := 1, slots := 6, locals := 103 }) (zR D sa (zX ad) [.ref (ad 0), .int p0, .int p1, .int p2, .int p3, .int p4, .int p5] sz) zF (zXC "java/lang/IndexOutOfBoundsException" sz) 1 6 (zN sz) := by
  refine vx_ofW (cc := prog_1_method_33_code) (maxL := 8) (ret := (Option.some FieldType.int)) (by decide) rfl ?_
  intro p e s m args below meth c s₁ B hml hnt hv
  obtain ⟨rfl, hsz, hP, hK, hT, hZ⟩ := hv
  have hx := B.exec
  have hb := B.bytes
  have hr := B.returns
  have hts := atoms_spec (ws := (Cond.code yX5_pleatShade prog_1_method_33_code 8 (Option.some FieldType.int)) :: WA) B.pre
  have hw : ∀ w ∈ WA, w.before _ s = true := fun w h => hts w (List.mem_cons_of_mem _ h)
  have hown : s.vm.findClass RX5 = some m.cls := findClass_of_methodNamed B.named
  have hlocks := B.notSynchronized
  subst hsz
  have hA : ∀ q : Nat, s.heap.size ≤ q → zN s.heap.size q := fun _ h => h
  have hS : va_S (zN s.heap.size) s.heap s.heap [] := va_S.rf
  have hP : va_P D vwCl [((ad 0), .inr (10, [.ref (ad 1), .ref (ad 2), .ref (ad 3), .ref (ad 4), .ref (ad 5), .int (-1), .int 100, .int 0, .int 0])), ((ad 1), .inr (7, [.ref (ad 6), .ref (ad 7), .ref (ad 8), .int 0])), ((ad 2), .inr (8, [.ref (ad 9), .ref (ad 10), .int 0])), ((ad 3), .inr (4, [.int 0, .ref (ad 14), .int 0])), ((ad 4), .inr (4, [.int 0, .ref (ad 14), .int 0])), ((ad 5), .inr (6, [.ref (ad 11), .ref (ad 12), .ref (ad 13), .int 0, .int 0]))] s.heap := hP
  have hl := lv_entry [.ref (ad 0), .int p0, .int p1, .int p2, .int p3, .int p4, .int p5] (n := 8) (Nat.le_of_ble_eq_true rfl)
  rw [lg_entry_eq]
  generalize (lg_sl [.ref (ad 0), .int p0, .int p1, .int p2, .int p3, .int p4, .int p5] ++ List.replicate (8 - (lg_sl [.ref (ad 0), .int p0, .int p1, .int p2, .int p3, .int p4, .int p5]).length) Slot.unset).toArray = ls at hl ⊢
  have hl : lv_has ls 8 [(0, .ref (ad 0)), (1, .int p0), (2, .int p1), (3, .int p2), (4, .int p3), (5, .int p4), (6, .int p5)] := hl
  refine lv_aload_n hx hb dX5_pleatShade_0 rfl (lv_at hl 0 rfl) ?_
  refine lv_iload_n hx hb dX5_pleatShade_1 rfl (lv_at hl 1 rfl) ?_
  refine zx_call (vx_runV (As := [.int p0]) (rest := []) ⟨hx, hb, hml, hown, hw⟩ (c_X5_settAt l hst D sa ad _ p0) (cwV 1 hw (zg4 zm_751 zm_753 zm_15 zm_45 zm_754) rfl rfl rfl (by decide +kernel) ⟨Nat.le_of_ble_eq_true rfl, Nat.le_of_ble_eq_true rfl⟩) ⟨zR_blind, va_recv hK hP (ci := 10) (q0 := 0) rfl rfl, zR_pre hP hK hT hZ hS hA⟩ rfl rfl hl.1 rfl (lv_room (Nat.le_of_ble_eq_true rfl)) dX5_pleatShade_2 ⟨Nat.le_of_ble_eq_true rfl, Nat.le_of_ble_eq_true rfl⟩) hS (zN_fr hS hA) zN_in (fun E ce q9 u t H locs ht hvm hu hE hz1 hk1 hS hce hcv hcl => ?_)
  exact vx_out (fun x hx9 => (hnt x hx9).elim) hlocks hce hcv hcl (fun t ht _ => ⟨(), trivial, hE, hS.F ht⟩) (fun z hz => hS.2.2 z hz) (Nat.le_of_ble_eq_true rfl) (Nat.le_of_ble_eq_true rfl)
theorem dL_pleatShade_0 : decode cL_pleatShade 0 = .ok (.aload 7, 2) := by decide +kernel
theorem dL_pleatShade_2 : decode cL_pleatShade 2 = .ok (.iconst 0, 1) := by decide +kernel
theorem dL_pleatShade_3 : decode cL_pleatShade 3 = .ok (.aload_n 0, 1) := by decide +kernel
theorem dL_pleatShade_4 : decode cL_pleatShade 4 = .ok (.iload_n 1, 1) := by decide +kernel
theorem dL_pleatShade_5 : decode cL_pleatShade 5 = .ok (.iload_n 2, 1) := by decide +kernel
theorem dL_pleatShade_6 : decode cL_pleatShade 6 = .ok (.iload_n 3, 1) := by decide +kernel
theorem dL_pleatShade_7 : decode cL_pleatShade 7 = .ok (.iload 4, 2) := by decide +kernel
theorem dL_pleatShade_9 : decode cL_pleatShade 9 = .ok (.iload 5, 2) := by decide +kernel
theorem dL_pleatShade_11 : decode cL_pleatShade 11 = .ok (.iload 6, 2) := by decide +kernel
theorem dL_pleatShade_13 : decode cL_pleatShade 13 = .ok (.invokevirtual 120, 3) := by decide +kernel
theorem zm_1049 : Cond.methodLink RL 120 yX5_pleatShade ∈ WA := zmm (i := 1049) (by decide +kernel) (by decide +kernel)
theorem zm_1050 : Cond.instanceMethod yX5_pleatShade ∈ WA := zmm (i := 1050) (by decide +kernel) (by decide +kernel)
theorem zm_1051 : Cond.selects RX5 yX5_pleatShade yX5_pleatShade ∈ WA := zmm (i := 1051) (by decide +kernel) (by decide +kernel)
theorem zm_1052 : Cond.code yX5_pleatShade prog_1_method_33_code 8 (Option.some FieldType.int) ∈ WA := zmm (i := 1052) (by decide +kernel) (by decide +kernel)
theorem dL_pleatShade_21 : decode cL_pleatShade 21 = .ok (.astore 8, 2) := by decide +kernel
theorem dL_pleatShade_23 : decode cL_pleatShade 23 = .ok (.iconst 1, 1) := by decide +kernel
theorem dL_pleatShade_24 : decode cL_pleatShade 24 = .ok (.ireturn, 1) := by decide +kernel
set_option maxHeartbeats 4000000 in
set_option maxRecDepth 100000 in
theorem c_L_pleatShade (l : Launch) (hst : l.stackTraces = false) (D : va_G) (sa : Nat → Nat) (ad : Nat → Nat) (sz : Nat) (p0 : Int32) (p1 : Int32) (p2 : Int32) (p3 : Int32) (p4 : Int32) (p5 : Int32) (oa : Nat) : vx_Met l yL_pleatShade ((Cond.codeWith yL_pleatShade method_33_code 9 (Option.some FieldType.int) [(0, 18, 21, 23), (0, 18, 25, 13), (0, 18, 29, 46)]) :: WA) ({ frames := 8, cells := 1, slots := 6, locals := 130 }) (zR D sa (zX ad) [.ref (ad 0), .int p0, .int p1, .int p2, .int p3, .int p4, .int p5, .ref oa] sz) (va_Qi (fun (r : Int32) (_ : Unit) => r = 1) (fun _ _ => True) (zN sz)) (zX0 sz) 1 6 (zN sz) := by
  refine vx_ofWH (cc := method_33_code) (maxL := 9) (ret := (Option.some FieldType.int)) (hh := [(0, 18, 21, 23), (0, 18, 25, 13), (0, 18, 29, 46)]) (by decide) rfl ?_
  intro p e s m args below meth c s₁ B hml hv
  obtain ⟨rfl, hsz, hP, hK, hT, hZ⟩ := hv
  have hx := B.exec
  have hb := B.bytes
  have hr := B.returns
  have hts := atoms_spec (ws := (Cond.codeWith yL_pleatShade method_33_code 9 (Option.some FieldType.int) [(0, 18, 21, 23), (0, 18, 25, 13), (0, 18, 29, 46)]) :: WA) B.pre
  have hw : ∀ w ∈ WA, w.before _ s = true := fun w h => hts w (List.mem_cons_of_mem _ h)
  have htab := vx_table (x := yL_pleatShade) B (hts _ List.mem_cons_self)
  have hown : s.vm.findClass RL = some m.cls := findClass_of_methodNamed B.named
  have hlocks := B.notSynchronized
  subst hsz
  have hA : ∀ q : Nat, s.heap.size ≤ q → zN s.heap.size q := fun _ h => h
  have hS : va_S (zN s.heap.size) s.heap s.heap [] := va_S.rf
  have hP : va_P D vwCl [((ad 0), .inr (10, [.ref (ad 1), .ref (ad 2), .ref (ad 3), .ref (ad 4), .ref (ad 5), .int (-1), .int 100, .int 0, .int 0])), ((ad 1), .inr (7, [.ref (ad 6), .ref (ad 7), .ref (ad 8), .int 0])), ((ad 2), .inr (8, [.ref (ad 9), .ref (ad 10), .int 0])), ((ad 3), .inr (4, [.int 0, .ref (ad 14), .int 0])), ((ad 4), .inr (4, [.int 0, .ref (ad 14), .int 0])), ((ad 5), .inr (6, [.ref (ad 11), .ref (ad 12), .ref (ad 13), .int 0, .int 0]))] s.heap := hP
  have hl := lv_entry [.ref (ad 0), .int p0, .int p1, .int p2, .int p3, .int p4, .int p5, .ref oa] (n := 9) (Nat.le_of_ble_eq_true rfl)
  rw [lg_entry_eq]
  generalize (lg_sl [.ref (ad 0), .int p0, .int p1, .int p2, .int p3, .int p4, .int p5, .ref oa] ++ List.replicate (9 - (lg_sl [.ref (ad 0), .int p0, .int p1, .int p2, .int p3, .int p4, .int p5, .ref oa]).length) Slot.unset).toArray = ls at hl ⊢
  have hl : lv_has ls 9 [(0, .ref (ad 0)), (1, .int p0), (2, .int p1), (3, .int p2), (4, .int p3), (5, .int p4), (6, .int p5), (7, .ref oa)] := hl
  refine lv_aload hx hb dL_pleatShade_0 (lv_at hl 7 rfl) ?_
  refine lv_iconst (v := 0) hx hb dL_pleatShade_2 (by decide) ?_
  refine lv_aload_n hx hb dL_pleatShade_3 rfl (lv_at hl 0 rfl) ?_
  refine lv_iload_n hx hb dL_pleatShade_4 rfl (lv_at hl 1 rfl) ?_
  refine lv_iload_n hx hb dL_pleatShade_5 rfl (lv_at hl 2 rfl) ?_
  refine lv_iload_n hx hb dL_pleatShade_6 rfl (lv_at hl 3 rfl) ?_
  refine lv_iload hx hb dL_pleatShade_7 (lv_at hl 4 rfl) ?_
  refine lv_iload hx hb dL_pleatShade_9 (lv_at hl 5 rfl) ?_
  refine lv_iload hx hb dL_pleatShade_11 (lv_at hl 6 rfl) ?_
  refine zx_call (vx_runV (As := [.int p0, .int p1, .int p2, .int p3, .int p4, .int p5]) (rest := [.int 0, .ref oa]) ⟨hx, hb, hml, hown, hw⟩ (c_X5_pleatShade l hst D sa ad _ p0 p1 p2 p3 p4 p5) (cwV 6 hw (zg4 zm_1049 zm_1050 zm_1051 zm_45 zm_1052) rfl rfl rfl (by decide +kernel) ⟨Nat.le_of_ble_eq_true rfl, Nat.le_of_ble_eq_true rfl⟩) ⟨zR_blind, va_recv hK hP (ci := 10) (q0 := 0) rfl rfl, zR_pre hP hK hT hZ hS hA⟩ rfl rfl hl.1 rfl (lv_room (Nat.le_of_ble_eq_true rfl)) dL_pleatShade_13 ⟨Nat.le_of_ble_eq_true rfl, Nat.le_of_ble_eq_true rfl⟩) hS (zN_fr hS hA) zN_in (fun E ce q9 u t H locs ht hvm hu hE hz1 hk1 hS hce hcv hcl => ?_)
  subst hE
  refine vx_catch hown [] ⟨0, 18, 21, 23⟩ (tableOf [(0, 18, 25, 13), (0, 18, 29, 46)]) htab (fun z hz => absurd hz List.not_mem_nil) (by decide) (by decide) (hw _ zm_487) (hT.c 3 rfl) hce hcv hcl ?_
  refine lv_astore (lv' := [(8, .ref q9), (0, .ref (ad 0)), (1, .int p0), (2, .int p1), (3, .int p2), (4, .int p3), (5, .int p4), (6, .int p5), (7, .ref oa)]) hx hb dL_pleatShade_21 hl (by decide) rfl (fun ls hl => ?_)
  refine lv_iconst (v := 1) hx hb dL_pleatShade_23 (by decide) ?_
  refine vx_ret ?_
  exact W.iret (v := 1) hx hb hr (fun t ht hW => ⟨⟨1, (), rfl, rfl, trivial⟩, hS.F ht⟩) hS.2.2 dL_pleatShade_24
theorem dX9_pleatShade_0 : decode cX9_pleatShade 0 = .ok (.aload_n 0, 1) := by decide +kernel
theorem dX9_pleatShade_1 : decode cX9_pleatShade 1 = .ok (.iload_n 1, 1) := by decide +kernel
theorem dX9_pleatShade_2 : decode cX9_pleatShade 2 = .ok (.iload_n 2, 1) := by decide +kernel
theorem dX9_pleatShade_3 : decode cX9_pleatShade 3 = .ok (.iload_n 3, 1) := by decide +kernel
theorem dX9_pleatShade_4 : decode cX9_pleatShade 4 = .ok (.iload 4, 2) := by decide +kernel
theorem dX9_pleatShade_6 : decode cX9_pleatShade 6 = .ok (.iload 5, 2) := by decide +kernel
theorem dX9_pleatShade_8 : decode cX9_pleatShade 8 = .ok (.invokevirtual 203, 3) := by decide +kernel
theorem zm_1705 : Cond.methodLink RX9 203 yX9_noPleat ∈ WA := zmm (i := 1705) (by decide +kernel) (by decide +kernel)
theorem zm_1707 : Cond.instanceMethod yX9_noPleat ∈ WA := zmm (i := 1707) (by decide +kernel) (by decide +kernel)
theorem zm_38 : Cond.selects RX9 yX9_noPleat yX9_noPleat ∈ WA := zmm (i := 38) (by decide +kernel) (by decide +kernel)
theorem zm_1708 : Cond.code yX9_noPleat prog_8_method_49_code 6 (Option.some FieldType.boolean) ∈ WA := zmm (i := 1708) (by decide +kernel) (by decide +kernel)
theorem dX9_pleatShade_11 : decode cX9_pleatShade 11 = .ok (.ifCond .ne 21, 3) := by decide +kernel
theorem dX9_pleatShade_32 : decode cX9_pleatShade 32 = .ok (.iconst 0, 1) := by decide +kernel
theorem dX9_pleatShade_33 : decode cX9_pleatShade 33 = .ok (.ireturn, 1) := by decide +kernel
set_option maxHeartbeats 4000000 in
set_option maxRecDepth 100000 in
theorem c_X9_pleatShade (l : Launch) (D : va_G) (sa : Nat → Nat) (ea : Nat) (bd : Nat → Nat) (th : Int32) (sz : Nat) (p0 : Int32) (p1 : Int32) (p2 : Int32) (p3 : Int32) (p4 : Int32) (p5 : Int32) : Met l yX9_pleatShade ((Cond.code yX9_pleatShade prog_8_method_51_code 7 (Option.some FieldType.int)) :: WA) ({ frames := 3, cells := 0, slots := 0, locals := 68 }) (zW D sa ea [] (zM bd th) [.ref (bd 0), .int p0, .int p1, .int p2, .int p3, .int p4, .int p5] sz) (va_Qi (fun (r : Int32) (_ : Unit) => r = 0) (fun _ t => va_P D vwCl [((bd 0), .inr (14, [.ref (bd 1), .ref (bd 2), .ref (bd 3), .ref (bd 4), .ref (bd 5), .ref (bd 6), .int 100, .int (-1), .int 0, .int 1])), ((bd 1), .inr (4, [.int 0, .ref (bd 7), .int 0])), ((bd 2), .inr (4, [.int 0, .ref (bd 7), .int 0])), ((bd 3), .inr (4, [.int 0, .ref (bd 7), .int 0])), ((bd 4), .inr (4, [.int 0, .ref (bd 7), .int 0])), ((bd 5), .inr (4, [.int 0, .ref (bd 7), .int 0])), ((bd 6), .inr (4, [.int 0, .ref (bd 7), .int 0]))] t.heap ∧ va_D (va_A (zM bd th) sz) [((bd 0), .inr (14, [.ref (bd 1), .ref (bd 2), .ref (bd 3), .ref (bd 4), .ref (bd 5), .ref (bd 6), .int 100, .int (-1), .int 0, .int 1])), ((bd 1), .inr (4, [.int 0, .ref (bd 7), .int 0])), ((bd 2), .inr (4, [.int 0, .ref (bd 7), .int 0])), ((bd 3), .inr (4, [.int 0, .ref (bd 7), .int 0])), ((bd 4), .inr (4, [.int 0, .ref (bd 7), .int 0])), ((bd 5), .inr (4, [.int 0, .ref (bd 7), .int 0])), ((bd 6), .inr (4, [.int 0, .ref (bd 7), .int 0]))]) (va_A (zM bd th) sz)) 0 0 (va_A (zM bd th) sz) := by
  refine Met.ofW (cc := prog_8_method_51_code) (maxL := 7) (ret := (Option.some FieldType.int)) (by decide) rfl ?_
  intro p e s m args below meth c s₁ B hml hv
  obtain ⟨rfl, hsz, hP, hK, hD0, hT, hE⟩ := hv
  have hx := B.exec
  have hb := B.bytes
  have hr := B.returns
  have hts := atoms_spec (ws := (Cond.code yX9_pleatShade prog_8_method_51_code 7 (Option.some FieldType.int)) :: WA) B.pre
  have hw : ∀ w ∈ WA, w.before _ s = true := fun w h => hts w (List.mem_cons_of_mem _ h)
  have hown : s.vm.findClass RX9 = some m.cls := findClass_of_methodNamed B.named
  have hlocks := B.notSynchronized
  subst hsz
  have hD := hD0.self (sz := s.heap.size)
  generalize hAe : va_A (zM bd th) s.heap.size = A at hD hE ⊢
  have hA : ∀ q : Nat, s.heap.size ≤ q → A q := fun q h => by rw [← hAe]; exact Or.inr h
  have hS : va_S A s.heap s.heap [] := va_S.rf
  have hP : va_P D vwCl [((bd 0), .inr (14, [.ref (bd 1), .ref (bd 2), .ref (bd 3), .ref (bd 4), .ref (bd 5), .ref (bd 6), .int 100, .int (-1), .int 0, .int th])), ((bd 1), .inr (4, [.int 0, .ref (bd 7), .int 0])), ((bd 2), .inr (4, [.int 0, .ref (bd 7), .int 0])), ((bd 3), .inr (4, [.int 0, .ref (bd 7), .int 0])), ((bd 4), .inr (4, [.int 0, .ref (bd 7), .int 0])), ((bd 5), .inr (4, [.int 0, .ref (bd 7), .int 0])), ((bd 6), .inr (4, [.int 0, .ref (bd 7), .int 0]))] s.heap := hP
  have hD : va_D A [((bd 0), .inr (14, [.ref (bd 1), .ref (bd 2), .ref (bd 3), .ref (bd 4), .ref (bd 5), .ref (bd 6), .int 100, .int (-1), .int 0, .int th])), ((bd 1), .inr (4, [.int 0, .ref (bd 7), .int 0])), ((bd 2), .inr (4, [.int 0, .ref (bd 7), .int 0])), ((bd 3), .inr (4, [.int 0, .ref (bd 7), .int 0])), ((bd 4), .inr (4, [.int 0, .ref (bd 7), .int 0])), ((bd 5), .inr (4, [.int 0, .ref (bd 7), .int 0])), ((bd 6), .inr (4, [.int 0, .ref (bd 7), .int 0]))] := hD
  have hl := lv_entry [.ref (bd 0), .int p0, .int p1, .int p2, .int p3, .int p4, .int p5] (n := 7) (Nat.le_of_ble_eq_true rfl)
  rw [lg_entry_eq]
  generalize (lg_sl [.ref (bd 0), .int p0, .int p1, .int p2, .int p3, .int p4, .int p5] ++ List.replicate (7 - (lg_sl [.ref (bd 0), .int p0, .int p1, .int p2, .int p3, .int p4, .int p5]).length) Slot.unset).toArray = ls at hl ⊢
  have hl : lv_has ls 7 [(0, .ref (bd 0)), (1, .int p0), (2, .int p1), (3, .int p2), (4, .int p3), (5, .int p4), (6, .int p5)] := hl
  refine lv_aload_n hx hb dX9_pleatShade_0 rfl (lv_at hl 0 rfl) ?_
  refine lv_iload_n hx hb dX9_pleatShade_1 rfl (lv_at hl 1 rfl) ?_
  refine lv_iload_n hx hb dX9_pleatShade_2 rfl (lv_at hl 2 rfl) ?_
  refine lv_iload_n hx hb dX9_pleatShade_3 rfl (lv_at hl 3 rfl) ?_
  refine lv_iload hx hb dX9_pleatShade_4 (lv_at hl 4 rfl) ?_
  refine lv_iload hx hb dX9_pleatShade_6 (lv_at hl 5 rfl) ?_
  have hFc := va_free (wc := [((bd 0), .inr (14, [.ref (bd 1), .ref (bd 2), .ref (bd 3), .ref (bd 4), .ref (bd 5), .ref (bd 6), .int 100, .int (-1), .int 0, .int th])), ((bd 1), .inr (4, [.int 0, .ref (bd 7), .int 0])), ((bd 2), .inr (4, [.int 0, .ref (bd 7), .int 0])), ((bd 3), .inr (4, [.int 0, .ref (bd 7), .int 0])), ((bd 4), .inr (4, [.int 0, .ref (bd 7), .int 0])), ((bd 5), .inr (4, [.int 0, .ref (bd 7), .int 0])), ((bd 6), .inr (4, [.int 0, .ref (bd 7), .int 0]))]) hD hS hA [0, 1, 2, 3, 4, 5, 6] rfl
  refine va_calli (va_runV (As := [.int p0, .int p1, .int p2, .int p3, .int p4]) (rest := []) ⟨hx, hb, hml, hown, hw⟩ (c_X9_noPleat l D sa ea bd th _ p0 p1 p2 p3 p4) (cwV 5 hw (zg4 zm_1705 zm_1707 zm_38 zm_53 zm_1708) rfl rfl rfl (by decide +kernel) ⟨Nat.le_of_ble_eq_true rfl, Nat.le_of_ble_eq_true rfl⟩) ⟨zW_blind, va_recv hK hP (ci := 14) (q0 := 0) rfl rfl, zW_pre hP hK hD hT hE hS hFc⟩ rfl rfl hl.1 rfl (lv_room (Nat.le_of_ble_eq_true rfl)) dX9_pleatShade_8 ⟨Nat.le_of_ble_eq_true rfl, Nat.le_of_ble_eq_true rfl⟩) hS (fun q _ h => hFc q h) hFc (fun r_1 u t H locs ht hvm hw1 hB hz1 hk1 hS => ?_)
  subst hw1
  obtain ⟨hP1, hD1⟩ := hB
  rw [ht] at hP1
  obtain ⟨hP, hD⟩ := va_join (wr := []) (w1 := [((bd 0), .inr (14, [.ref (bd 1), .ref (bd 2), .ref (bd 3), .ref (bd 4), .ref (bd 5), .ref (bd 6), .int 100, .int (-1), .int 0, .int 1])), ((bd 1), .inr (4, [.int 0, .ref (bd 7), .int 0])), ((bd 2), .inr (4, [.int 0, .ref (bd 7), .int 0])), ((bd 3), .inr (4, [.int 0, .ref (bd 7), .int 0])), ((bd 4), .inr (4, [.int 0, .ref (bd 7), .int 0])), ((bd 5), .inr (4, [.int 0, .ref (bd 7), .int 0])), ((bd 6), .inr (4, [.int 0, .ref (bd 7), .int 0]))]) hP hD [0, 1, 2, 3, 4, 5, 6] [] rfl rfl (by decide) (by decide) hk1 hFc hP1 hD1
  have hP : va_P D vwCl [((bd 0), .inr (14, [.ref (bd 1), .ref (bd 2), .ref (bd 3), .ref (bd 4), .ref (bd 5), .ref (bd 6), .int 100, .int (-1), .int 0, .int 1])), ((bd 1), .inr (4, [.int 0, .ref (bd 7), .int 0])), ((bd 2), .inr (4, [.int 0, .ref (bd 7), .int 0])), ((bd 3), .inr (4, [.int 0, .ref (bd 7), .int 0])), ((bd 4), .inr (4, [.int 0, .ref (bd 7), .int 0])), ((bd 5), .inr (4, [.int 0, .ref (bd 7), .int 0])), ((bd 6), .inr (4, [.int 0, .ref (bd 7), .int 0]))] H := hP
  have hD : va_D A [((bd 0), .inr (14, [.ref (bd 1), .ref (bd 2), .ref (bd 3), .ref (bd 4), .ref (bd 5), .ref (bd 6), .int 100, .int (-1), .int 0, .int 1])), ((bd 1), .inr (4, [.int 0, .ref (bd 7), .int 0])), ((bd 2), .inr (4, [.int 0, .ref (bd 7), .int 0])), ((bd 3), .inr (4, [.int 0, .ref (bd 7), .int 0])), ((bd 4), .inr (4, [.int 0, .ref (bd 7), .int 0])), ((bd 5), .inr (4, [.int 0, .ref (bd 7), .int 0])), ((bd 6), .inr (4, [.int 0, .ref (bd 7), .int 0]))] := hD
  refine lv_if_ne (tgt := 32) hx hb dX9_pleatShade_11 (by decide) (fun _ => ?_) (fun c_2 => absurd c_2 (by decide))
  refine lv_iconst (v := 0) hx hb dX9_pleatShade_32 (by decide) ?_
  have hP9 := hP.sub (ws' := [((bd 0), .inr (14, [.ref (bd 1), .ref (bd 2), .ref (bd 3), .ref (bd 4), .ref (bd 5), .ref (bd 6), .int 100, .int (-1), .int 0, .int 1])), ((bd 1), .inr (4, [.int 0, .ref (bd 7), .int 0])), ((bd 2), .inr (4, [.int 0, .ref (bd 7), .int 0])), ((bd 3), .inr (4, [.int 0, .ref (bd 7), .int 0])), ((bd 4), .inr (4, [.int 0, .ref (bd 7), .int 0])), ((bd 5), .inr (4, [.int 0, .ref (bd 7), .int 0])), ((bd 6), .inr (4, [.int 0, .ref (bd 7), .int 0]))]) [0, 1, 2, 3, 4, 5, 6] rfl
  have hD9 := hD.sub (ws' := [((bd 0), .inr (14, [.ref (bd 1), .ref (bd 2), .ref (bd 3), .ref (bd 4), .ref (bd 5), .ref (bd 6), .int 100, .int (-1), .int 0, .int 1])), ((bd 1), .inr (4, [.int 0, .ref (bd 7), .int 0])), ((bd 2), .inr (4, [.int 0, .ref (bd 7), .int 0])), ((bd 3), .inr (4, [.int 0, .ref (bd 7), .int 0])), ((bd 4), .inr (4, [.int 0, .ref (bd 7), .int 0])), ((bd 5), .inr (4, [.int 0, .ref (bd 7), .int 0])), ((bd 6), .inr (4, [.int 0, .ref (bd 7), .int 0]))]) [0, 1, 2, 3, 4, 5, 6] (by decide) rfl
  refine W.widen (k := 0) (n := 0) (Nat.le_of_ble_eq_true rfl) (Nat.le_of_ble_eq_true rfl) ?_
  exact W.iret (v := 0) hx hb hr (fun t ht hW => ⟨⟨0, (), rfl, rfl, by rw [ht]; exact hP9, hD9⟩, hS.F ht⟩) hS.2.2 dX9_pleatShade_33
theorem dX5_isPlain_0 : decode cX5_isPlain 0 = .ok (.aload_n 0, 1) := by decide +kernel
theorem dX5_isPlain_1 : decode cX5_isPlain 1 = .ok (.iload_n 1, 1) := by decide +kernel
theorem dX5_isPlain_2 : decode cX5_isPlain 2 = .ok (.invokevirtual 137, 3) := by decide +kernel
set_option maxHeartbeats 4000000 in
set_option maxRecDepth 100000 in
theorem c_X5_isPlain (l : Launch) (hst : l.stackTraces = false) (D : va_G) (sa : Nat → Nat) (ad : Nat → Nat) (sz : Nat) (p0 : Int32) (p1 : Int32) (p2 : Int32) (p3 : Int32) (p4 : Int32) : vx_Met l yX5_isPlain ((Cond.code yX5_isPlain prog_1_method_34_code 10 (Option.some FieldType.boolean)) :: WA) ({ frames := 7, cells := 1, slots := 6, locals := 103 }) (zR D sa (zX ad) [.ref (ad 0), .int p0, .int p1, .int p2, .int p3, .int p4] sz) zF (zXC "java/lang/IndexOutOfBoundsException" sz) 1 6 (zN sz) := by
  refine vx_ofW (cc := prog_1_method_34_code) (maxL := 10) (ret := (Option.some FieldType.boolean)) (by decide) rfl ?_
  intro p e s m args below meth c s₁ B hml hnt hv
  obtain ⟨rfl, hsz, hP, hK, hT, hZ⟩ := hv
  have hx := B.exec
  have hb := B.bytes
  have hr := B.returns
  have hts := atoms_spec (ws := (Cond.code yX5_isPlain prog_1_method_34_code 10 (Option.some FieldType.boolean)) :: WA) B.pre
  have hw : ∀ w ∈ WA, w.before _ s = true := fun w h => hts w (List.mem_cons_of_mem _ h)
  have hown : s.vm.findClass RX5 = some m.cls := findClass_of_methodNamed B.named
  have hlocks := B.notSynchronized
  subst hsz
  have hA : ∀ q : Nat, s.heap.size ≤ q → zN s.heap.size q := fun _ h => h
  have hS : va_S (zN s.heap.size) s.heap s.heap [] := va_S.rf
  have hP : va_P D vwCl [((ad 0), .inr (10, [.ref (ad 1), .ref (ad 2), .ref (ad 3), .ref (ad 4), .ref (ad 5), .int (-1), .int 100, .int 0, .int 0])), ((ad 1), .inr (7, [.ref (ad 6), .ref (ad 7), .ref (ad 8), .int 0])), ((ad 2), .inr (8, [.ref (ad 9), .ref (ad 10), .int 0])), ((ad 3), .inr (4, [.int 0, .ref (ad 14), .int 0])), ((ad 4), .inr (4, [.int 0, .ref (ad 14), .int 0])), ((ad 5), .inr (6, [.ref (ad 11), .ref (ad 12), .ref (ad 13), .int 0, .int 0]))] s.heap := hP
  have hl := lv_entry [.ref (ad 0), .int p0, .int p1, .int p2, .int p3, .int p4] (n := 10) (Nat.le_of_ble_eq_true rfl)
  rw [lg_entry_eq]
  generalize (lg_sl [.ref (ad 0), .int p0, .int p1, .int p2, .int p3, .int p4] ++ List.replicate (10 - (lg_sl [.ref (ad 0), .int p0, .int p1, .int p2, .int p3, .int p4]).length) Slot.unset).toArray = ls at hl ⊢
  have hl : lv_has ls 10 [(0, .ref (ad 0)), (1, .int p0), (2, .int p1), (3, .int p2), (4, .int p3), (5, .int p4)] := hl
  refine lv_aload_n hx hb dX5_isPlain_0 rfl (lv_at hl 0 rfl) ?_
  refine lv_iload_n hx hb dX5_isPlain_1 rfl (lv_at hl 1 rfl) ?_
  refine zx_call (vx_runV (As := [.int p0]) (rest := []) ⟨hx, hb, hml, hown, hw⟩ (c_X5_settAt l hst D sa ad _ p0) (cwV 1 hw (zg4 zm_751 zm_753 zm_15 zm_45 zm_754) rfl rfl rfl (by decide +kernel) ⟨Nat.le_of_ble_eq_true rfl, Nat.le_of_ble_eq_true rfl⟩) ⟨zR_blind, va_recv hK hP (ci := 10) (q0 := 0) rfl rfl, zR_pre hP hK hT hZ hS hA⟩ rfl rfl hl.1 rfl (lv_room (Nat.le_of_ble_eq_true rfl)) dX5_isPlain_2 ⟨Nat.le_of_ble_eq_true rfl, Nat.le_of_ble_eq_true rfl⟩) hS (zN_fr hS hA) zN_in (fun E ce q9 u t H locs ht hvm hu hE hz1 hk1 hS hce hcv hcl => ?_)
  exact vx_out (fun x hx9 => (hnt x hx9).elim) hlocks hce hcv hcl (fun t ht _ => ⟨(), trivial, hE, hS.F ht⟩) (fun z hz => hS.2.2 z hz) (Nat.le_of_ble_eq_true rfl) (Nat.le_of_ble_eq_true rfl)
theorem dL_isPlain_0 : decode cL_isPlain 0 = .ok (.aload 6, 2) := by decide +kernel
theorem dL_isPlain_2 : decode cL_isPlain 2 = .ok (.iconst 0, 1) := by decide +kernel
theorem dL_isPlain_3 : decode cL_isPlain 3 = .ok (.aload_n 0, 1) := by decide +kernel
theorem dL_isPlain_4 : decode cL_isPlain 4 = .ok (.iload_n 1, 1) := by decide +kernel
theorem dL_isPlain_5 : decode cL_isPlain 5 = .ok (.iload_n 2, 1) := by decide +kernel
theorem dL_isPlain_6 : decode cL_isPlain 6 = .ok (.iload_n 3, 1) := by decide +kernel
theorem dL_isPlain_7 : decode cL_isPlain 7 = .ok (.iload 4, 2) := by decide +kernel
theorem dL_isPlain_9 : decode cL_isPlain 9 = .ok (.iload 5, 2) := by decide +kernel
theorem dL_isPlain_11 : decode cL_isPlain 11 = .ok (.invokevirtual 124, 3) := by decide +kernel
theorem zm_1068 : Cond.methodLink RL 124 yX5_isPlain ∈ WA := zmm (i := 1068) (by decide +kernel) (by decide +kernel)
theorem zm_1069 : Cond.instanceMethod yX5_isPlain ∈ WA := zmm (i := 1069) (by decide +kernel) (by decide +kernel)
theorem zm_1070 : Cond.selects RX5 yX5_isPlain yX5_isPlain ∈ WA := zmm (i := 1070) (by decide +kernel) (by decide +kernel)
theorem zm_1071 : Cond.code yX5_isPlain prog_1_method_34_code 10 (Option.some FieldType.boolean) ∈ WA := zmm (i := 1071) (by decide +kernel) (by decide +kernel)
theorem dL_isPlain_26 : decode cL_isPlain 26 = .ok (.astore 7, 2) := by decide +kernel
theorem dL_isPlain_28 : decode cL_isPlain 28 = .ok (.iconst 1, 1) := by decide +kernel
theorem dL_isPlain_29 : decode cL_isPlain 29 = .ok (.ireturn, 1) := by decide +kernel
set_option maxHeartbeats 4000000 in
set_option maxRecDepth 100000 in
theorem c_L_isPlain (l : Launch) (hst : l.stackTraces = false) (D : va_G) (sa : Nat → Nat) (ad : Nat → Nat) (sz : Nat) (p0 : Int32) (p1 : Int32) (p2 : Int32) (p3 : Int32) (p4 : Int32) (oa : Nat) : vx_Met l yL_isPlain ((Cond.codeWith yL_isPlain method_34_code 8 (Option.some FieldType.int) [(0, 23, 26, 23), (0, 23, 30, 13), (0, 23, 34, 46)]) :: WA) ({ frames := 8, cells := 1, slots := 6, locals := 132 }) (zR D sa (zX ad) [.ref (ad 0), .int p0, .int p1, .int p2, .int p3, .int p4, .ref oa] sz) (va_Qi (fun (r : Int32) (_ : Unit) => r = 1) (fun _ _ => True) (zN sz)) (zX0 sz) 1 6 (zN sz) := by
  refine vx_ofWH (cc := method_34_code) (maxL := 8) (ret := (Option.some FieldType.int)) (hh := [(0, 23, 26, 23), (0, 23, 30, 13), (0, 23, 34, 46)]) (by decide) rfl ?_
  intro p e s m args below meth c s₁ B hml hv
  obtain ⟨rfl, hsz, hP, hK, hT, hZ⟩ := hv
  have hx := B.exec
  have hb := B.bytes
  have hr := B.returns
  have hts := atoms_spec (ws := (Cond.codeWith yL_isPlain method_34_code 8 (Option.some FieldType.int) [(0, 23, 26, 23), (0, 23, 30, 13), (0, 23, 34, 46)]) :: WA) B.pre
  have hw : ∀ w ∈ WA, w.before _ s = true := fun w h => hts w (List.mem_cons_of_mem _ h)
  have htab := vx_table (x := yL_isPlain) B (hts _ List.mem_cons_self)
  have hown : s.vm.findClass RL = some m.cls := findClass_of_methodNamed B.named
  have hlocks := B.notSynchronized
  subst hsz
  have hA : ∀ q : Nat, s.heap.size ≤ q → zN s.heap.size q := fun _ h => h
  have hS : va_S (zN s.heap.size) s.heap s.heap [] := va_S.rf
  have hP : va_P D vwCl [((ad 0), .inr (10, [.ref (ad 1), .ref (ad 2), .ref (ad 3), .ref (ad 4), .ref (ad 5), .int (-1), .int 100, .int 0, .int 0])), ((ad 1), .inr (7, [.ref (ad 6), .ref (ad 7), .ref (ad 8), .int 0])), ((ad 2), .inr (8, [.ref (ad 9), .ref (ad 10), .int 0])), ((ad 3), .inr (4, [.int 0, .ref (ad 14), .int 0])), ((ad 4), .inr (4, [.int 0, .ref (ad 14), .int 0])), ((ad 5), .inr (6, [.ref (ad 11), .ref (ad 12), .ref (ad 13), .int 0, .int 0]))] s.heap := hP
  have hl := lv_entry [.ref (ad 0), .int p0, .int p1, .int p2, .int p3, .int p4, .ref oa] (n := 8) (Nat.le_of_ble_eq_true rfl)
  rw [lg_entry_eq]
  generalize (lg_sl [.ref (ad 0), .int p0, .int p1, .int p2, .int p3, .int p4, .ref oa] ++ List.replicate (8 - (lg_sl [.ref (ad 0), .int p0, .int p1, .int p2, .int p3, .int p4, .ref oa]).length) Slot.unset).toArray = ls at hl ⊢
  have hl : lv_has ls 8 [(0, .ref (ad 0)), (1, .int p0), (2, .int p1), (3, .int p2), (4, .int p3), (5, .int p4), (6, .ref oa)] := hl
  refine lv_aload hx hb dL_isPlain_0 (lv_at hl 6 rfl) ?_
  refine lv_iconst (v := 0) hx hb dL_isPlain_2 (by decide) ?_
  refine lv_aload_n hx hb dL_isPlain_3 rfl (lv_at hl 0 rfl) ?_
  refine lv_iload_n hx hb dL_isPlain_4 rfl (lv_at hl 1 rfl) ?_
  refine lv_iload_n hx hb dL_isPlain_5 rfl (lv_at hl 2 rfl) ?_
  refine lv_iload_n hx hb dL_isPlain_6 rfl (lv_at hl 3 rfl) ?_
  refine lv_iload hx hb dL_isPlain_7 (lv_at hl 4 rfl) ?_
  refine lv_iload hx hb dL_isPlain_9 (lv_at hl 5 rfl) ?_
  refine zx_call (vx_runV (As := [.int p0, .int p1, .int p2, .int p3, .int p4]) (rest := [.int 0, .ref oa]) ⟨hx, hb, hml, hown, hw⟩ (c_X5_isPlain l hst D sa ad _ p0 p1 p2 p3 p4) (cwV 5 hw (zg4 zm_1068 zm_1069 zm_1070 zm_45 zm_1071) rfl rfl rfl (by decide +kernel) ⟨Nat.le_of_ble_eq_true rfl, Nat.le_of_ble_eq_true rfl⟩) ⟨zR_blind, va_recv hK hP (ci := 10) (q0 := 0) rfl rfl, zR_pre hP hK hT hZ hS hA⟩ rfl rfl hl.1 rfl (lv_room (Nat.le_of_ble_eq_true rfl)) dL_isPlain_11 ⟨Nat.le_of_ble_eq_true rfl, Nat.le_of_ble_eq_true rfl⟩) hS (zN_fr hS hA) zN_in (fun E ce q9 u t H locs ht hvm hu hE hz1 hk1 hS hce hcv hcl => ?_)
  subst hE
  refine vx_catch hown [] ⟨0, 23, 26, 23⟩ (tableOf [(0, 23, 30, 13), (0, 23, 34, 46)]) htab (fun z hz => absurd hz List.not_mem_nil) (by decide) (by decide) (hw _ zm_487) (hT.c 3 rfl) hce hcv hcl ?_
  refine lv_astore (lv' := [(7, .ref q9), (0, .ref (ad 0)), (1, .int p0), (2, .int p1), (3, .int p2), (4, .int p3), (5, .int p4), (6, .ref oa)]) hx hb dL_isPlain_26 hl (by decide) rfl (fun ls hl => ?_)
  refine lv_iconst (v := 1) hx hb dL_isPlain_28 (by decide) ?_
  refine vx_ret ?_
  exact W.iret (v := 1) hx hb hr (fun t ht hW => ⟨⟨1, (), rfl, rfl, trivial⟩, hS.F ht⟩) hS.2.2 dL_isPlain_29
theorem dX9_isPlain_0 : decode cX9_isPlain 0 = .ok (.aload_n 0, 1) := by decide +kernel
theorem dX9_isPlain_1 : decode cX9_isPlain 1 = .ok (.iload_n 1, 1) := by decide +kernel
theorem dX9_isPlain_2 : decode cX9_isPlain 2 = .ok (.iload_n 2, 1) := by decide +kernel
theorem dX9_isPlain_3 : decode cX9_isPlain 3 = .ok (.iload_n 3, 1) := by decide +kernel
theorem dX9_isPlain_4 : decode cX9_isPlain 4 = .ok (.iload 4, 2) := by decide +kernel
theorem dX9_isPlain_6 : decode cX9_isPlain 6 = .ok (.iload 5, 2) := by decide +kernel
theorem dX9_isPlain_8 : decode cX9_isPlain 8 = .ok (.invokevirtual 203, 3) := by decide +kernel
theorem dX9_isPlain_11 : decode cX9_isPlain 11 = .ok (.ifCond .eq 5, 3) := by decide +kernel
theorem dX9_isPlain_14 : decode cX9_isPlain 14 = .ok (.iconst 0, 1) := by decide +kernel
theorem dX9_isPlain_15 : decode cX9_isPlain 15 = .ok (.ireturn, 1) := by decide +kernel
set_option maxHeartbeats 4000000 in
set_option maxRecDepth 100000 in
theorem c_X9_isPlain (l : Launch) (D : va_G) (sa : Nat → Nat) (ea : Nat) (bd : Nat → Nat) (th : Int32) (sz : Nat) (p0 : Int32) (p1 : Int32) (p2 : Int32) (p3 : Int32) (p4 : Int32) : Met l yX9_isPlain ((Cond.code yX9_isPlain prog_8_method_52_code 9 (Option.some FieldType.boolean)) :: WA) ({ frames := 3, cells := 0, slots := 0, locals := 68 }) (zW D sa ea [] (zM bd th) [.ref (bd 0), .int p0, .int p1, .int p2, .int p3, .int p4] sz) (va_Qi (fun (r : Int32) (_ : Unit) => r = 0) (fun _ t => va_P D vwCl [((bd 0), .inr (14, [.ref (bd 1), .ref (bd 2), .ref (bd 3), .ref (bd 4), .ref (bd 5), .ref (bd 6), .int 100, .int (-1), .int 0, .int 1])), ((bd 1), .inr (4, [.int 0, .ref (bd 7), .int 0])), ((bd 2), .inr (4, [.int 0, .ref (bd 7), .int 0])), ((bd 3), .inr (4, [.int 0, .ref (bd 7), .int 0])), ((bd 4), .inr (4, [.int 0, .ref (bd 7), .int 0])), ((bd 5), .inr (4, [.int 0, .ref (bd 7), .int 0])), ((bd 6), .inr (4, [.int 0, .ref (bd 7), .int 0]))] t.heap ∧ va_D (va_A (zM bd th) sz) [((bd 0), .inr (14, [.ref (bd 1), .ref (bd 2), .ref (bd 3), .ref (bd 4), .ref (bd 5), .ref (bd 6), .int 100, .int (-1), .int 0, .int 1])), ((bd 1), .inr (4, [.int 0, .ref (bd 7), .int 0])), ((bd 2), .inr (4, [.int 0, .ref (bd 7), .int 0])), ((bd 3), .inr (4, [.int 0, .ref (bd 7), .int 0])), ((bd 4), .inr (4, [.int 0, .ref (bd 7), .int 0])), ((bd 5), .inr (4, [.int 0, .ref (bd 7), .int 0])), ((bd 6), .inr (4, [.int 0, .ref (bd 7), .int 0]))]) (va_A (zM bd th) sz)) 0 0 (va_A (zM bd th) sz) := by
  refine Met.ofW (cc := prog_8_method_52_code) (maxL := 9) (ret := (Option.some FieldType.boolean)) (by decide) rfl ?_
  intro p e s m args below meth c s₁ B hml hv
  obtain ⟨rfl, hsz, hP, hK, hD0, hT, hE⟩ := hv
  have hx := B.exec
  have hb := B.bytes
  have hr := B.returns
  have hts := atoms_spec (ws := (Cond.code yX9_isPlain prog_8_method_52_code 9 (Option.some FieldType.boolean)) :: WA) B.pre
  have hw : ∀ w ∈ WA, w.before _ s = true := fun w h => hts w (List.mem_cons_of_mem _ h)
  have hown : s.vm.findClass RX9 = some m.cls := findClass_of_methodNamed B.named
  have hlocks := B.notSynchronized
  subst hsz
  have hD := hD0.self (sz := s.heap.size)
  generalize hAe : va_A (zM bd th) s.heap.size = A at hD hE ⊢
  have hA : ∀ q : Nat, s.heap.size ≤ q → A q := fun q h => by rw [← hAe]; exact Or.inr h
  have hS : va_S A s.heap s.heap [] := va_S.rf
  have hP : va_P D vwCl [((bd 0), .inr (14, [.ref (bd 1), .ref (bd 2), .ref (bd 3), .ref (bd 4), .ref (bd 5), .ref (bd 6), .int 100, .int (-1), .int 0, .int th])), ((bd 1), .inr (4, [.int 0, .ref (bd 7), .int 0])), ((bd 2), .inr (4, [.int 0, .ref (bd 7), .int 0])), ((bd 3), .inr (4, [.int 0, .ref (bd 7), .int 0])), ((bd 4), .inr (4, [.int 0, .ref (bd 7), .int 0])), ((bd 5), .inr (4, [.int 0, .ref (bd 7), .int 0])), ((bd 6), .inr (4, [.int 0, .ref (bd 7), .int 0]))] s.heap := hP
  have hD : va_D A [((bd 0), .inr (14, [.ref (bd 1), .ref (bd 2), .ref (bd 3), .ref (bd 4), .ref (bd 5), .ref (bd 6), .int 100, .int (-1), .int 0, .int th])), ((bd 1), .inr (4, [.int 0, .ref (bd 7), .int 0])), ((bd 2), .inr (4, [.int 0, .ref (bd 7), .int 0])), ((bd 3), .inr (4, [.int 0, .ref (bd 7), .int 0])), ((bd 4), .inr (4, [.int 0, .ref (bd 7), .int 0])), ((bd 5), .inr (4, [.int 0, .ref (bd 7), .int 0])), ((bd 6), .inr (4, [.int 0, .ref (bd 7), .int 0]))] := hD
  have hl := lv_entry [.ref (bd 0), .int p0, .int p1, .int p2, .int p3, .int p4] (n := 9) (Nat.le_of_ble_eq_true rfl)
  rw [lg_entry_eq]
  generalize (lg_sl [.ref (bd 0), .int p0, .int p1, .int p2, .int p3, .int p4] ++ List.replicate (9 - (lg_sl [.ref (bd 0), .int p0, .int p1, .int p2, .int p3, .int p4]).length) Slot.unset).toArray = ls at hl ⊢
  have hl : lv_has ls 9 [(0, .ref (bd 0)), (1, .int p0), (2, .int p1), (3, .int p2), (4, .int p3), (5, .int p4)] := hl
  refine lv_aload_n hx hb dX9_isPlain_0 rfl (lv_at hl 0 rfl) ?_
  refine lv_iload_n hx hb dX9_isPlain_1 rfl (lv_at hl 1 rfl) ?_
  refine lv_iload_n hx hb dX9_isPlain_2 rfl (lv_at hl 2 rfl) ?_
  refine lv_iload_n hx hb dX9_isPlain_3 rfl (lv_at hl 3 rfl) ?_
  refine lv_iload hx hb dX9_isPlain_4 (lv_at hl 4 rfl) ?_
  refine lv_iload hx hb dX9_isPlain_6 (lv_at hl 5 rfl) ?_
  have hFc := va_free (wc := [((bd 0), .inr (14, [.ref (bd 1), .ref (bd 2), .ref (bd 3), .ref (bd 4), .ref (bd 5), .ref (bd 6), .int 100, .int (-1), .int 0, .int th])), ((bd 1), .inr (4, [.int 0, .ref (bd 7), .int 0])), ((bd 2), .inr (4, [.int 0, .ref (bd 7), .int 0])), ((bd 3), .inr (4, [.int 0, .ref (bd 7), .int 0])), ((bd 4), .inr (4, [.int 0, .ref (bd 7), .int 0])), ((bd 5), .inr (4, [.int 0, .ref (bd 7), .int 0])), ((bd 6), .inr (4, [.int 0, .ref (bd 7), .int 0]))]) hD hS hA [0, 1, 2, 3, 4, 5, 6] rfl
  refine va_calli (va_runV (As := [.int p0, .int p1, .int p2, .int p3, .int p4]) (rest := []) ⟨hx, hb, hml, hown, hw⟩ (c_X9_noPleat l D sa ea bd th _ p0 p1 p2 p3 p4) (cwV 5 hw (zg4 zm_1705 zm_1707 zm_38 zm_53 zm_1708) rfl rfl rfl (by decide +kernel) ⟨Nat.le_of_ble_eq_true rfl, Nat.le_of_ble_eq_true rfl⟩) ⟨zW_blind, va_recv hK hP (ci := 14) (q0 := 0) rfl rfl, zW_pre hP hK hD hT hE hS hFc⟩ rfl rfl hl.1 rfl (lv_room (Nat.le_of_ble_eq_true rfl)) dX9_isPlain_8 ⟨Nat.le_of_ble_eq_true rfl, Nat.le_of_ble_eq_true rfl⟩) hS (fun q _ h => hFc q h) hFc (fun r_1 u t H locs ht hvm hw1 hB hz1 hk1 hS => ?_)
  subst hw1
  obtain ⟨hP1, hD1⟩ := hB
  rw [ht] at hP1
  obtain ⟨hP, hD⟩ := va_join (wr := []) (w1 := [((bd 0), .inr (14, [.ref (bd 1), .ref (bd 2), .ref (bd 3), .ref (bd 4), .ref (bd 5), .ref (bd 6), .int 100, .int (-1), .int 0, .int 1])), ((bd 1), .inr (4, [.int 0, .ref (bd 7), .int 0])), ((bd 2), .inr (4, [.int 0, .ref (bd 7), .int 0])), ((bd 3), .inr (4, [.int 0, .ref (bd 7), .int 0])), ((bd 4), .inr (4, [.int 0, .ref (bd 7), .int 0])), ((bd 5), .inr (4, [.int 0, .ref (bd 7), .int 0])), ((bd 6), .inr (4, [.int 0, .ref (bd 7), .int 0]))]) hP hD [0, 1, 2, 3, 4, 5, 6] [] rfl rfl (by decide) (by decide) hk1 hFc hP1 hD1
  have hP : va_P D vwCl [((bd 0), .inr (14, [.ref (bd 1), .ref (bd 2), .ref (bd 3), .ref (bd 4), .ref (bd 5), .ref (bd 6), .int 100, .int (-1), .int 0, .int 1])), ((bd 1), .inr (4, [.int 0, .ref (bd 7), .int 0])), ((bd 2), .inr (4, [.int 0, .ref (bd 7), .int 0])), ((bd 3), .inr (4, [.int 0, .ref (bd 7), .int 0])), ((bd 4), .inr (4, [.int 0, .ref (bd 7), .int 0])), ((bd 5), .inr (4, [.int 0, .ref (bd 7), .int 0])), ((bd 6), .inr (4, [.int 0, .ref (bd 7), .int 0]))] H := hP
  have hD : va_D A [((bd 0), .inr (14, [.ref (bd 1), .ref (bd 2), .ref (bd 3), .ref (bd 4), .ref (bd 5), .ref (bd 6), .int 100, .int (-1), .int 0, .int 1])), ((bd 1), .inr (4, [.int 0, .ref (bd 7), .int 0])), ((bd 2), .inr (4, [.int 0, .ref (bd 7), .int 0])), ((bd 3), .inr (4, [.int 0, .ref (bd 7), .int 0])), ((bd 4), .inr (4, [.int 0, .ref (bd 7), .int 0])), ((bd 5), .inr (4, [.int 0, .ref (bd 7), .int 0])), ((bd 6), .inr (4, [.int 0, .ref (bd 7), .int 0]))] := hD
  refine lv_if_eq (tgt := 16) hx hb dX9_isPlain_11 (by decide) (fun c_2 => absurd c_2 (by decide)) (fun _ => ?_)
  refine lv_iconst (v := 0) hx hb dX9_isPlain_14 (by decide) ?_
  have hP9 := hP.sub (ws' := [((bd 0), .inr (14, [.ref (bd 1), .ref (bd 2), .ref (bd 3), .ref (bd 4), .ref (bd 5), .ref (bd 6), .int 100, .int (-1), .int 0, .int 1])), ((bd 1), .inr (4, [.int 0, .ref (bd 7), .int 0])), ((bd 2), .inr (4, [.int 0, .ref (bd 7), .int 0])), ((bd 3), .inr (4, [.int 0, .ref (bd 7), .int 0])), ((bd 4), .inr (4, [.int 0, .ref (bd 7), .int 0])), ((bd 5), .inr (4, [.int 0, .ref (bd 7), .int 0])), ((bd 6), .inr (4, [.int 0, .ref (bd 7), .int 0]))]) [0, 1, 2, 3, 4, 5, 6] rfl
  have hD9 := hD.sub (ws' := [((bd 0), .inr (14, [.ref (bd 1), .ref (bd 2), .ref (bd 3), .ref (bd 4), .ref (bd 5), .ref (bd 6), .int 100, .int (-1), .int 0, .int 1])), ((bd 1), .inr (4, [.int 0, .ref (bd 7), .int 0])), ((bd 2), .inr (4, [.int 0, .ref (bd 7), .int 0])), ((bd 3), .inr (4, [.int 0, .ref (bd 7), .int 0])), ((bd 4), .inr (4, [.int 0, .ref (bd 7), .int 0])), ((bd 5), .inr (4, [.int 0, .ref (bd 7), .int 0])), ((bd 6), .inr (4, [.int 0, .ref (bd 7), .int 0]))]) [0, 1, 2, 3, 4, 5, 6] (by decide) rfl
  refine W.widen (k := 0) (n := 0) (Nat.le_of_ble_eq_true rfl) (Nat.le_of_ble_eq_true rfl) ?_
  exact W.zret (v := 0) hx hb hr (by decide) (fun t ht hW => ⟨⟨0, (), rfl, rfl, by rw [ht]; exact hP9, hD9⟩, hS.F ht⟩) hS.2.2 dX9_isPlain_15
theorem dX5_threadsUsed_0 : decode cX5_threadsUsed 0 = .ok (.aload_n 0, 1) := by decide +kernel
theorem dX5_threadsUsed_1 : decode cX5_threadsUsed 1 = .ok (.iload_n 1, 1) := by decide +kernel
theorem dX5_threadsUsed_2 : decode cX5_threadsUsed 2 = .ok (.invokevirtual 137, 3) := by decide +kernel
set_option maxHeartbeats 4000000 in
set_option maxRecDepth 100000 in
theorem c_X5_threadsUsed (l : Launch) (hst : l.stackTraces = false) (D : va_G) (sa : Nat → Nat) (ad : Nat → Nat) (sz : Nat) (p0 : Int32) (p1 : Int32) (p2 : Int32) (p3 : Int32) : vx_Met l yX5_threadsUsed ((Cond.code yX5_threadsUsed prog_1_method_35_code 7 (Option.some FieldType.int)) :: WA) ({ frames := 7, cells := 1, slots := 6, locals := 103 }) (zR D sa (zX ad) [.ref (ad 0), .int p0, .int p1, .int p2, .int p3] sz) zF (zXC "java/lang/IndexOutOfBoundsException" sz) 1 6 (zN sz) := by
  refine vx_ofW (cc := prog_1_method_35_code) (maxL := 7) (ret := (Option.some FieldType.int)) (by decide) rfl ?_
  intro p e s m args below meth c s₁ B hml hnt hv
  obtain ⟨rfl, hsz, hP, hK, hT, hZ⟩ := hv
  have hx := B.exec
  have hb := B.bytes
  have hr := B.returns
  have hts := atoms_spec (ws := (Cond.code yX5_threadsUsed prog_1_method_35_code 7 (Option.some FieldType.int)) :: WA) B.pre
  have hw : ∀ w ∈ WA, w.before _ s = true := fun w h => hts w (List.mem_cons_of_mem _ h)
  have hown : s.vm.findClass RX5 = some m.cls := findClass_of_methodNamed B.named
  have hlocks := B.notSynchronized
  subst hsz
  have hA : ∀ q : Nat, s.heap.size ≤ q → zN s.heap.size q := fun _ h => h
  have hS : va_S (zN s.heap.size) s.heap s.heap [] := va_S.rf
  have hP : va_P D vwCl [((ad 0), .inr (10, [.ref (ad 1), .ref (ad 2), .ref (ad 3), .ref (ad 4), .ref (ad 5), .int (-1), .int 100, .int 0, .int 0])), ((ad 1), .inr (7, [.ref (ad 6), .ref (ad 7), .ref (ad 8), .int 0])), ((ad 2), .inr (8, [.ref (ad 9), .ref (ad 10), .int 0])), ((ad 3), .inr (4, [.int 0, .ref (ad 14), .int 0])), ((ad 4), .inr (4, [.int 0, .ref (ad 14), .int 0])), ((ad 5), .inr (6, [.ref (ad 11), .ref (ad 12), .ref (ad 13), .int 0, .int 0]))] s.heap := hP
  have hl := lv_entry [.ref (ad 0), .int p0, .int p1, .int p2, .int p3] (n := 7) (Nat.le_of_ble_eq_true rfl)
  rw [lg_entry_eq]
  generalize (lg_sl [.ref (ad 0), .int p0, .int p1, .int p2, .int p3] ++ List.replicate (7 - (lg_sl [.ref (ad 0), .int p0, .int p1, .int p2, .int p3]).length) Slot.unset).toArray = ls at hl ⊢
  have hl : lv_has ls 7 [(0, .ref (ad 0)), (1, .int p0), (2, .int p1), (3, .int p2), (4, .int p3)] := hl
  refine lv_aload_n hx hb dX5_threadsUsed_0 rfl (lv_at hl 0 rfl) ?_
  refine lv_iload_n hx hb dX5_threadsUsed_1 rfl (lv_at hl 1 rfl) ?_
  refine zx_call (vx_runV (As := [.int p0]) (rest := []) ⟨hx, hb, hml, hown, hw⟩ (c_X5_settAt l hst D sa ad _ p0) (cwV 1 hw (zg4 zm_751 zm_753 zm_15 zm_45 zm_754) rfl rfl rfl (by decide +kernel) ⟨Nat.le_of_ble_eq_true rfl, Nat.le_of_ble_eq_true rfl⟩) ⟨zR_blind, va_recv hK hP (ci := 10) (q0 := 0) rfl rfl, zR_pre hP hK hT hZ hS hA⟩ rfl rfl hl.1 rfl (lv_room (Nat.le_of_ble_eq_true rfl)) dX5_threadsUsed_2 ⟨Nat.le_of_ble_eq_true rfl, Nat.le_of_ble_eq_true rfl⟩) hS (zN_fr hS hA) zN_in (fun E ce q9 u t H locs ht hvm hu hE hz1 hk1 hS hce hcv hcl => ?_)
  exact vx_out (fun x hx9 => (hnt x hx9).elim) hlocks hce hcv hcl (fun t ht _ => ⟨(), trivial, hE, hS.F ht⟩) (fun z hz => hS.2.2 z hz) (Nat.le_of_ble_eq_true rfl) (Nat.le_of_ble_eq_true rfl)
theorem dL_threadsUsed_0 : decode cL_threadsUsed 0 = .ok (.aload 5, 2) := by decide +kernel
theorem dL_threadsUsed_2 : decode cL_threadsUsed 2 = .ok (.iconst 0, 1) := by decide +kernel
theorem dL_threadsUsed_3 : decode cL_threadsUsed 3 = .ok (.aload_n 0, 1) := by decide +kernel
theorem dL_threadsUsed_4 : decode cL_threadsUsed 4 = .ok (.iload_n 1, 1) := by decide +kernel
theorem dL_threadsUsed_5 : decode cL_threadsUsed 5 = .ok (.iload_n 2, 1) := by decide +kernel
theorem dL_threadsUsed_6 : decode cL_threadsUsed 6 = .ok (.iload_n 3, 1) := by decide +kernel
theorem dL_threadsUsed_7 : decode cL_threadsUsed 7 = .ok (.iload 4, 2) := by decide +kernel
theorem dL_threadsUsed_9 : decode cL_threadsUsed 9 = .ok (.invokevirtual 128, 3) := by decide +kernel
theorem zm_1075 : Cond.methodLink RL 128 yX5_threadsUsed ∈ WA := zmm (i := 1075) (by decide +kernel) (by decide +kernel)
theorem zm_1076 : Cond.instanceMethod yX5_threadsUsed ∈ WA := zmm (i := 1076) (by decide +kernel) (by decide +kernel)
theorem zm_1077 : Cond.selects RX5 yX5_threadsUsed yX5_threadsUsed ∈ WA := zmm (i := 1077) (by decide +kernel) (by decide +kernel)
theorem zm_1078 : Cond.code yX5_threadsUsed prog_1_method_35_code 7 (Option.some FieldType.int) ∈ WA := zmm (i := 1078) (by decide +kernel) (by decide +kernel)
theorem dL_threadsUsed_17 : decode cL_threadsUsed 17 = .ok (.astore 6, 2) := by decide +kernel
theorem dL_threadsUsed_19 : decode cL_threadsUsed 19 = .ok (.iconst 1, 1) := by decide +kernel
theorem dL_threadsUsed_20 : decode cL_threadsUsed 20 = .ok (.ireturn, 1) := by decide +kernel
set_option maxHeartbeats 4000000 in
set_option maxRecDepth 100000 in
theorem c_L_threadsUsed (l : Launch) (hst : l.stackTraces = false) (D : va_G) (sa : Nat → Nat) (ad : Nat → Nat) (sz : Nat) (p0 : Int32) (p1 : Int32) (p2 : Int32) (p3 : Int32) (oa : Nat) : vx_Met l yL_threadsUsed ((Cond.codeWith yL_threadsUsed method_35_code 7 (Option.some FieldType.int) [(0, 14, 17, 23), (0, 14, 21, 13)]) :: WA) ({ frames := 8, cells := 1, slots := 6, locals := 129 }) (zR D sa (zX ad) [.ref (ad 0), .int p0, .int p1, .int p2, .int p3, .ref oa] sz) (va_Qi (fun (r : Int32) (_ : Unit) => r = 1) (fun _ _ => True) (zN sz)) (zX0 sz) 1 6 (zN sz) := by
  refine vx_ofWH (cc := method_35_code) (maxL := 7) (ret := (Option.some FieldType.int)) (hh := [(0, 14, 17, 23), (0, 14, 21, 13)]) (by decide) rfl ?_
  intro p e s m args below meth c s₁ B hml hv
  obtain ⟨rfl, hsz, hP, hK, hT, hZ⟩ := hv
  have hx := B.exec
  have hb := B.bytes
  have hr := B.returns
  have hts := atoms_spec (ws := (Cond.codeWith yL_threadsUsed method_35_code 7 (Option.some FieldType.int) [(0, 14, 17, 23), (0, 14, 21, 13)]) :: WA) B.pre
  have hw : ∀ w ∈ WA, w.before _ s = true := fun w h => hts w (List.mem_cons_of_mem _ h)
  have htab := vx_table (x := yL_threadsUsed) B (hts _ List.mem_cons_self)
  have hown : s.vm.findClass RL = some m.cls := findClass_of_methodNamed B.named
  have hlocks := B.notSynchronized
  subst hsz
  have hA : ∀ q : Nat, s.heap.size ≤ q → zN s.heap.size q := fun _ h => h
  have hS : va_S (zN s.heap.size) s.heap s.heap [] := va_S.rf
  have hP : va_P D vwCl [((ad 0), .inr (10, [.ref (ad 1), .ref (ad 2), .ref (ad 3), .ref (ad 4), .ref (ad 5), .int (-1), .int 100, .int 0, .int 0])), ((ad 1), .inr (7, [.ref (ad 6), .ref (ad 7), .ref (ad 8), .int 0])), ((ad 2), .inr (8, [.ref (ad 9), .ref (ad 10), .int 0])), ((ad 3), .inr (4, [.int 0, .ref (ad 14), .int 0])), ((ad 4), .inr (4, [.int 0, .ref (ad 14), .int 0])), ((ad 5), .inr (6, [.ref (ad 11), .ref (ad 12), .ref (ad 13), .int 0, .int 0]))] s.heap := hP
  have hl := lv_entry [.ref (ad 0), .int p0, .int p1, .int p2, .int p3, .ref oa] (n := 7) (Nat.le_of_ble_eq_true rfl)
  rw [lg_entry_eq]
  generalize (lg_sl [.ref (ad 0), .int p0, .int p1, .int p2, .int p3, .ref oa] ++ List.replicate (7 - (lg_sl [.ref (ad 0), .int p0, .int p1, .int p2, .int p3, .ref oa]).length) Slot.unset).toArray = ls at hl ⊢
  have hl : lv_has ls 7 [(0, .ref (ad 0)), (1, .int p0), (2, .int p1), (3, .int p2), (4, .int p3), (5, .ref oa)] := hl
  refine lv_aload hx hb dL_threadsUsed_0 (lv_at hl 5 rfl) ?_
  refine lv_iconst (v := 0) hx hb dL_threadsUsed_2 (by decide) ?_
  refine lv_aload_n hx hb dL_threadsUsed_3 rfl (lv_at hl 0 rfl) ?_
  refine lv_iload_n hx hb dL_threadsUsed_4 rfl (lv_at hl 1 rfl) ?_
  refine lv_iload_n hx hb dL_threadsUsed_5 rfl (lv_at hl 2 rfl) ?_
  refine lv_iload_n hx hb dL_threadsUsed_6 rfl (lv_at hl 3 rfl) ?_
  refine lv_iload hx hb dL_threadsUsed_7 (lv_at hl 4 rfl) ?_
  refine zx_call (vx_runV (As := [.int p0, .int p1, .int p2, .int p3]) (rest := [.int 0, .ref oa]) ⟨hx, hb, hml, hown, hw⟩ (c_X5_threadsUsed l hst D sa ad _ p0 p1 p2 p3) (cwV 4 hw (zg4 zm_1075 zm_1076 zm_1077 zm_45 zm_1078) rfl rfl rfl (by decide +kernel) ⟨Nat.le_of_ble_eq_true rfl, Nat.le_of_ble_eq_true rfl⟩) ⟨zR_blind, va_recv hK hP (ci := 10) (q0 := 0) rfl rfl, zR_pre hP hK hT hZ hS hA⟩ rfl rfl hl.1 rfl (lv_room (Nat.le_of_ble_eq_true rfl)) dL_threadsUsed_9 ⟨Nat.le_of_ble_eq_true rfl, Nat.le_of_ble_eq_true rfl⟩) hS (zN_fr hS hA) zN_in (fun E ce q9 u t H locs ht hvm hu hE hz1 hk1 hS hce hcv hcl => ?_)
  subst hE
  refine vx_catch hown [] ⟨0, 14, 17, 23⟩ (tableOf [(0, 14, 21, 13)]) htab (fun z hz => absurd hz List.not_mem_nil) (by decide) (by decide) (hw _ zm_487) (hT.c 3 rfl) hce hcv hcl ?_
  refine lv_astore (lv' := [(6, .ref q9), (0, .ref (ad 0)), (1, .int p0), (2, .int p1), (3, .int p2), (4, .int p3), (5, .ref oa)]) hx hb dL_threadsUsed_17 hl (by decide) rfl (fun ls hl => ?_)
  refine lv_iconst (v := 1) hx hb dL_threadsUsed_19 (by decide) ?_
  refine vx_ret ?_
  exact W.iret (v := 1) hx hb hr (fun t ht hW => ⟨⟨1, (), rfl, rfl, trivial⟩, hS.F ht⟩) hS.2.2 dL_threadsUsed_20
theorem dX9_threadsUsed_0 : decode cX9_threadsUsed 0 = .ok (.aload_n 0, 1) := by decide +kernel
theorem dX9_threadsUsed_1 : decode cX9_threadsUsed 1 = .ok (.aload_n 0, 1) := by decide +kernel
theorem dX9_threadsUsed_2 : decode cX9_threadsUsed 2 = .ok (.iload_n 1, 1) := by decide +kernel
theorem dX9_threadsUsed_3 : decode cX9_threadsUsed 3 = .ok (.invokevirtual 118, 3) := by decide +kernel
theorem dX9_threadsUsed_6 : decode cX9_threadsUsed 6 = .ok (.iconst 1, 1) := by decide +kernel
theorem dX9_threadsUsed_7 : decode cX9_threadsUsed 7 = .ok (.invokevirtual 51, 3) := by decide +kernel
theorem dX9_threadsUsed_10 : decode cX9_threadsUsed 10 = .ok (.ifCond .ne 37, 3) := by decide +kernel
theorem dX9_threadsUsed_47 : decode cX9_threadsUsed 47 = .ok (.iconst 0, 1) := by decide +kernel
theorem dX9_threadsUsed_48 : decode cX9_threadsUsed 48 = .ok (.ireturn, 1) := by decide +kernel
set_option maxHeartbeats 4000000 in
set_option maxRecDepth 100000 in
theorem c_X9_threadsUsed (l : Launch) (D : va_G) (sa : Nat → Nat) (ea : Nat) (bd : Nat → Nat) (th : Int32) (sz : Nat) (p0 : Int32) (p1 : Int32) (p2 : Int32) (p3 : Int32) : Met l yX9_threadsUsed ((Cond.code yX9_threadsUsed prog_8_method_53_code 5 (Option.some FieldType.int)) :: WA) ({ frames := 2, cells := 0, slots := 0, locals := 43 }) (zW D sa ea [] (zM bd th) [.ref (bd 0), .int p0, .int p1, .int p2, .int p3] sz) (va_Qi (fun (r : Int32) (_ : Unit) => r = 0) (fun _ t => va_P D vwCl [((bd 0), .inr (14, [.ref (bd 1), .ref (bd 2), .ref (bd 3), .ref (bd 4), .ref (bd 5), .ref (bd 6), .int 100, .int (-1), .int 0, .int 1])), ((bd 1), .inr (4, [.int 0, .ref (bd 7), .int 0])), ((bd 2), .inr (4, [.int 0, .ref (bd 7), .int 0])), ((bd 3), .inr (4, [.int 0, .ref (bd 7), .int 0])), ((bd 4), .inr (4, [.int 0, .ref (bd 7), .int 0])), ((bd 5), .inr (4, [.int 0, .ref (bd 7), .int 0])), ((bd 6), .inr (4, [.int 0, .ref (bd 7), .int 0]))] t.heap ∧ va_D (va_A (zM bd th) sz) [((bd 0), .inr (14, [.ref (bd 1), .ref (bd 2), .ref (bd 3), .ref (bd 4), .ref (bd 5), .ref (bd 6), .int 100, .int (-1), .int 0, .int 1])), ((bd 1), .inr (4, [.int 0, .ref (bd 7), .int 0])), ((bd 2), .inr (4, [.int 0, .ref (bd 7), .int 0])), ((bd 3), .inr (4, [.int 0, .ref (bd 7), .int 0])), ((bd 4), .inr (4, [.int 0, .ref (bd 7), .int 0])), ((bd 5), .inr (4, [.int 0, .ref (bd 7), .int 0])), ((bd 6), .inr (4, [.int 0, .ref (bd 7), .int 0]))]) (va_A (zM bd th) sz)) 0 0 (va_A (zM bd th) sz) := by
  refine Met.ofW (cc := prog_8_method_53_code) (maxL := 5) (ret := (Option.some FieldType.int)) (by decide) rfl ?_
  intro p e s m args below meth c s₁ B hml hv
  obtain ⟨rfl, hsz, hP, hK, hD0, hT, hE⟩ := hv
  have hx := B.exec
  have hb := B.bytes
  have hr := B.returns
  have hts := atoms_spec (ws := (Cond.code yX9_threadsUsed prog_8_method_53_code 5 (Option.some FieldType.int)) :: WA) B.pre
  have hw : ∀ w ∈ WA, w.before _ s = true := fun w h => hts w (List.mem_cons_of_mem _ h)
  have hown : s.vm.findClass RX9 = some m.cls := findClass_of_methodNamed B.named
  have hlocks := B.notSynchronized
  subst hsz
  have hD := hD0.self (sz := s.heap.size)
  generalize hAe : va_A (zM bd th) s.heap.size = A at hD hE ⊢
  have hA : ∀ q : Nat, s.heap.size ≤ q → A q := fun q h => by rw [← hAe]; exact Or.inr h
  have hS : va_S A s.heap s.heap [] := va_S.rf
  have hP : va_P D vwCl [((bd 0), .inr (14, [.ref (bd 1), .ref (bd 2), .ref (bd 3), .ref (bd 4), .ref (bd 5), .ref (bd 6), .int 100, .int (-1), .int 0, .int th])), ((bd 1), .inr (4, [.int 0, .ref (bd 7), .int 0])), ((bd 2), .inr (4, [.int 0, .ref (bd 7), .int 0])), ((bd 3), .inr (4, [.int 0, .ref (bd 7), .int 0])), ((bd 4), .inr (4, [.int 0, .ref (bd 7), .int 0])), ((bd 5), .inr (4, [.int 0, .ref (bd 7), .int 0])), ((bd 6), .inr (4, [.int 0, .ref (bd 7), .int 0]))] s.heap := hP
  have hD : va_D A [((bd 0), .inr (14, [.ref (bd 1), .ref (bd 2), .ref (bd 3), .ref (bd 4), .ref (bd 5), .ref (bd 6), .int 100, .int (-1), .int 0, .int th])), ((bd 1), .inr (4, [.int 0, .ref (bd 7), .int 0])), ((bd 2), .inr (4, [.int 0, .ref (bd 7), .int 0])), ((bd 3), .inr (4, [.int 0, .ref (bd 7), .int 0])), ((bd 4), .inr (4, [.int 0, .ref (bd 7), .int 0])), ((bd 5), .inr (4, [.int 0, .ref (bd 7), .int 0])), ((bd 6), .inr (4, [.int 0, .ref (bd 7), .int 0]))] := hD
  have hl := lv_entry [.ref (bd 0), .int p0, .int p1, .int p2, .int p3] (n := 5) (Nat.le_of_ble_eq_true rfl)
  rw [lg_entry_eq]
  generalize (lg_sl [.ref (bd 0), .int p0, .int p1, .int p2, .int p3] ++ List.replicate (5 - (lg_sl [.ref (bd 0), .int p0, .int p1, .int p2, .int p3]).length) Slot.unset).toArray = ls at hl ⊢
  have hl : lv_has ls 5 [(0, .ref (bd 0)), (1, .int p0), (2, .int p1), (3, .int p2), (4, .int p3)] := hl
  refine lv_aload_n hx hb dX9_threadsUsed_0 rfl (lv_at hl 0 rfl) ?_
  refine lv_aload_n hx hb dX9_threadsUsed_1 rfl (lv_at hl 0 rfl) ?_
  refine lv_iload_n hx hb dX9_threadsUsed_2 rfl (lv_at hl 1 rfl) ?_
  refine va_calli (va_runV (As := [.int p0]) (rest := [.ref (bd 0)]) ⟨hx, hb, hml, hown, hw⟩ (c_X9_isSett l D sa bd th _ p0) (cwV 1 hw (zg4 zm_1521 zm_1523 zm_29 zm_53 zm_1524) rfl rfl rfl (by decide +kernel) ⟨Nat.le_of_ble_eq_true rfl, Nat.le_of_ble_eq_true rfl⟩) ⟨zJ_blind, va_recv hK hP (ci := 14) (q0 := 0) rfl rfl, zJ_pre hP hK hT⟩ rfl rfl hl.1 rfl (lv_room (Nat.le_of_ble_eq_true rfl)) dX9_threadsUsed_3 ⟨Nat.le_of_ble_eq_true rfl, Nat.le_of_ble_eq_true rfl⟩) hS zN_in (zN_fr hS hA) (fun r_1 u t H locs ht hvm hw1 hB hz1 hk1 hS => ?_)
  have hP := zN_keep hP hk1
  subst hw1
  refine lv_iconst (v := 1) hx hb dX9_threadsUsed_6 (by decide) ?_
  have hFc := va_free (wc := [((bd 0), .inr (14, [.ref (bd 1), .ref (bd 2), .ref (bd 3), .ref (bd 4), .ref (bd 5), .ref (bd 6), .int 100, .int (-1), .int 0, .int th])), ((bd 1), .inr (4, [.int 0, .ref (bd 7), .int 0])), ((bd 2), .inr (4, [.int 0, .ref (bd 7), .int 0])), ((bd 3), .inr (4, [.int 0, .ref (bd 7), .int 0])), ((bd 4), .inr (4, [.int 0, .ref (bd 7), .int 0])), ((bd 5), .inr (4, [.int 0, .ref (bd 7), .int 0])), ((bd 6), .inr (4, [.int 0, .ref (bd 7), .int 0]))]) hD hS hA [0, 1, 2, 3, 4, 5, 6] rfl
  refine va_calli (va_runV (As := [.int 0, .int 1]) (rest := []) ⟨hx, hb, hml, hown, hw⟩ (c_X9_no0 l D sa ea bd th _ 1) (cwV 2 hw (zg4 zm_1314 zm_1316 zm_26 zm_53 zm_1317) rfl rfl rfl (by decide +kernel) ⟨Nat.le_of_ble_eq_true rfl, Nat.le_of_ble_eq_true rfl⟩) ⟨zW_blind, va_recv hK hP (ci := 14) (q0 := 0) rfl rfl, zW_pre hP hK hD hT hE hS hFc⟩ rfl rfl hl.1 rfl (lv_room (Nat.le_of_ble_eq_true rfl)) dX9_threadsUsed_7 ⟨Nat.le_of_ble_eq_true rfl, Nat.le_of_ble_eq_true rfl⟩) hS (fun q _ h => hFc q h) hFc (fun r_2 u t H locs ht hvm hw1 hB hz1 hk1 hS => ?_)
  subst hw1
  obtain ⟨hP1, hD1⟩ := hB
  rw [ht] at hP1
  obtain ⟨hP, hD⟩ := va_join (wr := []) (w1 := [((bd 0), .inr (14, [.ref (bd 1), .ref (bd 2), .ref (bd 3), .ref (bd 4), .ref (bd 5), .ref (bd 6), .int 100, .int (-1), .int 0, .int 1])), ((bd 1), .inr (4, [.int 0, .ref (bd 7), .int 0])), ((bd 2), .inr (4, [.int 0, .ref (bd 7), .int 0])), ((bd 3), .inr (4, [.int 0, .ref (bd 7), .int 0])), ((bd 4), .inr (4, [.int 0, .ref (bd 7), .int 0])), ((bd 5), .inr (4, [.int 0, .ref (bd 7), .int 0])), ((bd 6), .inr (4, [.int 0, .ref (bd 7), .int 0]))]) hP hD [0, 1, 2, 3, 4, 5, 6] [] rfl rfl (by decide) (by decide) hk1 hFc hP1 hD1
  have hP : va_P D vwCl [((bd 0), .inr (14, [.ref (bd 1), .ref (bd 2), .ref (bd 3), .ref (bd 4), .ref (bd 5), .ref (bd 6), .int 100, .int (-1), .int 0, .int 1])), ((bd 1), .inr (4, [.int 0, .ref (bd 7), .int 0])), ((bd 2), .inr (4, [.int 0, .ref (bd 7), .int 0])), ((bd 3), .inr (4, [.int 0, .ref (bd 7), .int 0])), ((bd 4), .inr (4, [.int 0, .ref (bd 7), .int 0])), ((bd 5), .inr (4, [.int 0, .ref (bd 7), .int 0])), ((bd 6), .inr (4, [.int 0, .ref (bd 7), .int 0]))] H := hP
  have hD : va_D A [((bd 0), .inr (14, [.ref (bd 1), .ref (bd 2), .ref (bd 3), .ref (bd 4), .ref (bd 5), .ref (bd 6), .int 100, .int (-1), .int 0, .int 1])), ((bd 1), .inr (4, [.int 0, .ref (bd 7), .int 0])), ((bd 2), .inr (4, [.int 0, .ref (bd 7), .int 0])), ((bd 3), .inr (4, [.int 0, .ref (bd 7), .int 0])), ((bd 4), .inr (4, [.int 0, .ref (bd 7), .int 0])), ((bd 5), .inr (4, [.int 0, .ref (bd 7), .int 0])), ((bd 6), .inr (4, [.int 0, .ref (bd 7), .int 0]))] := hD
  refine lv_if_ne (tgt := 47) hx hb dX9_threadsUsed_10 (by decide) (fun _ => ?_) (fun c_3 => absurd c_3 (by decide))
  refine lv_iconst (v := 0) hx hb dX9_threadsUsed_47 (by decide) ?_
  have hP9 := hP.sub (ws' := [((bd 0), .inr (14, [.ref (bd 1), .ref (bd 2), .ref (bd 3), .ref (bd 4), .ref (bd 5), .ref (bd 6), .int 100, .int (-1), .int 0, .int 1])), ((bd 1), .inr (4, [.int 0, .ref (bd 7), .int 0])), ((bd 2), .inr (4, [.int 0, .ref (bd 7), .int 0])), ((bd 3), .inr (4, [.int 0, .ref (bd 7), .int 0])), ((bd 4), .inr (4, [.int 0, .ref (bd 7), .int 0])), ((bd 5), .inr (4, [.int 0, .ref (bd 7), .int 0])), ((bd 6), .inr (4, [.int 0, .ref (bd 7), .int 0]))]) [0, 1, 2, 3, 4, 5, 6] rfl
  have hD9 := hD.sub (ws' := [((bd 0), .inr (14, [.ref (bd 1), .ref (bd 2), .ref (bd 3), .ref (bd 4), .ref (bd 5), .ref (bd 6), .int 100, .int (-1), .int 0, .int 1])), ((bd 1), .inr (4, [.int 0, .ref (bd 7), .int 0])), ((bd 2), .inr (4, [.int 0, .ref (bd 7), .int 0])), ((bd 3), .inr (4, [.int 0, .ref (bd 7), .int 0])), ((bd 4), .inr (4, [.int 0, .ref (bd 7), .int 0])), ((bd 5), .inr (4, [.int 0, .ref (bd 7), .int 0])), ((bd 6), .inr (4, [.int 0, .ref (bd 7), .int 0]))]) [0, 1, 2, 3, 4, 5, 6] (by decide) rfl
  refine W.widen (k := 0) (n := 0) (Nat.le_of_ble_eq_true rfl) (Nat.le_of_ble_eq_true rfl) ?_
  exact W.iret (v := 0) hx hb hr (fun t ht hW => ⟨⟨0, (), rfl, rfl, by rw [ht]; exact hP9, hD9⟩, hS.F ht⟩) hS.2.2 dX9_threadsUsed_48
theorem dX5_order_0 : decode cX5_order 0 = .ok (.aload_n 0, 1) := by decide +kernel
theorem dX5_order_1 : decode cX5_order 1 = .ok (.iload_n 1, 1) := by decide +kernel
theorem dX5_order_2 : decode cX5_order 2 = .ok (.invokevirtual 137, 3) := by decide +kernel
set_option maxHeartbeats 4000000 in
set_option maxRecDepth 100000 in
theorem c_X5_order (l : Launch) (hst : l.stackTraces = false) (D : va_G) (sa : Nat → Nat) (ad : Nat → Nat) (sz : Nat) (p0 : Int32) (p1 : Int32) (p2 : Int32) : vx_Met l yX5_order ((Cond.code yX5_order prog_1_method_36_code 6 (Option.some FieldType.int)) :: WA) ({ frames := 7, cells := 1, slots := 6, locals := 103 }) (zR D sa (zX ad) [.ref (ad 0), .int p0, .int p1, .int p2] sz) zF (zXC "java/lang/IndexOutOfBoundsException" sz) 1 6 (zN sz) := by
  refine vx_ofW (cc := prog_1_method_36_code) (maxL := 6) (ret := (Option.some FieldType.int)) (by decide) rfl ?_
  intro p e s m args below meth c s₁ B hml hnt hv
  obtain ⟨rfl, hsz, hP, hK, hT, hZ⟩ := hv
  have hx := B.exec
  have hb := B.bytes
  have hr := B.returns
  have hts := atoms_spec (ws := (Cond.code yX5_order prog_1_method_36_code 6 (Option.some FieldType.int)) :: WA) B.pre
  have hw : ∀ w ∈ WA, w.before _ s = true := fun w h => hts w (List.mem_cons_of_mem _ h)
  have hown : s.vm.findClass RX5 = some m.cls := findClass_of_methodNamed B.named
  have hlocks := B.notSynchronized
  subst hsz
  have hA : ∀ q : Nat, s.heap.size ≤ q → zN s.heap.size q := fun _ h => h
  have hS : va_S (zN s.heap.size) s.heap s.heap [] := va_S.rf
  have hP : va_P D vwCl [((ad 0), .inr (10, [.ref (ad 1), .ref (ad 2), .ref (ad 3), .ref (ad 4), .ref (ad 5), .int (-1), .int 100, .int 0, .int 0])), ((ad 1), .inr (7, [.ref (ad 6), .ref (ad 7), .ref (ad 8), .int 0])), ((ad 2), .inr (8, [.ref (ad 9), .ref (ad 10), .int 0])), ((ad 3), .inr (4, [.int 0, .ref (ad 14), .int 0])), ((ad 4), .inr (4, [.int 0, .ref (ad 14), .int 0])), ((ad 5), .inr (6, [.ref (ad 11), .ref (ad 12), .ref (ad 13), .int 0, .int 0]))] s.heap := hP
  have hl := lv_entry [.ref (ad 0), .int p0, .int p1, .int p2] (n := 6) (Nat.le_of_ble_eq_true rfl)
  rw [lg_entry_eq]
  generalize (lg_sl [.ref (ad 0), .int p0, .int p1, .int p2] ++ List.replicate (6 - (lg_sl [.ref (ad 0), .int p0, .int p1, .int p2]).length) Slot.unset).toArray = ls at hl ⊢
  have hl : lv_has ls 6 [(0, .ref (ad 0)), (1, .int p0), (2, .int p1), (3, .int p2)] := hl
  refine lv_aload_n hx hb dX5_order_0 rfl (lv_at hl 0 rfl) ?_
  refine lv_iload_n hx hb dX5_order_1 rfl (lv_at hl 1 rfl) ?_
  refine zx_call (vx_runV (As := [.int p0]) (rest := []) ⟨hx, hb, hml, hown, hw⟩ (c_X5_settAt l hst D sa ad _ p0) (cwV 1 hw (zg4 zm_751 zm_753 zm_15 zm_45 zm_754) rfl rfl rfl (by decide +kernel) ⟨Nat.le_of_ble_eq_true rfl, Nat.le_of_ble_eq_true rfl⟩) ⟨zR_blind, va_recv hK hP (ci := 10) (q0 := 0) rfl rfl, zR_pre hP hK hT hZ hS hA⟩ rfl rfl hl.1 rfl (lv_room (Nat.le_of_ble_eq_true rfl)) dX5_order_2 ⟨Nat.le_of_ble_eq_true rfl, Nat.le_of_ble_eq_true rfl⟩) hS (zN_fr hS hA) zN_in (fun E ce q9 u t H locs ht hvm hu hE hz1 hk1 hS hce hcv hcl => ?_)
  exact vx_out (fun x hx9 => (hnt x hx9).elim) hlocks hce hcv hcl (fun t ht _ => ⟨(), trivial, hE, hS.F ht⟩) (fun z hz => hS.2.2 z hz) (Nat.le_of_ble_eq_true rfl) (Nat.le_of_ble_eq_true rfl)
theorem dL_order_0 : decode cL_order 0 = .ok (.aload 4, 2) := by decide +kernel
theorem dL_order_2 : decode cL_order 2 = .ok (.iconst 0, 1) := by decide +kernel
theorem dL_order_3 : decode cL_order 3 = .ok (.aload_n 0, 1) := by decide +kernel
theorem dL_order_4 : decode cL_order 4 = .ok (.iload_n 1, 1) := by decide +kernel
theorem dL_order_5 : decode cL_order 5 = .ok (.iload_n 2, 1) := by decide +kernel
theorem dL_order_6 : decode cL_order 6 = .ok (.iload_n 3, 1) := by decide +kernel
theorem dL_order_7 : decode cL_order 7 = .ok (.invokevirtual 132, 3) := by decide +kernel
theorem zm_1082 : Cond.methodLink RL 132 yX5_order ∈ WA := zmm (i := 1082) (by decide +kernel) (by decide +kernel)
theorem zm_1083 : Cond.instanceMethod yX5_order ∈ WA := zmm (i := 1083) (by decide +kernel) (by decide +kernel)
theorem zm_1084 : Cond.selects RX5 yX5_order yX5_order ∈ WA := zmm (i := 1084) (by decide +kernel) (by decide +kernel)
theorem zm_1085 : Cond.code yX5_order prog_1_method_36_code 6 (Option.some FieldType.int) ∈ WA := zmm (i := 1085) (by decide +kernel) (by decide +kernel)
theorem dL_order_15 : decode cL_order 15 = .ok (.astore 5, 2) := by decide +kernel
theorem dL_order_17 : decode cL_order 17 = .ok (.iconst 1, 1) := by decide +kernel
theorem dL_order_18 : decode cL_order 18 = .ok (.ireturn, 1) := by decide +kernel
set_option maxHeartbeats 4000000 in
set_option maxRecDepth 100000 in
theorem c_L_order (l : Launch) (hst : l.stackTraces = false) (D : va_G) (sa : Nat → Nat) (ad : Nat → Nat) (sz : Nat) (p0 : Int32) (p1 : Int32) (p2 : Int32) (oa : Nat) : vx_Met l yL_order ((Cond.codeWith yL_order method_36_code 6 (Option.some FieldType.int) [(0, 12, 15, 23), (0, 12, 19, 13), (0, 12, 23, 15), (0, 12, 27, 17)]) :: WA) ({ frames := 8, cells := 1, slots := 6, locals := 128 }) (zR D sa (zX ad) [.ref (ad 0), .int p0, .int p1, .int p2, .ref oa] sz) (va_Qi (fun (r : Int32) (_ : Unit) => r = 1) (fun _ _ => True) (zN sz)) (zX0 sz) 1 6 (zN sz) := by
  refine vx_ofWH (cc := method_36_code) (maxL := 6) (ret := (Option.some FieldType.int)) (hh := [(0, 12, 15, 23), (0, 12, 19, 13), (0, 12, 23, 15), (0, 12, 27, 17)]) (by decide) rfl ?_
  intro p e s m args below meth c s₁ B hml hv
  obtain ⟨rfl, hsz, hP, hK, hT, hZ⟩ := hv
  have hx := B.exec
  have hb := B.bytes
  have hr := B.returns
  have hts := atoms_spec (ws := (Cond.codeWith yL_order method_36_code 6 (Option.some FieldType.int) [(0, 12, 15, 23), (0, 12, 19, 13), (0, 12, 23, 15), (0, 12, 27, 17)]) :: WA) B.pre
  have hw : ∀ w ∈ WA, w.before _ s = true := fun w h => hts w (List.mem_cons_of_mem _ h)
  have htab := vx_table (x := yL_order) B (hts _ List.mem_cons_self)
  have hown : s.vm.findClass RL = some m.cls := findClass_of_methodNamed B.named
  have hlocks := B.notSynchronized
  subst hsz
  have hA : ∀ q : Nat, s.heap.size ≤ q → zN s.heap.size q := fun _ h => h
  have hS : va_S (zN s.heap.size) s.heap s.heap [] := va_S.rf
  have hP : va_P D vwCl [((ad 0), .inr (10, [.ref (ad 1), .ref (ad 2), .ref (ad 3), .ref (ad 4), .ref (ad 5), .int (-1), .int 100, .int 0, .int 0])), ((ad 1), .inr (7, [.ref (ad 6), .ref (ad 7), .ref (ad 8), .int 0])), ((ad 2), .inr (8, [.ref (ad 9), .ref (ad 10), .int 0])), ((ad 3), .inr (4, [.int 0, .ref (ad 14), .int 0])), ((ad 4), .inr (4, [.int 0, .ref (ad 14), .int 0])), ((ad 5), .inr (6, [.ref (ad 11), .ref (ad 12), .ref (ad 13), .int 0, .int 0]))] s.heap := hP
  have hl := lv_entry [.ref (ad 0), .int p0, .int p1, .int p2, .ref oa] (n := 6) (Nat.le_of_ble_eq_true rfl)
  rw [lg_entry_eq]
  generalize (lg_sl [.ref (ad 0), .int p0, .int p1, .int p2, .ref oa] ++ List.replicate (6 - (lg_sl [.ref (ad 0), .int p0, .int p1, .int p2, .ref oa]).length) Slot.unset).toArray = ls at hl ⊢
  have hl : lv_has ls 6 [(0, .ref (ad 0)), (1, .int p0), (2, .int p1), (3, .int p2), (4, .ref oa)] := hl
  refine lv_aload hx hb dL_order_0 (lv_at hl 4 rfl) ?_
  refine lv_iconst (v := 0) hx hb dL_order_2 (by decide) ?_
  refine lv_aload_n hx hb dL_order_3 rfl (lv_at hl 0 rfl) ?_
  refine lv_iload_n hx hb dL_order_4 rfl (lv_at hl 1 rfl) ?_
  refine lv_iload_n hx hb dL_order_5 rfl (lv_at hl 2 rfl) ?_
  refine lv_iload_n hx hb dL_order_6 rfl (lv_at hl 3 rfl) ?_
  refine zx_call (vx_runV (As := [.int p0, .int p1, .int p2]) (rest := [.int 0, .ref oa]) ⟨hx, hb, hml, hown, hw⟩ (c_X5_order l hst D sa ad _ p0 p1 p2) (cwV 3 hw (zg4 zm_1082 zm_1083 zm_1084 zm_45 zm_1085) rfl rfl rfl (by decide +kernel) ⟨Nat.le_of_ble_eq_true rfl, Nat.le_of_ble_eq_true rfl⟩) ⟨zR_blind, va_recv hK hP (ci := 10) (q0 := 0) rfl rfl, zR_pre hP hK hT hZ hS hA⟩ rfl rfl hl.1 rfl (lv_room (Nat.le_of_ble_eq_true rfl)) dL_order_7 ⟨Nat.le_of_ble_eq_true rfl, Nat.le_of_ble_eq_true rfl⟩) hS (zN_fr hS hA) zN_in (fun E ce q9 u t H locs ht hvm hu hE hz1 hk1 hS hce hcv hcl => ?_)
  subst hE
  refine vx_catch hown [] ⟨0, 12, 15, 23⟩ (tableOf [(0, 12, 19, 13), (0, 12, 23, 15), (0, 12, 27, 17)]) htab (fun z hz => absurd hz List.not_mem_nil) (by decide) (by decide) (hw _ zm_487) (hT.c 3 rfl) hce hcv hcl ?_
  refine lv_astore (lv' := [(5, .ref q9), (0, .ref (ad 0)), (1, .int p0), (2, .int p1), (3, .int p2), (4, .ref oa)]) hx hb dL_order_15 hl (by decide) rfl (fun ls hl => ?_)
  refine lv_iconst (v := 1) hx hb dL_order_17 (by decide) ?_
  refine vx_ret ?_
  exact W.iret (v := 1) hx hb hr (fun t ht hW => ⟨⟨1, (), rfl, rfl, trivial⟩, hS.F ht⟩) hS.2.2 dL_order_18
theorem dX9_order_0 : decode cX9_order 0 = .ok (.aload_n 0, 1) := by decide +kernel
theorem dX9_order_1 : decode cX9_order 1 = .ok (.aload_n 0, 1) := by decide +kernel
theorem dX9_order_2 : decode cX9_order 2 = .ok (.iload_n 1, 1) := by decide +kernel
theorem dX9_order_3 : decode cX9_order 3 = .ok (.invokevirtual 118, 3) := by decide +kernel
theorem dX9_order_6 : decode cX9_order 6 = .ok (.iconst 1, 1) := by decide +kernel
theorem dX9_order_7 : decode cX9_order 7 = .ok (.invokevirtual 51, 3) := by decide +kernel
theorem dX9_order_10 : decode cX9_order 10 = .ok (.ifCond .ne 50, 3) := by decide +kernel
theorem dX9_order_60 : decode cX9_order 60 = .ok (.iconst 0, 1) := by decide +kernel
theorem dX9_order_61 : decode cX9_order 61 = .ok (.ireturn, 1) := by decide +kernel
set_option maxHeartbeats 4000000 in
set_option maxRecDepth 100000 in
theorem c_X9_order (l : Launch) (D : va_G) (sa : Nat → Nat) (ea : Nat) (bd : Nat → Nat) (th : Int32) (sz : Nat) (p0 : Int32) (p1 : Int32) (p2 : Int32) : Met l yX9_order ((Cond.code yX9_order prog_8_method_54_code 5 (Option.some FieldType.int)) :: WA) ({ frames := 2, cells := 0, slots := 0, locals := 43 }) (zW D sa ea [] (zM bd th) [.ref (bd 0), .int p0, .int p1, .int p2] sz) (va_Qi (fun (r : Int32) (_ : Unit) => r = 0) (fun _ t => va_P D vwCl [((bd 0), .inr (14, [.ref (bd 1), .ref (bd 2), .ref (bd 3), .ref (bd 4), .ref (bd 5), .ref (bd 6), .int 100, .int (-1), .int 0, .int 1])), ((bd 1), .inr (4, [.int 0, .ref (bd 7), .int 0])), ((bd 2), .inr (4, [.int 0, .ref (bd 7), .int 0])), ((bd 3), .inr (4, [.int 0, .ref (bd 7), .int 0])), ((bd 4), .inr (4, [.int 0, .ref (bd 7), .int 0])), ((bd 5), .inr (4, [.int 0, .ref (bd 7), .int 0])), ((bd 6), .inr (4, [.int 0, .ref (bd 7), .int 0]))] t.heap ∧ va_D (va_A (zM bd th) sz) [((bd 0), .inr (14, [.ref (bd 1), .ref (bd 2), .ref (bd 3), .ref (bd 4), .ref (bd 5), .ref (bd 6), .int 100, .int (-1), .int 0, .int 1])), ((bd 1), .inr (4, [.int 0, .ref (bd 7), .int 0])), ((bd 2), .inr (4, [.int 0, .ref (bd 7), .int 0])), ((bd 3), .inr (4, [.int 0, .ref (bd 7), .int 0])), ((bd 4), .inr (4, [.int 0, .ref (bd 7), .int 0])), ((bd 5), .inr (4, [.int 0, .ref (bd 7), .int 0])), ((bd 6), .inr (4, [.int 0, .ref (bd 7), .int 0]))]) (va_A (zM bd th) sz)) 0 0 (va_A (zM bd th) sz) := by
  refine Met.ofW (cc := prog_8_method_54_code) (maxL := 5) (ret := (Option.some FieldType.int)) (by decide) rfl ?_
  intro p e s m args below meth c s₁ B hml hv
  obtain ⟨rfl, hsz, hP, hK, hD0, hT, hE⟩ := hv
  have hx := B.exec
  have hb := B.bytes
  have hr := B.returns
  have hts := atoms_spec (ws := (Cond.code yX9_order prog_8_method_54_code 5 (Option.some FieldType.int)) :: WA) B.pre
  have hw : ∀ w ∈ WA, w.before _ s = true := fun w h => hts w (List.mem_cons_of_mem _ h)
  have hown : s.vm.findClass RX9 = some m.cls := findClass_of_methodNamed B.named
  have hlocks := B.notSynchronized
  subst hsz
  have hD := hD0.self (sz := s.heap.size)
  generalize hAe : va_A (zM bd th) s.heap.size = A at hD hE ⊢
  have hA : ∀ q : Nat, s.heap.size ≤ q → A q := fun q h => by rw [← hAe]; exact Or.inr h
  have hS : va_S A s.heap s.heap [] := va_S.rf
  have hP : va_P D vwCl [((bd 0), .inr (14, [.ref (bd 1), .ref (bd 2), .ref (bd 3), .ref (bd 4), .ref (bd 5), .ref (bd 6), .int 100, .int (-1), .int 0, .int th])), ((bd 1), .inr (4, [.int 0, .ref (bd 7), .int 0])), ((bd 2), .inr (4, [.int 0, .ref (bd 7), .int 0])), ((bd 3), .inr (4, [.int 0, .ref (bd 7), .int 0])), ((bd 4), .inr (4, [.int 0, .ref (bd 7), .int 0])), ((bd 5), .inr (4, [.int 0, .ref (bd 7), .int 0])), ((bd 6), .inr (4, [.int 0, .ref (bd 7), .int 0]))] s.heap := hP
  have hD : va_D A [((bd 0), .inr (14, [.ref (bd 1), .ref (bd 2), .ref (bd 3), .ref (bd 4), .ref (bd 5), .ref (bd 6), .int 100, .int (-1), .int 0, .int th])), ((bd 1), .inr (4, [.int 0, .ref (bd 7), .int 0])), ((bd 2), .inr (4, [.int 0, .ref (bd 7), .int 0])), ((bd 3), .inr (4, [.int 0, .ref (bd 7), .int 0])), ((bd 4), .inr (4, [.int 0, .ref (bd 7), .int 0])), ((bd 5), .inr (4, [.int 0, .ref (bd 7), .int 0])), ((bd 6), .inr (4, [.int 0, .ref (bd 7), .int 0]))] := hD
  have hl := lv_entry [.ref (bd 0), .int p0, .int p1, .int p2] (n := 5) (Nat.le_of_ble_eq_true rfl)
  rw [lg_entry_eq]
  generalize (lg_sl [.ref (bd 0), .int p0, .int p1, .int p2] ++ List.replicate (5 - (lg_sl [.ref (bd 0), .int p0, .int p1, .int p2]).length) Slot.unset).toArray = ls at hl ⊢
  have hl : lv_has ls 5 [(0, .ref (bd 0)), (1, .int p0), (2, .int p1), (3, .int p2)] := hl
  refine lv_aload_n hx hb dX9_order_0 rfl (lv_at hl 0 rfl) ?_
  refine lv_aload_n hx hb dX9_order_1 rfl (lv_at hl 0 rfl) ?_
  refine lv_iload_n hx hb dX9_order_2 rfl (lv_at hl 1 rfl) ?_
  refine va_calli (va_runV (As := [.int p0]) (rest := [.ref (bd 0)]) ⟨hx, hb, hml, hown, hw⟩ (c_X9_isSett l D sa bd th _ p0) (cwV 1 hw (zg4 zm_1521 zm_1523 zm_29 zm_53 zm_1524) rfl rfl rfl (by decide +kernel) ⟨Nat.le_of_ble_eq_true rfl, Nat.le_of_ble_eq_true rfl⟩) ⟨zJ_blind, va_recv hK hP (ci := 14) (q0 := 0) rfl rfl, zJ_pre hP hK hT⟩ rfl rfl hl.1 rfl (lv_room (Nat.le_of_ble_eq_true rfl)) dX9_order_3 ⟨Nat.le_of_ble_eq_true rfl, Nat.le_of_ble_eq_true rfl⟩) hS zN_in (zN_fr hS hA) (fun r_1 u t H locs ht hvm hw1 hB hz1 hk1 hS => ?_)
  have hP := zN_keep hP hk1
  subst hw1
  refine lv_iconst (v := 1) hx hb dX9_order_6 (by decide) ?_
  have hFc := va_free (wc := [((bd 0), .inr (14, [.ref (bd 1), .ref (bd 2), .ref (bd 3), .ref (bd 4), .ref (bd 5), .ref (bd 6), .int 100, .int (-1), .int 0, .int th])), ((bd 1), .inr (4, [.int 0, .ref (bd 7), .int 0])), ((bd 2), .inr (4, [.int 0, .ref (bd 7), .int 0])), ((bd 3), .inr (4, [.int 0, .ref (bd 7), .int 0])), ((bd 4), .inr (4, [.int 0, .ref (bd 7), .int 0])), ((bd 5), .inr (4, [.int 0, .ref (bd 7), .int 0])), ((bd 6), .inr (4, [.int 0, .ref (bd 7), .int 0]))]) hD hS hA [0, 1, 2, 3, 4, 5, 6] rfl
  refine va_calli (va_runV (As := [.int 0, .int 1]) (rest := []) ⟨hx, hb, hml, hown, hw⟩ (c_X9_no0 l D sa ea bd th _ 1) (cwV 2 hw (zg4 zm_1314 zm_1316 zm_26 zm_53 zm_1317) rfl rfl rfl (by decide +kernel) ⟨Nat.le_of_ble_eq_true rfl, Nat.le_of_ble_eq_true rfl⟩) ⟨zW_blind, va_recv hK hP (ci := 14) (q0 := 0) rfl rfl, zW_pre hP hK hD hT hE hS hFc⟩ rfl rfl hl.1 rfl (lv_room (Nat.le_of_ble_eq_true rfl)) dX9_order_7 ⟨Nat.le_of_ble_eq_true rfl, Nat.le_of_ble_eq_true rfl⟩) hS (fun q _ h => hFc q h) hFc (fun r_2 u t H locs ht hvm hw1 hB hz1 hk1 hS => ?_)
  subst hw1
  obtain ⟨hP1, hD1⟩ := hB
  rw [ht] at hP1
  obtain ⟨hP, hD⟩ := va_join (wr := []) (w1 := [((bd 0), .inr (14, [.ref (bd 1), .ref (bd 2), .ref (bd 3), .ref (bd 4), .ref (bd 5), .ref (bd 6), .int 100, .int (-1), .int 0, .int 1])), ((bd 1), .inr (4, [.int 0, .ref (bd 7), .int 0])), ((bd 2), .inr (4, [.int 0, .ref (bd 7), .int 0])), ((bd 3), .inr (4, [.int 0, .ref (bd 7), .int 0])), ((bd 4), .inr (4, [.int 0, .ref (bd 7), .int 0])), ((bd 5), .inr (4, [.int 0, .ref (bd 7), .int 0])), ((bd 6), .inr (4, [.int 0, .ref (bd 7), .int 0]))]) hP hD [0, 1, 2, 3, 4, 5, 6] [] rfl rfl (by decide) (by decide) hk1 hFc hP1 hD1
  have hP : va_P D vwCl [((bd 0), .inr (14, [.ref (bd 1), .ref (bd 2), .ref (bd 3), .ref (bd 4), .ref (bd 5), .ref (bd 6), .int 100, .int (-1), .int 0, .int 1])), ((bd 1), .inr (4, [.int 0, .ref (bd 7), .int 0])), ((bd 2), .inr (4, [.int 0, .ref (bd 7), .int 0])), ((bd 3), .inr (4, [.int 0, .ref (bd 7), .int 0])), ((bd 4), .inr (4, [.int 0, .ref (bd 7), .int 0])), ((bd 5), .inr (4, [.int 0, .ref (bd 7), .int 0])), ((bd 6), .inr (4, [.int 0, .ref (bd 7), .int 0]))] H := hP
  have hD : va_D A [((bd 0), .inr (14, [.ref (bd 1), .ref (bd 2), .ref (bd 3), .ref (bd 4), .ref (bd 5), .ref (bd 6), .int 100, .int (-1), .int 0, .int 1])), ((bd 1), .inr (4, [.int 0, .ref (bd 7), .int 0])), ((bd 2), .inr (4, [.int 0, .ref (bd 7), .int 0])), ((bd 3), .inr (4, [.int 0, .ref (bd 7), .int 0])), ((bd 4), .inr (4, [.int 0, .ref (bd 7), .int 0])), ((bd 5), .inr (4, [.int 0, .ref (bd 7), .int 0])), ((bd 6), .inr (4, [.int 0, .ref (bd 7), .int 0]))] := hD
  refine lv_if_ne (tgt := 60) hx hb dX9_order_10 (by decide) (fun _ => ?_) (fun c_3 => absurd c_3 (by decide))
  refine lv_iconst (v := 0) hx hb dX9_order_60 (by decide) ?_
  have hP9 := hP.sub (ws' := [((bd 0), .inr (14, [.ref (bd 1), .ref (bd 2), .ref (bd 3), .ref (bd 4), .ref (bd 5), .ref (bd 6), .int 100, .int (-1), .int 0, .int 1])), ((bd 1), .inr (4, [.int 0, .ref (bd 7), .int 0])), ((bd 2), .inr (4, [.int 0, .ref (bd 7), .int 0])), ((bd 3), .inr (4, [.int 0, .ref (bd 7), .int 0])), ((bd 4), .inr (4, [.int 0, .ref (bd 7), .int 0])), ((bd 5), .inr (4, [.int 0, .ref (bd 7), .int 0])), ((bd 6), .inr (4, [.int 0, .ref (bd 7), .int 0]))]) [0, 1, 2, 3, 4, 5, 6] rfl
  have hD9 := hD.sub (ws' := [((bd 0), .inr (14, [.ref (bd 1), .ref (bd 2), .ref (bd 3), .ref (bd 4), .ref (bd 5), .ref (bd 6), .int 100, .int (-1), .int 0, .int 1])), ((bd 1), .inr (4, [.int 0, .ref (bd 7), .int 0])), ((bd 2), .inr (4, [.int 0, .ref (bd 7), .int 0])), ((bd 3), .inr (4, [.int 0, .ref (bd 7), .int 0])), ((bd 4), .inr (4, [.int 0, .ref (bd 7), .int 0])), ((bd 5), .inr (4, [.int 0, .ref (bd 7), .int 0])), ((bd 6), .inr (4, [.int 0, .ref (bd 7), .int 0]))]) [0, 1, 2, 3, 4, 5, 6] (by decide) rfl
  refine W.widen (k := 0) (n := 0) (Nat.le_of_ble_eq_true rfl) (Nat.le_of_ble_eq_true rfl) ?_
  exact W.iret (v := 0) hx hb hr (fun t ht hW => ⟨⟨0, (), rfl, rfl, by rw [ht]; exact hP9, hD9⟩, hS.F ht⟩) hS.2.2 dX9_order_61
