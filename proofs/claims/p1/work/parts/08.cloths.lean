theorem dX5_getShare_0 : decode cX5_getShare 0 = .ok (.aload_n 0, 1) := by decide +kernel
theorem dX5_getShare_1 : decode cX5_getShare 1 = .ok (.iload_n 1, 1) := by decide +kernel
theorem dX5_getShare_2 : decode cX5_getShare 2 = .ok (.invokevirtual 137, 3) := by decide +kernel
set_option maxHeartbeats 4000000 in
set_option maxRecDepth 100000 in
theorem c_X5_getShare (l : Launch) (hst : l.stackTraces = false) (D : va_G) (sa : Nat → Nat) (ad : Nat → Nat) (sz : Nat) (p0 : Int32) (p1 : Int32) : vx_Met l yX5_getShare ((Cond.code yX5_getShare prog_1_method_17_code 4 (Option.some FieldType.int)) :: WA) ({ frames := 7, cells := 1, slots := 6, locals := 103 }) (zR D sa (zX ad) [.ref (ad 0), .int p0, .int p1] sz) zF (zXC "java/lang/IndexOutOfBoundsException" sz) 1 6 (zN sz) := by
  refine vx_ofW (cc := prog_1_method_17_code) (maxL := 4) (ret := (Option.some FieldType.int)) (by decide) rfl ?_
  intro p e s m args below meth c s₁ B hml hnt hv
  obtain ⟨rfl, hsz, hP, hK, hT, hZ⟩ := hv
  have hx := B.exec
  have hb := B.bytes
  have hr := B.returns
  have hts := atoms_spec (ws := (Cond.code yX5_getShare prog_1_method_17_code 4 (Option.some FieldType.int)) :: WA) B.pre
  have hw : ∀ w ∈ WA, w.before _ s = true := fun w h => hts w (List.mem_cons_of_mem _ h)
  have hown : s.vm.findClass RX5 = some m.cls := findClass_of_methodNamed B.named
  have hlocks := B.notSynchronized
  subst hsz
  have hA : ∀ q : Nat, s.heap.size ≤ q → zN s.heap.size q := fun _ h => h
  have hS : va_S (zN s.heap.size) s.heap s.heap [] := va_S.rf
  have hP : va_P D vwCl [((ad 0), .inr (10, [.ref (ad 1), .ref (ad 2), .ref (ad 3), .ref (ad 4), .ref (ad 5), .int (-1), .int 100, .int 0, .int 0])), ((ad 1), .inr (7, [.ref (ad 6), .ref (ad 7), .ref (ad 8), .int 0])), ((ad 2), .inr (8, [.ref (ad 9), .ref (ad 10), .int 0])), ((ad 3), .inr (4, [.int 0, .ref (ad 14), .int 0])), ((ad 4), .inr (4, [.int 0, .ref (ad 14), .int 0])), ((ad 5), .inr (6, [.ref (ad 11), .ref (ad 12), .ref (ad 13), .int 0, .int 0]))] s.heap := hP
  have hl := lv_entry [.ref (ad 0), .int p0, .int p1] (n := 4) (Nat.le_of_ble_eq_true rfl)
  rw [lg_entry_eq]
  generalize (lg_sl [.ref (ad 0), .int p0, .int p1] ++ List.replicate (4 - (lg_sl [.ref (ad 0), .int p0, .int p1]).length) Slot.unset).toArray = ls at hl ⊢
  have hl : lv_has ls 4 [(0, .ref (ad 0)), (1, .int p0), (2, .int p1)] := hl
  refine lv_aload_n hx hb dX5_getShare_0 rfl (lv_at hl 0 rfl) ?_
  refine lv_iload_n hx hb dX5_getShare_1 rfl (lv_at hl 1 rfl) ?_
  refine zx_call (vx_runV (As := [.int p0]) (rest := []) ⟨hx, hb, hml, hown, hw⟩ (c_X5_settAt l hst D sa ad _ p0) (cwV 1 hw (zg4 zm_751 zm_753 zm_15 zm_45 zm_754) rfl rfl rfl (by decide +kernel) ⟨Nat.le_of_ble_eq_true rfl, Nat.le_of_ble_eq_true rfl⟩) ⟨zR_blind, va_recv hK hP (ci := 10) (q0 := 0) rfl rfl, zR_pre hP hK hT hZ hS hA⟩ rfl rfl hl.1 rfl (lv_room (Nat.le_of_ble_eq_true rfl)) dX5_getShare_2 ⟨Nat.le_of_ble_eq_true rfl, Nat.le_of_ble_eq_true rfl⟩) hS (zN_fr hS hA) zN_in (fun E ce q9 u t H locs ht hvm hu hE hz1 hk1 hS hce hcv hcl => ?_)
  exact vx_out (fun x hx9 => (hnt x hx9).elim) hlocks hce hcv hcl (fun t ht _ => ⟨(), trivial, hE, hS.F ht⟩) (fun z hz => hS.2.2 z hz) (Nat.le_of_ble_eq_true rfl) (Nat.le_of_ble_eq_true rfl)
theorem dL_getShare_0 : decode cL_getShare 0 = .ok (.aload_n 3, 1) := by decide +kernel
theorem dL_getShare_1 : decode cL_getShare 1 = .ok (.iconst 0, 1) := by decide +kernel
theorem dL_getShare_2 : decode cL_getShare 2 = .ok (.aload_n 0, 1) := by decide +kernel
theorem dL_getShare_3 : decode cL_getShare 3 = .ok (.iload_n 1, 1) := by decide +kernel
theorem dL_getShare_4 : decode cL_getShare 4 = .ok (.iload_n 2, 1) := by decide +kernel
theorem dL_getShare_5 : decode cL_getShare 5 = .ok (.invokevirtual 67, 3) := by decide +kernel
theorem zm_849 : Cond.methodLink RL 67 yX5_getShare ∈ WA := zmm (i := 849) (by decide +kernel) (by decide +kernel)
theorem zm_850 : Cond.instanceMethod yX5_getShare ∈ WA := zmm (i := 850) (by decide +kernel) (by decide +kernel)
theorem zm_851 : Cond.selects RX5 yX5_getShare yX5_getShare ∈ WA := zmm (i := 851) (by decide +kernel) (by decide +kernel)
theorem zm_852 : Cond.code yX5_getShare prog_1_method_17_code 4 (Option.some FieldType.int) ∈ WA := zmm (i := 852) (by decide +kernel) (by decide +kernel)
theorem dL_getShare_13 : decode cL_getShare 13 = .ok (.astore 4, 2) := by decide +kernel
theorem dL_getShare_15 : decode cL_getShare 15 = .ok (.iconst 1, 1) := by decide +kernel
theorem dL_getShare_16 : decode cL_getShare 16 = .ok (.ireturn, 1) := by decide +kernel
set_option maxHeartbeats 4000000 in
set_option maxRecDepth 100000 in
theorem c_L_getShare (l : Launch) (hst : l.stackTraces = false) (D : va_G) (sa : Nat → Nat) (ad : Nat → Nat) (sz : Nat) (p0 : Int32) (p1 : Int32) (oa : Nat) : vx_Met l yL_getShare ((Cond.codeWith yL_getShare method_17_code 5 (Option.some FieldType.int) [(0, 10, 13, 23)]) :: WA) ({ frames := 8, cells := 1, slots := 6, locals := 126 }) (zR D sa (zX ad) [.ref (ad 0), .int p0, .int p1, .ref oa] sz) (va_Qi (fun (r : Int32) (_ : Unit) => r = 1) (fun _ _ => True) (zN sz)) (zX0 sz) 1 6 (zN sz) := by
  refine vx_ofWH (cc := method_17_code) (maxL := 5) (ret := (Option.some FieldType.int)) (hh := [(0, 10, 13, 23)]) (by decide) rfl ?_
  intro p e s m args below meth c s₁ B hml hv
  obtain ⟨rfl, hsz, hP, hK, hT, hZ⟩ := hv
  have hx := B.exec
  have hb := B.bytes
  have hr := B.returns
  have hts := atoms_spec (ws := (Cond.codeWith yL_getShare method_17_code 5 (Option.some FieldType.int) [(0, 10, 13, 23)]) :: WA) B.pre
  have hw : ∀ w ∈ WA, w.before _ s = true := fun w h => hts w (List.mem_cons_of_mem _ h)
  have htab := vx_table (x := yL_getShare) B (hts _ List.mem_cons_self)
  have hown : s.vm.findClass RL = some m.cls := findClass_of_methodNamed B.named
  have hlocks := B.notSynchronized
  subst hsz
  have hA : ∀ q : Nat, s.heap.size ≤ q → zN s.heap.size q := fun _ h => h
  have hS : va_S (zN s.heap.size) s.heap s.heap [] := va_S.rf
  have hP : va_P D vwCl [((ad 0), .inr (10, [.ref (ad 1), .ref (ad 2), .ref (ad 3), .ref (ad 4), .ref (ad 5), .int (-1), .int 100, .int 0, .int 0])), ((ad 1), .inr (7, [.ref (ad 6), .ref (ad 7), .ref (ad 8), .int 0])), ((ad 2), .inr (8, [.ref (ad 9), .ref (ad 10), .int 0])), ((ad 3), .inr (4, [.int 0, .ref (ad 14), .int 0])), ((ad 4), .inr (4, [.int 0, .ref (ad 14), .int 0])), ((ad 5), .inr (6, [.ref (ad 11), .ref (ad 12), .ref (ad 13), .int 0, .int 0]))] s.heap := hP
  have hl := lv_entry [.ref (ad 0), .int p0, .int p1, .ref oa] (n := 5) (Nat.le_of_ble_eq_true rfl)
  rw [lg_entry_eq]
  generalize (lg_sl [.ref (ad 0), .int p0, .int p1, .ref oa] ++ List.replicate (5 - (lg_sl [.ref (ad 0), .int p0, .int p1, .ref oa]).length) Slot.unset).toArray = ls at hl ⊢
  have hl : lv_has ls 5 [(0, .ref (ad 0)), (1, .int p0), (2, .int p1), (3, .ref oa)] := hl
  refine lv_aload_n hx hb dL_getShare_0 rfl (lv_at hl 3 rfl) ?_
  refine lv_iconst (v := 0) hx hb dL_getShare_1 (by decide) ?_
  refine lv_aload_n hx hb dL_getShare_2 rfl (lv_at hl 0 rfl) ?_
  refine lv_iload_n hx hb dL_getShare_3 rfl (lv_at hl 1 rfl) ?_
  refine lv_iload_n hx hb dL_getShare_4 rfl (lv_at hl 2 rfl) ?_
  refine zx_call (vx_runV (As := [.int p0, .int p1]) (rest := [.int 0, .ref oa]) ⟨hx, hb, hml, hown, hw⟩ (c_X5_getShare l hst D sa ad _ p0 p1) (cwV 2 hw (zg4 zm_849 zm_850 zm_851 zm_45 zm_852) rfl rfl rfl (by decide +kernel) ⟨Nat.le_of_ble_eq_true rfl, Nat.le_of_ble_eq_true rfl⟩) ⟨zR_blind, va_recv hK hP (ci := 10) (q0 := 0) rfl rfl, zR_pre hP hK hT hZ hS hA⟩ rfl rfl hl.1 rfl (lv_room (Nat.le_of_ble_eq_true rfl)) dL_getShare_5 ⟨Nat.le_of_ble_eq_true rfl, Nat.le_of_ble_eq_true rfl⟩) hS (zN_fr hS hA) zN_in (fun E ce q9 u t H locs ht hvm hu hE hz1 hk1 hS hce hcv hcl => ?_)
  subst hE
  refine vx_catch hown [] ⟨0, 10, 13, 23⟩ (tableOf []) htab (fun z hz => absurd hz List.not_mem_nil) (by decide) (by decide) (hw _ zm_487) (hT.c 3 rfl) hce hcv hcl ?_
  refine lv_astore (lv' := [(4, .ref q9), (0, .ref (ad 0)), (1, .int p0), (2, .int p1), (3, .ref oa)]) hx hb dL_getShare_13 hl (by decide) rfl (fun ls hl => ?_)
  refine lv_iconst (v := 1) hx hb dL_getShare_15 (by decide) ?_
  refine vx_ret ?_
  exact W.iret (v := 1) hx hb hr (fun t ht hW => ⟨⟨1, (), rfl, rfl, trivial⟩, hS.F ht⟩) hS.2.2 dL_getShare_16
theorem dX9_getShare_0 : decode cX9_getShare 0 = .ok (.aload_n 0, 1) := by decide +kernel
theorem dX9_getShare_1 : decode cX9_getShare 1 = .ok (.aload_n 0, 1) := by decide +kernel
theorem dX9_getShare_2 : decode cX9_getShare 2 = .ok (.iload_n 1, 1) := by decide +kernel
theorem dX9_getShare_3 : decode cX9_getShare 3 = .ok (.invokevirtual 118, 3) := by decide +kernel
theorem dX9_getShare_6 : decode cX9_getShare 6 = .ok (.ifCond .eq 15, 3) := by decide +kernel
theorem dX9_getShare_21 : decode cX9_getShare 21 = .ok (.iconst 0, 1) := by decide +kernel
theorem dX9_getShare_22 : decode cX9_getShare 22 = .ok (.iconst 1, 1) := by decide +kernel
theorem dX9_getShare_23 : decode cX9_getShare 23 = .ok (.invokevirtual 51, 3) := by decide +kernel
theorem dX9_getShare_26 : decode cX9_getShare 26 = .ok (.ifCond .eq 5, 3) := by decide +kernel
theorem dX9_getShare_29 : decode cX9_getShare 29 = .ok (.iconst 0, 1) := by decide +kernel
theorem dX9_getShare_30 : decode cX9_getShare 30 = .ok (.ireturn, 1) := by decide +kernel
set_option maxHeartbeats 4000000 in
set_option maxRecDepth 100000 in
theorem c_X9_getShare (l : Launch) (D : va_G) (sa : Nat → Nat) (ea : Nat) (bd : Nat → Nat) (th : Int32) (sz : Nat) (p0 : Int32) (p1 : Int32) : Met l yX9_getShare ((Cond.code yX9_getShare prog_8_method_27_code 6 (Option.some FieldType.int)) :: WA) ({ frames := 2, cells := 0, slots := 0, locals := 43 }) (zW D sa ea [] (zM bd th) [.ref (bd 0), .int p0, .int p1] sz) (va_Qi (fun (r : Int32) (_ : Unit) => r = 0) (fun _ t => va_P D vwCl [((bd 0), .inr (14, [.ref (bd 1), .ref (bd 2), .ref (bd 3), .ref (bd 4), .ref (bd 5), .ref (bd 6), .int 100, .int (-1), .int 0, .int 1])), ((bd 1), .inr (4, [.int 0, .ref (bd 7), .int 0])), ((bd 2), .inr (4, [.int 0, .ref (bd 7), .int 0])), ((bd 3), .inr (4, [.int 0, .ref (bd 7), .int 0])), ((bd 4), .inr (4, [.int 0, .ref (bd 7), .int 0])), ((bd 5), .inr (4, [.int 0, .ref (bd 7), .int 0])), ((bd 6), .inr (4, [.int 0, .ref (bd 7), .int 0]))] t.heap ∧ va_D (va_A (zM bd th) sz) [((bd 0), .inr (14, [.ref (bd 1), .ref (bd 2), .ref (bd 3), .ref (bd 4), .ref (bd 5), .ref (bd 6), .int 100, .int (-1), .int 0, .int 1])), ((bd 1), .inr (4, [.int 0, .ref (bd 7), .int 0])), ((bd 2), .inr (4, [.int 0, .ref (bd 7), .int 0])), ((bd 3), .inr (4, [.int 0, .ref (bd 7), .int 0])), ((bd 4), .inr (4, [.int 0, .ref (bd 7), .int 0])), ((bd 5), .inr (4, [.int 0, .ref (bd 7), .int 0])), ((bd 6), .inr (4, [.int 0, .ref (bd 7), .int 0]))]) (va_A (zM bd th) sz)) 0 0 (va_A (zM bd th) sz) := by
  refine Met.ofW (cc := prog_8_method_27_code) (maxL := 6) (ret := (Option.some FieldType.int)) (by decide) rfl ?_
  intro p e s m args below meth c s₁ B hml hv
  obtain ⟨rfl, hsz, hP, hK, hD0, hT, hE⟩ := hv
  have hx := B.exec
  have hb := B.bytes
  have hr := B.returns
  have hts := atoms_spec (ws := (Cond.code yX9_getShare prog_8_method_27_code 6 (Option.some FieldType.int)) :: WA) B.pre
  have hw : ∀ w ∈ WA, w.before _ s = true := fun w h => hts w (List.mem_cons_of_mem _ h)
  have hown : s.vm.findClass RX9 = some m.cls := findClass_of_methodNamed B.named
  have hlocks := B.notSynchronized
  subst hsz
  have hD := hD0.self (sz := s.heap.size)
  generalize hAe : va_A (zM bd th) s.heap.size = A at hD hE ⊢
  have hA : ∀ q : Nat, s.heap.size ≤ q → A q := fun q h => by rw [← hAe]; exact Or.inr h
  have hS : va_S A s.heap s.heap [] := va_S.rf
  have hP : va_P D vwCl [((bd 0), .inr (14, [.ref (bd 1), .ref (bd 2), .ref (bd 3), .ref (bd 4), .ref (bd 5), .ref (bd 6), .int 100, .int (-1), .int 0, .int th])), ((bd 1), .inr (4, [.int 0, .ref (bd 7), .int 0])), ((bd 2), .inr (4, [.int 0, .ref (bd 7), .int 0])), ((bd 3), .inr (4, [.int 0, .ref (bd 7), .int 0])), ((bd 4), .inr (4, [.int 0, .ref (bd 7), .int 0])), ((bd 5), .inr (4, [.int 0, .ref (bd 7), .int 0])), ((bd 6), .inr (4, [.int 0, .ref (bd 7), .int 0]))] s.heap := hP
  have hD : va_D A [((bd 0), .inr (14, [.ref (bd 1), .ref (bd 2), .ref (bd 3), .ref (bd 4), .ref (bd 5), .ref (bd 6), .int 100, .int (-1), .int 0, .int th])), ((bd 1), .inr (4, [.int 0, .ref (bd 7), .int 0])), ((bd 2), .inr (4, [.int 0, .ref (bd 7), .int 0])), ((bd 3), .inr (4, [.int 0, .ref (bd 7), .int 0])), ((bd 4), .inr (4, [.int 0, .ref (bd 7), .int 0])), ((bd 5), .inr (4, [.int 0, .ref (bd 7), .int 0])), ((bd 6), .inr (4, [.int 0, .ref (bd 7), .int 0]))] := hD
  have hl := lv_entry [.ref (bd 0), .int p0, .int p1] (n := 6) (Nat.le_of_ble_eq_true rfl)
  rw [lg_entry_eq]
  generalize (lg_sl [.ref (bd 0), .int p0, .int p1] ++ List.replicate (6 - (lg_sl [.ref (bd 0), .int p0, .int p1]).length) Slot.unset).toArray = ls at hl ⊢
  have hl : lv_has ls 6 [(0, .ref (bd 0)), (1, .int p0), (2, .int p1)] := hl
  refine lv_aload_n hx hb dX9_getShare_0 rfl (lv_at hl 0 rfl) ?_
  refine lv_aload_n hx hb dX9_getShare_1 rfl (lv_at hl 0 rfl) ?_
  refine lv_iload_n hx hb dX9_getShare_2 rfl (lv_at hl 1 rfl) ?_
  refine va_calli (va_runV (As := [.int p0]) (rest := [.ref (bd 0)]) ⟨hx, hb, hml, hown, hw⟩ (c_X9_isSett l D sa bd th _ p0) (cwV 1 hw (zg4 zm_1521 zm_1523 zm_29 zm_53 zm_1524) rfl rfl rfl (by decide +kernel) ⟨Nat.le_of_ble_eq_true rfl, Nat.le_of_ble_eq_true rfl⟩) ⟨zJ_blind, va_recv hK hP (ci := 14) (q0 := 0) rfl rfl, zJ_pre hP hK hT⟩ rfl rfl hl.1 rfl (lv_room (Nat.le_of_ble_eq_true rfl)) dX9_getShare_3 ⟨Nat.le_of_ble_eq_true rfl, Nat.le_of_ble_eq_true rfl⟩) hS zN_in (zN_fr hS hA) (fun r_1 u t H locs ht hvm hw1 hB hz1 hk1 hS => ?_)
  have hP := zN_keep hP hk1
  subst hw1
  refine lv_if_eq (tgt := 21) hx hb dX9_getShare_6 (by decide) (fun _ => ?_) (fun c_2 => absurd (by decide) c_2)
  refine lv_iconst (v := 0) hx hb dX9_getShare_21 (by decide) ?_
  refine lv_iconst (v := 1) hx hb dX9_getShare_22 (by decide) ?_
  have hFc := va_free (wc := [((bd 0), .inr (14, [.ref (bd 1), .ref (bd 2), .ref (bd 3), .ref (bd 4), .ref (bd 5), .ref (bd 6), .int 100, .int (-1), .int 0, .int th])), ((bd 1), .inr (4, [.int 0, .ref (bd 7), .int 0])), ((bd 2), .inr (4, [.int 0, .ref (bd 7), .int 0])), ((bd 3), .inr (4, [.int 0, .ref (bd 7), .int 0])), ((bd 4), .inr (4, [.int 0, .ref (bd 7), .int 0])), ((bd 5), .inr (4, [.int 0, .ref (bd 7), .int 0])), ((bd 6), .inr (4, [.int 0, .ref (bd 7), .int 0]))]) hD hS hA [0, 1, 2, 3, 4, 5, 6] rfl
  refine va_calli (va_runV (As := [.int 0, .int 1]) (rest := []) ⟨hx, hb, hml, hown, hw⟩ (c_X9_no0 l D sa ea bd th _ 1) (cwV 2 hw (zg4 zm_1314 zm_1316 zm_26 zm_53 zm_1317) rfl rfl rfl (by decide +kernel) ⟨Nat.le_of_ble_eq_true rfl, Nat.le_of_ble_eq_true rfl⟩) ⟨zW_blind, va_recv hK hP (ci := 14) (q0 := 0) rfl rfl, zW_pre hP hK hD hT hE hS hFc⟩ rfl rfl hl.1 rfl (lv_room (Nat.le_of_ble_eq_true rfl)) dX9_getShare_23 ⟨Nat.le_of_ble_eq_true rfl, Nat.le_of_ble_eq_true rfl⟩) hS (fun q _ h => hFc q h) hFc (fun r_3 u t H locs ht hvm hw1 hB hz1 hk1 hS => ?_)
  subst hw1
  obtain ⟨hP1, hD1⟩ := hB
  rw [ht] at hP1
  obtain ⟨hP, hD⟩ := va_join (wr := []) (w1 := [((bd 0), .inr (14, [.ref (bd 1), .ref (bd 2), .ref (bd 3), .ref (bd 4), .ref (bd 5), .ref (bd 6), .int 100, .int (-1), .int 0, .int 1])), ((bd 1), .inr (4, [.int 0, .ref (bd 7), .int 0])), ((bd 2), .inr (4, [.int 0, .ref (bd 7), .int 0])), ((bd 3), .inr (4, [.int 0, .ref (bd 7), .int 0])), ((bd 4), .inr (4, [.int 0, .ref (bd 7), .int 0])), ((bd 5), .inr (4, [.int 0, .ref (bd 7), .int 0])), ((bd 6), .inr (4, [.int 0, .ref (bd 7), .int 0]))]) hP hD [0, 1, 2, 3, 4, 5, 6] [] rfl rfl (by decide) (by decide) hk1 hFc hP1 hD1
  have hP : va_P D vwCl [((bd 0), .inr (14, [.ref (bd 1), .ref (bd 2), .ref (bd 3), .ref (bd 4), .ref (bd 5), .ref (bd 6), .int 100, .int (-1), .int 0, .int 1])), ((bd 1), .inr (4, [.int 0, .ref (bd 7), .int 0])), ((bd 2), .inr (4, [.int 0, .ref (bd 7), .int 0])), ((bd 3), .inr (4, [.int 0, .ref (bd 7), .int 0])), ((bd 4), .inr (4, [.int 0, .ref (bd 7), .int 0])), ((bd 5), .inr (4, [.int 0, .ref (bd 7), .int 0])), ((bd 6), .inr (4, [.int 0, .ref (bd 7), .int 0]))] H := hP
  have hD : va_D A [((bd 0), .inr (14, [.ref (bd 1), .ref (bd 2), .ref (bd 3), .ref (bd 4), .ref (bd 5), .ref (bd 6), .int 100, .int (-1), .int 0, .int 1])), ((bd 1), .inr (4, [.int 0, .ref (bd 7), .int 0])), ((bd 2), .inr (4, [.int 0, .ref (bd 7), .int 0])), ((bd 3), .inr (4, [.int 0, .ref (bd 7), .int 0])), ((bd 4), .inr (4, [.int 0, .ref (bd 7), .int 0])), ((bd 5), .inr (4, [.int 0, .ref (bd 7), .int 0])), ((bd 6), .inr (4, [.int 0, .ref (bd 7), .int 0]))] := hD
  refine lv_if_eq (tgt := 31) hx hb dX9_getShare_26 (by decide) (fun c_4 => absurd c_4 (by decide)) (fun _ => ?_)
  refine lv_iconst (v := 0) hx hb dX9_getShare_29 (by decide) ?_
  have hP9 := hP.sub (ws' := [((bd 0), .inr (14, [.ref (bd 1), .ref (bd 2), .ref (bd 3), .ref (bd 4), .ref (bd 5), .ref (bd 6), .int 100, .int (-1), .int 0, .int 1])), ((bd 1), .inr (4, [.int 0, .ref (bd 7), .int 0])), ((bd 2), .inr (4, [.int 0, .ref (bd 7), .int 0])), ((bd 3), .inr (4, [.int 0, .ref (bd 7), .int 0])), ((bd 4), .inr (4, [.int 0, .ref (bd 7), .int 0])), ((bd 5), .inr (4, [.int 0, .ref (bd 7), .int 0])), ((bd 6), .inr (4, [.int 0, .ref (bd 7), .int 0]))]) [0, 1, 2, 3, 4, 5, 6] rfl
  have hD9 := hD.sub (ws' := [((bd 0), .inr (14, [.ref (bd 1), .ref (bd 2), .ref (bd 3), .ref (bd 4), .ref (bd 5), .ref (bd 6), .int 100, .int (-1), .int 0, .int 1])), ((bd 1), .inr (4, [.int 0, .ref (bd 7), .int 0])), ((bd 2), .inr (4, [.int 0, .ref (bd 7), .int 0])), ((bd 3), .inr (4, [.int 0, .ref (bd 7), .int 0])), ((bd 4), .inr (4, [.int 0, .ref (bd 7), .int 0])), ((bd 5), .inr (4, [.int 0, .ref (bd 7), .int 0])), ((bd 6), .inr (4, [.int 0, .ref (bd 7), .int 0]))]) [0, 1, 2, 3, 4, 5, 6] (by decide) rfl
  refine W.widen (k := 0) (n := 0) (Nat.le_of_ble_eq_true rfl) (Nat.le_of_ble_eq_true rfl) ?_
  exact W.iret (v := 0) hx hb hr (fun t ht hW => ⟨⟨0, (), rfl, rfl, by rw [ht]; exact hP9, hD9⟩, hS.F ht⟩) hS.2.2 dX9_getShare_30
theorem dX5_meanPart_0 : decode cX5_meanPart 0 = .ok (.aload_n 0, 1) := by decide +kernel
theorem dX5_meanPart_1 : decode cX5_meanPart 1 = .ok (.iload_n 1, 1) := by decide +kernel
theorem dX5_meanPart_2 : decode cX5_meanPart 2 = .ok (.invokevirtual 137, 3) := by decide +kernel
set_option maxHeartbeats 4000000 in
set_option maxRecDepth 100000 in
theorem c_X5_meanPart (l : Launch) (hst : l.stackTraces = false) (D : va_G) (sa : Nat → Nat) (ad : Nat → Nat) (sz : Nat) (p0 : Int32) (p1 : Int32) : vx_Met l yX5_meanPart ((Cond.code yX5_meanPart prog_1_method_18_code 6 (Option.some FieldType.int)) :: WA) ({ frames := 7, cells := 1, slots := 6, locals := 103 }) (zR D sa (zX ad) [.ref (ad 0), .int p0, .int p1] sz) zF (zXC "java/lang/IndexOutOfBoundsException" sz) 1 6 (zN sz) := by
  refine vx_ofW (cc := prog_1_method_18_code) (maxL := 6) (ret := (Option.some FieldType.int)) (by decide) rfl ?_
  intro p e s m args below meth c s₁ B hml hnt hv
  obtain ⟨rfl, hsz, hP, hK, hT, hZ⟩ := hv
  have hx := B.exec
  have hb := B.bytes
  have hr := B.returns
  have hts := atoms_spec (ws := (Cond.code yX5_meanPart prog_1_method_18_code 6 (Option.some FieldType.int)) :: WA) B.pre
  have hw : ∀ w ∈ WA, w.before _ s = true := fun w h => hts w (List.mem_cons_of_mem _ h)
  have hown : s.vm.findClass RX5 = some m.cls := findClass_of_methodNamed B.named
  have hlocks := B.notSynchronized
  subst hsz
  have hA : ∀ q : Nat, s.heap.size ≤ q → zN s.heap.size q := fun _ h => h
  have hS : va_S (zN s.heap.size) s.heap s.heap [] := va_S.rf
  have hP : va_P D vwCl [((ad 0), .inr (10, [.ref (ad 1), .ref (ad 2), .ref (ad 3), .ref (ad 4), .ref (ad 5), .int (-1), .int 100, .int 0, .int 0])), ((ad 1), .inr (7, [.ref (ad 6), .ref (ad 7), .ref (ad 8), .int 0])), ((ad 2), .inr (8, [.ref (ad 9), .ref (ad 10), .int 0])), ((ad 3), .inr (4, [.int 0, .ref (ad 14), .int 0])), ((ad 4), .inr (4, [.int 0, .ref (ad 14), .int 0])), ((ad 5), .inr (6, [.ref (ad 11), .ref (ad 12), .ref (ad 13), .int 0, .int 0]))] s.heap := hP
  have hl := lv_entry [.ref (ad 0), .int p0, .int p1] (n := 6) (Nat.le_of_ble_eq_true rfl)
  rw [lg_entry_eq]
  generalize (lg_sl [.ref (ad 0), .int p0, .int p1] ++ List.replicate (6 - (lg_sl [.ref (ad 0), .int p0, .int p1]).length) Slot.unset).toArray = ls at hl ⊢
  have hl : lv_has ls 6 [(0, .ref (ad 0)), (1, .int p0), (2, .int p1)] := hl
  refine lv_aload_n hx hb dX5_meanPart_0 rfl (lv_at hl 0 rfl) ?_
  refine lv_iload_n hx hb dX5_meanPart_1 rfl (lv_at hl 1 rfl) ?_
  refine zx_call (vx_runV (As := [.int p0]) (rest := []) ⟨hx, hb, hml, hown, hw⟩ (c_X5_settAt l hst D sa ad _ p0) (cwV 1 hw (zg4 zm_751 zm_753 zm_15 zm_45 zm_754) rfl rfl rfl (by decide +kernel) ⟨Nat.le_of_ble_eq_true rfl, Nat.le_of_ble_eq_true rfl⟩) ⟨zR_blind, va_recv hK hP (ci := 10) (q0 := 0) rfl rfl, zR_pre hP hK hT hZ hS hA⟩ rfl rfl hl.1 rfl (lv_room (Nat.le_of_ble_eq_true rfl)) dX5_meanPart_2 ⟨Nat.le_of_ble_eq_true rfl, Nat.le_of_ble_eq_true rfl⟩) hS (zN_fr hS hA) zN_in (fun E ce q9 u t H locs ht hvm hu hE hz1 hk1 hS hce hcv hcl => ?_)
  exact vx_out (fun x hx9 => (hnt x hx9).elim) hlocks hce hcv hcl (fun t ht _ => ⟨(), trivial, hE, hS.F ht⟩) (fun z hz => hS.2.2 z hz) (Nat.le_of_ble_eq_true rfl) (Nat.le_of_ble_eq_true rfl)
theorem dL_meanPart_0 : decode cL_meanPart 0 = .ok (.aload_n 3, 1) := by decide +kernel
theorem dL_meanPart_1 : decode cL_meanPart 1 = .ok (.iconst 0, 1) := by decide +kernel
theorem dL_meanPart_2 : decode cL_meanPart 2 = .ok (.aload_n 0, 1) := by decide +kernel
theorem dL_meanPart_3 : decode cL_meanPart 3 = .ok (.iload_n 1, 1) := by decide +kernel
theorem dL_meanPart_4 : decode cL_meanPart 4 = .ok (.iload_n 2, 1) := by decide +kernel
theorem dL_meanPart_5 : decode cL_meanPart 5 = .ok (.invokevirtual 70, 3) := by decide +kernel
theorem zm_861 : Cond.methodLink RL 70 yX5_meanPart ∈ WA := zmm (i := 861) (by decide +kernel) (by decide +kernel)
theorem zm_862 : Cond.instanceMethod yX5_meanPart ∈ WA := zmm (i := 862) (by decide +kernel) (by decide +kernel)
theorem zm_863 : Cond.selects RX5 yX5_meanPart yX5_meanPart ∈ WA := zmm (i := 863) (by decide +kernel) (by decide +kernel)
theorem zm_864 : Cond.code yX5_meanPart prog_1_method_18_code 6 (Option.some FieldType.int) ∈ WA := zmm (i := 864) (by decide +kernel) (by decide +kernel)
theorem dL_meanPart_13 : decode cL_meanPart 13 = .ok (.astore 4, 2) := by decide +kernel
theorem dL_meanPart_15 : decode cL_meanPart 15 = .ok (.iconst 1, 1) := by decide +kernel
theorem dL_meanPart_16 : decode cL_meanPart 16 = .ok (.ireturn, 1) := by decide +kernel
set_option maxHeartbeats 4000000 in
set_option maxRecDepth 100000 in
theorem c_L_meanPart (l : Launch) (hst : l.stackTraces = false) (D : va_G) (sa : Nat → Nat) (ad : Nat → Nat) (sz : Nat) (p0 : Int32) (p1 : Int32) (oa : Nat) : vx_Met l yL_meanPart ((Cond.codeWith yL_meanPart method_18_code 5 (Option.some FieldType.int) [(0, 10, 13, 23), (0, 10, 17, 13)]) :: WA) ({ frames := 8, cells := 1, slots := 6, locals := 128 }) (zR D sa (zX ad) [.ref (ad 0), .int p0, .int p1, .ref oa] sz) (va_Qi (fun (r : Int32) (_ : Unit) => r = 1) (fun _ _ => True) (zN sz)) (zX0 sz) 1 6 (zN sz) := by
  refine vx_ofWH (cc := method_18_code) (maxL := 5) (ret := (Option.some FieldType.int)) (hh := [(0, 10, 13, 23), (0, 10, 17, 13)]) (by decide) rfl ?_
  intro p e s m args below meth c s₁ B hml hv
  obtain ⟨rfl, hsz, hP, hK, hT, hZ⟩ := hv
  have hx := B.exec
  have hb := B.bytes
  have hr := B.returns
  have hts := atoms_spec (ws := (Cond.codeWith yL_meanPart method_18_code 5 (Option.some FieldType.int) [(0, 10, 13, 23), (0, 10, 17, 13)]) :: WA) B.pre
  have hw : ∀ w ∈ WA, w.before _ s = true := fun w h => hts w (List.mem_cons_of_mem _ h)
  have htab := vx_table (x := yL_meanPart) B (hts _ List.mem_cons_self)
  have hown : s.vm.findClass RL = some m.cls := findClass_of_methodNamed B.named
  have hlocks := B.notSynchronized
  subst hsz
  have hA : ∀ q : Nat, s.heap.size ≤ q → zN s.heap.size q := fun _ h => h
  have hS : va_S (zN s.heap.size) s.heap s.heap [] := va_S.rf
  have hP : va_P D vwCl [((ad 0), .inr (10, [.ref (ad 1), .ref (ad 2), .ref (ad 3), .ref (ad 4), .ref (ad 5), .int (-1), .int 100, .int 0, .int 0])), ((ad 1), .inr (7, [.ref (ad 6), .ref (ad 7), .ref (ad 8), .int 0])), ((ad 2), .inr (8, [.ref (ad 9), .ref (ad 10), .int 0])), ((ad 3), .inr (4, [.int 0, .ref (ad 14), .int 0])), ((ad 4), .inr (4, [.int 0, .ref (ad 14), .int 0])), ((ad 5), .inr (6, [.ref (ad 11), .ref (ad 12), .ref (ad 13), .int 0, .int 0]))] s.heap := hP
  have hl := lv_entry [.ref (ad 0), .int p0, .int p1, .ref oa] (n := 5) (Nat.le_of_ble_eq_true rfl)
  rw [lg_entry_eq]
  generalize (lg_sl [.ref (ad 0), .int p0, .int p1, .ref oa] ++ List.replicate (5 - (lg_sl [.ref (ad 0), .int p0, .int p1, .ref oa]).length) Slot.unset).toArray = ls at hl ⊢
  have hl : lv_has ls 5 [(0, .ref (ad 0)), (1, .int p0), (2, .int p1), (3, .ref oa)] := hl
  refine lv_aload_n hx hb dL_meanPart_0 rfl (lv_at hl 3 rfl) ?_
  refine lv_iconst (v := 0) hx hb dL_meanPart_1 (by decide) ?_
  refine lv_aload_n hx hb dL_meanPart_2 rfl (lv_at hl 0 rfl) ?_
  refine lv_iload_n hx hb dL_meanPart_3 rfl (lv_at hl 1 rfl) ?_
  refine lv_iload_n hx hb dL_meanPart_4 rfl (lv_at hl 2 rfl) ?_
  refine zx_call (vx_runV (As := [.int p0, .int p1]) (rest := [.int 0, .ref oa]) ⟨hx, hb, hml, hown, hw⟩ (c_X5_meanPart l hst D sa ad _ p0 p1) (cwV 2 hw (zg4 zm_861 zm_862 zm_863 zm_45 zm_864) rfl rfl rfl (by decide +kernel) ⟨Nat.le_of_ble_eq_true rfl, Nat.le_of_ble_eq_true rfl⟩) ⟨zR_blind, va_recv hK hP (ci := 10) (q0 := 0) rfl rfl, zR_pre hP hK hT hZ hS hA⟩ rfl rfl hl.1 rfl (lv_room (Nat.le_of_ble_eq_true rfl)) dL_meanPart_5 ⟨Nat.le_of_ble_eq_true rfl, Nat.le_of_ble_eq_true rfl⟩) hS (zN_fr hS hA) zN_in (fun E ce q9 u t H locs ht hvm hu hE hz1 hk1 hS hce hcv hcl => ?_)
  subst hE
  refine vx_catch hown [] ⟨0, 10, 13, 23⟩ (tableOf [(0, 10, 17, 13)]) htab (fun z hz => absurd hz List.not_mem_nil) (by decide) (by decide) (hw _ zm_487) (hT.c 3 rfl) hce hcv hcl ?_
  refine lv_astore (lv' := [(4, .ref q9), (0, .ref (ad 0)), (1, .int p0), (2, .int p1), (3, .ref oa)]) hx hb dL_meanPart_13 hl (by decide) rfl (fun ls hl => ?_)
  refine lv_iconst (v := 1) hx hb dL_meanPart_15 (by decide) ?_
  refine vx_ret ?_
  exact W.iret (v := 1) hx hb hr (fun t ht hW => ⟨⟨1, (), rfl, rfl, trivial⟩, hS.F ht⟩) hS.2.2 dL_meanPart_16
theorem dX9_meanPart_0 : decode cX9_meanPart 0 = .ok (.aload_n 0, 1) := by decide +kernel
theorem dX9_meanPart_1 : decode cX9_meanPart 1 = .ok (.aload_n 0, 1) := by decide +kernel
theorem dX9_meanPart_2 : decode cX9_meanPart 2 = .ok (.iload_n 1, 1) := by decide +kernel
theorem dX9_meanPart_3 : decode cX9_meanPart 3 = .ok (.invokevirtual 118, 3) := by decide +kernel
theorem dX9_meanPart_6 : decode cX9_meanPart 6 = .ok (.iconst 1, 1) := by decide +kernel
theorem dX9_meanPart_7 : decode cX9_meanPart 7 = .ok (.invokevirtual 51, 3) := by decide +kernel
theorem dX9_meanPart_10 : decode cX9_meanPart 10 = .ok (.ifCond .ne 17, 3) := by decide +kernel
theorem dX9_meanPart_27 : decode cX9_meanPart 27 = .ok (.iconst 0, 1) := by decide +kernel
theorem dX9_meanPart_28 : decode cX9_meanPart 28 = .ok (.ireturn, 1) := by decide +kernel
set_option maxHeartbeats 4000000 in
set_option maxRecDepth 100000 in
theorem c_X9_meanPart (l : Launch) (D : va_G) (sa : Nat → Nat) (ea : Nat) (bd : Nat → Nat) (th : Int32) (sz : Nat) (p0 : Int32) (p1 : Int32) : Met l yX9_meanPart ((Cond.code yX9_meanPart prog_8_method_28_code 6 (Option.some FieldType.int)) :: WA) ({ frames := 2, cells := 0, slots := 0, locals := 43 }) (zW D sa ea [] (zM bd th) [.ref (bd 0), .int p0, .int p1] sz) (va_Qi (fun (r : Int32) (_ : Unit) => r = 0) (fun _ t => va_P D vwCl [((bd 0), .inr (14, [.ref (bd 1), .ref (bd 2), .ref (bd 3), .ref (bd 4), .ref (bd 5), .ref (bd 6), .int 100, .int (-1), .int 0, .int 1])), ((bd 1), .inr (4, [.int 0, .ref (bd 7), .int 0])), ((bd 2), .inr (4, [.int 0, .ref (bd 7), .int 0])), ((bd 3), .inr (4, [.int 0, .ref (bd 7), .int 0])), ((bd 4), .inr (4, [.int 0, .ref (bd 7), .int 0])), ((bd 5), .inr (4, [.int 0, .ref (bd 7), .int 0])), ((bd 6), .inr (4, [.int 0, .ref (bd 7), .int 0]))] t.heap ∧ va_D (va_A (zM bd th) sz) [((bd 0), .inr (14, [.ref (bd 1), .ref (bd 2), .ref (bd 3), .ref (bd 4), .ref (bd 5), .ref (bd 6), .int 100, .int (-1), .int 0, .int 1])), ((bd 1), .inr (4, [.int 0, .ref (bd 7), .int 0])), ((bd 2), .inr (4, [.int 0, .ref (bd 7), .int 0])), ((bd 3), .inr (4, [.int 0, .ref (bd 7), .int 0])), ((bd 4), .inr (4, [.int 0, .ref (bd 7), .int 0])), ((bd 5), .inr (4, [.int 0, .ref (bd 7), .int 0])), ((bd 6), .inr (4, [.int 0, .ref (bd 7), .int 0]))]) (va_A (zM bd th) sz)) 0 0 (va_A (zM bd th) sz) := by
  refine Met.ofW (cc := prog_8_method_28_code) (maxL := 6) (ret := (Option.some FieldType.int)) (by decide) rfl ?_
  intro p e s m args below meth c s₁ B hml hv
  obtain ⟨rfl, hsz, hP, hK, hD0, hT, hE⟩ := hv
  have hx := B.exec
  have hb := B.bytes
  have hr := B.returns
  have hts := atoms_spec (ws := (Cond.code yX9_meanPart prog_8_method_28_code 6 (Option.some FieldType.int)) :: WA) B.pre
  have hw : ∀ w ∈ WA, w.before _ s = true := fun w h => hts w (List.mem_cons_of_mem _ h)
  have hown : s.vm.findClass RX9 = some m.cls := findClass_of_methodNamed B.named
  have hlocks := B.notSynchronized
  subst hsz
  have hD := hD0.self (sz := s.heap.size)
  generalize hAe : va_A (zM bd th) s.heap.size = A at hD hE ⊢
  have hA : ∀ q : Nat, s.heap.size ≤ q → A q := fun q h => by rw [← hAe]; exact Or.inr h
  have hS : va_S A s.heap s.heap [] := va_S.rf
  have hP : va_P D vwCl [((bd 0), .inr (14, [.ref (bd 1), .ref (bd 2), .ref (bd 3), .ref (bd 4), .ref (bd 5), .ref (bd 6), .int 100, .int (-1), .int 0, .int th])), ((bd 1), .inr (4, [.int 0, .ref (bd 7), .int 0])), ((bd 2), .inr (4, [.int 0, .ref (bd 7), .int 0])), ((bd 3), .inr (4, [.int 0, .ref (bd 7), .int 0])), ((bd 4), .inr (4, [.int 0, .ref (bd 7), .int 0])), ((bd 5), .inr (4, [.int 0, .ref (bd 7), .int 0])), ((bd 6), .inr (4, [.int 0, .ref (bd 7), .int 0]))] s.heap := hP
  have hD : va_D A [((bd 0), .inr (14, [.ref (bd 1), .ref (bd 2), .ref (bd 3), .ref (bd 4), .ref (bd 5), .ref (bd 6), .int 100, .int (-1), .int 0, .int th])), ((bd 1), .inr (4, [.int 0, .ref (bd 7), .int 0])), ((bd 2), .inr (4, [.int 0, .ref (bd 7), .int 0])), ((bd 3), .inr (4, [.int 0, .ref (bd 7), .int 0])), ((bd 4), .inr (4, [.int 0, .ref (bd 7), .int 0])), ((bd 5), .inr (4, [.int 0, .ref (bd 7), .int 0])), ((bd 6), .inr (4, [.int 0, .ref (bd 7), .int 0]))] := hD
  have hl := lv_entry [.ref (bd 0), .int p0, .int p1] (n := 6) (Nat.le_of_ble_eq_true rfl)
  rw [lg_entry_eq]
  generalize (lg_sl [.ref (bd 0), .int p0, .int p1] ++ List.replicate (6 - (lg_sl [.ref (bd 0), .int p0, .int p1]).length) Slot.unset).toArray = ls at hl ⊢
  have hl : lv_has ls 6 [(0, .ref (bd 0)), (1, .int p0), (2, .int p1)] := hl
  refine lv_aload_n hx hb dX9_meanPart_0 rfl (lv_at hl 0 rfl) ?_
  refine lv_aload_n hx hb dX9_meanPart_1 rfl (lv_at hl 0 rfl) ?_
  refine lv_iload_n hx hb dX9_meanPart_2 rfl (lv_at hl 1 rfl) ?_
  refine va_calli (va_runV (As := [.int p0]) (rest := [.ref (bd 0)]) ⟨hx, hb, hml, hown, hw⟩ (c_X9_isSett l D sa bd th _ p0) (cwV 1 hw (zg4 zm_1521 zm_1523 zm_29 zm_53 zm_1524) rfl rfl rfl (by decide +kernel) ⟨Nat.le_of_ble_eq_true rfl, Nat.le_of_ble_eq_true rfl⟩) ⟨zJ_blind, va_recv hK hP (ci := 14) (q0 := 0) rfl rfl, zJ_pre hP hK hT⟩ rfl rfl hl.1 rfl (lv_room (Nat.le_of_ble_eq_true rfl)) dX9_meanPart_3 ⟨Nat.le_of_ble_eq_true rfl, Nat.le_of_ble_eq_true rfl⟩) hS zN_in (zN_fr hS hA) (fun r_1 u t H locs ht hvm hw1 hB hz1 hk1 hS => ?_)
  have hP := zN_keep hP hk1
  subst hw1
  refine lv_iconst (v := 1) hx hb dX9_meanPart_6 (by decide) ?_
  have hFc := va_free (wc := [((bd 0), .inr (14, [.ref (bd 1), .ref (bd 2), .ref (bd 3), .ref (bd 4), .ref (bd 5), .ref (bd 6), .int 100, .int (-1), .int 0, .int th])), ((bd 1), .inr (4, [.int 0, .ref (bd 7), .int 0])), ((bd 2), .inr (4, [.int 0, .ref (bd 7), .int 0])), ((bd 3), .inr (4, [.int 0, .ref (bd 7), .int 0])), ((bd 4), .inr (4, [.int 0, .ref (bd 7), .int 0])), ((bd 5), .inr (4, [.int 0, .ref (bd 7), .int 0])), ((bd 6), .inr (4, [.int 0, .ref (bd 7), .int 0]))]) hD hS hA [0, 1, 2, 3, 4, 5, 6] rfl
  refine va_calli (va_runV (As := [.int 0, .int 1]) (rest := []) ⟨hx, hb, hml, hown, hw⟩ (c_X9_no0 l D sa ea bd th _ 1) (cwV 2 hw (zg4 zm_1314 zm_1316 zm_26 zm_53 zm_1317) rfl rfl rfl (by decide +kernel) ⟨Nat.le_of_ble_eq_true rfl, Nat.le_of_ble_eq_true rfl⟩) ⟨zW_blind, va_recv hK hP (ci := 14) (q0 := 0) rfl rfl, zW_pre hP hK hD hT hE hS hFc⟩ rfl rfl hl.1 rfl (lv_room (Nat.le_of_ble_eq_true rfl)) dX9_meanPart_7 ⟨Nat.le_of_ble_eq_true rfl, Nat.le_of_ble_eq_true rfl⟩) hS (fun q _ h => hFc q h) hFc (fun r_2 u t H locs ht hvm hw1 hB hz1 hk1 hS => ?_)
  subst hw1
  obtain ⟨hP1, hD1⟩ := hB
  rw [ht] at hP1
  obtain ⟨hP, hD⟩ := va_join (wr := []) (w1 := [((bd 0), .inr (14, [.ref (bd 1), .ref (bd 2), .ref (bd 3), .ref (bd 4), .ref (bd 5), .ref (bd 6), .int 100, .int (-1), .int 0, .int 1])), ((bd 1), .inr (4, [.int 0, .ref (bd 7), .int 0])), ((bd 2), .inr (4, [.int 0, .ref (bd 7), .int 0])), ((bd 3), .inr (4, [.int 0, .ref (bd 7), .int 0])), ((bd 4), .inr (4, [.int 0, .ref (bd 7), .int 0])), ((bd 5), .inr (4, [.int 0, .ref (bd 7), .int 0])), ((bd 6), .inr (4, [.int 0, .ref (bd 7), .int 0]))]) hP hD [0, 1, 2, 3, 4, 5, 6] [] rfl rfl (by decide) (by decide) hk1 hFc hP1 hD1
  have hP : va_P D vwCl [((bd 0), .inr (14, [.ref (bd 1), .ref (bd 2), .ref (bd 3), .ref (bd 4), .ref (bd 5), .ref (bd 6), .int 100, .int (-1), .int 0, .int 1])), ((bd 1), .inr (4, [.int 0, .ref (bd 7), .int 0])), ((bd 2), .inr (4, [.int 0, .ref (bd 7), .int 0])), ((bd 3), .inr (4, [.int 0, .ref (bd 7), .int 0])), ((bd 4), .inr (4, [.int 0, .ref (bd 7), .int 0])), ((bd 5), .inr (4, [.int 0, .ref (bd 7), .int 0])), ((bd 6), .inr (4, [.int 0, .ref (bd 7), .int 0]))] H := hP
  have hD : va_D A [((bd 0), .inr (14, [.ref (bd 1), .ref (bd 2), .ref (bd 3), .ref (bd 4), .ref (bd 5), .ref (bd 6), .int 100, .int (-1), .int 0, .int 1])), ((bd 1), .inr (4, [.int 0, .ref (bd 7), .int 0])), ((bd 2), .inr (4, [.int 0, .ref (bd 7), .int 0])), ((bd 3), .inr (4, [.int 0, .ref (bd 7), .int 0])), ((bd 4), .inr (4, [.int 0, .ref (bd 7), .int 0])), ((bd 5), .inr (4, [.int 0, .ref (bd 7), .int 0])), ((bd 6), .inr (4, [.int 0, .ref (bd 7), .int 0]))] := hD
  refine lv_if_ne (tgt := 27) hx hb dX9_meanPart_10 (by decide) (fun _ => ?_) (fun c_3 => absurd c_3 (by decide))
  refine lv_iconst (v := 0) hx hb dX9_meanPart_27 (by decide) ?_
  have hP9 := hP.sub (ws' := [((bd 0), .inr (14, [.ref (bd 1), .ref (bd 2), .ref (bd 3), .ref (bd 4), .ref (bd 5), .ref (bd 6), .int 100, .int (-1), .int 0, .int 1])), ((bd 1), .inr (4, [.int 0, .ref (bd 7), .int 0])), ((bd 2), .inr (4, [.int 0, .ref (bd 7), .int 0])), ((bd 3), .inr (4, [.int 0, .ref (bd 7), .int 0])), ((bd 4), .inr (4, [.int 0, .ref (bd 7), .int 0])), ((bd 5), .inr (4, [.int 0, .ref (bd 7), .int 0])), ((bd 6), .inr (4, [.int 0, .ref (bd 7), .int 0]))]) [0, 1, 2, 3, 4, 5, 6] rfl
  have hD9 := hD.sub (ws' := [((bd 0), .inr (14, [.ref (bd 1), .ref (bd 2), .ref (bd 3), .ref (bd 4), .ref (bd 5), .ref (bd 6), .int 100, .int (-1), .int 0, .int 1])), ((bd 1), .inr (4, [.int 0, .ref (bd 7), .int 0])), ((bd 2), .inr (4, [.int 0, .ref (bd 7), .int 0])), ((bd 3), .inr (4, [.int 0, .ref (bd 7), .int 0])), ((bd 4), .inr (4, [.int 0, .ref (bd 7), .int 0])), ((bd 5), .inr (4, [.int 0, .ref (bd 7), .int 0])), ((bd 6), .inr (4, [.int 0, .ref (bd 7), .int 0]))]) [0, 1, 2, 3, 4, 5, 6] (by decide) rfl
  refine W.widen (k := 0) (n := 0) (Nat.le_of_ble_eq_true rfl) (Nat.le_of_ble_eq_true rfl) ?_
  exact W.iret (v := 0) hx hb hr (fun t ht hW => ⟨⟨0, (), rfl, rfl, by rw [ht]; exact hP9, hD9⟩, hS.F ht⟩) hS.2.2 dX9_meanPart_28
theorem dX5_joins_0 : decode cX5_joins 0 = .ok (.aload_n 0, 1) := by decide +kernel
theorem dX5_joins_1 : decode cX5_joins 1 = .ok (.iload_n 1, 1) := by decide +kernel
theorem dX5_joins_2 : decode cX5_joins 2 = .ok (.invokevirtual 137, 3) := by decide +kernel
set_option maxHeartbeats 4000000 in
set_option maxRecDepth 100000 in
theorem c_X5_joins (l : Launch) (hst : l.stackTraces = false) (D : va_G) (sa : Nat → Nat) (ad : Nat → Nat) (sz : Nat) (p0 : Int32) (p1 : Int32) (p2 : Int32) : vx_Met l yX5_joins ((Cond.code yX5_joins prog_1_method_19_code 4 (Option.some FieldType.boolean)) :: WA) ({ frames := 7, cells := 1, slots := 6, locals := 103 }) (zR D sa (zX ad) [.ref (ad 0), .int p0, .int p1, .int p2] sz) zF (zXC "java/lang/IndexOutOfBoundsException" sz) 1 6 (zN sz) := by
  refine vx_ofW (cc := prog_1_method_19_code) (maxL := 4) (ret := (Option.some FieldType.boolean)) (by decide) rfl ?_
  intro p e s m args below meth c s₁ B hml hnt hv
  obtain ⟨rfl, hsz, hP, hK, hT, hZ⟩ := hv
  have hx := B.exec
  have hb := B.bytes
  have hr := B.returns
  have hts := atoms_spec (ws := (Cond.code yX5_joins prog_1_method_19_code 4 (Option.some FieldType.boolean)) :: WA) B.pre
  have hw : ∀ w ∈ WA, w.before _ s = true := fun w h => hts w (List.mem_cons_of_mem _ h)
  have hown : s.vm.findClass RX5 = some m.cls := findClass_of_methodNamed B.named
  have hlocks := B.notSynchronized
  subst hsz
  have hA : ∀ q : Nat, s.heap.size ≤ q → zN s.heap.size q := fun _ h => h
  have hS : va_S (zN s.heap.size) s.heap s.heap [] := va_S.rf
  have hP : va_P D vwCl [((ad 0), .inr (10, [.ref (ad 1), .ref (ad 2), .ref (ad 3), .ref (ad 4), .ref (ad 5), .int (-1), .int 100, .int 0, .int 0])), ((ad 1), .inr (7, [.ref (ad 6), .ref (ad 7), .ref (ad 8), .int 0])), ((ad 2), .inr (8, [.ref (ad 9), .ref (ad 10), .int 0])), ((ad 3), .inr (4, [.int 0, .ref (ad 14), .int 0])), ((ad 4), .inr (4, [.int 0, .ref (ad 14), .int 0])), ((ad 5), .inr (6, [.ref (ad 11), .ref (ad 12), .ref (ad 13), .int 0, .int 0]))] s.heap := hP
  have hl := lv_entry [.ref (ad 0), .int p0, .int p1, .int p2] (n := 4) (Nat.le_of_ble_eq_true rfl)
  rw [lg_entry_eq]
  generalize (lg_sl [.ref (ad 0), .int p0, .int p1, .int p2] ++ List.replicate (4 - (lg_sl [.ref (ad 0), .int p0, .int p1, .int p2]).length) Slot.unset).toArray = ls at hl ⊢
  have hl : lv_has ls 4 [(0, .ref (ad 0)), (1, .int p0), (2, .int p1), (3, .int p2)] := hl
  refine lv_aload_n hx hb dX5_joins_0 rfl (lv_at hl 0 rfl) ?_
  refine lv_iload_n hx hb dX5_joins_1 rfl (lv_at hl 1 rfl) ?_
  refine zx_call (vx_runV (As := [.int p0]) (rest := []) ⟨hx, hb, hml, hown, hw⟩ (c_X5_settAt l hst D sa ad _ p0) (cwV 1 hw (zg4 zm_751 zm_753 zm_15 zm_45 zm_754) rfl rfl rfl (by decide +kernel) ⟨Nat.le_of_ble_eq_true rfl, Nat.le_of_ble_eq_true rfl⟩) ⟨zR_blind, va_recv hK hP (ci := 10) (q0 := 0) rfl rfl, zR_pre hP hK hT hZ hS hA⟩ rfl rfl hl.1 rfl (lv_room (Nat.le_of_ble_eq_true rfl)) dX5_joins_2 ⟨Nat.le_of_ble_eq_true rfl, Nat.le_of_ble_eq_true rfl⟩) hS (zN_fr hS hA) zN_in (fun E ce q9 u t H locs ht hvm hu hE hz1 hk1 hS hce hcv hcl => ?_)
  exact vx_out (fun x hx9 => (hnt x hx9).elim) hlocks hce hcv hcl (fun t ht _ => ⟨(), trivial, hE, hS.F ht⟩) (fun z hz => hS.2.2 z hz) (Nat.le_of_ble_eq_true rfl) (Nat.le_of_ble_eq_true rfl)
theorem dL_joins_0 : decode cL_joins 0 = .ok (.aload 4, 2) := by decide +kernel
theorem dL_joins_2 : decode cL_joins 2 = .ok (.iconst 0, 1) := by decide +kernel
theorem dL_joins_3 : decode cL_joins 3 = .ok (.aload_n 0, 1) := by decide +kernel
theorem dL_joins_4 : decode cL_joins 4 = .ok (.iload_n 1, 1) := by decide +kernel
theorem dL_joins_5 : decode cL_joins 5 = .ok (.iload_n 2, 1) := by decide +kernel
theorem dL_joins_6 : decode cL_joins 6 = .ok (.iload_n 3, 1) := by decide +kernel
theorem dL_joins_7 : decode cL_joins 7 = .ok (.invokevirtual 73, 3) := by decide +kernel
theorem zm_868 : Cond.methodLink RL 73 yX5_joins ∈ WA := zmm (i := 868) (by decide +kernel) (by decide +kernel)
theorem zm_869 : Cond.instanceMethod yX5_joins ∈ WA := zmm (i := 869) (by decide +kernel) (by decide +kernel)
theorem zm_870 : Cond.selects RX5 yX5_joins yX5_joins ∈ WA := zmm (i := 870) (by decide +kernel) (by decide +kernel)
theorem zm_871 : Cond.code yX5_joins prog_1_method_19_code 4 (Option.some FieldType.boolean) ∈ WA := zmm (i := 871) (by decide +kernel) (by decide +kernel)
theorem dL_joins_22 : decode cL_joins 22 = .ok (.astore 5, 2) := by decide +kernel
theorem dL_joins_24 : decode cL_joins 24 = .ok (.iconst 1, 1) := by decide +kernel
theorem dL_joins_25 : decode cL_joins 25 = .ok (.ireturn, 1) := by decide +kernel
set_option maxHeartbeats 4000000 in
set_option maxRecDepth 100000 in
theorem c_L_joins (l : Launch) (hst : l.stackTraces = false) (D : va_G) (sa : Nat → Nat) (ad : Nat → Nat) (sz : Nat) (p0 : Int32) (p1 : Int32) (p2 : Int32) (oa : Nat) : vx_Met l yL_joins ((Cond.codeWith yL_joins method_19_code 6 (Option.some FieldType.int) [(0, 19, 22, 23), (0, 19, 26, 13)]) :: WA) ({ frames := 8, cells := 1, slots := 6, locals := 126 }) (zR D sa (zX ad) [.ref (ad 0), .int p0, .int p1, .int p2, .ref oa] sz) (va_Qi (fun (r : Int32) (_ : Unit) => r = 1) (fun _ _ => True) (zN sz)) (zX0 sz) 1 6 (zN sz) := by
  refine vx_ofWH (cc := method_19_code) (maxL := 6) (ret := (Option.some FieldType.int)) (hh := [(0, 19, 22, 23), (0, 19, 26, 13)]) (by decide) rfl ?_
  intro p e s m args below meth c s₁ B hml hv
  obtain ⟨rfl, hsz, hP, hK, hT, hZ⟩ := hv
  have hx := B.exec
  have hb := B.bytes
  have hr := B.returns
  have hts := atoms_spec (ws := (Cond.codeWith yL_joins method_19_code 6 (Option.some FieldType.int) [(0, 19, 22, 23), (0, 19, 26, 13)]) :: WA) B.pre
  have hw : ∀ w ∈ WA, w.before _ s = true := fun w h => hts w (List.mem_cons_of_mem _ h)
  have htab := vx_table (x := yL_joins) B (hts _ List.mem_cons_self)
  have hown : s.vm.findClass RL = some m.cls := findClass_of_methodNamed B.named
  have hlocks := B.notSynchronized
  subst hsz
  have hA : ∀ q : Nat, s.heap.size ≤ q → zN s.heap.size q := fun _ h => h
  have hS : va_S (zN s.heap.size) s.heap s.heap [] := va_S.rf
  have hP : va_P D vwCl [((ad 0), .inr (10, [.ref (ad 1), .ref (ad 2), .ref (ad 3), .ref (ad 4), .ref (ad 5), .int (-1), .int 100, .int 0, .int 0])), ((ad 1), .inr (7, [.ref (ad 6), .ref (ad 7), .ref (ad 8), .int 0])), ((ad 2), .inr (8, [.ref (ad 9), .ref (ad 10), .int 0])), ((ad 3), .inr (4, [.int 0, .ref (ad 14), .int 0])), ((ad 4), .inr (4, [.int 0, .ref (ad 14), .int 0])), ((ad 5), .inr (6, [.ref (ad 11), .ref (ad 12), .ref (ad 13), .int 0, .int 0]))] s.heap := hP
  have hl := lv_entry [.ref (ad 0), .int p0, .int p1, .int p2, .ref oa] (n := 6) (Nat.le_of_ble_eq_true rfl)
  rw [lg_entry_eq]
  generalize (lg_sl [.ref (ad 0), .int p0, .int p1, .int p2, .ref oa] ++ List.replicate (6 - (lg_sl [.ref (ad 0), .int p0, .int p1, .int p2, .ref oa]).length) Slot.unset).toArray = ls at hl ⊢
  have hl : lv_has ls 6 [(0, .ref (ad 0)), (1, .int p0), (2, .int p1), (3, .int p2), (4, .ref oa)] := hl
  refine lv_aload hx hb dL_joins_0 (lv_at hl 4 rfl) ?_
  refine lv_iconst (v := 0) hx hb dL_joins_2 (by decide) ?_
  refine lv_aload_n hx hb dL_joins_3 rfl (lv_at hl 0 rfl) ?_
  refine lv_iload_n hx hb dL_joins_4 rfl (lv_at hl 1 rfl) ?_
  refine lv_iload_n hx hb dL_joins_5 rfl (lv_at hl 2 rfl) ?_
  refine lv_iload_n hx hb dL_joins_6 rfl (lv_at hl 3 rfl) ?_
  refine zx_call (vx_runV (As := [.int p0, .int p1, .int p2]) (rest := [.int 0, .ref oa]) ⟨hx, hb, hml, hown, hw⟩ (c_X5_joins l hst D sa ad _ p0 p1 p2) (cwV 3 hw (zg4 zm_868 zm_869 zm_870 zm_45 zm_871) rfl rfl rfl (by decide +kernel) ⟨Nat.le_of_ble_eq_true rfl, Nat.le_of_ble_eq_true rfl⟩) ⟨zR_blind, va_recv hK hP (ci := 10) (q0 := 0) rfl rfl, zR_pre hP hK hT hZ hS hA⟩ rfl rfl hl.1 rfl (lv_room (Nat.le_of_ble_eq_true rfl)) dL_joins_7 ⟨Nat.le_of_ble_eq_true rfl, Nat.le_of_ble_eq_true rfl⟩) hS (zN_fr hS hA) zN_in (fun E ce q9 u t H locs ht hvm hu hE hz1 hk1 hS hce hcv hcl => ?_)
  subst hE
  refine vx_catch hown [] ⟨0, 19, 22, 23⟩ (tableOf [(0, 19, 26, 13)]) htab (fun z hz => absurd hz List.not_mem_nil) (by decide) (by decide) (hw _ zm_487) (hT.c 3 rfl) hce hcv hcl ?_
  refine lv_astore (lv' := [(5, .ref q9), (0, .ref (ad 0)), (1, .int p0), (2, .int p1), (3, .int p2), (4, .ref oa)]) hx hb dL_joins_22 hl (by decide) rfl (fun ls hl => ?_)
  refine lv_iconst (v := 1) hx hb dL_joins_24 (by decide) ?_
  refine vx_ret ?_
  exact W.iret (v := 1) hx hb hr (fun t ht hW => ⟨⟨1, (), rfl, rfl, trivial⟩, hS.F ht⟩) hS.2.2 dL_joins_25
theorem dX9_joins_0 : decode cX9_joins 0 = .ok (.aload_n 0, 1) := by decide +kernel
theorem dX9_joins_1 : decode cX9_joins 1 = .ok (.aload_n 0, 1) := by decide +kernel
theorem dX9_joins_2 : decode cX9_joins 2 = .ok (.iload_n 1, 1) := by decide +kernel
theorem dX9_joins_3 : decode cX9_joins 3 = .ok (.invokevirtual 118, 3) := by decide +kernel
theorem dX9_joins_6 : decode cX9_joins 6 = .ok (.iconst 1, 1) := by decide +kernel
theorem dX9_joins_7 : decode cX9_joins 7 = .ok (.invokevirtual 51, 3) := by decide +kernel
theorem dX9_joins_10 : decode cX9_joins 10 = .ok (.ifCond .ne 36, 3) := by decide +kernel
theorem dX9_joins_46 : decode cX9_joins 46 = .ok (.iconst 0, 1) := by decide +kernel
theorem dX9_joins_47 : decode cX9_joins 47 = .ok (.ireturn, 1) := by decide +kernel
set_option maxHeartbeats 4000000 in
set_option maxRecDepth 100000 in
theorem c_X9_joins (l : Launch) (D : va_G) (sa : Nat → Nat) (ea : Nat) (bd : Nat → Nat) (th : Int32) (sz : Nat) (p0 : Int32) (p1 : Int32) (p2 : Int32) : Met l yX9_joins ((Cond.code yX9_joins prog_8_method_29_code 4 (Option.some FieldType.boolean)) :: WA) ({ frames := 2, cells := 0, slots := 0, locals := 43 }) (zW D sa ea [] (zM bd th) [.ref (bd 0), .int p0, .int p1, .int p2] sz) (va_Qi (fun (r : Int32) (_ : Unit) => r = 0) (fun _ t => va_P D vwCl [((bd 0), .inr (14, [.ref (bd 1), .ref (bd 2), .ref (bd 3), .ref (bd 4), .ref (bd 5), .ref (bd 6), .int 100, .int (-1), .int 0, .int 1])), ((bd 1), .inr (4, [.int 0, .ref (bd 7), .int 0])), ((bd 2), .inr (4, [.int 0, .ref (bd 7), .int 0])), ((bd 3), .inr (4, [.int 0, .ref (bd 7), .int 0])), ((bd 4), .inr (4, [.int 0, .ref (bd 7), .int 0])), ((bd 5), .inr (4, [.int 0, .ref (bd 7), .int 0])), ((bd 6), .inr (4, [.int 0, .ref (bd 7), .int 0]))] t.heap ∧ va_D (va_A (zM bd th) sz) [((bd 0), .inr (14, [.ref (bd 1), .ref (bd 2), .ref (bd 3), .ref (bd 4), .ref (bd 5), .ref (bd 6), .int 100, .int (-1), .int 0, .int 1])), ((bd 1), .inr (4, [.int 0, .ref (bd 7), .int 0])), ((bd 2), .inr (4, [.int 0, .ref (bd 7), .int 0])), ((bd 3), .inr (4, [.int 0, .ref (bd 7), .int 0])), ((bd 4), .inr (4, [.int 0, .ref (bd 7), .int 0])), ((bd 5), .inr (4, [.int 0, .ref (bd 7), .int 0])), ((bd 6), .inr (4, [.int 0, .ref (bd 7), .int 0]))]) (va_A (zM bd th) sz)) 0 0 (va_A (zM bd th) sz) := by
  refine Met.ofW (cc := prog_8_method_29_code) (maxL := 4) (ret := (Option.some FieldType.boolean)) (by decide) rfl ?_
  intro p e s m args below meth c s₁ B hml hv
  obtain ⟨rfl, hsz, hP, hK, hD0, hT, hE⟩ := hv
  have hx := B.exec
  have hb := B.bytes
  have hr := B.returns
  have hts := atoms_spec (ws := (Cond.code yX9_joins prog_8_method_29_code 4 (Option.some FieldType.boolean)) :: WA) B.pre
  have hw : ∀ w ∈ WA, w.before _ s = true := fun w h => hts w (List.mem_cons_of_mem _ h)
  have hown : s.vm.findClass RX9 = some m.cls := findClass_of_methodNamed B.named
  have hlocks := B.notSynchronized
  subst hsz
  have hD := hD0.self (sz := s.heap.size)
  generalize hAe : va_A (zM bd th) s.heap.size = A at hD hE ⊢
  have hA : ∀ q : Nat, s.heap.size ≤ q → A q := fun q h => by rw [← hAe]; exact Or.inr h
  have hS : va_S A s.heap s.heap [] := va_S.rf
  have hP : va_P D vwCl [((bd 0), .inr (14, [.ref (bd 1), .ref (bd 2), .ref (bd 3), .ref (bd 4), .ref (bd 5), .ref (bd 6), .int 100, .int (-1), .int 0, .int th])), ((bd 1), .inr (4, [.int 0, .ref (bd 7), .int 0])), ((bd 2), .inr (4, [.int 0, .ref (bd 7), .int 0])), ((bd 3), .inr (4, [.int 0, .ref (bd 7), .int 0])), ((bd 4), .inr (4, [.int 0, .ref (bd 7), .int 0])), ((bd 5), .inr (4, [.int 0, .ref (bd 7), .int 0])), ((bd 6), .inr (4, [.int 0, .ref (bd 7), .int 0]))] s.heap := hP
  have hD : va_D A [((bd 0), .inr (14, [.ref (bd 1), .ref (bd 2), .ref (bd 3), .ref (bd 4), .ref (bd 5), .ref (bd 6), .int 100, .int (-1), .int 0, .int th])), ((bd 1), .inr (4, [.int 0, .ref (bd 7), .int 0])), ((bd 2), .inr (4, [.int 0, .ref (bd 7), .int 0])), ((bd 3), .inr (4, [.int 0, .ref (bd 7), .int 0])), ((bd 4), .inr (4, [.int 0, .ref (bd 7), .int 0])), ((bd 5), .inr (4, [.int 0, .ref (bd 7), .int 0])), ((bd 6), .inr (4, [.int 0, .ref (bd 7), .int 0]))] := hD
  have hl := lv_entry [.ref (bd 0), .int p0, .int p1, .int p2] (n := 4) (Nat.le_of_ble_eq_true rfl)
  rw [lg_entry_eq]
  generalize (lg_sl [.ref (bd 0), .int p0, .int p1, .int p2] ++ List.replicate (4 - (lg_sl [.ref (bd 0), .int p0, .int p1, .int p2]).length) Slot.unset).toArray = ls at hl ⊢
  have hl : lv_has ls 4 [(0, .ref (bd 0)), (1, .int p0), (2, .int p1), (3, .int p2)] := hl
  refine lv_aload_n hx hb dX9_joins_0 rfl (lv_at hl 0 rfl) ?_
  refine lv_aload_n hx hb dX9_joins_1 rfl (lv_at hl 0 rfl) ?_
  refine lv_iload_n hx hb dX9_joins_2 rfl (lv_at hl 1 rfl) ?_
  refine va_calli (va_runV (As := [.int p0]) (rest := [.ref (bd 0)]) ⟨hx, hb, hml, hown, hw⟩ (c_X9_isSett l D sa bd th _ p0) (cwV 1 hw (zg4 zm_1521 zm_1523 zm_29 zm_53 zm_1524) rfl rfl rfl (by decide +kernel) ⟨Nat.le_of_ble_eq_true rfl, Nat.le_of_ble_eq_true rfl⟩) ⟨zJ_blind, va_recv hK hP (ci := 14) (q0 := 0) rfl rfl, zJ_pre hP hK hT⟩ rfl rfl hl.1 rfl (lv_room (Nat.le_of_ble_eq_true rfl)) dX9_joins_3 ⟨Nat.le_of_ble_eq_true rfl, Nat.le_of_ble_eq_true rfl⟩) hS zN_in (zN_fr hS hA) (fun r_1 u t H locs ht hvm hw1 hB hz1 hk1 hS => ?_)
  have hP := zN_keep hP hk1
  subst hw1
  refine lv_iconst (v := 1) hx hb dX9_joins_6 (by decide) ?_
  have hFc := va_free (wc := [((bd 0), .inr (14, [.ref (bd 1), .ref (bd 2), .ref (bd 3), .ref (bd 4), .ref (bd 5), .ref (bd 6), .int 100, .int (-1), .int 0, .int th])), ((bd 1), .inr (4, [.int 0, .ref (bd 7), .int 0])), ((bd 2), .inr (4, [.int 0, .ref (bd 7), .int 0])), ((bd 3), .inr (4, [.int 0, .ref (bd 7), .int 0])), ((bd 4), .inr (4, [.int 0, .ref (bd 7), .int 0])), ((bd 5), .inr (4, [.int 0, .ref (bd 7), .int 0])), ((bd 6), .inr (4, [.int 0, .ref (bd 7), .int 0]))]) hD hS hA [0, 1, 2, 3, 4, 5, 6] rfl
  refine va_calli (va_runV (As := [.int 0, .int 1]) (rest := []) ⟨hx, hb, hml, hown, hw⟩ (c_X9_no0 l D sa ea bd th _ 1) (cwV 2 hw (zg4 zm_1314 zm_1316 zm_26 zm_53 zm_1317) rfl rfl rfl (by decide +kernel) ⟨Nat.le_of_ble_eq_true rfl, Nat.le_of_ble_eq_true rfl⟩) ⟨zW_blind, va_recv hK hP (ci := 14) (q0 := 0) rfl rfl, zW_pre hP hK hD hT hE hS hFc⟩ rfl rfl hl.1 rfl (lv_room (Nat.le_of_ble_eq_true rfl)) dX9_joins_7 ⟨Nat.le_of_ble_eq_true rfl, Nat.le_of_ble_eq_true rfl⟩) hS (fun q _ h => hFc q h) hFc (fun r_2 u t H locs ht hvm hw1 hB hz1 hk1 hS => ?_)
  subst hw1
  obtain ⟨hP1, hD1⟩ := hB
  rw [ht] at hP1
  obtain ⟨hP, hD⟩ := va_join (wr := []) (w1 := [((bd 0), .inr (14, [.ref (bd 1), .ref (bd 2), .ref (bd 3), .ref (bd 4), .ref (bd 5), .ref (bd 6), .int 100, .int (-1), .int 0, .int 1])), ((bd 1), .inr (4, [.int 0, .ref (bd 7), .int 0])), ((bd 2), .inr (4, [.int 0, .ref (bd 7), .int 0])), ((bd 3), .inr (4, [.int 0, .ref (bd 7), .int 0])), ((bd 4), .inr (4, [.int 0, .ref (bd 7), .int 0])), ((bd 5), .inr (4, [.int 0, .ref (bd 7), .int 0])), ((bd 6), .inr (4, [.int 0, .ref (bd 7), .int 0]))]) hP hD [0, 1, 2, 3, 4, 5, 6] [] rfl rfl (by decide) (by decide) hk1 hFc hP1 hD1
  have hP : va_P D vwCl [((bd 0), .inr (14, [.ref (bd 1), .ref (bd 2), .ref (bd 3), .ref (bd 4), .ref (bd 5), .ref (bd 6), .int 100, .int (-1), .int 0, .int 1])), ((bd 1), .inr (4, [.int 0, .ref (bd 7), .int 0])), ((bd 2), .inr (4, [.int 0, .ref (bd 7), .int 0])), ((bd 3), .inr (4, [.int 0, .ref (bd 7), .int 0])), ((bd 4), .inr (4, [.int 0, .ref (bd 7), .int 0])), ((bd 5), .inr (4, [.int 0, .ref (bd 7), .int 0])), ((bd 6), .inr (4, [.int 0, .ref (bd 7), .int 0]))] H := hP
  have hD : va_D A [((bd 0), .inr (14, [.ref (bd 1), .ref (bd 2), .ref (bd 3), .ref (bd 4), .ref (bd 5), .ref (bd 6), .int 100, .int (-1), .int 0, .int 1])), ((bd 1), .inr (4, [.int 0, .ref (bd 7), .int 0])), ((bd 2), .inr (4, [.int 0, .ref (bd 7), .int 0])), ((bd 3), .inr (4, [.int 0, .ref (bd 7), .int 0])), ((bd 4), .inr (4, [.int 0, .ref (bd 7), .int 0])), ((bd 5), .inr (4, [.int 0, .ref (bd 7), .int 0])), ((bd 6), .inr (4, [.int 0, .ref (bd 7), .int 0]))] := hD
  refine lv_if_ne (tgt := 46) hx hb dX9_joins_10 (by decide) (fun _ => ?_) (fun c_3 => absurd c_3 (by decide))
  refine lv_iconst (v := 0) hx hb dX9_joins_46 (by decide) ?_
  have hP9 := hP.sub (ws' := [((bd 0), .inr (14, [.ref (bd 1), .ref (bd 2), .ref (bd 3), .ref (bd 4), .ref (bd 5), .ref (bd 6), .int 100, .int (-1), .int 0, .int 1])), ((bd 1), .inr (4, [.int 0, .ref (bd 7), .int 0])), ((bd 2), .inr (4, [.int 0, .ref (bd 7), .int 0])), ((bd 3), .inr (4, [.int 0, .ref (bd 7), .int 0])), ((bd 4), .inr (4, [.int 0, .ref (bd 7), .int 0])), ((bd 5), .inr (4, [.int 0, .ref (bd 7), .int 0])), ((bd 6), .inr (4, [.int 0, .ref (bd 7), .int 0]))]) [0, 1, 2, 3, 4, 5, 6] rfl
  have hD9 := hD.sub (ws' := [((bd 0), .inr (14, [.ref (bd 1), .ref (bd 2), .ref (bd 3), .ref (bd 4), .ref (bd 5), .ref (bd 6), .int 100, .int (-1), .int 0, .int 1])), ((bd 1), .inr (4, [.int 0, .ref (bd 7), .int 0])), ((bd 2), .inr (4, [.int 0, .ref (bd 7), .int 0])), ((bd 3), .inr (4, [.int 0, .ref (bd 7), .int 0])), ((bd 4), .inr (4, [.int 0, .ref (bd 7), .int 0])), ((bd 5), .inr (4, [.int 0, .ref (bd 7), .int 0])), ((bd 6), .inr (4, [.int 0, .ref (bd 7), .int 0]))]) [0, 1, 2, 3, 4, 5, 6] (by decide) rfl
  refine W.widen (k := 0) (n := 0) (Nat.le_of_ble_eq_true rfl) (Nat.le_of_ble_eq_true rfl) ?_
  exact W.zret (v := 0) hx hb hr (by decide) (fun t ht hW => ⟨⟨0, (), rfl, rfl, by rw [ht]; exact hP9, hD9⟩, hS.F ht⟩) hS.2.2 dX9_joins_47
theorem dX5_over_0 : decode cX5_over 0 = .ok (.aload_n 0, 1) := by decide +kernel
theorem dX5_over_1 : decode cX5_over 1 = .ok (.iload_n 1, 1) := by decide +kernel
theorem dX5_over_2 : decode cX5_over 2 = .ok (.invokevirtual 137, 3) := by decide +kernel
set_option maxHeartbeats 4000000 in
set_option maxRecDepth 100000 in
theorem c_X5_over (l : Launch) (hst : l.stackTraces = false) (D : va_G) (sa : Nat → Nat) (ad : Nat → Nat) (sz : Nat) (p0 : Int32) (p1 : Int32) (p2 : Int32) : vx_Met l yX5_over ((Cond.code yX5_over prog_1_method_20_code 4 (Option.some FieldType.int)) :: WA) ({ frames := 7, cells := 1, slots := 6, locals := 103 }) (zR D sa (zX ad) [.ref (ad 0), .int p0, .int p1, .int p2] sz) zF (zXC "java/lang/IndexOutOfBoundsException" sz) 1 6 (zN sz) := by
  refine vx_ofW (cc := prog_1_method_20_code) (maxL := 4) (ret := (Option.some FieldType.int)) (by decide) rfl ?_
  intro p e s m args below meth c s₁ B hml hnt hv
  obtain ⟨rfl, hsz, hP, hK, hT, hZ⟩ := hv
  have hx := B.exec
  have hb := B.bytes
  have hr := B.returns
  have hts := atoms_spec (ws := (Cond.code yX5_over prog_1_method_20_code 4 (Option.some FieldType.int)) :: WA) B.pre
  have hw : ∀ w ∈ WA, w.before _ s = true := fun w h => hts w (List.mem_cons_of_mem _ h)
  have hown : s.vm.findClass RX5 = some m.cls := findClass_of_methodNamed B.named
  have hlocks := B.notSynchronized
  subst hsz
  have hA : ∀ q : Nat, s.heap.size ≤ q → zN s.heap.size q := fun _ h => h
  have hS : va_S (zN s.heap.size) s.heap s.heap [] := va_S.rf
  have hP : va_P D vwCl [((ad 0), .inr (10, [.ref (ad 1), .ref (ad 2), .ref (ad 3), .ref (ad 4), .ref (ad 5), .int (-1), .int 100, .int 0, .int 0])), ((ad 1), .inr (7, [.ref (ad 6), .ref (ad 7), .ref (ad 8), .int 0])), ((ad 2), .inr (8, [.ref (ad 9), .ref (ad 10), .int 0])), ((ad 3), .inr (4, [.int 0, .ref (ad 14), .int 0])), ((ad 4), .inr (4, [.int 0, .ref (ad 14), .int 0])), ((ad 5), .inr (6, [.ref (ad 11), .ref (ad 12), .ref (ad 13), .int 0, .int 0]))] s.heap := hP
  have hl := lv_entry [.ref (ad 0), .int p0, .int p1, .int p2] (n := 4) (Nat.le_of_ble_eq_true rfl)
  rw [lg_entry_eq]
  generalize (lg_sl [.ref (ad 0), .int p0, .int p1, .int p2] ++ List.replicate (4 - (lg_sl [.ref (ad 0), .int p0, .int p1, .int p2]).length) Slot.unset).toArray = ls at hl ⊢
  have hl : lv_has ls 4 [(0, .ref (ad 0)), (1, .int p0), (2, .int p1), (3, .int p2)] := hl
  refine lv_aload_n hx hb dX5_over_0 rfl (lv_at hl 0 rfl) ?_
  refine lv_iload_n hx hb dX5_over_1 rfl (lv_at hl 1 rfl) ?_
  refine zx_call (vx_runV (As := [.int p0]) (rest := []) ⟨hx, hb, hml, hown, hw⟩ (c_X5_settAt l hst D sa ad _ p0) (cwV 1 hw (zg4 zm_751 zm_753 zm_15 zm_45 zm_754) rfl rfl rfl (by decide +kernel) ⟨Nat.le_of_ble_eq_true rfl, Nat.le_of_ble_eq_true rfl⟩) ⟨zR_blind, va_recv hK hP (ci := 10) (q0 := 0) rfl rfl, zR_pre hP hK hT hZ hS hA⟩ rfl rfl hl.1 rfl (lv_room (Nat.le_of_ble_eq_true rfl)) dX5_over_2 ⟨Nat.le_of_ble_eq_true rfl, Nat.le_of_ble_eq_true rfl⟩) hS (zN_fr hS hA) zN_in (fun E ce q9 u t H locs ht hvm hu hE hz1 hk1 hS hce hcv hcl => ?_)
  exact vx_out (fun x hx9 => (hnt x hx9).elim) hlocks hce hcv hcl (fun t ht _ => ⟨(), trivial, hE, hS.F ht⟩) (fun z hz => hS.2.2 z hz) (Nat.le_of_ble_eq_true rfl) (Nat.le_of_ble_eq_true rfl)
theorem dL_over_0 : decode cL_over 0 = .ok (.aload 4, 2) := by decide +kernel
theorem dL_over_2 : decode cL_over 2 = .ok (.iconst 0, 1) := by decide +kernel
theorem dL_over_3 : decode cL_over 3 = .ok (.aload_n 0, 1) := by decide +kernel
theorem dL_over_4 : decode cL_over 4 = .ok (.iload_n 1, 1) := by decide +kernel
theorem dL_over_5 : decode cL_over 5 = .ok (.iload_n 2, 1) := by decide +kernel
theorem dL_over_6 : decode cL_over 6 = .ok (.iload_n 3, 1) := by decide +kernel
theorem dL_over_7 : decode cL_over 7 = .ok (.invokevirtual 77, 3) := by decide +kernel
theorem zm_879 : Cond.methodLink RL 77 yX5_over ∈ WA := zmm (i := 879) (by decide +kernel) (by decide +kernel)
theorem zm_880 : Cond.instanceMethod yX5_over ∈ WA := zmm (i := 880) (by decide +kernel) (by decide +kernel)
theorem zm_881 : Cond.selects RX5 yX5_over yX5_over ∈ WA := zmm (i := 881) (by decide +kernel) (by decide +kernel)
theorem zm_882 : Cond.code yX5_over prog_1_method_20_code 4 (Option.some FieldType.int) ∈ WA := zmm (i := 882) (by decide +kernel) (by decide +kernel)
theorem dL_over_15 : decode cL_over 15 = .ok (.astore 5, 2) := by decide +kernel
theorem dL_over_17 : decode cL_over 17 = .ok (.iconst 1, 1) := by decide +kernel
theorem dL_over_18 : decode cL_over 18 = .ok (.ireturn, 1) := by decide +kernel
set_option maxHeartbeats 4000000 in
set_option maxRecDepth 100000 in
theorem c_L_over (l : Launch) (hst : l.stackTraces = false) (D : va_G) (sa : Nat → Nat) (ad : Nat → Nat) (sz : Nat) (p0 : Int32) (p1 : Int32) (p2 : Int32) (oa : Nat) : vx_Met l yL_over ((Cond.codeWith yL_over method_20_code 6 (Option.some FieldType.int) [(0, 12, 15, 23), (0, 12, 19, 13)]) :: WA) ({ frames := 8, cells := 1, slots := 6, locals := 126 }) (zR D sa (zX ad) [.ref (ad 0), .int p0, .int p1, .int p2, .ref oa] sz) (va_Qi (fun (r : Int32) (_ : Unit) => r = 1) (fun _ _ => True) (zN sz)) (zX0 sz) 1 6 (zN sz) := by
  refine vx_ofWH (cc := method_20_code) (maxL := 6) (ret := (Option.some FieldType.int)) (hh := [(0, 12, 15, 23), (0, 12, 19, 13)]) (by decide) rfl ?_
  intro p e s m args below meth c s₁ B hml hv
  obtain ⟨rfl, hsz, hP, hK, hT, hZ⟩ := hv
  have hx := B.exec
  have hb := B.bytes
  have hr := B.returns
  have hts := atoms_spec (ws := (Cond.codeWith yL_over method_20_code 6 (Option.some FieldType.int) [(0, 12, 15, 23), (0, 12, 19, 13)]) :: WA) B.pre
  have hw : ∀ w ∈ WA, w.before _ s = true := fun w h => hts w (List.mem_cons_of_mem _ h)
  have htab := vx_table (x := yL_over) B (hts _ List.mem_cons_self)
  have hown : s.vm.findClass RL = some m.cls := findClass_of_methodNamed B.named
  have hlocks := B.notSynchronized
  subst hsz
  have hA : ∀ q : Nat, s.heap.size ≤ q → zN s.heap.size q := fun _ h => h
  have hS : va_S (zN s.heap.size) s.heap s.heap [] := va_S.rf
  have hP : va_P D vwCl [((ad 0), .inr (10, [.ref (ad 1), .ref (ad 2), .ref (ad 3), .ref (ad 4), .ref (ad 5), .int (-1), .int 100, .int 0, .int 0])), ((ad 1), .inr (7, [.ref (ad 6), .ref (ad 7), .ref (ad 8), .int 0])), ((ad 2), .inr (8, [.ref (ad 9), .ref (ad 10), .int 0])), ((ad 3), .inr (4, [.int 0, .ref (ad 14), .int 0])), ((ad 4), .inr (4, [.int 0, .ref (ad 14), .int 0])), ((ad 5), .inr (6, [.ref (ad 11), .ref (ad 12), .ref (ad 13), .int 0, .int 0]))] s.heap := hP
  have hl := lv_entry [.ref (ad 0), .int p0, .int p1, .int p2, .ref oa] (n := 6) (Nat.le_of_ble_eq_true rfl)
  rw [lg_entry_eq]
  generalize (lg_sl [.ref (ad 0), .int p0, .int p1, .int p2, .ref oa] ++ List.replicate (6 - (lg_sl [.ref (ad 0), .int p0, .int p1, .int p2, .ref oa]).length) Slot.unset).toArray = ls at hl ⊢
  have hl : lv_has ls 6 [(0, .ref (ad 0)), (1, .int p0), (2, .int p1), (3, .int p2), (4, .ref oa)] := hl
  refine lv_aload hx hb dL_over_0 (lv_at hl 4 rfl) ?_
  refine lv_iconst (v := 0) hx hb dL_over_2 (by decide) ?_
  refine lv_aload_n hx hb dL_over_3 rfl (lv_at hl 0 rfl) ?_
  refine lv_iload_n hx hb dL_over_4 rfl (lv_at hl 1 rfl) ?_
  refine lv_iload_n hx hb dL_over_5 rfl (lv_at hl 2 rfl) ?_
  refine lv_iload_n hx hb dL_over_6 rfl (lv_at hl 3 rfl) ?_
  refine zx_call (vx_runV (As := [.int p0, .int p1, .int p2]) (rest := [.int 0, .ref oa]) ⟨hx, hb, hml, hown, hw⟩ (c_X5_over l hst D sa ad _ p0 p1 p2) (cwV 3 hw (zg4 zm_879 zm_880 zm_881 zm_45 zm_882) rfl rfl rfl (by decide +kernel) ⟨Nat.le_of_ble_eq_true rfl, Nat.le_of_ble_eq_true rfl⟩) ⟨zR_blind, va_recv hK hP (ci := 10) (q0 := 0) rfl rfl, zR_pre hP hK hT hZ hS hA⟩ rfl rfl hl.1 rfl (lv_room (Nat.le_of_ble_eq_true rfl)) dL_over_7 ⟨Nat.le_of_ble_eq_true rfl, Nat.le_of_ble_eq_true rfl⟩) hS (zN_fr hS hA) zN_in (fun E ce q9 u t H locs ht hvm hu hE hz1 hk1 hS hce hcv hcl => ?_)
  subst hE
  refine vx_catch hown [] ⟨0, 12, 15, 23⟩ (tableOf [(0, 12, 19, 13)]) htab (fun z hz => absurd hz List.not_mem_nil) (by decide) (by decide) (hw _ zm_487) (hT.c 3 rfl) hce hcv hcl ?_
  refine lv_astore (lv' := [(5, .ref q9), (0, .ref (ad 0)), (1, .int p0), (2, .int p1), (3, .int p2), (4, .ref oa)]) hx hb dL_over_15 hl (by decide) rfl (fun ls hl => ?_)
  refine lv_iconst (v := 1) hx hb dL_over_17 (by decide) ?_
  refine vx_ret ?_
  exact W.iret (v := 1) hx hb hr (fun t ht hW => ⟨⟨1, (), rfl, rfl, trivial⟩, hS.F ht⟩) hS.2.2 dL_over_18
theorem dX9_over_0 : decode cX9_over 0 = .ok (.aload_n 0, 1) := by decide +kernel
theorem dX9_over_1 : decode cX9_over 1 = .ok (.aload_n 0, 1) := by decide +kernel
theorem dX9_over_2 : decode cX9_over 2 = .ok (.iload_n 1, 1) := by decide +kernel
theorem dX9_over_3 : decode cX9_over 3 = .ok (.invokevirtual 118, 3) := by decide +kernel
theorem dX9_over_6 : decode cX9_over 6 = .ok (.iconst 1, 1) := by decide +kernel
theorem dX9_over_7 : decode cX9_over 7 = .ok (.invokevirtual 51, 3) := by decide +kernel
theorem dX9_over_10 : decode cX9_over 10 = .ok (.ifCond .ne 36, 3) := by decide +kernel
theorem dX9_over_46 : decode cX9_over 46 = .ok (.iconst 0, 1) := by decide +kernel
theorem dX9_over_47 : decode cX9_over 47 = .ok (.ireturn, 1) := by decide +kernel
set_option maxHeartbeats 4000000 in
set_option maxRecDepth 100000 in
theorem c_X9_over (l : Launch) (D : va_G) (sa : Nat → Nat) (ea : Nat) (bd : Nat → Nat) (th : Int32) (sz : Nat) (p0 : Int32) (p1 : Int32) (p2 : Int32) : Met l yX9_over ((Cond.code yX9_over prog_8_method_30_code 4 (Option.some FieldType.int)) :: WA) ({ frames := 2, cells := 0, slots := 0, locals := 43 }) (zW D sa ea [] (zM bd th) [.ref (bd 0), .int p0, .int p1, .int p2] sz) (va_Qi (fun (r : Int32) (_ : Unit) => r = 0) (fun _ t => va_P D vwCl [((bd 0), .inr (14, [.ref (bd 1), .ref (bd 2), .ref (bd 3), .ref (bd 4), .ref (bd 5), .ref (bd 6), .int 100, .int (-1), .int 0, .int 1])), ((bd 1), .inr (4, [.int 0, .ref (bd 7), .int 0])), ((bd 2), .inr (4, [.int 0, .ref (bd 7), .int 0])), ((bd 3), .inr (4, [.int 0, .ref (bd 7), .int 0])), ((bd 4), .inr (4, [.int 0, .ref (bd 7), .int 0])), ((bd 5), .inr (4, [.int 0, .ref (bd 7), .int 0])), ((bd 6), .inr (4, [.int 0, .ref (bd 7), .int 0]))] t.heap ∧ va_D (va_A (zM bd th) sz) [((bd 0), .inr (14, [.ref (bd 1), .ref (bd 2), .ref (bd 3), .ref (bd 4), .ref (bd 5), .ref (bd 6), .int 100, .int (-1), .int 0, .int 1])), ((bd 1), .inr (4, [.int 0, .ref (bd 7), .int 0])), ((bd 2), .inr (4, [.int 0, .ref (bd 7), .int 0])), ((bd 3), .inr (4, [.int 0, .ref (bd 7), .int 0])), ((bd 4), .inr (4, [.int 0, .ref (bd 7), .int 0])), ((bd 5), .inr (4, [.int 0, .ref (bd 7), .int 0])), ((bd 6), .inr (4, [.int 0, .ref (bd 7), .int 0]))]) (va_A (zM bd th) sz)) 0 0 (va_A (zM bd th) sz) := by
  refine Met.ofW (cc := prog_8_method_30_code) (maxL := 4) (ret := (Option.some FieldType.int)) (by decide) rfl ?_
  intro p e s m args below meth c s₁ B hml hv
  obtain ⟨rfl, hsz, hP, hK, hD0, hT, hE⟩ := hv
  have hx := B.exec
  have hb := B.bytes
  have hr := B.returns
  have hts := atoms_spec (ws := (Cond.code yX9_over prog_8_method_30_code 4 (Option.some FieldType.int)) :: WA) B.pre
  have hw : ∀ w ∈ WA, w.before _ s = true := fun w h => hts w (List.mem_cons_of_mem _ h)
  have hown : s.vm.findClass RX9 = some m.cls := findClass_of_methodNamed B.named
  have hlocks := B.notSynchronized
  subst hsz
  have hD := hD0.self (sz := s.heap.size)
  generalize hAe : va_A (zM bd th) s.heap.size = A at hD hE ⊢
  have hA : ∀ q : Nat, s.heap.size ≤ q → A q := fun q h => by rw [← hAe]; exact Or.inr h
  have hS : va_S A s.heap s.heap [] := va_S.rf
  have hP : va_P D vwCl [((bd 0), .inr (14, [.ref (bd 1), .ref (bd 2), .ref (bd 3), .ref (bd 4), .ref (bd 5), .ref (bd 6), .int 100, .int (-1), .int 0, .int th])), ((bd 1), .inr (4, [.int 0, .ref (bd 7), .int 0])), ((bd 2), .inr (4, [.int 0, .ref (bd 7), .int 0])), ((bd 3), .inr (4, [.int 0, .ref (bd 7), .int 0])), ((bd 4), .inr (4, [.int 0, .ref (bd 7), .int 0])), ((bd 5), .inr (4, [.int 0, .ref (bd 7), .int 0])), ((bd 6), .inr (4, [.int 0, .ref (bd 7), .int 0]))] s.heap := hP
  have hD : va_D A [((bd 0), .inr (14, [.ref (bd 1), .ref (bd 2), .ref (bd 3), .ref (bd 4), .ref (bd 5), .ref (bd 6), .int 100, .int (-1), .int 0, .int th])), ((bd 1), .inr (4, [.int 0, .ref (bd 7), .int 0])), ((bd 2), .inr (4, [.int 0, .ref (bd 7), .int 0])), ((bd 3), .inr (4, [.int 0, .ref (bd 7), .int 0])), ((bd 4), .inr (4, [.int 0, .ref (bd 7), .int 0])), ((bd 5), .inr (4, [.int 0, .ref (bd 7), .int 0])), ((bd 6), .inr (4, [.int 0, .ref (bd 7), .int 0]))] := hD
  have hl := lv_entry [.ref (bd 0), .int p0, .int p1, .int p2] (n := 4) (Nat.le_of_ble_eq_true rfl)
  rw [lg_entry_eq]
  generalize (lg_sl [.ref (bd 0), .int p0, .int p1, .int p2] ++ List.replicate (4 - (lg_sl [.ref (bd 0), .int p0, .int p1, .int p2]).length) Slot.unset).toArray = ls at hl ⊢
  have hl : lv_has ls 4 [(0, .ref (bd 0)), (1, .int p0), (2, .int p1), (3, .int p2)] := hl
  refine lv_aload_n hx hb dX9_over_0 rfl (lv_at hl 0 rfl) ?_
  refine lv_aload_n hx hb dX9_over_1 rfl (lv_at hl 0 rfl) ?_
  refine lv_iload_n hx hb dX9_over_2 rfl (lv_at hl 1 rfl) ?_
  refine va_calli (va_runV (As := [.int p0]) (rest := [.ref (bd 0)]) ⟨hx, hb, hml, hown, hw⟩ (c_X9_isSett l D sa bd th _ p0) (cwV 1 hw (zg4 zm_1521 zm_1523 zm_29 zm_53 zm_1524) rfl rfl rfl (by decide +kernel) ⟨Nat.le_of_ble_eq_true rfl, Nat.le_of_ble_eq_true rfl⟩) ⟨zJ_blind, va_recv hK hP (ci := 14) (q0 := 0) rfl rfl, zJ_pre hP hK hT⟩ rfl rfl hl.1 rfl (lv_room (Nat.le_of_ble_eq_true rfl)) dX9_over_3 ⟨Nat.le_of_ble_eq_true rfl, Nat.le_of_ble_eq_true rfl⟩) hS zN_in (zN_fr hS hA) (fun r_1 u t H locs ht hvm hw1 hB hz1 hk1 hS => ?_)
  have hP := zN_keep hP hk1
  subst hw1
  refine lv_iconst (v := 1) hx hb dX9_over_6 (by decide) ?_
  have hFc := va_free (wc := [((bd 0), .inr (14, [.ref (bd 1), .ref (bd 2), .ref (bd 3), .ref (bd 4), .ref (bd 5), .ref (bd 6), .int 100, .int (-1), .int 0, .int th])), ((bd 1), .inr (4, [.int 0, .ref (bd 7), .int 0])), ((bd 2), .inr (4, [.int 0, .ref (bd 7), .int 0])), ((bd 3), .inr (4, [.int 0, .ref (bd 7), .int 0])), ((bd 4), .inr (4, [.int 0, .ref (bd 7), .int 0])), ((bd 5), .inr (4, [.int 0, .ref (bd 7), .int 0])), ((bd 6), .inr (4, [.int 0, .ref (bd 7), .int 0]))]) hD hS hA [0, 1, 2, 3, 4, 5, 6] rfl
  refine va_calli (va_runV (As := [.int 0, .int 1]) (rest := []) ⟨hx, hb, hml, hown, hw⟩ (c_X9_no0 l D sa ea bd th _ 1) (cwV 2 hw (zg4 zm_1314 zm_1316 zm_26 zm_53 zm_1317) rfl rfl rfl (by decide +kernel) ⟨Nat.le_of_ble_eq_true rfl, Nat.le_of_ble_eq_true rfl⟩) ⟨zW_blind, va_recv hK hP (ci := 14) (q0 := 0) rfl rfl, zW_pre hP hK hD hT hE hS hFc⟩ rfl rfl hl.1 rfl (lv_room (Nat.le_of_ble_eq_true rfl)) dX9_over_7 ⟨Nat.le_of_ble_eq_true rfl, Nat.le_of_ble_eq_true rfl⟩) hS (fun q _ h => hFc q h) hFc (fun r_2 u t H locs ht hvm hw1 hB hz1 hk1 hS => ?_)
  subst hw1
  obtain ⟨hP1, hD1⟩ := hB
  rw [ht] at hP1
  obtain ⟨hP, hD⟩ := va_join (wr := []) (w1 := [((bd 0), .inr (14, [.ref (bd 1), .ref (bd 2), .ref (bd 3), .ref (bd 4), .ref (bd 5), .ref (bd 6), .int 100, .int (-1), .int 0, .int 1])), ((bd 1), .inr (4, [.int 0, .ref (bd 7), .int 0])), ((bd 2), .inr (4, [.int 0, .ref (bd 7), .int 0])), ((bd 3), .inr (4, [.int 0, .ref (bd 7), .int 0])), ((bd 4), .inr (4, [.int 0, .ref (bd 7), .int 0])), ((bd 5), .inr (4, [.int 0, .ref (bd 7), .int 0])), ((bd 6), .inr (4, [.int 0, .ref (bd 7), .int 0]))]) hP hD [0, 1, 2, 3, 4, 5, 6] [] rfl rfl (by decide) (by decide) hk1 hFc hP1 hD1
  have hP : va_P D vwCl [((bd 0), .inr (14, [.ref (bd 1), .ref (bd 2), .ref (bd 3), .ref (bd 4), .ref (bd 5), .ref (bd 6), .int 100, .int (-1), .int 0, .int 1])), ((bd 1), .inr (4, [.int 0, .ref (bd 7), .int 0])), ((bd 2), .inr (4, [.int 0, .ref (bd 7), .int 0])), ((bd 3), .inr (4, [.int 0, .ref (bd 7), .int 0])), ((bd 4), .inr (4, [.int 0, .ref (bd 7), .int 0])), ((bd 5), .inr (4, [.int 0, .ref (bd 7), .int 0])), ((bd 6), .inr (4, [.int 0, .ref (bd 7), .int 0]))] H := hP
  have hD : va_D A [((bd 0), .inr (14, [.ref (bd 1), .ref (bd 2), .ref (bd 3), .ref (bd 4), .ref (bd 5), .ref (bd 6), .int 100, .int (-1), .int 0, .int 1])), ((bd 1), .inr (4, [.int 0, .ref (bd 7), .int 0])), ((bd 2), .inr (4, [.int 0, .ref (bd 7), .int 0])), ((bd 3), .inr (4, [.int 0, .ref (bd 7), .int 0])), ((bd 4), .inr (4, [.int 0, .ref (bd 7), .int 0])), ((bd 5), .inr (4, [.int 0, .ref (bd 7), .int 0])), ((bd 6), .inr (4, [.int 0, .ref (bd 7), .int 0]))] := hD
  refine lv_if_ne (tgt := 46) hx hb dX9_over_10 (by decide) (fun _ => ?_) (fun c_3 => absurd c_3 (by decide))
  refine lv_iconst (v := 0) hx hb dX9_over_46 (by decide) ?_
  have hP9 := hP.sub (ws' := [((bd 0), .inr (14, [.ref (bd 1), .ref (bd 2), .ref (bd 3), .ref (bd 4), .ref (bd 5), .ref (bd 6), .int 100, .int (-1), .int 0, .int 1])), ((bd 1), .inr (4, [.int 0, .ref (bd 7), .int 0])), ((bd 2), .inr (4, [.int 0, .ref (bd 7), .int 0])), ((bd 3), .inr (4, [.int 0, .ref (bd 7), .int 0])), ((bd 4), .inr (4, [.int 0, .ref (bd 7), .int 0])), ((bd 5), .inr (4, [.int 0, .ref (bd 7), .int 0])), ((bd 6), .inr (4, [.int 0, .ref (bd 7), .int 0]))]) [0, 1, 2, 3, 4, 5, 6] rfl
  have hD9 := hD.sub (ws' := [((bd 0), .inr (14, [.ref (bd 1), .ref (bd 2), .ref (bd 3), .ref (bd 4), .ref (bd 5), .ref (bd 6), .int 100, .int (-1), .int 0, .int 1])), ((bd 1), .inr (4, [.int 0, .ref (bd 7), .int 0])), ((bd 2), .inr (4, [.int 0, .ref (bd 7), .int 0])), ((bd 3), .inr (4, [.int 0, .ref (bd 7), .int 0])), ((bd 4), .inr (4, [.int 0, .ref (bd 7), .int 0])), ((bd 5), .inr (4, [.int 0, .ref (bd 7), .int 0])), ((bd 6), .inr (4, [.int 0, .ref (bd 7), .int 0]))]) [0, 1, 2, 3, 4, 5, 6] (by decide) rfl
  refine W.widen (k := 0) (n := 0) (Nat.le_of_ble_eq_true rfl) (Nat.le_of_ble_eq_true rfl) ?_
  exact W.iret (v := 0) hx hb hr (fun t ht hW => ⟨⟨0, (), rfl, rfl, by rw [ht]; exact hP9, hD9⟩, hS.F ht⟩) hS.2.2 dX9_over_47
theorem dX5_scale_0 : decode cX5_scale 0 = .ok (.aload_n 0, 1) := by decide +kernel
theorem dX5_scale_1 : decode cX5_scale 1 = .ok (.iload_n 1, 1) := by decide +kernel
theorem dX5_scale_2 : decode cX5_scale 2 = .ok (.invokevirtual 137, 3) := by decide +kernel
set_option maxHeartbeats 4000000 in
set_option maxRecDepth 100000 in
theorem c_X5_scale (l : Launch) (hst : l.stackTraces = false) (D : va_G) (sa : Nat → Nat) (ad : Nat → Nat) (sz : Nat) (p0 : Int32) (p1 : Int32) (p2 : Int32) : vx_Met l yX5_scale ((Cond.code yX5_scale prog_1_method_21_code 5 (Option.some FieldType.int)) :: WA) ({ frames := 7, cells := 1, slots := 6, locals := 103 }) (zR D sa (zX ad) [.ref (ad 0), .int p0, .int p1, .int p2] sz) zF (zXC "java/lang/IndexOutOfBoundsException" sz) 1 6 (zN sz) := by
  refine vx_ofW (cc := prog_1_method_21_code) (maxL := 5) (ret := (Option.some FieldType.int)) (by decide) rfl ?_
  intro p e s m args below meth c s₁ B hml hnt hv
  obtain ⟨rfl, hsz, hP, hK, hT, hZ⟩ := hv
  have hx := B.exec
  have hb := B.bytes
  have hr := B.returns
  have hts := atoms_spec (ws := (Cond.code yX5_scale prog_1_method_21_code 5 (Option.some FieldType.int)) :: WA) B.pre
  have hw : ∀ w ∈ WA, w.before _ s = true := fun w h => hts w (List.mem_cons_of_mem _ h)
  have hown : s.vm.findClass RX5 = some m.cls := findClass_of_methodNamed B.named
  have hlocks := B.notSynchronized
  subst hsz
  have hA : ∀ q : Nat, s.heap.size ≤ q → zN s.heap.size q := fun _ h => h
  have hS : va_S (zN s.heap.size) s.heap s.heap [] := va_S.rf
  have hP : va_P D vwCl [((ad 0), .inr (10, [.ref (ad 1), .ref (ad 2), .ref (ad 3), .ref (ad 4), .ref (ad 5), .int (-1), .int 100, .int 0, .int 0])), ((ad 1), .inr (7, [.ref (ad 6), .ref (ad 7), .ref (ad 8), .int 0])), ((ad 2), .inr (8, [.ref (ad 9), .ref (ad 10), .int 0])), ((ad 3), .inr (4, [.int 0, .ref (ad 14), .int 0])), ((ad 4), .inr (4, [.int 0, .ref (ad 14), .int 0])), ((ad 5), .inr (6, [.ref (ad 11), .ref (ad 12), .ref (ad 13), .int 0, .int 0]))] s.heap := hP
  have hl := lv_entry [.ref (ad 0), .int p0, .int p1, .int p2] (n := 5) (Nat.le_of_ble_eq_true rfl)
  rw [lg_entry_eq]
  generalize (lg_sl [.ref (ad 0), .int p0, .int p1, .int p2] ++ List.replicate (5 - (lg_sl [.ref (ad 0), .int p0, .int p1, .int p2]).length) Slot.unset).toArray = ls at hl ⊢
  have hl : lv_has ls 5 [(0, .ref (ad 0)), (1, .int p0), (2, .int p1), (3, .int p2)] := hl
  refine lv_aload_n hx hb dX5_scale_0 rfl (lv_at hl 0 rfl) ?_
  refine lv_iload_n hx hb dX5_scale_1 rfl (lv_at hl 1 rfl) ?_
  refine zx_call (vx_runV (As := [.int p0]) (rest := []) ⟨hx, hb, hml, hown, hw⟩ (c_X5_settAt l hst D sa ad _ p0) (cwV 1 hw (zg4 zm_751 zm_753 zm_15 zm_45 zm_754) rfl rfl rfl (by decide +kernel) ⟨Nat.le_of_ble_eq_true rfl, Nat.le_of_ble_eq_true rfl⟩) ⟨zR_blind, va_recv hK hP (ci := 10) (q0 := 0) rfl rfl, zR_pre hP hK hT hZ hS hA⟩ rfl rfl hl.1 rfl (lv_room (Nat.le_of_ble_eq_true rfl)) dX5_scale_2 ⟨Nat.le_of_ble_eq_true rfl, Nat.le_of_ble_eq_true rfl⟩) hS (zN_fr hS hA) zN_in (fun E ce q9 u t H locs ht hvm hu hE hz1 hk1 hS hce hcv hcl => ?_)
  exact vx_out (fun x hx9 => (hnt x hx9).elim) hlocks hce hcv hcl (fun t ht _ => ⟨(), trivial, hE, hS.F ht⟩) (fun z hz => hS.2.2 z hz) (Nat.le_of_ble_eq_true rfl) (Nat.le_of_ble_eq_true rfl)
theorem dL_scale_0 : decode cL_scale 0 = .ok (.aload 4, 2) := by decide +kernel
theorem dL_scale_2 : decode cL_scale 2 = .ok (.iconst 0, 1) := by decide +kernel
theorem dL_scale_3 : decode cL_scale 3 = .ok (.aload_n 0, 1) := by decide +kernel
theorem dL_scale_4 : decode cL_scale 4 = .ok (.iload_n 1, 1) := by decide +kernel
theorem dL_scale_5 : decode cL_scale 5 = .ok (.iload_n 2, 1) := by decide +kernel
theorem dL_scale_6 : decode cL_scale 6 = .ok (.iload_n 3, 1) := by decide +kernel
theorem dL_scale_7 : decode cL_scale 7 = .ok (.invokevirtual 81, 3) := by decide +kernel
theorem zm_886 : Cond.methodLink RL 81 yX5_scale ∈ WA := zmm (i := 886) (by decide +kernel) (by decide +kernel)
theorem zm_887 : Cond.instanceMethod yX5_scale ∈ WA := zmm (i := 887) (by decide +kernel) (by decide +kernel)
theorem zm_888 : Cond.selects RX5 yX5_scale yX5_scale ∈ WA := zmm (i := 888) (by decide +kernel) (by decide +kernel)
theorem zm_889 : Cond.code yX5_scale prog_1_method_21_code 5 (Option.some FieldType.int) ∈ WA := zmm (i := 889) (by decide +kernel) (by decide +kernel)
theorem dL_scale_15 : decode cL_scale 15 = .ok (.astore 5, 2) := by decide +kernel
theorem dL_scale_17 : decode cL_scale 17 = .ok (.iconst 1, 1) := by decide +kernel
theorem dL_scale_18 : decode cL_scale 18 = .ok (.ireturn, 1) := by decide +kernel
set_option maxHeartbeats 4000000 in
set_option maxRecDepth 100000 in
theorem c_L_scale (l : Launch) (hst : l.stackTraces = false) (D : va_G) (sa : Nat → Nat) (ad : Nat → Nat) (sz : Nat) (p0 : Int32) (p1 : Int32) (p2 : Int32) (oa : Nat) : vx_Met l yL_scale ((Cond.codeWith yL_scale method_21_code 6 (Option.some FieldType.int) [(0, 12, 15, 23), (0, 12, 19, 13), (0, 12, 23, 15), (0, 12, 27, 17)]) :: WA) ({ frames := 8, cells := 1, slots := 6, locals := 127 }) (zR D sa (zX ad) [.ref (ad 0), .int p0, .int p1, .int p2, .ref oa] sz) (va_Qi (fun (r : Int32) (_ : Unit) => r = 1) (fun _ _ => True) (zN sz)) (zX0 sz) 1 6 (zN sz) := by
  refine vx_ofWH (cc := method_21_code) (maxL := 6) (ret := (Option.some FieldType.int)) (hh := [(0, 12, 15, 23), (0, 12, 19, 13), (0, 12, 23, 15), (0, 12, 27, 17)]) (by decide) rfl ?_
  intro p e s m args below meth c s₁ B hml hv
  obtain ⟨rfl, hsz, hP, hK, hT, hZ⟩ := hv
  have hx := B.exec
  have hb := B.bytes
  have hr := B.returns
  have hts := atoms_spec (ws := (Cond.codeWith yL_scale method_21_code 6 (Option.some FieldType.int) [(0, 12, 15, 23), (0, 12, 19, 13), (0, 12, 23, 15), (0, 12, 27, 17)]) :: WA) B.pre
  have hw : ∀ w ∈ WA, w.before _ s = true := fun w h => hts w (List.mem_cons_of_mem _ h)
  have htab := vx_table (x := yL_scale) B (hts _ List.mem_cons_self)
  have hown : s.vm.findClass RL = some m.cls := findClass_of_methodNamed B.named
  have hlocks := B.notSynchronized
  subst hsz
  have hA : ∀ q : Nat, s.heap.size ≤ q → zN s.heap.size q := fun _ h => h
  have hS : va_S (zN s.heap.size) s.heap s.heap [] := va_S.rf
  have hP : va_P D vwCl [((ad 0), .inr (10, [.ref (ad 1), .ref (ad 2), .ref (ad 3), .ref (ad 4), .ref (ad 5), .int (-1), .int 100, .int 0, .int 0])), ((ad 1), .inr (7, [.ref (ad 6), .ref (ad 7), .ref (ad 8), .int 0])), ((ad 2), .inr (8, [.ref (ad 9), .ref (ad 10), .int 0])), ((ad 3), .inr (4, [.int 0, .ref (ad 14), .int 0])), ((ad 4), .inr (4, [.int 0, .ref (ad 14), .int 0])), ((ad 5), .inr (6, [.ref (ad 11), .ref (ad 12), .ref (ad 13), .int 0, .int 0]))] s.heap := hP
  have hl := lv_entry [.ref (ad 0), .int p0, .int p1, .int p2, .ref oa] (n := 6) (Nat.le_of_ble_eq_true rfl)
  rw [lg_entry_eq]
  generalize (lg_sl [.ref (ad 0), .int p0, .int p1, .int p2, .ref oa] ++ List.replicate (6 - (lg_sl [.ref (ad 0), .int p0, .int p1, .int p2, .ref oa]).length) Slot.unset).toArray = ls at hl ⊢
  have hl : lv_has ls 6 [(0, .ref (ad 0)), (1, .int p0), (2, .int p1), (3, .int p2), (4, .ref oa)] := hl
  refine lv_aload hx hb dL_scale_0 (lv_at hl 4 rfl) ?_
  refine lv_iconst (v := 0) hx hb dL_scale_2 (by decide) ?_
  refine lv_aload_n hx hb dL_scale_3 rfl (lv_at hl 0 rfl) ?_
  refine lv_iload_n hx hb dL_scale_4 rfl (lv_at hl 1 rfl) ?_
  refine lv_iload_n hx hb dL_scale_5 rfl (lv_at hl 2 rfl) ?_
  refine lv_iload_n hx hb dL_scale_6 rfl (lv_at hl 3 rfl) ?_
  refine zx_call (vx_runV (As := [.int p0, .int p1, .int p2]) (rest := [.int 0, .ref oa]) ⟨hx, hb, hml, hown, hw⟩ (c_X5_scale l hst D sa ad _ p0 p1 p2) (cwV 3 hw (zg4 zm_886 zm_887 zm_888 zm_45 zm_889) rfl rfl rfl (by decide +kernel) ⟨Nat.le_of_ble_eq_true rfl, Nat.le_of_ble_eq_true rfl⟩) ⟨zR_blind, va_recv hK hP (ci := 10) (q0 := 0) rfl rfl, zR_pre hP hK hT hZ hS hA⟩ rfl rfl hl.1 rfl (lv_room (Nat.le_of_ble_eq_true rfl)) dL_scale_7 ⟨Nat.le_of_ble_eq_true rfl, Nat.le_of_ble_eq_true rfl⟩) hS (zN_fr hS hA) zN_in (fun E ce q9 u t H locs ht hvm hu hE hz1 hk1 hS hce hcv hcl => ?_)
  subst hE
  refine vx_catch hown [] ⟨0, 12, 15, 23⟩ (tableOf [(0, 12, 19, 13), (0, 12, 23, 15), (0, 12, 27, 17)]) htab (fun z hz => absurd hz List.not_mem_nil) (by decide) (by decide) (hw _ zm_487) (hT.c 3 rfl) hce hcv hcl ?_
  refine lv_astore (lv' := [(5, .ref q9), (0, .ref (ad 0)), (1, .int p0), (2, .int p1), (3, .int p2), (4, .ref oa)]) hx hb dL_scale_15 hl (by decide) rfl (fun ls hl => ?_)
  refine lv_iconst (v := 1) hx hb dL_scale_17 (by decide) ?_
  refine vx_ret ?_
  exact W.iret (v := 1) hx hb hr (fun t ht hW => ⟨⟨1, (), rfl, rfl, trivial⟩, hS.F ht⟩) hS.2.2 dL_scale_18
theorem dX9_scale_0 : decode cX9_scale 0 = .ok (.aload_n 0, 1) := by decide +kernel
theorem dX9_scale_1 : decode cX9_scale 1 = .ok (.aload_n 0, 1) := by decide +kernel
theorem dX9_scale_2 : decode cX9_scale 2 = .ok (.iload_n 1, 1) := by decide +kernel
theorem dX9_scale_3 : decode cX9_scale 3 = .ok (.invokevirtual 118, 3) := by decide +kernel
theorem dX9_scale_6 : decode cX9_scale 6 = .ok (.iconst 1, 1) := by decide +kernel
theorem dX9_scale_7 : decode cX9_scale 7 = .ok (.invokevirtual 51, 3) := by decide +kernel
theorem dX9_scale_10 : decode cX9_scale 10 = .ok (.ifCond .ne 36, 3) := by decide +kernel
theorem dX9_scale_46 : decode cX9_scale 46 = .ok (.iconst 0, 1) := by decide +kernel
theorem dX9_scale_47 : decode cX9_scale 47 = .ok (.ireturn, 1) := by decide +kernel
set_option maxHeartbeats 4000000 in
set_option maxRecDepth 100000 in
theorem c_X9_scale (l : Launch) (D : va_G) (sa : Nat → Nat) (ea : Nat) (bd : Nat → Nat) (th : Int32) (sz : Nat) (p0 : Int32) (p1 : Int32) (p2 : Int32) : Met l yX9_scale ((Cond.code yX9_scale prog_8_method_31_code 12 (Option.some FieldType.int)) :: WA) ({ frames := 2, cells := 0, slots := 0, locals := 43 }) (zW D sa ea [] (zM bd th) [.ref (bd 0), .int p0, .int p1, .int p2] sz) (va_Qi (fun (r : Int32) (_ : Unit) => r = 0) (fun _ t => va_P D vwCl [((bd 0), .inr (14, [.ref (bd 1), .ref (bd 2), .ref (bd 3), .ref (bd 4), .ref (bd 5), .ref (bd 6), .int 100, .int (-1), .int 0, .int 1])), ((bd 1), .inr (4, [.int 0, .ref (bd 7), .int 0])), ((bd 2), .inr (4, [.int 0, .ref (bd 7), .int 0])), ((bd 3), .inr (4, [.int 0, .ref (bd 7), .int 0])), ((bd 4), .inr (4, [.int 0, .ref (bd 7), .int 0])), ((bd 5), .inr (4, [.int 0, .ref (bd 7), .int 0])), ((bd 6), .inr (4, [.int 0, .ref (bd 7), .int 0]))] t.heap ∧ va_D (va_A (zM bd th) sz) [((bd 0), .inr (14, [.ref (bd 1), .ref (bd 2), .ref (bd 3), .ref (bd 4), .ref (bd 5), .ref (bd 6), .int 100, .int (-1), .int 0, .int 1])), ((bd 1), .inr (4, [.int 0, .ref (bd 7), .int 0])), ((bd 2), .inr (4, [.int 0, .ref (bd 7), .int 0])), ((bd 3), .inr (4, [.int 0, .ref (bd 7), .int 0])), ((bd 4), .inr (4, [.int 0, .ref (bd 7), .int 0])), ((bd 5), .inr (4, [.int 0, .ref (bd 7), .int 0])), ((bd 6), .inr (4, [.int 0, .ref (bd 7), .int 0]))]) (va_A (zM bd th) sz)) 0 0 (va_A (zM bd th) sz) := by
  refine Met.ofW (cc := prog_8_method_31_code) (maxL := 12) (ret := (Option.some FieldType.int)) (by decide) rfl ?_
  intro p e s m args below meth c s₁ B hml hv
  obtain ⟨rfl, hsz, hP, hK, hD0, hT, hE⟩ := hv
  have hx := B.exec
  have hb := B.bytes
  have hr := B.returns
  have hts := atoms_spec (ws := (Cond.code yX9_scale prog_8_method_31_code 12 (Option.some FieldType.int)) :: WA) B.pre
  have hw : ∀ w ∈ WA, w.before _ s = true := fun w h => hts w (List.mem_cons_of_mem _ h)
  have hown : s.vm.findClass RX9 = some m.cls := findClass_of_methodNamed B.named
  have hlocks := B.notSynchronized
  subst hsz
  have hD := hD0.self (sz := s.heap.size)
  generalize hAe : va_A (zM bd th) s.heap.size = A at hD hE ⊢
  have hA : ∀ q : Nat, s.heap.size ≤ q → A q := fun q h => by rw [← hAe]; exact Or.inr h
  have hS : va_S A s.heap s.heap [] := va_S.rf
  have hP : va_P D vwCl [((bd 0), .inr (14, [.ref (bd 1), .ref (bd 2), .ref (bd 3), .ref (bd 4), .ref (bd 5), .ref (bd 6), .int 100, .int (-1), .int 0, .int th])), ((bd 1), .inr (4, [.int 0, .ref (bd 7), .int 0])), ((bd 2), .inr (4, [.int 0, .ref (bd 7), .int 0])), ((bd 3), .inr (4, [.int 0, .ref (bd 7), .int 0])), ((bd 4), .inr (4, [.int 0, .ref (bd 7), .int 0])), ((bd 5), .inr (4, [.int 0, .ref (bd 7), .int 0])), ((bd 6), .inr (4, [.int 0, .ref (bd 7), .int 0]))] s.heap := hP
  have hD : va_D A [((bd 0), .inr (14, [.ref (bd 1), .ref (bd 2), .ref (bd 3), .ref (bd 4), .ref (bd 5), .ref (bd 6), .int 100, .int (-1), .int 0, .int th])), ((bd 1), .inr (4, [.int 0, .ref (bd 7), .int 0])), ((bd 2), .inr (4, [.int 0, .ref (bd 7), .int 0])), ((bd 3), .inr (4, [.int 0, .ref (bd 7), .int 0])), ((bd 4), .inr (4, [.int 0, .ref (bd 7), .int 0])), ((bd 5), .inr (4, [.int 0, .ref (bd 7), .int 0])), ((bd 6), .inr (4, [.int 0, .ref (bd 7), .int 0]))] := hD
  have hl := lv_entry [.ref (bd 0), .int p0, .int p1, .int p2] (n := 12) (Nat.le_of_ble_eq_true rfl)
  rw [lg_entry_eq]
  generalize (lg_sl [.ref (bd 0), .int p0, .int p1, .int p2] ++ List.replicate (12 - (lg_sl [.ref (bd 0), .int p0, .int p1, .int p2]).length) Slot.unset).toArray = ls at hl ⊢
  have hl : lv_has ls 12 [(0, .ref (bd 0)), (1, .int p0), (2, .int p1), (3, .int p2)] := hl
  refine lv_aload_n hx hb dX9_scale_0 rfl (lv_at hl 0 rfl) ?_
  refine lv_aload_n hx hb dX9_scale_1 rfl (lv_at hl 0 rfl) ?_
  refine lv_iload_n hx hb dX9_scale_2 rfl (lv_at hl 1 rfl) ?_
  refine va_calli (va_runV (As := [.int p0]) (rest := [.ref (bd 0)]) ⟨hx, hb, hml, hown, hw⟩ (c_X9_isSett l D sa bd th _ p0) (cwV 1 hw (zg4 zm_1521 zm_1523 zm_29 zm_53 zm_1524) rfl rfl rfl (by decide +kernel) ⟨Nat.le_of_ble_eq_true rfl, Nat.le_of_ble_eq_true rfl⟩) ⟨zJ_blind, va_recv hK hP (ci := 14) (q0 := 0) rfl rfl, zJ_pre hP hK hT⟩ rfl rfl hl.1 rfl (lv_room (Nat.le_of_ble_eq_true rfl)) dX9_scale_3 ⟨Nat.le_of_ble_eq_true rfl, Nat.le_of_ble_eq_true rfl⟩) hS zN_in (zN_fr hS hA) (fun r_1 u t H locs ht hvm hw1 hB hz1 hk1 hS => ?_)
  have hP := zN_keep hP hk1
  subst hw1
  refine lv_iconst (v := 1) hx hb dX9_scale_6 (by decide) ?_
  have hFc := va_free (wc := [((bd 0), .inr (14, [.ref (bd 1), .ref (bd 2), .ref (bd 3), .ref (bd 4), .ref (bd 5), .ref (bd 6), .int 100, .int (-1), .int 0, .int th])), ((bd 1), .inr (4, [.int 0, .ref (bd 7), .int 0])), ((bd 2), .inr (4, [.int 0, .ref (bd 7), .int 0])), ((bd 3), .inr (4, [.int 0, .ref (bd 7), .int 0])), ((bd 4), .inr (4, [.int 0, .ref (bd 7), .int 0])), ((bd 5), .inr (4, [.int 0, .ref (bd 7), .int 0])), ((bd 6), .inr (4, [.int 0, .ref (bd 7), .int 0]))]) hD hS hA [0, 1, 2, 3, 4, 5, 6] rfl
  refine va_calli (va_runV (As := [.int 0, .int 1]) (rest := []) ⟨hx, hb, hml, hown, hw⟩ (c_X9_no0 l D sa ea bd th _ 1) (cwV 2 hw (zg4 zm_1314 zm_1316 zm_26 zm_53 zm_1317) rfl rfl rfl (by decide +kernel) ⟨Nat.le_of_ble_eq_true rfl, Nat.le_of_ble_eq_true rfl⟩) ⟨zW_blind, va_recv hK hP (ci := 14) (q0 := 0) rfl rfl, zW_pre hP hK hD hT hE hS hFc⟩ rfl rfl hl.1 rfl (lv_room (Nat.le_of_ble_eq_true rfl)) dX9_scale_7 ⟨Nat.le_of_ble_eq_true rfl, Nat.le_of_ble_eq_true rfl⟩) hS (fun q _ h => hFc q h) hFc (fun r_2 u t H locs ht hvm hw1 hB hz1 hk1 hS => ?_)
  subst hw1
  obtain ⟨hP1, hD1⟩ := hB
  rw [ht] at hP1
  obtain ⟨hP, hD⟩ := va_join (wr := []) (w1 := [((bd 0), .inr (14, [.ref (bd 1), .ref (bd 2), .ref (bd 3), .ref (bd 4), .ref (bd 5), .ref (bd 6), .int 100, .int (-1), .int 0, .int 1])), ((bd 1), .inr (4, [.int 0, .ref (bd 7), .int 0])), ((bd 2), .inr (4, [.int 0, .ref (bd 7), .int 0])), ((bd 3), .inr (4, [.int 0, .ref (bd 7), .int 0])), ((bd 4), .inr (4, [.int 0, .ref (bd 7), .int 0])), ((bd 5), .inr (4, [.int 0, .ref (bd 7), .int 0])), ((bd 6), .inr (4, [.int 0, .ref (bd 7), .int 0]))]) hP hD [0, 1, 2, 3, 4, 5, 6] [] rfl rfl (by decide) (by decide) hk1 hFc hP1 hD1
  have hP : va_P D vwCl [((bd 0), .inr (14, [.ref (bd 1), .ref (bd 2), .ref (bd 3), .ref (bd 4), .ref (bd 5), .ref (bd 6), .int 100, .int (-1), .int 0, .int 1])), ((bd 1), .inr (4, [.int 0, .ref (bd 7), .int 0])), ((bd 2), .inr (4, [.int 0, .ref (bd 7), .int 0])), ((bd 3), .inr (4, [.int 0, .ref (bd 7), .int 0])), ((bd 4), .inr (4, [.int 0, .ref (bd 7), .int 0])), ((bd 5), .inr (4, [.int 0, .ref (bd 7), .int 0])), ((bd 6), .inr (4, [.int 0, .ref (bd 7), .int 0]))] H := hP
  have hD : va_D A [((bd 0), .inr (14, [.ref (bd 1), .ref (bd 2), .ref (bd 3), .ref (bd 4), .ref (bd 5), .ref (bd 6), .int 100, .int (-1), .int 0, .int 1])), ((bd 1), .inr (4, [.int 0, .ref (bd 7), .int 0])), ((bd 2), .inr (4, [.int 0, .ref (bd 7), .int 0])), ((bd 3), .inr (4, [.int 0, .ref (bd 7), .int 0])), ((bd 4), .inr (4, [.int 0, .ref (bd 7), .int 0])), ((bd 5), .inr (4, [.int 0, .ref (bd 7), .int 0])), ((bd 6), .inr (4, [.int 0, .ref (bd 7), .int 0]))] := hD
  refine lv_if_ne (tgt := 46) hx hb dX9_scale_10 (by decide) (fun _ => ?_) (fun c_3 => absurd c_3 (by decide))
  refine lv_iconst (v := 0) hx hb dX9_scale_46 (by decide) ?_
  have hP9 := hP.sub (ws' := [((bd 0), .inr (14, [.ref (bd 1), .ref (bd 2), .ref (bd 3), .ref (bd 4), .ref (bd 5), .ref (bd 6), .int 100, .int (-1), .int 0, .int 1])), ((bd 1), .inr (4, [.int 0, .ref (bd 7), .int 0])), ((bd 2), .inr (4, [.int 0, .ref (bd 7), .int 0])), ((bd 3), .inr (4, [.int 0, .ref (bd 7), .int 0])), ((bd 4), .inr (4, [.int 0, .ref (bd 7), .int 0])), ((bd 5), .inr (4, [.int 0, .ref (bd 7), .int 0])), ((bd 6), .inr (4, [.int 0, .ref (bd 7), .int 0]))]) [0, 1, 2, 3, 4, 5, 6] rfl
  have hD9 := hD.sub (ws' := [((bd 0), .inr (14, [.ref (bd 1), .ref (bd 2), .ref (bd 3), .ref (bd 4), .ref (bd 5), .ref (bd 6), .int 100, .int (-1), .int 0, .int 1])), ((bd 1), .inr (4, [.int 0, .ref (bd 7), .int 0])), ((bd 2), .inr (4, [.int 0, .ref (bd 7), .int 0])), ((bd 3), .inr (4, [.int 0, .ref (bd 7), .int 0])), ((bd 4), .inr (4, [.int 0, .ref (bd 7), .int 0])), ((bd 5), .inr (4, [.int 0, .ref (bd 7), .int 0])), ((bd 6), .inr (4, [.int 0, .ref (bd 7), .int 0]))]) [0, 1, 2, 3, 4, 5, 6] (by decide) rfl
  refine W.widen (k := 0) (n := 0) (Nat.le_of_ble_eq_true rfl) (Nat.le_of_ble_eq_true rfl) ?_
  exact W.iret (v := 0) hx hb hr (fun t ht hW => ⟨⟨0, (), rfl, rfl, by rw [ht]; exact hP9, hD9⟩, hS.F ht⟩) hS.2.2 dX9_scale_47
theorem dX5_twillAt_0 : decode cX5_twillAt 0 = .ok (.aload_n 0, 1) := by decide +kernel
theorem dX5_twillAt_1 : decode cX5_twillAt 1 = .ok (.iload_n 1, 1) := by decide +kernel
theorem dX5_twillAt_2 : decode cX5_twillAt 2 = .ok (.invokevirtual 137, 3) := by decide +kernel
set_option maxHeartbeats 4000000 in
set_option maxRecDepth 100000 in
theorem c_X5_twillAt (l : Launch) (hst : l.stackTraces = false) (D : va_G) (sa : Nat → Nat) (ad : Nat → Nat) (sz : Nat) (p0 : Int32) (p1 : Int32) (p2 : Int32) : vx_Met l yX5_twillAt ((Cond.code yX5_twillAt prog_1_method_23_code 6 (Option.some FieldType.int)) :: WA) ({ frames := 7, cells := 1, slots := 6, locals := 103 }) (zR D sa (zX ad) [.ref (ad 0), .int p0, .int p1, .int p2] sz) zF (zXC "java/lang/IndexOutOfBoundsException" sz) 1 6 (zN sz) := by
  refine vx_ofW (cc := prog_1_method_23_code) (maxL := 6) (ret := (Option.some FieldType.int)) (by decide) rfl ?_
  intro p e s m args below meth c s₁ B hml hnt hv
  obtain ⟨rfl, hsz, hP, hK, hT, hZ⟩ := hv
  have hx := B.exec
  have hb := B.bytes
  have hr := B.returns
  have hts := atoms_spec (ws := (Cond.code yX5_twillAt prog_1_method_23_code 6 (Option.some FieldType.int)) :: WA) B.pre
  have hw : ∀ w ∈ WA, w.before _ s = true := fun w h => hts w (List.mem_cons_of_mem _ h)
  have hown : s.vm.findClass RX5 = some m.cls := findClass_of_methodNamed B.named
  have hlocks := B.notSynchronized
  subst hsz
  have hA : ∀ q : Nat, s.heap.size ≤ q → zN s.heap.size q := fun _ h => h
  have hS : va_S (zN s.heap.size) s.heap s.heap [] := va_S.rf
  have hP : va_P D vwCl [((ad 0), .inr (10, [.ref (ad 1), .ref (ad 2), .ref (ad 3), .ref (ad 4), .ref (ad 5), .int (-1), .int 100, .int 0, .int 0])), ((ad 1), .inr (7, [.ref (ad 6), .ref (ad 7), .ref (ad 8), .int 0])), ((ad 2), .inr (8, [.ref (ad 9), .ref (ad 10), .int 0])), ((ad 3), .inr (4, [.int 0, .ref (ad 14), .int 0])), ((ad 4), .inr (4, [.int 0, .ref (ad 14), .int 0])), ((ad 5), .inr (6, [.ref (ad 11), .ref (ad 12), .ref (ad 13), .int 0, .int 0]))] s.heap := hP
  have hl := lv_entry [.ref (ad 0), .int p0, .int p1, .int p2] (n := 6) (Nat.le_of_ble_eq_true rfl)
  rw [lg_entry_eq]
  generalize (lg_sl [.ref (ad 0), .int p0, .int p1, .int p2] ++ List.replicate (6 - (lg_sl [.ref (ad 0), .int p0, .int p1, .int p2]).length) Slot.unset).toArray = ls at hl ⊢
  have hl : lv_has ls 6 [(0, .ref (ad 0)), (1, .int p0), (2, .int p1), (3, .int p2)] := hl
  refine lv_aload_n hx hb dX5_twillAt_0 rfl (lv_at hl 0 rfl) ?_
  refine lv_iload_n hx hb dX5_twillAt_1 rfl (lv_at hl 1 rfl) ?_
  refine zx_call (vx_runV (As := [.int p0]) (rest := []) ⟨hx, hb, hml, hown, hw⟩ (c_X5_settAt l hst D sa ad _ p0) (cwV 1 hw (zg4 zm_751 zm_753 zm_15 zm_45 zm_754) rfl rfl rfl (by decide +kernel) ⟨Nat.le_of_ble_eq_true rfl, Nat.le_of_ble_eq_true rfl⟩) ⟨zR_blind, va_recv hK hP (ci := 10) (q0 := 0) rfl rfl, zR_pre hP hK hT hZ hS hA⟩ rfl rfl hl.1 rfl (lv_room (Nat.le_of_ble_eq_true rfl)) dX5_twillAt_2 ⟨Nat.le_of_ble_eq_true rfl, Nat.le_of_ble_eq_true rfl⟩) hS (zN_fr hS hA) zN_in (fun E ce q9 u t H locs ht hvm hu hE hz1 hk1 hS hce hcv hcl => ?_)
  exact vx_out (fun x hx9 => (hnt x hx9).elim) hlocks hce hcv hcl (fun t ht _ => ⟨(), trivial, hE, hS.F ht⟩) (fun z hz => hS.2.2 z hz) (Nat.le_of_ble_eq_true rfl) (Nat.le_of_ble_eq_true rfl)
theorem dL_twillAt_0 : decode cL_twillAt 0 = .ok (.aload 4, 2) := by decide +kernel
theorem dL_twillAt_2 : decode cL_twillAt 2 = .ok (.iconst 0, 1) := by decide +kernel
theorem dL_twillAt_3 : decode cL_twillAt 3 = .ok (.aload_n 0, 1) := by decide +kernel
theorem dL_twillAt_4 : decode cL_twillAt 4 = .ok (.iload_n 1, 1) := by decide +kernel
theorem dL_twillAt_5 : decode cL_twillAt 5 = .ok (.iload_n 2, 1) := by decide +kernel
theorem dL_twillAt_6 : decode cL_twillAt 6 = .ok (.iload_n 3, 1) := by decide +kernel
theorem dL_twillAt_7 : decode cL_twillAt 7 = .ok (.invokevirtual 88, 3) := by decide +kernel
theorem zm_919 : Cond.methodLink RL 88 yX5_twillAt ∈ WA := zmm (i := 919) (by decide +kernel) (by decide +kernel)
theorem zm_920 : Cond.instanceMethod yX5_twillAt ∈ WA := zmm (i := 920) (by decide +kernel) (by decide +kernel)
theorem zm_921 : Cond.selects RX5 yX5_twillAt yX5_twillAt ∈ WA := zmm (i := 921) (by decide +kernel) (by decide +kernel)
theorem zm_922 : Cond.code yX5_twillAt prog_1_method_23_code 6 (Option.some FieldType.int) ∈ WA := zmm (i := 922) (by decide +kernel) (by decide +kernel)
theorem dL_twillAt_15 : decode cL_twillAt 15 = .ok (.astore 5, 2) := by decide +kernel
theorem dL_twillAt_17 : decode cL_twillAt 17 = .ok (.iconst 1, 1) := by decide +kernel
theorem dL_twillAt_18 : decode cL_twillAt 18 = .ok (.ireturn, 1) := by decide +kernel
set_option maxHeartbeats 4000000 in
set_option maxRecDepth 100000 in
theorem c_L_twillAt (l : Launch) (hst : l.stackTraces = false) (D : va_G) (sa : Nat → Nat) (ad : Nat → Nat) (sz : Nat) (p0 : Int32) (p1 : Int32) (p2 : Int32) (oa : Nat) : vx_Met l yL_twillAt ((Cond.codeWith yL_twillAt method_23_code 6 (Option.some FieldType.int) [(0, 12, 15, 23), (0, 12, 19, 13)]) :: WA) ({ frames := 8, cells := 1, slots := 6, locals := 128 }) (zR D sa (zX ad) [.ref (ad 0), .int p0, .int p1, .int p2, .ref oa] sz) (va_Qi (fun (r : Int32) (_ : Unit) => r = 1) (fun _ _ => True) (zN sz)) (zX0 sz) 1 6 (zN sz) := by
  refine vx_ofWH (cc := method_23_code) (maxL := 6) (ret := (Option.some FieldType.int)) (hh := [(0, 12, 15, 23), (0, 12, 19, 13)]) (by decide) rfl ?_
  intro p e s m args below meth c s₁ B hml hv
  obtain ⟨rfl, hsz, hP, hK, hT, hZ⟩ := hv
  have hx := B.exec
  have hb := B.bytes
  have hr := B.returns
  have hts := atoms_spec (ws := (Cond.codeWith yL_twillAt method_23_code 6 (Option.some FieldType.int) [(0, 12, 15, 23), (0, 12, 19, 13)]) :: WA) B.pre
  have hw : ∀ w ∈ WA, w.before _ s = true := fun w h => hts w (List.mem_cons_of_mem _ h)
  have htab := vx_table (x := yL_twillAt) B (hts _ List.mem_cons_self)
  have hown : s.vm.findClass RL = some m.cls := findClass_of_methodNamed B.named
  have hlocks := B.notSynchronized
  subst hsz
  have hA : ∀ q : Nat, s.heap.size ≤ q → zN s.heap.size q := fun _ h => h
  have hS : va_S (zN s.heap.size) s.heap s.heap [] := va_S.rf
  have hP : va_P D vwCl [((ad 0), .inr (10, [.ref (ad 1), .ref (ad 2), .ref (ad 3), .ref (ad 4), .ref (ad 5), .int (-1), .int 100, .int 0, .int 0])), ((ad 1), .inr (7, [.ref (ad 6), .ref (ad 7), .ref (ad 8), .int 0])), ((ad 2), .inr (8, [.ref (ad 9), .ref (ad 10), .int 0])), ((ad 3), .inr (4, [.int 0, .ref (ad 14), .int 0])), ((ad 4), .inr (4, [.int 0, .ref (ad 14), .int 0])), ((ad 5), .inr (6, [.ref (ad 11), .ref (ad 12), .ref (ad 13), .int 0, .int 0]))] s.heap := hP
  have hl := lv_entry [.ref (ad 0), .int p0, .int p1, .int p2, .ref oa] (n := 6) (Nat.le_of_ble_eq_true rfl)
  rw [lg_entry_eq]
  generalize (lg_sl [.ref (ad 0), .int p0, .int p1, .int p2, .ref oa] ++ List.replicate (6 - (lg_sl [.ref (ad 0), .int p0, .int p1, .int p2, .ref oa]).length) Slot.unset).toArray = ls at hl ⊢
  have hl : lv_has ls 6 [(0, .ref (ad 0)), (1, .int p0), (2, .int p1), (3, .int p2), (4, .ref oa)] := hl
  refine lv_aload hx hb dL_twillAt_0 (lv_at hl 4 rfl) ?_
  refine lv_iconst (v := 0) hx hb dL_twillAt_2 (by decide) ?_
  refine lv_aload_n hx hb dL_twillAt_3 rfl (lv_at hl 0 rfl) ?_
  refine lv_iload_n hx hb dL_twillAt_4 rfl (lv_at hl 1 rfl) ?_
  refine lv_iload_n hx hb dL_twillAt_5 rfl (lv_at hl 2 rfl) ?_
  refine lv_iload_n hx hb dL_twillAt_6 rfl (lv_at hl 3 rfl) ?_
  refine zx_call (vx_runV (As := [.int p0, .int p1, .int p2]) (rest := [.int 0, .ref oa]) ⟨hx, hb, hml, hown, hw⟩ (c_X5_twillAt l hst D sa ad _ p0 p1 p2) (cwV 3 hw (zg4 zm_919 zm_920 zm_921 zm_45 zm_922) rfl rfl rfl (by decide +kernel) ⟨Nat.le_of_ble_eq_true rfl, Nat.le_of_ble_eq_true rfl⟩) ⟨zR_blind, va_recv hK hP (ci := 10) (q0 := 0) rfl rfl, zR_pre hP hK hT hZ hS hA⟩ rfl rfl hl.1 rfl (lv_room (Nat.le_of_ble_eq_true rfl)) dL_twillAt_7 ⟨Nat.le_of_ble_eq_true rfl, Nat.le_of_ble_eq_true rfl⟩) hS (zN_fr hS hA) zN_in (fun E ce q9 u t H locs ht hvm hu hE hz1 hk1 hS hce hcv hcl => ?_)
  subst hE
  refine vx_catch hown [] ⟨0, 12, 15, 23⟩ (tableOf [(0, 12, 19, 13)]) htab (fun z hz => absurd hz List.not_mem_nil) (by decide) (by decide) (hw _ zm_487) (hT.c 3 rfl) hce hcv hcl ?_
  refine lv_astore (lv' := [(5, .ref q9), (0, .ref (ad 0)), (1, .int p0), (2, .int p1), (3, .int p2), (4, .ref oa)]) hx hb dL_twillAt_15 hl (by decide) rfl (fun ls hl => ?_)
  refine lv_iconst (v := 1) hx hb dL_twillAt_17 (by decide) ?_
  refine vx_ret ?_
  exact W.iret (v := 1) hx hb hr (fun t ht hW => ⟨⟨1, (), rfl, rfl, trivial⟩, hS.F ht⟩) hS.2.2 dL_twillAt_18
theorem dX9_twillAt_0 : decode cX9_twillAt 0 = .ok (.aload_n 0, 1) := by decide +kernel
theorem dX9_twillAt_1 : decode cX9_twillAt 1 = .ok (.aload_n 0, 1) := by decide +kernel
theorem dX9_twillAt_2 : decode cX9_twillAt 2 = .ok (.iload_n 1, 1) := by decide +kernel
theorem dX9_twillAt_3 : decode cX9_twillAt 3 = .ok (.invokevirtual 118, 3) := by decide +kernel
theorem dX9_twillAt_6 : decode cX9_twillAt 6 = .ok (.iconst 1, 1) := by decide +kernel
theorem dX9_twillAt_7 : decode cX9_twillAt 7 = .ok (.invokevirtual 51, 3) := by decide +kernel
theorem dX9_twillAt_10 : decode cX9_twillAt 10 = .ok (.ifCond .ne 36, 3) := by decide +kernel
theorem dX9_twillAt_46 : decode cX9_twillAt 46 = .ok (.iconst 0, 1) := by decide +kernel
theorem dX9_twillAt_47 : decode cX9_twillAt 47 = .ok (.ireturn, 1) := by decide +kernel
set_option maxHeartbeats 4000000 in
set_option maxRecDepth 100000 in
theorem c_X9_twillAt (l : Launch) (D : va_G) (sa : Nat → Nat) (ea : Nat) (bd : Nat → Nat) (th : Int32) (sz : Nat) (p0 : Int32) (p1 : Int32) (p2 : Int32) : Met l yX9_twillAt ((Cond.code yX9_twillAt prog_8_method_33_code 4 (Option.some FieldType.int)) :: WA) ({ frames := 2, cells := 0, slots := 0, locals := 43 }) (zW D sa ea [] (zM bd th) [.ref (bd 0), .int p0, .int p1, .int p2] sz) (va_Qi (fun (r : Int32) (_ : Unit) => r = 0) (fun _ t => va_P D vwCl [((bd 0), .inr (14, [.ref (bd 1), .ref (bd 2), .ref (bd 3), .ref (bd 4), .ref (bd 5), .ref (bd 6), .int 100, .int (-1), .int 0, .int 1])), ((bd 1), .inr (4, [.int 0, .ref (bd 7), .int 0])), ((bd 2), .inr (4, [.int 0, .ref (bd 7), .int 0])), ((bd 3), .inr (4, [.int 0, .ref (bd 7), .int 0])), ((bd 4), .inr (4, [.int 0, .ref (bd 7), .int 0])), ((bd 5), .inr (4, [.int 0, .ref (bd 7), .int 0])), ((bd 6), .inr (4, [.int 0, .ref (bd 7), .int 0]))] t.heap ∧ va_D (va_A (zM bd th) sz) [((bd 0), .inr (14, [.ref (bd 1), .ref (bd 2), .ref (bd 3), .ref (bd 4), .ref (bd 5), .ref (bd 6), .int 100, .int (-1), .int 0, .int 1])), ((bd 1), .inr (4, [.int 0, .ref (bd 7), .int 0])), ((bd 2), .inr (4, [.int 0, .ref (bd 7), .int 0])), ((bd 3), .inr (4, [.int 0, .ref (bd 7), .int 0])), ((bd 4), .inr (4, [.int 0, .ref (bd 7), .int 0])), ((bd 5), .inr (4, [.int 0, .ref (bd 7), .int 0])), ((bd 6), .inr (4, [.int 0, .ref (bd 7), .int 0]))]) (va_A (zM bd th) sz)) 0 0 (va_A (zM bd th) sz) := by
  refine Met.ofW (cc := prog_8_method_33_code) (maxL := 4) (ret := (Option.some FieldType.int)) (by decide) rfl ?_
  intro p e s m args below meth c s₁ B hml hv
  obtain ⟨rfl, hsz, hP, hK, hD0, hT, hE⟩ := hv
  have hx := B.exec
  have hb := B.bytes
  have hr := B.returns
  have hts := atoms_spec (ws := (Cond.code yX9_twillAt prog_8_method_33_code 4 (Option.some FieldType.int)) :: WA) B.pre
  have hw : ∀ w ∈ WA, w.before _ s = true := fun w h => hts w (List.mem_cons_of_mem _ h)
  have hown : s.vm.findClass RX9 = some m.cls := findClass_of_methodNamed B.named
  have hlocks := B.notSynchronized
  subst hsz
  have hD := hD0.self (sz := s.heap.size)
  generalize hAe : va_A (zM bd th) s.heap.size = A at hD hE ⊢
  have hA : ∀ q : Nat, s.heap.size ≤ q → A q := fun q h => by rw [← hAe]; exact Or.inr h
  have hS : va_S A s.heap s.heap [] := va_S.rf
  have hP : va_P D vwCl [((bd 0), .inr (14, [.ref (bd 1), .ref (bd 2), .ref (bd 3), .ref (bd 4), .ref (bd 5), .ref (bd 6), .int 100, .int (-1), .int 0, .int th])), ((bd 1), .inr (4, [.int 0, .ref (bd 7), .int 0])), ((bd 2), .inr (4, [.int 0, .ref (bd 7), .int 0])), ((bd 3), .inr (4, [.int 0, .ref (bd 7), .int 0])), ((bd 4), .inr (4, [.int 0, .ref (bd 7), .int 0])), ((bd 5), .inr (4, [.int 0, .ref (bd 7), .int 0])), ((bd 6), .inr (4, [.int 0, .ref (bd 7), .int 0]))] s.heap := hP
  have hD : va_D A [((bd 0), .inr (14, [.ref (bd 1), .ref (bd 2), .ref (bd 3), .ref (bd 4), .ref (bd 5), .ref (bd 6), .int 100, .int (-1), .int 0, .int th])), ((bd 1), .inr (4, [.int 0, .ref (bd 7), .int 0])), ((bd 2), .inr (4, [.int 0, .ref (bd 7), .int 0])), ((bd 3), .inr (4, [.int 0, .ref (bd 7), .int 0])), ((bd 4), .inr (4, [.int 0, .ref (bd 7), .int 0])), ((bd 5), .inr (4, [.int 0, .ref (bd 7), .int 0])), ((bd 6), .inr (4, [.int 0, .ref (bd 7), .int 0]))] := hD
  have hl := lv_entry [.ref (bd 0), .int p0, .int p1, .int p2] (n := 4) (Nat.le_of_ble_eq_true rfl)
  rw [lg_entry_eq]
  generalize (lg_sl [.ref (bd 0), .int p0, .int p1, .int p2] ++ List.replicate (4 - (lg_sl [.ref (bd 0), .int p0, .int p1, .int p2]).length) Slot.unset).toArray = ls at hl ⊢
  have hl : lv_has ls 4 [(0, .ref (bd 0)), (1, .int p0), (2, .int p1), (3, .int p2)] := hl
  refine lv_aload_n hx hb dX9_twillAt_0 rfl (lv_at hl 0 rfl) ?_
  refine lv_aload_n hx hb dX9_twillAt_1 rfl (lv_at hl 0 rfl) ?_
  refine lv_iload_n hx hb dX9_twillAt_2 rfl (lv_at hl 1 rfl) ?_
  refine va_calli (va_runV (As := [.int p0]) (rest := [.ref (bd 0)]) ⟨hx, hb, hml, hown, hw⟩ (c_X9_isSett l D sa bd th _ p0) (cwV 1 hw (zg4 zm_1521 zm_1523 zm_29 zm_53 zm_1524) rfl rfl rfl (by decide +kernel) ⟨Nat.le_of_ble_eq_true rfl, Nat.le_of_ble_eq_true rfl⟩) ⟨zJ_blind, va_recv hK hP (ci := 14) (q0 := 0) rfl rfl, zJ_pre hP hK hT⟩ rfl rfl hl.1 rfl (lv_room (Nat.le_of_ble_eq_true rfl)) dX9_twillAt_3 ⟨Nat.le_of_ble_eq_true rfl, Nat.le_of_ble_eq_true rfl⟩) hS zN_in (zN_fr hS hA) (fun r_1 u t H locs ht hvm hw1 hB hz1 hk1 hS => ?_)
  have hP := zN_keep hP hk1
  subst hw1
  refine lv_iconst (v := 1) hx hb dX9_twillAt_6 (by decide) ?_
  have hFc := va_free (wc := [((bd 0), .inr (14, [.ref (bd 1), .ref (bd 2), .ref (bd 3), .ref (bd 4), .ref (bd 5), .ref (bd 6), .int 100, .int (-1), .int 0, .int th])), ((bd 1), .inr (4, [.int 0, .ref (bd 7), .int 0])), ((bd 2), .inr (4, [.int 0, .ref (bd 7), .int 0])), ((bd 3), .inr (4, [.int 0, .ref (bd 7), .int 0])), ((bd 4), .inr (4, [.int 0, .ref (bd 7), .int 0])), ((bd 5), .inr (4, [.int 0, .ref (bd 7), .int 0])), ((bd 6), .inr (4, [.int 0, .ref (bd 7), .int 0]))]) hD hS hA [0, 1, 2, 3, 4, 5, 6] rfl
  refine va_calli (va_runV (As := [.int 0, .int 1]) (rest := []) ⟨hx, hb, hml, hown, hw⟩ (c_X9_no0 l D sa ea bd th _ 1) (cwV 2 hw (zg4 zm_1314 zm_1316 zm_26 zm_53 zm_1317) rfl rfl rfl (by decide +kernel) ⟨Nat.le_of_ble_eq_true rfl, Nat.le_of_ble_eq_true rfl⟩) ⟨zW_blind, va_recv hK hP (ci := 14) (q0 := 0) rfl rfl, zW_pre hP hK hD hT hE hS hFc⟩ rfl rfl hl.1 rfl (lv_room (Nat.le_of_ble_eq_true rfl)) dX9_twillAt_7 ⟨Nat.le_of_ble_eq_true rfl, Nat.le_of_ble_eq_true rfl⟩) hS (fun q _ h => hFc q h) hFc (fun r_2 u t H locs ht hvm hw1 hB hz1 hk1 hS => ?_)
  subst hw1
  obtain ⟨hP1, hD1⟩ := hB
  rw [ht] at hP1
  obtain ⟨hP, hD⟩ := va_join (wr := []) (w1 := [((bd 0), .inr (14, [.ref (bd 1), .ref (bd 2), .ref (bd 3), .ref (bd 4), .ref (bd 5), .ref (bd 6), .int 100, .int (-1), .int 0, .int 1])), ((bd 1), .inr (4, [.int 0, .ref (bd 7), .int 0])), ((bd 2), .inr (4, [.int 0, .ref (bd 7), .int 0])), ((bd 3), .inr (4, [.int 0, .ref (bd 7), .int 0])), ((bd 4), .inr (4, [.int 0, .ref (bd 7), .int 0])), ((bd 5), .inr (4, [.int 0, .ref (bd 7), .int 0])), ((bd 6), .inr (4, [.int 0, .ref (bd 7), .int 0]))]) hP hD [0, 1, 2, 3, 4, 5, 6] [] rfl rfl (by decide) (by decide) hk1 hFc hP1 hD1
  have hP : va_P D vwCl [((bd 0), .inr (14, [.ref (bd 1), .ref (bd 2), .ref (bd 3), .ref (bd 4), .ref (bd 5), .ref (bd 6), .int 100, .int (-1), .int 0, .int 1])), ((bd 1), .inr (4, [.int 0, .ref (bd 7), .int 0])), ((bd 2), .inr (4, [.int 0, .ref (bd 7), .int 0])), ((bd 3), .inr (4, [.int 0, .ref (bd 7), .int 0])), ((bd 4), .inr (4, [.int 0, .ref (bd 7), .int 0])), ((bd 5), .inr (4, [.int 0, .ref (bd 7), .int 0])), ((bd 6), .inr (4, [.int 0, .ref (bd 7), .int 0]))] H := hP
  have hD : va_D A [((bd 0), .inr (14, [.ref (bd 1), .ref (bd 2), .ref (bd 3), .ref (bd 4), .ref (bd 5), .ref (bd 6), .int 100, .int (-1), .int 0, .int 1])), ((bd 1), .inr (4, [.int 0, .ref (bd 7), .int 0])), ((bd 2), .inr (4, [.int 0, .ref (bd 7), .int 0])), ((bd 3), .inr (4, [.int 0, .ref (bd 7), .int 0])), ((bd 4), .inr (4, [.int 0, .ref (bd 7), .int 0])), ((bd 5), .inr (4, [.int 0, .ref (bd 7), .int 0])), ((bd 6), .inr (4, [.int 0, .ref (bd 7), .int 0]))] := hD
  refine lv_if_ne (tgt := 46) hx hb dX9_twillAt_10 (by decide) (fun _ => ?_) (fun c_3 => absurd c_3 (by decide))
  refine lv_iconst (v := 0) hx hb dX9_twillAt_46 (by decide) ?_
  have hP9 := hP.sub (ws' := [((bd 0), .inr (14, [.ref (bd 1), .ref (bd 2), .ref (bd 3), .ref (bd 4), .ref (bd 5), .ref (bd 6), .int 100, .int (-1), .int 0, .int 1])), ((bd 1), .inr (4, [.int 0, .ref (bd 7), .int 0])), ((bd 2), .inr (4, [.int 0, .ref (bd 7), .int 0])), ((bd 3), .inr (4, [.int 0, .ref (bd 7), .int 0])), ((bd 4), .inr (4, [.int 0, .ref (bd 7), .int 0])), ((bd 5), .inr (4, [.int 0, .ref (bd 7), .int 0])), ((bd 6), .inr (4, [.int 0, .ref (bd 7), .int 0]))]) [0, 1, 2, 3, 4, 5, 6] rfl
  have hD9 := hD.sub (ws' := [((bd 0), .inr (14, [.ref (bd 1), .ref (bd 2), .ref (bd 3), .ref (bd 4), .ref (bd 5), .ref (bd 6), .int 100, .int (-1), .int 0, .int 1])), ((bd 1), .inr (4, [.int 0, .ref (bd 7), .int 0])), ((bd 2), .inr (4, [.int 0, .ref (bd 7), .int 0])), ((bd 3), .inr (4, [.int 0, .ref (bd 7), .int 0])), ((bd 4), .inr (4, [.int 0, .ref (bd 7), .int 0])), ((bd 5), .inr (4, [.int 0, .ref (bd 7), .int 0])), ((bd 6), .inr (4, [.int 0, .ref (bd 7), .int 0]))]) [0, 1, 2, 3, 4, 5, 6] (by decide) rfl
  refine W.widen (k := 0) (n := 0) (Nat.le_of_ble_eq_true rfl) (Nat.le_of_ble_eq_true rfl) ?_
  exact W.iret (v := 0) hx hb hr (fun t ht hW => ⟨⟨0, (), rfl, rfl, by rw [ht]; exact hP9, hD9⟩, hS.F ht⟩) hS.2.2 dX9_twillAt_47
theorem dX5_distance_0 : decode cX5_distance 0 = .ok (.aload_n 0, 1) := by decide +kernel
theorem dX5_distance_1 : decode cX5_distance 1 = .ok (.iload_n 1, 1) := by decide +kernel
theorem dX5_distance_2 : decode cX5_distance 2 = .ok (.invokevirtual 137, 3) := by decide +kernel
set_option maxHeartbeats 4000000 in
set_option maxRecDepth 100000 in
theorem c_X5_distance (l : Launch) (hst : l.stackTraces = false) (D : va_G) (sa : Nat → Nat) (ad : Nat → Nat) (sz : Nat) (p0 : Int32) (p1 : Int32) : vx_Met l yX5_distance ((Cond.code yX5_distance prog_1_method_24_code 4 (Option.some FieldType.int)) :: WA) ({ frames := 7, cells := 1, slots := 6, locals := 103 }) (zR D sa (zX ad) [.ref (ad 0), .int p0, .int p1] sz) zF (zXC "java/lang/IndexOutOfBoundsException" sz) 1 6 (zN sz) := by
  refine vx_ofW (cc := prog_1_method_24_code) (maxL := 4) (ret := (Option.some FieldType.int)) (by decide) rfl ?_
  intro p e s m args below meth c s₁ B hml hnt hv
  obtain ⟨rfl, hsz, hP, hK, hT, hZ⟩ := hv
  have hx := B.exec
  have hb := B.bytes
  have hr := B.returns
  have hts := atoms_spec (ws := (Cond.code yX5_distance prog_1_method_24_code 4 (Option.some FieldType.int)) :: WA) B.pre
  have hw : ∀ w ∈ WA, w.before _ s = true := fun w h => hts w (List.mem_cons_of_mem _ h)
  have hown : s.vm.findClass RX5 = some m.cls := findClass_of_methodNamed B.named
  have hlocks := B.notSynchronized
  subst hsz
  have hA : ∀ q : Nat, s.heap.size ≤ q → zN s.heap.size q := fun _ h => h
  have hS : va_S (zN s.heap.size) s.heap s.heap [] := va_S.rf
  have hP : va_P D vwCl [((ad 0), .inr (10, [.ref (ad 1), .ref (ad 2), .ref (ad 3), .ref (ad 4), .ref (ad 5), .int (-1), .int 100, .int 0, .int 0])), ((ad 1), .inr (7, [.ref (ad 6), .ref (ad 7), .ref (ad 8), .int 0])), ((ad 2), .inr (8, [.ref (ad 9), .ref (ad 10), .int 0])), ((ad 3), .inr (4, [.int 0, .ref (ad 14), .int 0])), ((ad 4), .inr (4, [.int 0, .ref (ad 14), .int 0])), ((ad 5), .inr (6, [.ref (ad 11), .ref (ad 12), .ref (ad 13), .int 0, .int 0]))] s.heap := hP
  have hl := lv_entry [.ref (ad 0), .int p0, .int p1] (n := 4) (Nat.le_of_ble_eq_true rfl)
  rw [lg_entry_eq]
  generalize (lg_sl [.ref (ad 0), .int p0, .int p1] ++ List.replicate (4 - (lg_sl [.ref (ad 0), .int p0, .int p1]).length) Slot.unset).toArray = ls at hl ⊢
  have hl : lv_has ls 4 [(0, .ref (ad 0)), (1, .int p0), (2, .int p1)] := hl
  refine lv_aload_n hx hb dX5_distance_0 rfl (lv_at hl 0 rfl) ?_
  refine lv_iload_n hx hb dX5_distance_1 rfl (lv_at hl 1 rfl) ?_
  refine zx_call (vx_runV (As := [.int p0]) (rest := []) ⟨hx, hb, hml, hown, hw⟩ (c_X5_settAt l hst D sa ad _ p0) (cwV 1 hw (zg4 zm_751 zm_753 zm_15 zm_45 zm_754) rfl rfl rfl (by decide +kernel) ⟨Nat.le_of_ble_eq_true rfl, Nat.le_of_ble_eq_true rfl⟩) ⟨zR_blind, va_recv hK hP (ci := 10) (q0 := 0) rfl rfl, zR_pre hP hK hT hZ hS hA⟩ rfl rfl hl.1 rfl (lv_room (Nat.le_of_ble_eq_true rfl)) dX5_distance_2 ⟨Nat.le_of_ble_eq_true rfl, Nat.le_of_ble_eq_true rfl⟩) hS (zN_fr hS hA) zN_in (fun E ce q9 u t H locs ht hvm hu hE hz1 hk1 hS hce hcv hcl => ?_)
  exact vx_out (fun x hx9 => (hnt x hx9).elim) hlocks hce hcv hcl (fun t ht _ => ⟨(), trivial, hE, hS.F ht⟩) (fun z hz => hS.2.2 z hz) (Nat.le_of_ble_eq_true rfl) (Nat.le_of_ble_eq_true rfl)
theorem dL_distance_0 : decode cL_distance 0 = .ok (.aload_n 3, 1) := by decide +kernel
theorem dL_distance_1 : decode cL_distance 1 = .ok (.iconst 0, 1) := by decide +kernel
theorem dL_distance_2 : decode cL_distance 2 = .ok (.aload_n 0, 1) := by decide +kernel
theorem dL_distance_3 : decode cL_distance 3 = .ok (.iload_n 1, 1) := by decide +kernel
theorem dL_distance_4 : decode cL_distance 4 = .ok (.iload_n 2, 1) := by decide +kernel
theorem dL_distance_5 : decode cL_distance 5 = .ok (.invokevirtual 91, 3) := by decide +kernel
theorem zm_926 : Cond.methodLink RL 91 yX5_distance ∈ WA := zmm (i := 926) (by decide +kernel) (by decide +kernel)
theorem zm_927 : Cond.instanceMethod yX5_distance ∈ WA := zmm (i := 927) (by decide +kernel) (by decide +kernel)
theorem zm_928 : Cond.selects RX5 yX5_distance yX5_distance ∈ WA := zmm (i := 928) (by decide +kernel) (by decide +kernel)
theorem zm_929 : Cond.code yX5_distance prog_1_method_24_code 4 (Option.some FieldType.int) ∈ WA := zmm (i := 929) (by decide +kernel) (by decide +kernel)
theorem dL_distance_13 : decode cL_distance 13 = .ok (.astore 4, 2) := by decide +kernel
theorem dL_distance_15 : decode cL_distance 15 = .ok (.iconst 1, 1) := by decide +kernel
theorem dL_distance_16 : decode cL_distance 16 = .ok (.ireturn, 1) := by decide +kernel
set_option maxHeartbeats 4000000 in
set_option maxRecDepth 100000 in
theorem c_L_distance (l : Launch) (hst : l.stackTraces = false) (D : va_G) (sa : Nat → Nat) (ad : Nat → Nat) (sz : Nat) (p0 : Int32) (p1 : Int32) (oa : Nat) : vx_Met l yL_distance ((Cond.codeWith yL_distance method_24_code 5 (Option.some FieldType.int) [(0, 10, 13, 23)]) :: WA) ({ frames := 8, cells := 1, slots := 6, locals := 126 }) (zR D sa (zX ad) [.ref (ad 0), .int p0, .int p1, .ref oa] sz) (va_Qi (fun (r : Int32) (_ : Unit) => r = 1) (fun _ _ => True) (zN sz)) (zX0 sz) 1 6 (zN sz) := by
  refine vx_ofWH (cc := method_24_code) (maxL := 5) (ret := (Option.some FieldType.int)) (hh := [(0, 10, 13, 23)]) (by decide) rfl ?_
  intro p e s m args below meth c s₁ B hml hv
  obtain ⟨rfl, hsz, hP, hK, hT, hZ⟩ := hv
  have hx := B.exec
  have hb := B.bytes
  have hr := B.returns
  have hts := atoms_spec (ws := (Cond.codeWith yL_distance method_24_code 5 (Option.some FieldType.int) [(0, 10, 13, 23)]) :: WA) B.pre
  have hw : ∀ w ∈ WA, w.before _ s = true := fun w h => hts w (List.mem_cons_of_mem _ h)
  have htab := vx_table (x := yL_distance) B (hts _ List.mem_cons_self)
  have hown : s.vm.findClass RL = some m.cls := findClass_of_methodNamed B.named
  have hlocks := B.notSynchronized
  subst hsz
  have hA : ∀ q : Nat, s.heap.size ≤ q → zN s.heap.size q := fun _ h => h
  have hS : va_S (zN s.heap.size) s.heap s.heap [] := va_S.rf
  have hP : va_P D vwCl [((ad 0), .inr (10, [.ref (ad 1), .ref (ad 2), .ref (ad 3), .ref (ad 4), .ref (ad 5), .int (-1), .int 100, .int 0, .int 0])), ((ad 1), .inr (7, [.ref (ad 6), .ref (ad 7), .ref (ad 8), .int 0])), ((ad 2), .inr (8, [.ref (ad 9), .ref (ad 10), .int 0])), ((ad 3), .inr (4, [.int 0, .ref (ad 14), .int 0])), ((ad 4), .inr (4, [.int 0, .ref (ad 14), .int 0])), ((ad 5), .inr (6, [.ref (ad 11), .ref (ad 12), .ref (ad 13), .int 0, .int 0]))] s.heap := hP
  have hl := lv_entry [.ref (ad 0), .int p0, .int p1, .ref oa] (n := 5) (Nat.le_of_ble_eq_true rfl)
  rw [lg_entry_eq]
  generalize (lg_sl [.ref (ad 0), .int p0, .int p1, .ref oa] ++ List.replicate (5 - (lg_sl [.ref (ad 0), .int p0, .int p1, .ref oa]).length) Slot.unset).toArray = ls at hl ⊢
  have hl : lv_has ls 5 [(0, .ref (ad 0)), (1, .int p0), (2, .int p1), (3, .ref oa)] := hl
  refine lv_aload_n hx hb dL_distance_0 rfl (lv_at hl 3 rfl) ?_
  refine lv_iconst (v := 0) hx hb dL_distance_1 (by decide) ?_
  refine lv_aload_n hx hb dL_distance_2 rfl (lv_at hl 0 rfl) ?_
  refine lv_iload_n hx hb dL_distance_3 rfl (lv_at hl 1 rfl) ?_
  refine lv_iload_n hx hb dL_distance_4 rfl (lv_at hl 2 rfl) ?_
  refine zx_call (vx_runV (As := [.int p0, .int p1]) (rest := [.int 0, .ref oa]) ⟨hx, hb, hml, hown, hw⟩ (c_X5_distance l hst D sa ad _ p0 p1) (cwV 2 hw (zg4 zm_926 zm_927 zm_928 zm_45 zm_929) rfl rfl rfl (by decide +kernel) ⟨Nat.le_of_ble_eq_true rfl, Nat.le_of_ble_eq_true rfl⟩) ⟨zR_blind, va_recv hK hP (ci := 10) (q0 := 0) rfl rfl, zR_pre hP hK hT hZ hS hA⟩ rfl rfl hl.1 rfl (lv_room (Nat.le_of_ble_eq_true rfl)) dL_distance_5 ⟨Nat.le_of_ble_eq_true rfl, Nat.le_of_ble_eq_true rfl⟩) hS (zN_fr hS hA) zN_in (fun E ce q9 u t H locs ht hvm hu hE hz1 hk1 hS hce hcv hcl => ?_)
  subst hE
  refine vx_catch hown [] ⟨0, 10, 13, 23⟩ (tableOf []) htab (fun z hz => absurd hz List.not_mem_nil) (by decide) (by decide) (hw _ zm_487) (hT.c 3 rfl) hce hcv hcl ?_
  refine lv_astore (lv' := [(4, .ref q9), (0, .ref (ad 0)), (1, .int p0), (2, .int p1), (3, .ref oa)]) hx hb dL_distance_13 hl (by decide) rfl (fun ls hl => ?_)
  refine lv_iconst (v := 1) hx hb dL_distance_15 (by decide) ?_
  refine vx_ret ?_
  exact W.iret (v := 1) hx hb hr (fun t ht hW => ⟨⟨1, (), rfl, rfl, trivial⟩, hS.F ht⟩) hS.2.2 dL_distance_16
theorem dX9_distance_0 : decode cX9_distance 0 = .ok (.aload_n 0, 1) := by decide +kernel
theorem dX9_distance_1 : decode cX9_distance 1 = .ok (.aload_n 0, 1) := by decide +kernel
theorem dX9_distance_2 : decode cX9_distance 2 = .ok (.iload_n 1, 1) := by decide +kernel
theorem dX9_distance_3 : decode cX9_distance 3 = .ok (.invokevirtual 118, 3) := by decide +kernel
theorem dX9_distance_6 : decode cX9_distance 6 = .ok (.ifCond .eq 15, 3) := by decide +kernel
theorem dX9_distance_21 : decode cX9_distance 21 = .ok (.iconst 0, 1) := by decide +kernel
theorem dX9_distance_22 : decode cX9_distance 22 = .ok (.iconst 1, 1) := by decide +kernel
theorem dX9_distance_23 : decode cX9_distance 23 = .ok (.invokevirtual 51, 3) := by decide +kernel
theorem dX9_distance_26 : decode cX9_distance 26 = .ok (.ifCond .eq 7, 3) := by decide +kernel
theorem dX9_distance_29 : decode cX9_distance 29 = .ok (.iconst 0, 1) := by decide +kernel
theorem dX9_distance_30 : decode cX9_distance 30 = .ok (.goto 9, 3) := by decide +kernel
theorem dX9_distance_39 : decode cX9_distance 39 = .ok (.ireturn, 1) := by decide +kernel
set_option maxHeartbeats 4000000 in
set_option maxRecDepth 100000 in
theorem c_X9_distance (l : Launch) (D : va_G) (sa : Nat → Nat) (ea : Nat) (bd : Nat → Nat) (th : Int32) (sz : Nat) (p0 : Int32) (p1 : Int32) : Met l yX9_distance ((Cond.code yX9_distance prog_8_method_35_code 3 (Option.some FieldType.int)) :: WA) ({ frames := 2, cells := 0, slots := 0, locals := 43 }) (zW D sa ea [] (zM bd th) [.ref (bd 0), .int p0, .int p1] sz) (va_Qi (fun (r : Int32) (_ : Unit) => r = 0) (fun _ t => va_P D vwCl [((bd 0), .inr (14, [.ref (bd 1), .ref (bd 2), .ref (bd 3), .ref (bd 4), .ref (bd 5), .ref (bd 6), .int 100, .int (-1), .int 0, .int 1])), ((bd 1), .inr (4, [.int 0, .ref (bd 7), .int 0])), ((bd 2), .inr (4, [.int 0, .ref (bd 7), .int 0])), ((bd 3), .inr (4, [.int 0, .ref (bd 7), .int 0])), ((bd 4), .inr (4, [.int 0, .ref (bd 7), .int 0])), ((bd 5), .inr (4, [.int 0, .ref (bd 7), .int 0])), ((bd 6), .inr (4, [.int 0, .ref (bd 7), .int 0]))] t.heap ∧ va_D (va_A (zM bd th) sz) [((bd 0), .inr (14, [.ref (bd 1), .ref (bd 2), .ref (bd 3), .ref (bd 4), .ref (bd 5), .ref (bd 6), .int 100, .int (-1), .int 0, .int 1])), ((bd 1), .inr (4, [.int 0, .ref (bd 7), .int 0])), ((bd 2), .inr (4, [.int 0, .ref (bd 7), .int 0])), ((bd 3), .inr (4, [.int 0, .ref (bd 7), .int 0])), ((bd 4), .inr (4, [.int 0, .ref (bd 7), .int 0])), ((bd 5), .inr (4, [.int 0, .ref (bd 7), .int 0])), ((bd 6), .inr (4, [.int 0, .ref (bd 7), .int 0]))]) (va_A (zM bd th) sz)) 0 0 (va_A (zM bd th) sz) := by
  refine Met.ofW (cc := prog_8_method_35_code) (maxL := 3) (ret := (Option.some FieldType.int)) (by decide) rfl ?_
  intro p e s m args below meth c s₁ B hml hv
  obtain ⟨rfl, hsz, hP, hK, hD0, hT, hE⟩ := hv
  have hx := B.exec
  have hb := B.bytes
  have hr := B.returns
  have hts := atoms_spec (ws := (Cond.code yX9_distance prog_8_method_35_code 3 (Option.some FieldType.int)) :: WA) B.pre
  have hw : ∀ w ∈ WA, w.before _ s = true := fun w h => hts w (List.mem_cons_of_mem _ h)
  have hown : s.vm.findClass RX9 = some m.cls := findClass_of_methodNamed B.named
  have hlocks := B.notSynchronized
  subst hsz
  have hD := hD0.self (sz := s.heap.size)
  generalize hAe : va_A (zM bd th) s.heap.size = A at hD hE ⊢
  have hA : ∀ q : Nat, s.heap.size ≤ q → A q := fun q h => by rw [← hAe]; exact Or.inr h
  have hS : va_S A s.heap s.heap [] := va_S.rf
  have hP : va_P D vwCl [((bd 0), .inr (14, [.ref (bd 1), .ref (bd 2), .ref (bd 3), .ref (bd 4), .ref (bd 5), .ref (bd 6), .int 100, .int (-1), .int 0, .int th])), ((bd 1), .inr (4, [.int 0, .ref (bd 7), .int 0])), ((bd 2), .inr (4, [.int 0, .ref (bd 7), .int 0])), ((bd 3), .inr (4, [.int 0, .ref (bd 7), .int 0])), ((bd 4), .inr (4, [.int 0, .ref (bd 7), .int 0])), ((bd 5), .inr (4, [.int 0, .ref (bd 7), .int 0])), ((bd 6), .inr (4, [.int 0, .ref (bd 7), .int 0]))] s.heap := hP
  have hD : va_D A [((bd 0), .inr (14, [.ref (bd 1), .ref (bd 2), .ref (bd 3), .ref (bd 4), .ref (bd 5), .ref (bd 6), .int 100, .int (-1), .int 0, .int th])), ((bd 1), .inr (4, [.int 0, .ref (bd 7), .int 0])), ((bd 2), .inr (4, [.int 0, .ref (bd 7), .int 0])), ((bd 3), .inr (4, [.int 0, .ref (bd 7), .int 0])), ((bd 4), .inr (4, [.int 0, .ref (bd 7), .int 0])), ((bd 5), .inr (4, [.int 0, .ref (bd 7), .int 0])), ((bd 6), .inr (4, [.int 0, .ref (bd 7), .int 0]))] := hD
  have hl := lv_entry [.ref (bd 0), .int p0, .int p1] (n := 3) (Nat.le_of_ble_eq_true rfl)
  rw [lg_entry_eq]
  generalize (lg_sl [.ref (bd 0), .int p0, .int p1] ++ List.replicate (3 - (lg_sl [.ref (bd 0), .int p0, .int p1]).length) Slot.unset).toArray = ls at hl ⊢
  have hl : lv_has ls 3 [(0, .ref (bd 0)), (1, .int p0), (2, .int p1)] := hl
  refine lv_aload_n hx hb dX9_distance_0 rfl (lv_at hl 0 rfl) ?_
  refine lv_aload_n hx hb dX9_distance_1 rfl (lv_at hl 0 rfl) ?_
  refine lv_iload_n hx hb dX9_distance_2 rfl (lv_at hl 1 rfl) ?_
  refine va_calli (va_runV (As := [.int p0]) (rest := [.ref (bd 0)]) ⟨hx, hb, hml, hown, hw⟩ (c_X9_isSett l D sa bd th _ p0) (cwV 1 hw (zg4 zm_1521 zm_1523 zm_29 zm_53 zm_1524) rfl rfl rfl (by decide +kernel) ⟨Nat.le_of_ble_eq_true rfl, Nat.le_of_ble_eq_true rfl⟩) ⟨zJ_blind, va_recv hK hP (ci := 14) (q0 := 0) rfl rfl, zJ_pre hP hK hT⟩ rfl rfl hl.1 rfl (lv_room (Nat.le_of_ble_eq_true rfl)) dX9_distance_3 ⟨Nat.le_of_ble_eq_true rfl, Nat.le_of_ble_eq_true rfl⟩) hS zN_in (zN_fr hS hA) (fun r_1 u t H locs ht hvm hw1 hB hz1 hk1 hS => ?_)
  have hP := zN_keep hP hk1
  subst hw1
  refine lv_if_eq (tgt := 21) hx hb dX9_distance_6 (by decide) (fun _ => ?_) (fun c_2 => absurd (by decide) c_2)
  refine lv_iconst (v := 0) hx hb dX9_distance_21 (by decide) ?_
  refine lv_iconst (v := 1) hx hb dX9_distance_22 (by decide) ?_
  have hFc := va_free (wc := [((bd 0), .inr (14, [.ref (bd 1), .ref (bd 2), .ref (bd 3), .ref (bd 4), .ref (bd 5), .ref (bd 6), .int 100, .int (-1), .int 0, .int th])), ((bd 1), .inr (4, [.int 0, .ref (bd 7), .int 0])), ((bd 2), .inr (4, [.int 0, .ref (bd 7), .int 0])), ((bd 3), .inr (4, [.int 0, .ref (bd 7), .int 0])), ((bd 4), .inr (4, [.int 0, .ref (bd 7), .int 0])), ((bd 5), .inr (4, [.int 0, .ref (bd 7), .int 0])), ((bd 6), .inr (4, [.int 0, .ref (bd 7), .int 0]))]) hD hS hA [0, 1, 2, 3, 4, 5, 6] rfl
  refine va_calli (va_runV (As := [.int 0, .int 1]) (rest := []) ⟨hx, hb, hml, hown, hw⟩ (c_X9_no0 l D sa ea bd th _ 1) (cwV 2 hw (zg4 zm_1314 zm_1316 zm_26 zm_53 zm_1317) rfl rfl rfl (by decide +kernel) ⟨Nat.le_of_ble_eq_true rfl, Nat.le_of_ble_eq_true rfl⟩) ⟨zW_blind, va_recv hK hP (ci := 14) (q0 := 0) rfl rfl, zW_pre hP hK hD hT hE hS hFc⟩ rfl rfl hl.1 rfl (lv_room (Nat.le_of_ble_eq_true rfl)) dX9_distance_23 ⟨Nat.le_of_ble_eq_true rfl, Nat.le_of_ble_eq_true rfl⟩) hS (fun q _ h => hFc q h) hFc (fun r_3 u t H locs ht hvm hw1 hB hz1 hk1 hS => ?_)
  subst hw1
  obtain ⟨hP1, hD1⟩ := hB
  rw [ht] at hP1
  obtain ⟨hP, hD⟩ := va_join (wr := []) (w1 := [((bd 0), .inr (14, [.ref (bd 1), .ref (bd 2), .ref (bd 3), .ref (bd 4), .ref (bd 5), .ref (bd 6), .int 100, .int (-1), .int 0, .int 1])), ((bd 1), .inr (4, [.int 0, .ref (bd 7), .int 0])), ((bd 2), .inr (4, [.int 0, .ref (bd 7), .int 0])), ((bd 3), .inr (4, [.int 0, .ref (bd 7), .int 0])), ((bd 4), .inr (4, [.int 0, .ref (bd 7), .int 0])), ((bd 5), .inr (4, [.int 0, .ref (bd 7), .int 0])), ((bd 6), .inr (4, [.int 0, .ref (bd 7), .int 0]))]) hP hD [0, 1, 2, 3, 4, 5, 6] [] rfl rfl (by decide) (by decide) hk1 hFc hP1 hD1
  have hP : va_P D vwCl [((bd 0), .inr (14, [.ref (bd 1), .ref (bd 2), .ref (bd 3), .ref (bd 4), .ref (bd 5), .ref (bd 6), .int 100, .int (-1), .int 0, .int 1])), ((bd 1), .inr (4, [.int 0, .ref (bd 7), .int 0])), ((bd 2), .inr (4, [.int 0, .ref (bd 7), .int 0])), ((bd 3), .inr (4, [.int 0, .ref (bd 7), .int 0])), ((bd 4), .inr (4, [.int 0, .ref (bd 7), .int 0])), ((bd 5), .inr (4, [.int 0, .ref (bd 7), .int 0])), ((bd 6), .inr (4, [.int 0, .ref (bd 7), .int 0]))] H := hP
  have hD : va_D A [((bd 0), .inr (14, [.ref (bd 1), .ref (bd 2), .ref (bd 3), .ref (bd 4), .ref (bd 5), .ref (bd 6), .int 100, .int (-1), .int 0, .int 1])), ((bd 1), .inr (4, [.int 0, .ref (bd 7), .int 0])), ((bd 2), .inr (4, [.int 0, .ref (bd 7), .int 0])), ((bd 3), .inr (4, [.int 0, .ref (bd 7), .int 0])), ((bd 4), .inr (4, [.int 0, .ref (bd 7), .int 0])), ((bd 5), .inr (4, [.int 0, .ref (bd 7), .int 0])), ((bd 6), .inr (4, [.int 0, .ref (bd 7), .int 0]))] := hD
  refine lv_if_eq (tgt := 33) hx hb dX9_distance_26 (by decide) (fun c_4 => absurd c_4 (by decide)) (fun _ => ?_)
  refine lv_iconst (v := 0) hx hb dX9_distance_29 (by decide) ?_
  refine lv_goto (tgt := 39) hx hb dX9_distance_30 (by decide) ?_
  have hP9 := hP.sub (ws' := [((bd 0), .inr (14, [.ref (bd 1), .ref (bd 2), .ref (bd 3), .ref (bd 4), .ref (bd 5), .ref (bd 6), .int 100, .int (-1), .int 0, .int 1])), ((bd 1), .inr (4, [.int 0, .ref (bd 7), .int 0])), ((bd 2), .inr (4, [.int 0, .ref (bd 7), .int 0])), ((bd 3), .inr (4, [.int 0, .ref (bd 7), .int 0])), ((bd 4), .inr (4, [.int 0, .ref (bd 7), .int 0])), ((bd 5), .inr (4, [.int 0, .ref (bd 7), .int 0])), ((bd 6), .inr (4, [.int 0, .ref (bd 7), .int 0]))]) [0, 1, 2, 3, 4, 5, 6] rfl
  have hD9 := hD.sub (ws' := [((bd 0), .inr (14, [.ref (bd 1), .ref (bd 2), .ref (bd 3), .ref (bd 4), .ref (bd 5), .ref (bd 6), .int 100, .int (-1), .int 0, .int 1])), ((bd 1), .inr (4, [.int 0, .ref (bd 7), .int 0])), ((bd 2), .inr (4, [.int 0, .ref (bd 7), .int 0])), ((bd 3), .inr (4, [.int 0, .ref (bd 7), .int 0])), ((bd 4), .inr (4, [.int 0, .ref (bd 7), .int 0])), ((bd 5), .inr (4, [.int 0, .ref (bd 7), .int 0])), ((bd 6), .inr (4, [.int 0, .ref (bd 7), .int 0]))]) [0, 1, 2, 3, 4, 5, 6] (by decide) rfl
  refine W.widen (k := 0) (n := 0) (Nat.le_of_ble_eq_true rfl) (Nat.le_of_ble_eq_true rfl) ?_
  exact W.iret (v := 0) hx hb hr (fun t ht hW => ⟨⟨0, (), rfl, rfl, by rw [ht]; exact hP9, hD9⟩, hS.F ht⟩) hS.2.2 dX9_distance_39
