theorem dX5_getLoss_0 : decode cX5_getLoss 0 = .ok (.aload_n 0, 1) := by decide +kernel
theorem dX5_getLoss_1 : decode cX5_getLoss 1 = .ok (.getfield 42, 3) := by decide +kernel
theorem dX5_getLoss_4 : decode cX5_getLoss 4 = .ok (.iconst (-1), 1) := by decide +kernel
theorem dX5_getLoss_5 : decode cX5_getLoss 5 = .ok (.if_icmp .ne 13, 3) := by decide +kernel
theorem dX5_getLoss_8 : decode cX5_getLoss 8 = .ok (.new 207, 3) := by decide +kernel
theorem zatg_nRX5_211 : ∀ w ∈ (zNat RX5 211).filter goodWord, w ∈ WA := zmf (by decide +kernel)
theorem zatb_nRX5_211 : ∀ w ∈ (zNat RX5 211).filter (fun w => !goodWord w), w ∈ ([.declares ⟨"java/lang/RuntimeException", "<init>", "(Ljava/lang/String;)V"⟩, .declares ⟨"java/lang/Exception", "<init>", "(Ljava/lang/String;)V"⟩, .declares ⟨"java/lang/Throwable", "<init>", "(Ljava/lang/String;)V"⟩, .castable "java/util/NoSuchElementException" "java/util/NoSuchElementException"] : List Cond) := by decide +kernel
theorem zato_nRX5_211 : ∀ w ∈ Cond.classLink RX5 207 "java/util/NoSuchElementException" :: Cond.initialized "java/util/NoSuchElementException" :: (zNat RX5 211), vx_ot w = true := by decide +kernel
theorem zat_nRX5_211 {args : Array Value} {s : State} {sa : Nat → Nat} (hw : ∀ w ∈ WA, w.before args s = true) (hT : ZT sa s) : ∀ w ∈ (zNat RX5 211), w.before args s = true := vx_hat (fun w h => hw w (zatg_nRX5_211 w h)) zatb_nRX5_211 (vx_c (hT.d 0 rfl) (vx_c (hT.d 1 rfl) (vx_c (hT.d 2 rfl) (vx_c (hT.c 4 rfl) vx_n))))
theorem zm_778 : Cond.classLink RX5 207 "java/util/NoSuchElementException" ∈ WA := zmm (i := 778) (by decide +kernel) (by decide +kernel)
theorem zm_61 : Cond.initialized "java/util/NoSuchElementException" ∈ WA := zmm (i := 61) (by decide +kernel) (by decide +kernel)
theorem dX5_getLoss_11 : decode cX5_getLoss 11 = .ok (.dup, 1) := by decide +kernel
theorem dX5_getLoss_12 : decode cX5_getLoss 12 = .ok (.ldc 209, 2) := by decide +kernel
theorem dX5_getLoss_14 : decode cX5_getLoss 14 = .ok (.invokespecial 211, 3) := by decide +kernel
theorem dX5_getLoss_17 : decode cX5_getLoss 17 = .ok (.athrow, 1) := by decide +kernel
set_option maxHeartbeats 4000000 in
set_option maxRecDepth 100000 in
theorem c_X5_getLoss (l : Launch) (hst : l.stackTraces = false) (D : va_G) (sa : Nat → Nat) (ad : Nat → Nat) (sz : Nat) : vx_Met l yX5_getLoss ((Cond.code yX5_getLoss prog_1_method_22_code 1 (Option.some FieldType.int)) :: WA) ({ frames := 6, cells := 1, slots := 6, locals := 82 }) (zR D sa (zX ad) [.ref (ad 0)] sz) zF (zXC "java/util/NoSuchElementException" sz) 1 6 (zN sz) := by
  refine vx_ofW (cc := prog_1_method_22_code) (maxL := 1) (ret := (Option.some FieldType.int)) (by decide) rfl ?_
  intro p e s m args below meth c s₁ B hml hnt hv
  obtain ⟨rfl, hsz, hP, hK, hT, hZ⟩ := hv
  have hx := B.exec
  have hb := B.bytes
  have hr := B.returns
  have hts := atoms_spec (ws := (Cond.code yX5_getLoss prog_1_method_22_code 1 (Option.some FieldType.int)) :: WA) B.pre
  have hw : ∀ w ∈ WA, w.before _ s = true := fun w h => hts w (List.mem_cons_of_mem _ h)
  have hown : s.vm.findClass RX5 = some m.cls := findClass_of_methodNamed B.named
  have hlocks := B.notSynchronized
  subst hsz
  have hA : ∀ q : Nat, s.heap.size ≤ q → zN s.heap.size q := fun _ h => h
  have hS : va_S (zN s.heap.size) s.heap s.heap [] := va_S.rf
  have hP : va_P D vwCl [((ad 0), .inr (10, [.ref (ad 1), .ref (ad 2), .ref (ad 3), .ref (ad 4), .ref (ad 5), .int (-1), .int 100, .int 0, .int 0])), ((ad 1), .inr (7, [.ref (ad 6), .ref (ad 7), .ref (ad 8), .int 0])), ((ad 2), .inr (8, [.ref (ad 9), .ref (ad 10), .int 0])), ((ad 3), .inr (4, [.int 0, .ref (ad 14), .int 0])), ((ad 4), .inr (4, [.int 0, .ref (ad 14), .int 0])), ((ad 5), .inr (6, [.ref (ad 11), .ref (ad 12), .ref (ad 13), .int 0, .int 0]))] s.heap := hP
  have hl := lv_entry [.ref (ad 0)] (n := 1) (Nat.le_of_ble_eq_true rfl)
  rw [lg_entry_eq]
  generalize (lg_sl [.ref (ad 0)] ++ List.replicate (1 - (lg_sl [.ref (ad 0)]).length) Slot.unset).toArray = ls at hl ⊢
  have hl : lv_has ls 1 [(0, .ref (ad 0))] := hl
  refine lv_aload_n hx hb dX5_getLoss_0 rfl (lv_at hl 0 rfl) ?_
  refine va_get (D := D) (ci := 10) (v := .int (-1)) (C := RX5) (T := TX5) (N := 9) hx hb hw zi_RX5 hown hK hP 0 rfl rfl 5 (by decide) (hw _ zm_187) (fun _ h9 => h9) rfl dX5_getLoss_1 ?_
  refine lv_iconst (v := (-1)) hx hb dX5_getLoss_4 (by decide) ?_
  refine lv_icmp_ne (tgt := 18) hx hb dX5_getLoss_5 (by decide) (fun c_1 => absurd (by decide) c_1) (fun _ => ?_)
  exact zx_nthrow (A := zN s.heap.size) hx hb hst hown (hw _ zm_778) (hw _ zm_61) (hT.s 13 rfl) (zat_nRX5_211 hw hT) zato_nRX5_211 hZ.1 hZ.2 hS (hl.1.trans hml.symm) dX5_getLoss_8 dX5_getLoss_11 dX5_getLoss_12 dX5_getLoss_14 dX5_getLoss_17 (fun x hx9 => (hnt x hx9).elim) (Nat.le_of_ble_eq_true rfl) (Nat.le_of_ble_eq_true rfl) (Nat.le_of_ble_eq_true rfl) (Nat.le_of_ble_eq_true rfl) hlocks (fun t _ hz1 hk1 => ⟨(), trivial, rfl, Nat.le_trans hS.1 hz1, fun q hq hnq => (hk1 q (Nat.lt_of_lt_of_le hq hS.1)).trans (hS.2.1 q hq hnq)⟩) (fun z hz => hS.2.2 z hz) (Nat.le_of_ble_eq_true rfl) (Nat.le_of_ble_eq_true rfl)
theorem dL_getLoss_0 : decode cL_getLoss 0 = .ok (.aload_n 1, 1) := by decide +kernel
theorem dL_getLoss_1 : decode cL_getLoss 1 = .ok (.iconst 0, 1) := by decide +kernel
theorem dL_getLoss_2 : decode cL_getLoss 2 = .ok (.aload_n 0, 1) := by decide +kernel
theorem dL_getLoss_3 : decode cL_getLoss 3 = .ok (.invokevirtual 84, 3) := by decide +kernel
theorem zm_911 : Cond.methodLink RL 84 yX5_getLoss ∈ WA := zmm (i := 911) (by decide +kernel) (by decide +kernel)
theorem zm_912 : Cond.instanceMethod yX5_getLoss ∈ WA := zmm (i := 912) (by decide +kernel) (by decide +kernel)
theorem zm_913 : Cond.selects RX5 yX5_getLoss yX5_getLoss ∈ WA := zmm (i := 913) (by decide +kernel) (by decide +kernel)
theorem zm_914 : Cond.code yX5_getLoss prog_1_method_22_code 1 (Option.some FieldType.int) ∈ WA := zmm (i := 914) (by decide +kernel) (by decide +kernel)
theorem zm_766 : Cond.classLink RL 46 "java/util/NoSuchElementException" ∈ WA := zmm (i := 766) (by decide +kernel) (by decide +kernel)
theorem dL_getLoss_11 : decode cL_getLoss 11 = .ok (.astore_n 2, 1) := by decide +kernel
theorem dL_getLoss_12 : decode cL_getLoss 12 = .ok (.iconst 1, 1) := by decide +kernel
theorem dL_getLoss_13 : decode cL_getLoss 13 = .ok (.ireturn, 1) := by decide +kernel
set_option maxHeartbeats 4000000 in
set_option maxRecDepth 100000 in
theorem c_L_getLoss (l : Launch) (hst : l.stackTraces = false) (D : va_G) (sa : Nat → Nat) (ad : Nat → Nat) (sz : Nat) (oa : Nat) : vx_Met l yL_getLoss ((Cond.codeWith yL_getLoss method_22_code 3 (Option.some FieldType.int) [(0, 8, 11, 46)]) :: WA) ({ frames := 7, cells := 1, slots := 6, locals := 102 }) (zR D sa (zX ad) [.ref (ad 0), .ref oa] sz) (va_Qi (fun (r : Int32) (_ : Unit) => r = 1) (fun _ _ => True) (zN sz)) (zX0 sz) 1 6 (zN sz) := by
  refine vx_ofWH (cc := method_22_code) (maxL := 3) (ret := (Option.some FieldType.int)) (hh := [(0, 8, 11, 46)]) (by decide) rfl ?_
  intro p e s m args below meth c s₁ B hml hv
  obtain ⟨rfl, hsz, hP, hK, hT, hZ⟩ := hv
  have hx := B.exec
  have hb := B.bytes
  have hr := B.returns
  have hts := atoms_spec (ws := (Cond.codeWith yL_getLoss method_22_code 3 (Option.some FieldType.int) [(0, 8, 11, 46)]) :: WA) B.pre
  have hw : ∀ w ∈ WA, w.before _ s = true := fun w h => hts w (List.mem_cons_of_mem _ h)
  have htab := vx_table (x := yL_getLoss) B (hts _ List.mem_cons_self)
  have hown : s.vm.findClass RL = some m.cls := findClass_of_methodNamed B.named
  have hlocks := B.notSynchronized
  subst hsz
  have hA : ∀ q : Nat, s.heap.size ≤ q → zN s.heap.size q := fun _ h => h
  have hS : va_S (zN s.heap.size) s.heap s.heap [] := va_S.rf
  have hP : va_P D vwCl [((ad 0), .inr (10, [.ref (ad 1), .ref (ad 2), .ref (ad 3), .ref (ad 4), .ref (ad 5), .int (-1), .int 100, .int 0, .int 0])), ((ad 1), .inr (7, [.ref (ad 6), .ref (ad 7), .ref (ad 8), .int 0])), ((ad 2), .inr (8, [.ref (ad 9), .ref (ad 10), .int 0])), ((ad 3), .inr (4, [.int 0, .ref (ad 14), .int 0])), ((ad 4), .inr (4, [.int 0, .ref (ad 14), .int 0])), ((ad 5), .inr (6, [.ref (ad 11), .ref (ad 12), .ref (ad 13), .int 0, .int 0]))] s.heap := hP
  have hl := lv_entry [.ref (ad 0), .ref oa] (n := 3) (Nat.le_of_ble_eq_true rfl)
  rw [lg_entry_eq]
  generalize (lg_sl [.ref (ad 0), .ref oa] ++ List.replicate (3 - (lg_sl [.ref (ad 0), .ref oa]).length) Slot.unset).toArray = ls at hl ⊢
  have hl : lv_has ls 3 [(0, .ref (ad 0)), (1, .ref oa)] := hl
  refine lv_aload_n hx hb dL_getLoss_0 rfl (lv_at hl 1 rfl) ?_
  refine lv_iconst (v := 0) hx hb dL_getLoss_1 (by decide) ?_
  refine lv_aload_n hx hb dL_getLoss_2 rfl (lv_at hl 0 rfl) ?_
  refine zx_call (vx_runV (As := []) (rest := [.int 0, .ref oa]) ⟨hx, hb, hml, hown, hw⟩ (c_X5_getLoss l hst D sa ad _) (cwV 0 hw (zg4 zm_911 zm_912 zm_913 zm_45 zm_914) rfl rfl rfl (by decide +kernel) ⟨Nat.le_of_ble_eq_true rfl, Nat.le_of_ble_eq_true rfl⟩) ⟨zR_blind, va_recv hK hP (ci := 10) (q0 := 0) rfl rfl, zR_pre hP hK hT hZ hS hA⟩ rfl rfl hl.1 rfl (lv_room (Nat.le_of_ble_eq_true rfl)) dL_getLoss_3 ⟨Nat.le_of_ble_eq_true rfl, Nat.le_of_ble_eq_true rfl⟩) hS (zN_fr hS hA) zN_in (fun E ce q9 u t H locs ht hvm hu hE hz1 hk1 hS hce hcv hcl => ?_)
  subst hE
  refine vx_catch hown [] ⟨0, 8, 11, 46⟩ (tableOf []) htab (fun z hz => absurd hz List.not_mem_nil) (by decide) (by decide) (hw _ zm_766) (hT.c 4 rfl) hce hcv hcl ?_
  refine lv_astore_n (lv' := [(2, .ref q9), (0, .ref (ad 0)), (1, .ref oa)]) hx hb dL_getLoss_11 rfl hl (by decide) rfl (fun ls hl => ?_)
  refine lv_iconst (v := 1) hx hb dL_getLoss_12 (by decide) ?_
  refine vx_ret ?_
  exact W.iret (v := 1) hx hb hr (fun t ht hW => ⟨⟨1, (), rfl, rfl, trivial⟩, hS.F ht⟩) hS.2.2 dL_getLoss_13
theorem dX9_getLoss_0 : decode cX9_getLoss 0 = .ok (.aload_n 0, 1) := by decide +kernel
theorem dX9_getLoss_1 : decode cX9_getLoss 1 = .ok (.aload_n 0, 1) := by decide +kernel
theorem dX9_getLoss_2 : decode cX9_getLoss 2 = .ok (.getfield 35, 3) := by decide +kernel
theorem dX9_getLoss_5 : decode cX9_getLoss 5 = .ok (.ifCond .lt 7, 3) := by decide +kernel
theorem dX9_getLoss_12 : decode cX9_getLoss 12 = .ok (.iconst 0, 1) := by decide +kernel
theorem dX9_getLoss_13 : decode cX9_getLoss 13 = .ok (.iconst 1, 1) := by decide +kernel
theorem dX9_getLoss_14 : decode cX9_getLoss 14 = .ok (.invokevirtual 51, 3) := by decide +kernel
theorem dX9_getLoss_17 : decode cX9_getLoss 17 = .ok (.ifCond .eq 7, 3) := by decide +kernel
theorem dX9_getLoss_20 : decode cX9_getLoss 20 = .ok (.iconst 0, 1) := by decide +kernel
theorem dX9_getLoss_21 : decode cX9_getLoss 21 = .ok (.goto 7, 3) := by decide +kernel
theorem dX9_getLoss_28 : decode cX9_getLoss 28 = .ok (.ireturn, 1) := by decide +kernel
set_option maxHeartbeats 4000000 in
set_option maxRecDepth 100000 in
theorem c_X9_getLoss (l : Launch) (D : va_G) (sa : Nat → Nat) (ea : Nat) (bd : Nat → Nat) (th : Int32) (sz : Nat) : Met l yX9_getLoss ((Cond.code yX9_getLoss prog_8_method_32_code 1 (Option.some FieldType.int)) :: WA) ({ frames := 1, cells := 0, slots := 0, locals := 22 }) (zW D sa ea [] (zM bd th) [.ref (bd 0)] sz) (va_Qi (fun (r : Int32) (_ : Unit) => r = 0) (fun _ t => va_P D vwCl [((bd 0), .inr (14, [.ref (bd 1), .ref (bd 2), .ref (bd 3), .ref (bd 4), .ref (bd 5), .ref (bd 6), .int 100, .int (-1), .int 0, .int 1])), ((bd 1), .inr (4, [.int 0, .ref (bd 7), .int 0])), ((bd 2), .inr (4, [.int 0, .ref (bd 7), .int 0])), ((bd 3), .inr (4, [.int 0, .ref (bd 7), .int 0])), ((bd 4), .inr (4, [.int 0, .ref (bd 7), .int 0])), ((bd 5), .inr (4, [.int 0, .ref (bd 7), .int 0])), ((bd 6), .inr (4, [.int 0, .ref (bd 7), .int 0]))] t.heap ∧ va_D (va_A (zM bd th) sz) [((bd 0), .inr (14, [.ref (bd 1), .ref (bd 2), .ref (bd 3), .ref (bd 4), .ref (bd 5), .ref (bd 6), .int 100, .int (-1), .int 0, .int 1])), ((bd 1), .inr (4, [.int 0, .ref (bd 7), .int 0])), ((bd 2), .inr (4, [.int 0, .ref (bd 7), .int 0])), ((bd 3), .inr (4, [.int 0, .ref (bd 7), .int 0])), ((bd 4), .inr (4, [.int 0, .ref (bd 7), .int 0])), ((bd 5), .inr (4, [.int 0, .ref (bd 7), .int 0])), ((bd 6), .inr (4, [.int 0, .ref (bd 7), .int 0]))]) (va_A (zM bd th) sz)) 0 0 (va_A (zM bd th) sz) := by
  refine Met.ofW (cc := prog_8_method_32_code) (maxL := 1) (ret := (Option.some FieldType.int)) (by decide) rfl ?_
  intro p e s m args below meth c s₁ B hml hv
  obtain ⟨rfl, hsz, hP, hK, hD0, hT, hE⟩ := hv
  have hx := B.exec
  have hb := B.bytes
  have hr := B.returns
  have hts := atoms_spec (ws := (Cond.code yX9_getLoss prog_8_method_32_code 1 (Option.some FieldType.int)) :: WA) B.pre
  have hw : ∀ w ∈ WA, w.before _ s = true := fun w h => hts w (List.mem_cons_of_mem _ h)
  have hown : s.vm.findClass RX9 = some m.cls := findClass_of_methodNamed B.named
  have hlocks := B.notSynchronized
  subst hsz
  have hD := hD0.self (sz := s.heap.size)
  generalize hAe : va_A (zM bd th) s.heap.size = A at hD hE ⊢
  have hA : ∀ q : Nat, s.heap.size ≤ q → A q := fun q h => by rw [← hAe]; exact Or.inr h
  have hS : va_S A s.heap s.heap [] := va_S.rf
  have hP : va_P D vwCl [((bd 0), .inr (14, [.ref (bd 1), .ref (bd 2), .ref (bd 3), .ref (bd 4), .ref (bd 5), .ref (bd 6), .int 100, .int (-1), .int 0, .int th])), ((bd 1), .inr (4, [.int 0, .ref (bd 7), .int 0])), ((bd 2), .inr (4, [.int 0, .ref (bd 7), .int 0])), ((bd 3), .inr (4, [.int 0, .ref (bd 7), .int 0])), ((bd 4), .inr (4, [.int 0, .ref (bd 7), .int 0])), ((bd 5), .inr (4, [.int 0, .ref (bd 7), .int 0])), ((bd 6), .inr (4, [.int 0, .ref (bd 7), .int 0]))] s.heap := hP
  have hD : va_D A [((bd 0), .inr (14, [.ref (bd 1), .ref (bd 2), .ref (bd 3), .ref (bd 4), .ref (bd 5), .ref (bd 6), .int 100, .int (-1), .int 0, .int th])), ((bd 1), .inr (4, [.int 0, .ref (bd 7), .int 0])), ((bd 2), .inr (4, [.int 0, .ref (bd 7), .int 0])), ((bd 3), .inr (4, [.int 0, .ref (bd 7), .int 0])), ((bd 4), .inr (4, [.int 0, .ref (bd 7), .int 0])), ((bd 5), .inr (4, [.int 0, .ref (bd 7), .int 0])), ((bd 6), .inr (4, [.int 0, .ref (bd 7), .int 0]))] := hD
  have hl := lv_entry [.ref (bd 0)] (n := 1) (Nat.le_of_ble_eq_true rfl)
  rw [lg_entry_eq]
  generalize (lg_sl [.ref (bd 0)] ++ List.replicate (1 - (lg_sl [.ref (bd 0)]).length) Slot.unset).toArray = ls at hl ⊢
  have hl : lv_has ls 1 [(0, .ref (bd 0))] := hl
  refine lv_aload_n hx hb dX9_getLoss_0 rfl (lv_at hl 0 rfl) ?_
  refine lv_aload_n hx hb dX9_getLoss_1 rfl (lv_at hl 0 rfl) ?_
  refine va_get (D := D) (ci := 14) (v := .int (-1)) (C := RX9) (T := TX9) (N := 10) hx hb hw zi_RX9 hown hK hP 0 rfl rfl 7 (by decide) (hw _ zm_1279) (fun _ h9 => h9) rfl dX9_getLoss_2 ?_
  refine lv_if_lt (tgt := 12) hx hb dX9_getLoss_5 (by decide) (fun _ => ?_) (fun c_1 => absurd (by decide) c_1)
  refine lv_iconst (v := 0) hx hb dX9_getLoss_12 (by decide) ?_
  refine lv_iconst (v := 1) hx hb dX9_getLoss_13 (by decide) ?_
  have hFc := va_free (wc := [((bd 0), .inr (14, [.ref (bd 1), .ref (bd 2), .ref (bd 3), .ref (bd 4), .ref (bd 5), .ref (bd 6), .int 100, .int (-1), .int 0, .int th])), ((bd 1), .inr (4, [.int 0, .ref (bd 7), .int 0])), ((bd 2), .inr (4, [.int 0, .ref (bd 7), .int 0])), ((bd 3), .inr (4, [.int 0, .ref (bd 7), .int 0])), ((bd 4), .inr (4, [.int 0, .ref (bd 7), .int 0])), ((bd 5), .inr (4, [.int 0, .ref (bd 7), .int 0])), ((bd 6), .inr (4, [.int 0, .ref (bd 7), .int 0]))]) hD hS hA [0, 1, 2, 3, 4, 5, 6] rfl
  refine va_calli (va_runV (As := [.int 0, .int 1]) (rest := []) ⟨hx, hb, hml, hown, hw⟩ (c_X9_no0 l D sa ea bd th _ 1) (cwV 2 hw (zg4 zm_1314 zm_1316 zm_26 zm_53 zm_1317) rfl rfl rfl (by decide +kernel) ⟨Nat.le_of_ble_eq_true rfl, Nat.le_of_ble_eq_true rfl⟩) ⟨zW_blind, va_recv hK hP (ci := 14) (q0 := 0) rfl rfl, zW_pre hP hK hD hT hE hS hFc⟩ rfl rfl hl.1 rfl (lv_room (Nat.le_of_ble_eq_true rfl)) dX9_getLoss_14 ⟨Nat.le_of_ble_eq_true rfl, Nat.le_of_ble_eq_true rfl⟩) hS (fun q _ h => hFc q h) hFc (fun r_2 u t H locs ht hvm hw1 hB hz1 hk1 hS => ?_)
  subst hw1
  obtain ⟨hP1, hD1⟩ := hB
  rw [ht] at hP1
  obtain ⟨hP, hD⟩ := va_join (wr := []) (w1 := [((bd 0), .inr (14, [.ref (bd 1), .ref (bd 2), .ref (bd 3), .ref (bd 4), .ref (bd 5), .ref (bd 6), .int 100, .int (-1), .int 0, .int 1])), ((bd 1), .inr (4, [.int 0, .ref (bd 7), .int 0])), ((bd 2), .inr (4, [.int 0, .ref (bd 7), .int 0])), ((bd 3), .inr (4, [.int 0, .ref (bd 7), .int 0])), ((bd 4), .inr (4, [.int 0, .ref (bd 7), .int 0])), ((bd 5), .inr (4, [.int 0, .ref (bd 7), .int 0])), ((bd 6), .inr (4, [.int 0, .ref (bd 7), .int 0]))]) hP hD [0, 1, 2, 3, 4, 5, 6] [] rfl rfl (by decide) (by decide) hk1 hFc hP1 hD1
  have hP : va_P D vwCl [((bd 0), .inr (14, [.ref (bd 1), .ref (bd 2), .ref (bd 3), .ref (bd 4), .ref (bd 5), .ref (bd 6), .int 100, .int (-1), .int 0, .int 1])), ((bd 1), .inr (4, [.int 0, .ref (bd 7), .int 0])), ((bd 2), .inr (4, [.int 0, .ref (bd 7), .int 0])), ((bd 3), .inr (4, [.int 0, .ref (bd 7), .int 0])), ((bd 4), .inr (4, [.int 0, .ref (bd 7), .int 0])), ((bd 5), .inr (4, [.int 0, .ref (bd 7), .int 0])), ((bd 6), .inr (4, [.int 0, .ref (bd 7), .int 0]))] H := hP
  have hD : va_D A [((bd 0), .inr (14, [.ref (bd 1), .ref (bd 2), .ref (bd 3), .ref (bd 4), .ref (bd 5), .ref (bd 6), .int 100, .int (-1), .int 0, .int 1])), ((bd 1), .inr (4, [.int 0, .ref (bd 7), .int 0])), ((bd 2), .inr (4, [.int 0, .ref (bd 7), .int 0])), ((bd 3), .inr (4, [.int 0, .ref (bd 7), .int 0])), ((bd 4), .inr (4, [.int 0, .ref (bd 7), .int 0])), ((bd 5), .inr (4, [.int 0, .ref (bd 7), .int 0])), ((bd 6), .inr (4, [.int 0, .ref (bd 7), .int 0]))] := hD
  refine lv_if_eq (tgt := 24) hx hb dX9_getLoss_17 (by decide) (fun c_3 => absurd c_3 (by decide)) (fun _ => ?_)
  refine lv_iconst (v := 0) hx hb dX9_getLoss_20 (by decide) ?_
  refine lv_goto (tgt := 28) hx hb dX9_getLoss_21 (by decide) ?_
  have hP9 := hP.sub (ws' := [((bd 0), .inr (14, [.ref (bd 1), .ref (bd 2), .ref (bd 3), .ref (bd 4), .ref (bd 5), .ref (bd 6), .int 100, .int (-1), .int 0, .int 1])), ((bd 1), .inr (4, [.int 0, .ref (bd 7), .int 0])), ((bd 2), .inr (4, [.int 0, .ref (bd 7), .int 0])), ((bd 3), .inr (4, [.int 0, .ref (bd 7), .int 0])), ((bd 4), .inr (4, [.int 0, .ref (bd 7), .int 0])), ((bd 5), .inr (4, [.int 0, .ref (bd 7), .int 0])), ((bd 6), .inr (4, [.int 0, .ref (bd 7), .int 0]))]) [0, 1, 2, 3, 4, 5, 6] rfl
  have hD9 := hD.sub (ws' := [((bd 0), .inr (14, [.ref (bd 1), .ref (bd 2), .ref (bd 3), .ref (bd 4), .ref (bd 5), .ref (bd 6), .int 100, .int (-1), .int 0, .int 1])), ((bd 1), .inr (4, [.int 0, .ref (bd 7), .int 0])), ((bd 2), .inr (4, [.int 0, .ref (bd 7), .int 0])), ((bd 3), .inr (4, [.int 0, .ref (bd 7), .int 0])), ((bd 4), .inr (4, [.int 0, .ref (bd 7), .int 0])), ((bd 5), .inr (4, [.int 0, .ref (bd 7), .int 0])), ((bd 6), .inr (4, [.int 0, .ref (bd 7), .int 0]))]) [0, 1, 2, 3, 4, 5, 6] (by decide) rfl
  refine W.widen (k := 0) (n := 0) (Nat.le_of_ble_eq_true rfl) (Nat.le_of_ble_eq_true rfl) ?_
  exact W.iret (v := 0) hx hb hr (fun t ht hW => ⟨⟨0, (), rfl, rfl, by rw [ht]; exact hP9, hD9⟩, hS.F ht⟩) hS.2.2 dX9_getLoss_28
