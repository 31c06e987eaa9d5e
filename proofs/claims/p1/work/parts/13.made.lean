theorem dX2_init_0 : decode cX2_init 0 = .ok (.aload_n 0, 1) := by decide +kernel
theorem dX2_init_1 : decode cX2_init 1 = .ok (.invokespecial 3, 3) := by decide +kernel
theorem zm_92 : Cond.methodLink RX2 3 ⟨"java/lang/Object", "<init>", "()V"⟩ ∈ WA := zmm (i := 92) (by decide +kernel) (by decide +kernel)
theorem dX2_init_4 : decode cX2_init 4 = .ok (.aload_n 0, 1) := by decide +kernel
theorem dX2_init_5 : decode cX2_init 5 = .ok (.bipush 12, 2) := by decide +kernel
theorem dX2_init_7 : decode cX2_init 7 = .ok (.newarray .char, 2) := by decide +kernel
theorem zm_106 : Cond.arrayClass FieldType.char ∈ WA := zmm (i := 106) (by decide +kernel) (by decide +kernel)
theorem dX2_init_9 : decode cX2_init 9 = .ok (.putfield 11, 3) := by decide +kernel
theorem zm_93 : Cond.fieldLink RX2 11 RX2 "letters" "[C" ∈ WA := zmm (i := 93) (by decide +kernel) (by decide +kernel)
theorem dX2_init_12 : decode cX2_init 12 = .ok (.aload_n 0, 1) := by decide +kernel
theorem dX2_init_13 : decode cX2_init 13 = .ok (.bipush 36, 2) := by decide +kernel
theorem dX2_init_15 : decode cX2_init 15 = .ok (.newarray .int, 2) := by decide +kernel
theorem zm_107 : Cond.arrayClass FieldType.int ∈ WA := zmm (i := 107) (by decide +kernel) (by decide +kernel)
theorem dX2_init_17 : decode cX2_init 17 = .ok (.putfield 15, 3) := by decide +kernel
theorem zm_94 : Cond.fieldLink RX2 15 RX2 "parts" "[I" ∈ WA := zmm (i := 94) (by decide +kernel) (by decide +kernel)
theorem dX2_init_20 : decode cX2_init 20 = .ok (.aload_n 0, 1) := by decide +kernel
theorem dX2_init_21 : decode cX2_init 21 = .ok (.sipush 144, 3) := by decide +kernel
theorem dX2_init_24 : decode cX2_init 24 = .ok (.newarray .int, 2) := by decide +kernel
theorem dX2_init_26 : decode cX2_init 26 = .ok (.putfield 19, 3) := by decide +kernel
theorem zm_95 : Cond.fieldLink RX2 19 RX2 "distances" "[I" ∈ WA := zmm (i := 95) (by decide +kernel) (by decide +kernel)
theorem dX2_init_29 : decode cX2_init 29 = .ok (.aload_n 0, 1) := by decide +kernel
theorem dX2_init_30 : decode cX2_init 30 = .ok (.iconst 0, 1) := by decide +kernel
theorem dX2_init_31 : decode cX2_init 31 = .ok (.putfield 22, 3) := by decide +kernel
theorem dX2_init_34 : decode cX2_init 34 = .ok (.return_, 1) := by decide +kernel
set_option maxHeartbeats 4000000 in
set_option maxRecDepth 100000 in
theorem c_X2_init (l : Launch) (D : va_G) (sa : Nat → Nat) (ea : Nat) (h : Nat) (sz : Nat) : Met l yX2_init ((Cond.code yX2_init prog_4_method_1_code 1 (Option.none : Option FieldType)) :: WA) ({ frames := 1, cells := 3, slots := 192, locals := 12 }) (zW D sa ea [] [(h, .inr (7, [.null, .null, .null, .int 0]))] [.ref h] sz) (va_Qv (fun u : (Nat → Nat) × (Nat → ClassId) => True) (fun u t => va_P D vwCl [(h, .inr (7, [.ref (u.1 0), .ref (u.1 1), .ref (u.1 2), .int 0])), ((u.1 0), .inl ((u.2 0), 12, .inl (fun _ => 0))), ((u.1 1), .inl ((u.2 1), 36, .inl (fun _ => 0)))] t.heap ∧ va_K D vwCl [((u.2 0), .char), ((u.2 1), .int)] t ∧ va_D (va_A [(h, .inr (7, [.null, .null, .null, .int 0]))] sz) [(h, .inr (7, [.ref (u.1 0), .ref (u.1 1), .ref (u.1 2), .int 0])), ((u.1 0), .inl ((u.2 0), 12, .inl (fun _ => 0))), ((u.1 1), .inl ((u.2 1), 36, .inl (fun _ => 0)))]) (va_A [(h, .inr (7, [.null, .null, .null, .int 0]))] sz)) 3 192 (va_A [(h, .inr (7, [.null, .null, .null, .int 0]))] sz) := by
  refine Met.ofW (cc := prog_4_method_1_code) (maxL := 1) (ret := (Option.none : Option FieldType)) (by decide) rfl ?_
  intro p e s m args below meth c s₁ B hml hv
  obtain ⟨rfl, hsz, hP, hK, hD0, hT, hE⟩ := hv
  have hx := B.exec
  have hb := B.bytes
  have hr := B.returns
  have hts := atoms_spec (ws := (Cond.code yX2_init prog_4_method_1_code 1 (Option.none : Option FieldType)) :: WA) B.pre
  have hw : ∀ w ∈ WA, w.before _ s = true := fun w h => hts w (List.mem_cons_of_mem _ h)
  have hown : s.vm.findClass RX2 = some m.cls := findClass_of_methodNamed B.named
  have hlocks := B.notSynchronized
  have hin : meth.name = "<init>" := (name_of_methodNamed B.named B.method).1
  subst hsz
  have hD := hD0.self (sz := s.heap.size)
  generalize hAe : va_A [(h, .inr (7, [.null, .null, .null, .int 0]))] s.heap.size = A at hD hE ⊢
  have hA : ∀ q : Nat, s.heap.size ≤ q → A q := fun q h => by rw [← hAe]; exact Or.inr h
  have hS : va_S A s.heap s.heap [] := va_S.rf
  have hP : va_P D vwCl [(h, .inr (7, [.null, .null, .null, .int 0]))] s.heap := hP
  have hD : va_D A [(h, .inr (7, [.null, .null, .null, .int 0]))] := hD
  have hl := lv_entry [.ref h] (n := 1) (Nat.le_of_ble_eq_true rfl)
  rw [lg_entry_eq]
  generalize (lg_sl [.ref h] ++ List.replicate (1 - (lg_sl [.ref h]).length) Slot.unset).toArray = ls at hl ⊢
  have hl : lv_has ls 1 [(0, .ref h)] := hl
  refine lv_aload_n hx hb dX2_init_0 rfl (lv_at hl 0 rfl) ?_
  refine W.objInit hx hb hown (hw _ zm_92) (hw _ zm_85) (hw _ zm_86) rfl (by rw [hml]; exact hl.1) rfl dX2_init_1 (Nat.le_of_ble_eq_true rfl) (Nat.le_of_ble_eq_true rfl) ?_
  refine W.eq (g2 := F0 m 4 ls []) rfl ?_
  refine lv_aload_n hx hb dX2_init_4 rfl (lv_at hl 0 rfl) ?_
  refine lv_bipush (v := 12) hx hb dX2_init_5 (by decide) ?_
  refine va_newa (atype := .char) (a0 := (12, .inl (fun _ => 0))) hx hb (hw _ zm_106) rfl hK hP hD hS hA (fun _ => rfl) (by decide) rfl (Nat.le_of_ble_eq_true rfl) (Nat.le_of_ble_eq_true rfl) (Nat.le_of_ble_eq_true rfl) dX2_init_7 (fun q_1 k_2 H hK hP hD hS => ?_)
  have hP : va_P D vwCl [(h, .inr (7, [.null, .null, .null, .int 0])), (q_1, .inl (k_2, 12, .inl (fun _ => 0)))] H := hP
  have hD : va_D A [(h, .inr (7, [.null, .null, .null, .int 0])), (q_1, .inl (k_2, 12, .inl (fun _ => 0)))] := hD
  have hK : va_K D vwCl [(k_2, .char)] s := hK
  refine va_putF (D := D) (ci := 7) (v := .ref q_1) (ty := .array .char) (C := RX2) (T := TX2) (N := 4) hx hb hw zi_RX2 tyX2 tyX2_ok nmX2 hown hK hP hD hS 0 rfl rfl 0 (by decide) (hw _ zm_93) (fun _ h9 => h9) rfl hin rfl (by decide +kernel) rfl rfl (Nat.le_of_ble_eq_true rfl) dX2_init_9 (fun H locs hP hD hS => ?_)
  have hP : va_P D vwCl [(h, .inr (7, [.ref q_1, .null, .null, .int 0])), (q_1, .inl (k_2, 12, .inl (fun _ => 0)))] H := hP
  have hD : va_D A [(h, .inr (7, [.ref q_1, .null, .null, .int 0])), (q_1, .inl (k_2, 12, .inl (fun _ => 0)))] := hD
  have hK : va_K D vwCl [(k_2, .char)] s := hK
  refine lv_aload_n hx hb dX2_init_12 rfl (lv_at hl 0 rfl) ?_
  refine lv_bipush (v := 36) hx hb dX2_init_13 (by decide) ?_
  refine va_newa (atype := .int) (a0 := (36, .inl (fun _ => 0))) hx hb (hw _ zm_107) rfl hK hP hD hS hA (fun _ => rfl) (by decide) rfl (Nat.le_of_ble_eq_true rfl) (Nat.le_of_ble_eq_true rfl) (Nat.le_of_ble_eq_true rfl) dX2_init_15 (fun q_3 k_4 H hK hP hD hS => ?_)
  have hP : va_P D vwCl [(h, .inr (7, [.ref q_1, .null, .null, .int 0])), (q_1, .inl (k_2, 12, .inl (fun _ => 0))), (q_3, .inl (k_4, 36, .inl (fun _ => 0)))] H := hP
  have hD : va_D A [(h, .inr (7, [.ref q_1, .null, .null, .int 0])), (q_1, .inl (k_2, 12, .inl (fun _ => 0))), (q_3, .inl (k_4, 36, .inl (fun _ => 0)))] := hD
  have hK : va_K D vwCl [(k_2, .char), (k_4, .int)] s := hK
  refine va_putF (D := D) (ci := 7) (v := .ref q_3) (ty := .array .int) (C := RX2) (T := TX2) (N := 4) hx hb hw zi_RX2 tyX2 tyX2_ok nmX2 hown hK hP hD hS 0 rfl rfl 1 (by decide) (hw _ zm_94) (fun _ h9 => h9) rfl hin rfl (by decide +kernel) rfl rfl (Nat.le_of_ble_eq_true rfl) dX2_init_17 (fun H locs hP hD hS => ?_)
  have hP : va_P D vwCl [(h, .inr (7, [.ref q_1, .ref q_3, .null, .int 0])), (q_1, .inl (k_2, 12, .inl (fun _ => 0))), (q_3, .inl (k_4, 36, .inl (fun _ => 0)))] H := hP
  have hD : va_D A [(h, .inr (7, [.ref q_1, .ref q_3, .null, .int 0])), (q_1, .inl (k_2, 12, .inl (fun _ => 0))), (q_3, .inl (k_4, 36, .inl (fun _ => 0)))] := hD
  have hK : va_K D vwCl [(k_2, .char), (k_4, .int)] s := hK
  refine lv_aload_n hx hb dX2_init_20 rfl (lv_at hl 0 rfl) ?_
  refine lv_sipush (v := 144) hx hb dX2_init_21 (by decide) ?_
  refine va_newa (atype := .int) (a0 := (144, .inl (fun _ => 0))) hx hb (hw _ zm_107) rfl hK hP hD hS hA (fun _ => rfl) (by decide) rfl (Nat.le_of_ble_eq_true rfl) (Nat.le_of_ble_eq_true rfl) (Nat.le_of_ble_eq_true rfl) dX2_init_24 (fun q_5 k_6 H hK hP hD hS => ?_)
  have hP : va_P D vwCl [(h, .inr (7, [.ref q_1, .ref q_3, .null, .int 0])), (q_1, .inl (k_2, 12, .inl (fun _ => 0))), (q_3, .inl (k_4, 36, .inl (fun _ => 0))), (q_5, .inl (k_6, 144, .inl (fun _ => 0)))] H := hP
  have hD : va_D A [(h, .inr (7, [.ref q_1, .ref q_3, .null, .int 0])), (q_1, .inl (k_2, 12, .inl (fun _ => 0))), (q_3, .inl (k_4, 36, .inl (fun _ => 0))), (q_5, .inl (k_6, 144, .inl (fun _ => 0)))] := hD
  have hK : va_K D vwCl [(k_2, .char), (k_4, .int), (k_6, .int)] s := hK
  refine va_putF (D := D) (ci := 7) (v := .ref q_5) (ty := .array .int) (C := RX2) (T := TX2) (N := 4) hx hb hw zi_RX2 tyX2 tyX2_ok nmX2 hown hK hP hD hS 0 rfl rfl 2 (by decide) (hw _ zm_95) (fun _ h9 => h9) rfl hin rfl (by decide +kernel) rfl rfl (Nat.le_of_ble_eq_true rfl) dX2_init_26 (fun H locs hP hD hS => ?_)
  have hP : va_P D vwCl [(h, .inr (7, [.ref q_1, .ref q_3, .ref q_5, .int 0])), (q_1, .inl (k_2, 12, .inl (fun _ => 0))), (q_3, .inl (k_4, 36, .inl (fun _ => 0))), (q_5, .inl (k_6, 144, .inl (fun _ => 0)))] H := hP
  have hD : va_D A [(h, .inr (7, [.ref q_1, .ref q_3, .ref q_5, .int 0])), (q_1, .inl (k_2, 12, .inl (fun _ => 0))), (q_3, .inl (k_4, 36, .inl (fun _ => 0))), (q_5, .inl (k_6, 144, .inl (fun _ => 0)))] := hD
  have hK : va_K D vwCl [(k_2, .char), (k_4, .int), (k_6, .int)] s := hK
  refine lv_aload_n hx hb dX2_init_29 rfl (lv_at hl 0 rfl) ?_
  refine lv_iconst (v := 0) hx hb dX2_init_30 (by decide) ?_
  refine va_put (D := D) (ci := 7) (v := .int 0) (ty := .int) (C := RX2) (T := TX2) (N := 4) hx hb hw zi_RX2 tyX2 tyX2_ok nmX2 hown hK hP hD hS 0 rfl rfl 3 (by decide) (hw _ zm_96) (fun _ h9 => h9) rfl (by decide +kernel) rfl rfl (Nat.le_of_ble_eq_true rfl) dX2_init_31 (fun H locs hP hD hS => ?_)
  have hP : va_P D vwCl [(h, .inr (7, [.ref q_1, .ref q_3, .ref q_5, .int 0])), (q_1, .inl (k_2, 12, .inl (fun _ => 0))), (q_3, .inl (k_4, 36, .inl (fun _ => 0))), (q_5, .inl (k_6, 144, .inl (fun _ => 0)))] H := hP
  have hD : va_D A [(h, .inr (7, [.ref q_1, .ref q_3, .ref q_5, .int 0])), (q_1, .inl (k_2, 12, .inl (fun _ => 0))), (q_3, .inl (k_4, 36, .inl (fun _ => 0))), (q_5, .inl (k_6, 144, .inl (fun _ => 0)))] := hD
  have hK : va_K D vwCl [(k_2, .char), (k_4, .int), (k_6, .int)] s := hK
  have hP9 := hP.sub (ws' := [(h, .inr (7, [.ref q_1, .ref q_3, .ref q_5, .int 0])), (q_1, .inl (k_2, 12, .inl (fun _ => 0))), (q_3, .inl (k_4, 36, .inl (fun _ => 0)))]) [0, 1, 2] rfl
  have hD9 := hD.sub (ws' := [(h, .inr (7, [.ref q_1, .ref q_3, .ref q_5, .int 0])), (q_1, .inl (k_2, 12, .inl (fun _ => 0))), (q_3, .inl (k_4, 36, .inl (fun _ => 0)))]) [0, 1, 2] (by decide) rfl
  have hK9 := hK.sub (tys' := [(k_2, .char), (k_4, .int)]) [0, 1] rfl
  refine W.widen (k := 3) (n := 192) (Nat.le_of_ble_eq_true rfl) (Nat.le_of_ble_eq_true rfl) ?_
  exact W.vret hx hb hr (fun t ht hW => ⟨⟨((fun k => ([q_1, q_3, q_5] : List Nat).getD k 0), (fun k => ([k_2, k_4] : List ClassId).getD k k_2)), rfl, trivial, by rw [ht]; exact hP9, va_K.moved hW.alike hK9, hD9⟩, hS.F ht⟩) hS.2.2 dX2_init_34
theorem dX3_init_0 : decode cX3_init 0 = .ok (.aload_n 0, 1) := by decide +kernel
theorem dX3_init_1 : decode cX3_init 1 = .ok (.invokespecial 1, 3) := by decide +kernel
theorem zm_113 : Cond.methodLink RX3 1 ⟨"java/lang/Object", "<init>", "()V"⟩ ∈ WA := zmm (i := 113) (by decide +kernel) (by decide +kernel)
theorem dX3_init_4 : decode cX3_init 4 = .ok (.aload_n 0, 1) := by decide +kernel
theorem dX3_init_5 : decode cX3_init 5 = .ok (.iconst 0, 1) := by decide +kernel
theorem dX3_init_6 : decode cX3_init 6 = .ok (.putfield 7, 3) := by decide +kernel
theorem dX3_init_9 : decode cX3_init 9 = .ok (.iload_n 1, 1) := by decide +kernel
theorem dX3_init_10 : decode cX3_init 10 = .ok (.iconst 0, 1) := by decide +kernel
theorem dX3_init_11 : decode cX3_init 11 = .ok (.invokestatic 13, 3) := by decide +kernel
theorem zm_114 : Cond.methodLink RX3 13 yJ9_max_7cf53 ∈ WA := zmm (i := 114) (by decide +kernel) (by decide +kernel)
theorem zm_115 : Cond.static yJ9_max_7cf53 ∈ WA := zmm (i := 115) (by decide +kernel) (by decide +kernel)
theorem zm_48 : Cond.initialized RJ9 ∈ WA := zmm (i := 48) (by decide +kernel) (by decide +kernel)
theorem zm_116 : Cond.code yJ9_max_7cf53 prog_24_method_65_code 2 (Option.some FieldType.int) ∈ WA := zmm (i := 116) (by decide +kernel) (by decide +kernel)
theorem dX3_init_14 : decode cX3_init 14 = .ok (.istore_n 2, 1) := by decide +kernel
theorem dX3_init_15 : decode cX3_init 15 = .ok (.aload_n 0, 1) := by decide +kernel
theorem dX3_init_16 : decode cX3_init 16 = .ok (.iload_n 2, 1) := by decide +kernel
theorem dX3_init_17 : decode cX3_init 17 = .ok (.newarray .int, 2) := by decide +kernel
theorem dX3_init_19 : decode cX3_init 19 = .ok (.putfield 19, 3) := by decide +kernel
theorem zm_117 : Cond.fieldLink RX3 19 RX3 "shades" "[I" ∈ WA := zmm (i := 117) (by decide +kernel) (by decide +kernel)
theorem dX3_init_22 : decode cX3_init 22 = .ok (.aload_n 0, 1) := by decide +kernel
theorem dX3_init_23 : decode cX3_init 23 = .ok (.iload_n 2, 1) := by decide +kernel
theorem dX3_init_24 : decode cX3_init 24 = .ok (.newarray .int, 2) := by decide +kernel
theorem dX3_init_26 : decode cX3_init 26 = .ok (.putfield 23, 3) := by decide +kernel
theorem zm_118 : Cond.fieldLink RX3 23 RX3 "counts" "[I" ∈ WA := zmm (i := 118) (by decide +kernel) (by decide +kernel)
theorem dX3_init_29 : decode cX3_init 29 = .ok (.return_, 1) := by decide +kernel
set_option maxHeartbeats 4000000 in
set_option maxRecDepth 100000 in
theorem c_X3_init (l : Launch) (D : va_G) (sa : Nat → Nat) (ea : Nat) (h : Nat) (sz : Nat) : Met l yX3_init ((Cond.code yX3_init prog_5_method_1_code 3 (Option.none : Option FieldType)) :: WA) ({ frames := 1, cells := 2, slots := 32, locals := 13 }) (zW D sa ea [] [(h, .inr (8, [.null, .null, .int 0]))] [.ref h, .int 16] sz) (va_Qv (fun u : (Nat → Nat) × (Nat → ClassId) => True) (fun u t => va_P D vwCl [(h, .inr (8, [.ref (u.1 0), .ref (u.1 1), .int 0]))] t.heap ∧ va_K D vwCl [] t ∧ va_D (va_A [(h, .inr (8, [.null, .null, .int 0]))] sz) [(h, .inr (8, [.ref (u.1 0), .ref (u.1 1), .int 0]))]) (va_A [(h, .inr (8, [.null, .null, .int 0]))] sz)) 2 32 (va_A [(h, .inr (8, [.null, .null, .int 0]))] sz) := by
  refine Met.ofW (cc := prog_5_method_1_code) (maxL := 3) (ret := (Option.none : Option FieldType)) (by decide) rfl ?_
  intro p e s m args below meth c s₁ B hml hv
  obtain ⟨rfl, hsz, hP, hK, hD0, hT, hE⟩ := hv
  have hx := B.exec
  have hb := B.bytes
  have hr := B.returns
  have hts := atoms_spec (ws := (Cond.code yX3_init prog_5_method_1_code 3 (Option.none : Option FieldType)) :: WA) B.pre
  have hw : ∀ w ∈ WA, w.before _ s = true := fun w h => hts w (List.mem_cons_of_mem _ h)
  have hown : s.vm.findClass RX3 = some m.cls := findClass_of_methodNamed B.named
  have hlocks := B.notSynchronized
  have hin : meth.name = "<init>" := (name_of_methodNamed B.named B.method).1
  subst hsz
  have hD := hD0.self (sz := s.heap.size)
  generalize hAe : va_A [(h, .inr (8, [.null, .null, .int 0]))] s.heap.size = A at hD hE ⊢
  have hA : ∀ q : Nat, s.heap.size ≤ q → A q := fun q h => by rw [← hAe]; exact Or.inr h
  have hS : va_S A s.heap s.heap [] := va_S.rf
  have hP : va_P D vwCl [(h, .inr (8, [.null, .null, .int 0]))] s.heap := hP
  have hD : va_D A [(h, .inr (8, [.null, .null, .int 0]))] := hD
  have hl := lv_entry [.ref h, .int 16] (n := 3) (Nat.le_of_ble_eq_true rfl)
  rw [lg_entry_eq]
  generalize (lg_sl [.ref h, .int 16] ++ List.replicate (3 - (lg_sl [.ref h, .int 16]).length) Slot.unset).toArray = ls at hl ⊢
  have hl : lv_has ls 3 [(0, .ref h), (1, .int 16)] := hl
  refine lv_aload_n hx hb dX3_init_0 rfl (lv_at hl 0 rfl) ?_
  refine W.objInit hx hb hown (hw _ zm_113) (hw _ zm_85) (hw _ zm_86) rfl (by rw [hml]; exact hl.1) rfl dX3_init_1 (Nat.le_of_ble_eq_true rfl) (Nat.le_of_ble_eq_true rfl) ?_
  refine W.eq (g2 := F0 m 4 ls []) rfl ?_
  refine lv_aload_n hx hb dX3_init_4 rfl (lv_at hl 0 rfl) ?_
  refine lv_iconst (v := 0) hx hb dX3_init_5 (by decide) ?_
  refine va_put (D := D) (ci := 8) (v := .int 0) (ty := .int) (C := RX3) (T := TX3) (N := 3) hx hb hw zi_RX3 tyX3 tyX3_ok nmX3 hown hK hP hD hS 0 rfl rfl 2 (by decide) (hw _ zm_119) (fun _ h9 => h9) rfl (by decide +kernel) rfl rfl (Nat.le_of_ble_eq_true rfl) dX3_init_6 (fun H locs hP hD hS => ?_)
  have hP : va_P D vwCl [(h, .inr (8, [.null, .null, .int 0]))] H := hP
  have hD : va_D A [(h, .inr (8, [.null, .null, .int 0]))] := hD
  refine lv_iload_n hx hb dX3_init_9 rfl (lv_at hl 1 rfl) ?_
  refine lv_iconst (v := 0) hx hb dX3_init_10 (by decide) ?_
  refine va_mmax hx hb (hml.trans hl.1.symm) hown (hw _ zm_114) (hw _ zm_115) (hw _ zm_48) (hw _ zm_116) (Nat.le_of_ble_eq_true rfl) (Nat.le_of_ble_eq_true rfl) (Nat.le_of_ble_eq_true rfl) (Nat.le_of_ble_eq_true rfl) dX3_init_11 ?_
  refine lv_topi (fun f_1 ef_1 => ?_)
  obtain rfl : f_1 = 16 := ef_1.trans (by decide)
  refine lv_istore_n (lv' := [(2, .int 16), (0, .ref h), (1, .int 16)]) hx hb dX3_init_14 rfl hl (by decide) rfl (fun ls hl => ?_)
  refine lv_aload_n hx hb dX3_init_15 rfl (lv_at hl 1 rfl) ?_
  refine lv_iload_n hx hb dX3_init_16 rfl (lv_at hl 0 rfl) ?_
  refine va_newa (atype := .int) (a0 := (16, .inl (fun _ => 0))) hx hb (hw _ zm_107) rfl hK hP hD hS hA (fun _ => rfl) (by decide) rfl (Nat.le_of_ble_eq_true rfl) (Nat.le_of_ble_eq_true rfl) (Nat.le_of_ble_eq_true rfl) dX3_init_17 (fun q_2 k_3 H hK hP hD hS => ?_)
  have hP : va_P D vwCl [(h, .inr (8, [.null, .null, .int 0])), (q_2, .inl (k_3, 16, .inl (fun _ => 0)))] H := hP
  have hD : va_D A [(h, .inr (8, [.null, .null, .int 0])), (q_2, .inl (k_3, 16, .inl (fun _ => 0)))] := hD
  have hK : va_K D vwCl [(k_3, .int)] s := hK
  refine va_putF (D := D) (ci := 8) (v := .ref q_2) (ty := .array .int) (C := RX3) (T := TX3) (N := 3) hx hb hw zi_RX3 tyX3 tyX3_ok nmX3 hown hK hP hD hS 0 rfl rfl 0 (by decide) (hw _ zm_117) (fun _ h9 => h9) rfl hin rfl (by decide +kernel) rfl rfl (Nat.le_of_ble_eq_true rfl) dX3_init_19 (fun H locs hP hD hS => ?_)
  have hP : va_P D vwCl [(h, .inr (8, [.ref q_2, .null, .int 0])), (q_2, .inl (k_3, 16, .inl (fun _ => 0)))] H := hP
  have hD : va_D A [(h, .inr (8, [.ref q_2, .null, .int 0])), (q_2, .inl (k_3, 16, .inl (fun _ => 0)))] := hD
  have hK : va_K D vwCl [(k_3, .int)] s := hK
  refine lv_aload_n hx hb dX3_init_22 rfl (lv_at hl 1 rfl) ?_
  refine lv_iload_n hx hb dX3_init_23 rfl (lv_at hl 0 rfl) ?_
  refine va_newa (atype := .int) (a0 := (16, .inl (fun _ => 0))) hx hb (hw _ zm_107) rfl hK hP hD hS hA (fun _ => rfl) (by decide) rfl (Nat.le_of_ble_eq_true rfl) (Nat.le_of_ble_eq_true rfl) (Nat.le_of_ble_eq_true rfl) dX3_init_24 (fun q_4 k_5 H hK hP hD hS => ?_)
  have hP : va_P D vwCl [(h, .inr (8, [.ref q_2, .null, .int 0])), (q_2, .inl (k_3, 16, .inl (fun _ => 0))), (q_4, .inl (k_5, 16, .inl (fun _ => 0)))] H := hP
  have hD : va_D A [(h, .inr (8, [.ref q_2, .null, .int 0])), (q_2, .inl (k_3, 16, .inl (fun _ => 0))), (q_4, .inl (k_5, 16, .inl (fun _ => 0)))] := hD
  have hK : va_K D vwCl [(k_3, .int), (k_5, .int)] s := hK
  refine va_putF (D := D) (ci := 8) (v := .ref q_4) (ty := .array .int) (C := RX3) (T := TX3) (N := 3) hx hb hw zi_RX3 tyX3 tyX3_ok nmX3 hown hK hP hD hS 0 rfl rfl 1 (by decide) (hw _ zm_118) (fun _ h9 => h9) rfl hin rfl (by decide +kernel) rfl rfl (Nat.le_of_ble_eq_true rfl) dX3_init_26 (fun H locs hP hD hS => ?_)
  have hP : va_P D vwCl [(h, .inr (8, [.ref q_2, .ref q_4, .int 0])), (q_2, .inl (k_3, 16, .inl (fun _ => 0))), (q_4, .inl (k_5, 16, .inl (fun _ => 0)))] H := hP
  have hD : va_D A [(h, .inr (8, [.ref q_2, .ref q_4, .int 0])), (q_2, .inl (k_3, 16, .inl (fun _ => 0))), (q_4, .inl (k_5, 16, .inl (fun _ => 0)))] := hD
  have hK : va_K D vwCl [(k_3, .int), (k_5, .int)] s := hK
  have hP9 := hP.sub (ws' := [(h, .inr (8, [.ref q_2, .ref q_4, .int 0]))]) [0] rfl
  have hD9 := hD.sub (ws' := [(h, .inr (8, [.ref q_2, .ref q_4, .int 0]))]) [0] (by decide) rfl
  have hK9 := hK.sub (tys' := []) [] rfl
  refine W.widen (k := 2) (n := 32) (Nat.le_of_ble_eq_true rfl) (Nat.le_of_ble_eq_true rfl) ?_
  exact W.vret hx hb hr (fun t ht hW => ⟨⟨((fun k => ([q_2, q_4] : List Nat).getD k 0), (fun k => ([] : List ClassId).getD k 0)), rfl, trivial, by rw [ht]; exact hP9, va_K.moved hW.alike hK9, hD9⟩, hS.F ht⟩) hS.2.2 dX3_init_29
theorem dX1_init_0 : decode cX1_init 0 = .ok (.aload_n 0, 1) := by decide +kernel
theorem dX1_init_1 : decode cX1_init 1 = .ok (.invokespecial 3, 3) := by decide +kernel
theorem zm_164 : Cond.methodLink RX1 3 ⟨"java/lang/Object", "<init>", "()V"⟩ ∈ WA := zmm (i := 164) (by decide +kernel) (by decide +kernel)
theorem dX1_init_4 : decode cX1_init 4 = .ok (.aload_n 0, 1) := by decide +kernel
theorem dX1_init_5 : decode cX1_init 5 = .ok (.bipush 10, 2) := by decide +kernel
theorem dX1_init_7 : decode cX1_init 7 = .ok (.newarray .int, 2) := by decide +kernel
theorem dX1_init_9 : decode cX1_init 9 = .ok (.putfield 11, 3) := by decide +kernel
theorem zm_165 : Cond.fieldLink RX1 11 RX1 "warpSetts" "[I" ∈ WA := zmm (i := 165) (by decide +kernel) (by decide +kernel)
theorem dX1_init_12 : decode cX1_init 12 = .ok (.aload_n 0, 1) := by decide +kernel
theorem dX1_init_13 : decode cX1_init 13 = .ok (.bipush 10, 2) := by decide +kernel
theorem dX1_init_15 : decode cX1_init 15 = .ok (.newarray .int, 2) := by decide +kernel
theorem dX1_init_17 : decode cX1_init 17 = .ok (.putfield 15, 3) := by decide +kernel
theorem zm_166 : Cond.fieldLink RX1 15 RX1 "warpRests" "[I" ∈ WA := zmm (i := 166) (by decide +kernel) (by decide +kernel)
theorem dX1_init_20 : decode cX1_init 20 = .ok (.aload_n 0, 1) := by decide +kernel
theorem dX1_init_21 : decode cX1_init 21 = .ok (.bipush 20, 2) := by decide +kernel
theorem dX1_init_23 : decode cX1_init 23 = .ok (.newarray .int, 2) := by decide +kernel
theorem dX1_init_25 : decode cX1_init 25 = .ok (.putfield 18, 3) := by decide +kernel
theorem zm_167 : Cond.fieldLink RX1 18 RX1 "orderWarps" "[I" ∈ WA := zmm (i := 167) (by decide +kernel) (by decide +kernel)
theorem dX1_init_28 : decode cX1_init 28 = .ok (.aload_n 0, 1) := by decide +kernel
theorem dX1_init_29 : decode cX1_init 29 = .ok (.iconst 0, 1) := by decide +kernel
theorem dX1_init_30 : decode cX1_init 30 = .ok (.putfield 21, 3) := by decide +kernel
theorem dX1_init_33 : decode cX1_init 33 = .ok (.aload_n 0, 1) := by decide +kernel
theorem dX1_init_34 : decode cX1_init 34 = .ok (.iconst 0, 1) := by decide +kernel
theorem dX1_init_35 : decode cX1_init 35 = .ok (.putfield 25, 3) := by decide +kernel
theorem dX1_init_38 : decode cX1_init 38 = .ok (.return_, 1) := by decide +kernel
set_option maxHeartbeats 4000000 in
set_option maxRecDepth 100000 in
theorem c_X1_init (l : Launch) (D : va_G) (sa : Nat → Nat) (ea : Nat) (h : Nat) (sz : Nat) : Met l yX1_init ((Cond.code yX1_init prog_3_method_1_code 1 (Option.none : Option FieldType)) :: WA) ({ frames := 1, cells := 3, slots := 40, locals := 12 }) (zW D sa ea [] [(h, .inr (6, [.null, .null, .null, .int 0, .int 0]))] [.ref h] sz) (va_Qv (fun u : (Nat → Nat) × (Nat → ClassId) => True) (fun u t => va_P D vwCl [(h, .inr (6, [.ref (u.1 0), .ref (u.1 1), .ref (u.1 2), .int 0, .int 0]))] t.heap ∧ va_K D vwCl [] t ∧ va_D (va_A [(h, .inr (6, [.null, .null, .null, .int 0, .int 0]))] sz) [(h, .inr (6, [.ref (u.1 0), .ref (u.1 1), .ref (u.1 2), .int 0, .int 0]))]) (va_A [(h, .inr (6, [.null, .null, .null, .int 0, .int 0]))] sz)) 3 40 (va_A [(h, .inr (6, [.null, .null, .null, .int 0, .int 0]))] sz) := by
  refine Met.ofW (cc := prog_3_method_1_code) (maxL := 1) (ret := (Option.none : Option FieldType)) (by decide) rfl ?_
  intro p e s m args below meth c s₁ B hml hv
  obtain ⟨rfl, hsz, hP, hK, hD0, hT, hE⟩ := hv
  have hx := B.exec
  have hb := B.bytes
  have hr := B.returns
  have hts := atoms_spec (ws := (Cond.code yX1_init prog_3_method_1_code 1 (Option.none : Option FieldType)) :: WA) B.pre
  have hw : ∀ w ∈ WA, w.before _ s = true := fun w h => hts w (List.mem_cons_of_mem _ h)
  have hown : s.vm.findClass RX1 = some m.cls := findClass_of_methodNamed B.named
  have hlocks := B.notSynchronized
  have hin : meth.name = "<init>" := (name_of_methodNamed B.named B.method).1
  subst hsz
  have hD := hD0.self (sz := s.heap.size)
  generalize hAe : va_A [(h, .inr (6, [.null, .null, .null, .int 0, .int 0]))] s.heap.size = A at hD hE ⊢
  have hA : ∀ q : Nat, s.heap.size ≤ q → A q := fun q h => by rw [← hAe]; exact Or.inr h
  have hS : va_S A s.heap s.heap [] := va_S.rf
  have hP : va_P D vwCl [(h, .inr (6, [.null, .null, .null, .int 0, .int 0]))] s.heap := hP
  have hD : va_D A [(h, .inr (6, [.null, .null, .null, .int 0, .int 0]))] := hD
  have hl := lv_entry [.ref h] (n := 1) (Nat.le_of_ble_eq_true rfl)
  rw [lg_entry_eq]
  generalize (lg_sl [.ref h] ++ List.replicate (1 - (lg_sl [.ref h]).length) Slot.unset).toArray = ls at hl ⊢
  have hl : lv_has ls 1 [(0, .ref h)] := hl
  refine lv_aload_n hx hb dX1_init_0 rfl (lv_at hl 0 rfl) ?_
  refine W.objInit hx hb hown (hw _ zm_164) (hw _ zm_85) (hw _ zm_86) rfl (by rw [hml]; exact hl.1) rfl dX1_init_1 (Nat.le_of_ble_eq_true rfl) (Nat.le_of_ble_eq_true rfl) ?_
  refine W.eq (g2 := F0 m 4 ls []) rfl ?_
  refine lv_aload_n hx hb dX1_init_4 rfl (lv_at hl 0 rfl) ?_
  refine lv_bipush (v := 10) hx hb dX1_init_5 (by decide) ?_
  refine va_newa (atype := .int) (a0 := (10, .inl (fun _ => 0))) hx hb (hw _ zm_107) rfl hK hP hD hS hA (fun _ => rfl) (by decide) rfl (Nat.le_of_ble_eq_true rfl) (Nat.le_of_ble_eq_true rfl) (Nat.le_of_ble_eq_true rfl) dX1_init_7 (fun q_1 k_2 H hK hP hD hS => ?_)
  have hP : va_P D vwCl [(h, .inr (6, [.null, .null, .null, .int 0, .int 0])), (q_1, .inl (k_2, 10, .inl (fun _ => 0)))] H := hP
  have hD : va_D A [(h, .inr (6, [.null, .null, .null, .int 0, .int 0])), (q_1, .inl (k_2, 10, .inl (fun _ => 0)))] := hD
  have hK : va_K D vwCl [(k_2, .int)] s := hK
  refine va_putF (D := D) (ci := 6) (v := .ref q_1) (ty := .array .int) (C := RX1) (T := TX1) (N := 5) hx hb hw zi_RX1 tyX1 tyX1_ok nmX1 hown hK hP hD hS 0 rfl rfl 0 (by decide) (hw _ zm_165) (fun _ h9 => h9) rfl hin rfl (by decide +kernel) rfl rfl (Nat.le_of_ble_eq_true rfl) dX1_init_9 (fun H locs hP hD hS => ?_)
  have hP : va_P D vwCl [(h, .inr (6, [.ref q_1, .null, .null, .int 0, .int 0])), (q_1, .inl (k_2, 10, .inl (fun _ => 0)))] H := hP
  have hD : va_D A [(h, .inr (6, [.ref q_1, .null, .null, .int 0, .int 0])), (q_1, .inl (k_2, 10, .inl (fun _ => 0)))] := hD
  have hK : va_K D vwCl [(k_2, .int)] s := hK
  refine lv_aload_n hx hb dX1_init_12 rfl (lv_at hl 0 rfl) ?_
  refine lv_bipush (v := 10) hx hb dX1_init_13 (by decide) ?_
  refine va_newa (atype := .int) (a0 := (10, .inl (fun _ => 0))) hx hb (hw _ zm_107) rfl hK hP hD hS hA (fun _ => rfl) (by decide) rfl (Nat.le_of_ble_eq_true rfl) (Nat.le_of_ble_eq_true rfl) (Nat.le_of_ble_eq_true rfl) dX1_init_15 (fun q_3 k_4 H hK hP hD hS => ?_)
  have hP : va_P D vwCl [(h, .inr (6, [.ref q_1, .null, .null, .int 0, .int 0])), (q_1, .inl (k_2, 10, .inl (fun _ => 0))), (q_3, .inl (k_4, 10, .inl (fun _ => 0)))] H := hP
  have hD : va_D A [(h, .inr (6, [.ref q_1, .null, .null, .int 0, .int 0])), (q_1, .inl (k_2, 10, .inl (fun _ => 0))), (q_3, .inl (k_4, 10, .inl (fun _ => 0)))] := hD
  have hK : va_K D vwCl [(k_2, .int), (k_4, .int)] s := hK
  refine va_putF (D := D) (ci := 6) (v := .ref q_3) (ty := .array .int) (C := RX1) (T := TX1) (N := 5) hx hb hw zi_RX1 tyX1 tyX1_ok nmX1 hown hK hP hD hS 0 rfl rfl 1 (by decide) (hw _ zm_166) (fun _ h9 => h9) rfl hin rfl (by decide +kernel) rfl rfl (Nat.le_of_ble_eq_true rfl) dX1_init_17 (fun H locs hP hD hS => ?_)
  have hP : va_P D vwCl [(h, .inr (6, [.ref q_1, .ref q_3, .null, .int 0, .int 0])), (q_1, .inl (k_2, 10, .inl (fun _ => 0))), (q_3, .inl (k_4, 10, .inl (fun _ => 0)))] H := hP
  have hD : va_D A [(h, .inr (6, [.ref q_1, .ref q_3, .null, .int 0, .int 0])), (q_1, .inl (k_2, 10, .inl (fun _ => 0))), (q_3, .inl (k_4, 10, .inl (fun _ => 0)))] := hD
  have hK : va_K D vwCl [(k_2, .int), (k_4, .int)] s := hK
  refine lv_aload_n hx hb dX1_init_20 rfl (lv_at hl 0 rfl) ?_
  refine lv_bipush (v := 20) hx hb dX1_init_21 (by decide) ?_
  refine va_newa (atype := .int) (a0 := (20, .inl (fun _ => 0))) hx hb (hw _ zm_107) rfl hK hP hD hS hA (fun _ => rfl) (by decide) rfl (Nat.le_of_ble_eq_true rfl) (Nat.le_of_ble_eq_true rfl) (Nat.le_of_ble_eq_true rfl) dX1_init_23 (fun q_5 k_6 H hK hP hD hS => ?_)
  have hP : va_P D vwCl [(h, .inr (6, [.ref q_1, .ref q_3, .null, .int 0, .int 0])), (q_1, .inl (k_2, 10, .inl (fun _ => 0))), (q_3, .inl (k_4, 10, .inl (fun _ => 0))), (q_5, .inl (k_6, 20, .inl (fun _ => 0)))] H := hP
  have hD : va_D A [(h, .inr (6, [.ref q_1, .ref q_3, .null, .int 0, .int 0])), (q_1, .inl (k_2, 10, .inl (fun _ => 0))), (q_3, .inl (k_4, 10, .inl (fun _ => 0))), (q_5, .inl (k_6, 20, .inl (fun _ => 0)))] := hD
  have hK : va_K D vwCl [(k_2, .int), (k_4, .int), (k_6, .int)] s := hK
  refine va_putF (D := D) (ci := 6) (v := .ref q_5) (ty := .array .int) (C := RX1) (T := TX1) (N := 5) hx hb hw zi_RX1 tyX1 tyX1_ok nmX1 hown hK hP hD hS 0 rfl rfl 2 (by decide) (hw _ zm_167) (fun _ h9 => h9) rfl hin rfl (by decide +kernel) rfl rfl (Nat.le_of_ble_eq_true rfl) dX1_init_25 (fun H locs hP hD hS => ?_)
  have hP : va_P D vwCl [(h, .inr (6, [.ref q_1, .ref q_3, .ref q_5, .int 0, .int 0])), (q_1, .inl (k_2, 10, .inl (fun _ => 0))), (q_3, .inl (k_4, 10, .inl (fun _ => 0))), (q_5, .inl (k_6, 20, .inl (fun _ => 0)))] H := hP
  have hD : va_D A [(h, .inr (6, [.ref q_1, .ref q_3, .ref q_5, .int 0, .int 0])), (q_1, .inl (k_2, 10, .inl (fun _ => 0))), (q_3, .inl (k_4, 10, .inl (fun _ => 0))), (q_5, .inl (k_6, 20, .inl (fun _ => 0)))] := hD
  have hK : va_K D vwCl [(k_2, .int), (k_4, .int), (k_6, .int)] s := hK
  refine lv_aload_n hx hb dX1_init_28 rfl (lv_at hl 0 rfl) ?_
  refine lv_iconst (v := 0) hx hb dX1_init_29 (by decide) ?_
  refine va_put (D := D) (ci := 6) (v := .int 0) (ty := .int) (C := RX1) (T := TX1) (N := 5) hx hb hw zi_RX1 tyX1 tyX1_ok nmX1 hown hK hP hD hS 0 rfl rfl 3 (by decide) (hw _ zm_168) (fun _ h9 => h9) rfl (by decide +kernel) rfl rfl (Nat.le_of_ble_eq_true rfl) dX1_init_30 (fun H locs hP hD hS => ?_)
  have hP : va_P D vwCl [(h, .inr (6, [.ref q_1, .ref q_3, .ref q_5, .int 0, .int 0])), (q_1, .inl (k_2, 10, .inl (fun _ => 0))), (q_3, .inl (k_4, 10, .inl (fun _ => 0))), (q_5, .inl (k_6, 20, .inl (fun _ => 0)))] H := hP
  have hD : va_D A [(h, .inr (6, [.ref q_1, .ref q_3, .ref q_5, .int 0, .int 0])), (q_1, .inl (k_2, 10, .inl (fun _ => 0))), (q_3, .inl (k_4, 10, .inl (fun _ => 0))), (q_5, .inl (k_6, 20, .inl (fun _ => 0)))] := hD
  have hK : va_K D vwCl [(k_2, .int), (k_4, .int), (k_6, .int)] s := hK
  refine lv_aload_n hx hb dX1_init_33 rfl (lv_at hl 0 rfl) ?_
  refine lv_iconst (v := 0) hx hb dX1_init_34 (by decide) ?_
  refine va_put (D := D) (ci := 6) (v := .int 0) (ty := .int) (C := RX1) (T := TX1) (N := 5) hx hb hw zi_RX1 tyX1 tyX1_ok nmX1 hown hK hP hD hS 0 rfl rfl 4 (by decide) (hw _ zm_170) (fun _ h9 => h9) rfl (by decide +kernel) rfl rfl (Nat.le_of_ble_eq_true rfl) dX1_init_35 (fun H locs hP hD hS => ?_)
  have hP : va_P D vwCl [(h, .inr (6, [.ref q_1, .ref q_3, .ref q_5, .int 0, .int 0])), (q_1, .inl (k_2, 10, .inl (fun _ => 0))), (q_3, .inl (k_4, 10, .inl (fun _ => 0))), (q_5, .inl (k_6, 20, .inl (fun _ => 0)))] H := hP
  have hD : va_D A [(h, .inr (6, [.ref q_1, .ref q_3, .ref q_5, .int 0, .int 0])), (q_1, .inl (k_2, 10, .inl (fun _ => 0))), (q_3, .inl (k_4, 10, .inl (fun _ => 0))), (q_5, .inl (k_6, 20, .inl (fun _ => 0)))] := hD
  have hK : va_K D vwCl [(k_2, .int), (k_4, .int), (k_6, .int)] s := hK
  have hP9 := hP.sub (ws' := [(h, .inr (6, [.ref q_1, .ref q_3, .ref q_5, .int 0, .int 0]))]) [0] rfl
  have hD9 := hD.sub (ws' := [(h, .inr (6, [.ref q_1, .ref q_3, .ref q_5, .int 0, .int 0]))]) [0] (by decide) rfl
  have hK9 := hK.sub (tys' := []) [] rfl
  refine W.widen (k := 3) (n := 40) (Nat.le_of_ble_eq_true rfl) (Nat.le_of_ble_eq_true rfl) ?_
  exact W.vret hx hb hr (fun t ht hW => ⟨⟨((fun k => ([q_1, q_3, q_5] : List Nat).getD k 0), (fun k => ([] : List ClassId).getD k 0)), rfl, trivial, by rw [ht]; exact hP9, va_K.moved hW.alike hK9, hD9⟩, hS.F ht⟩) hS.2.2 dX1_init_38
theorem dJxa1e45_init_da8c8_0 : decode cJxa1e45_init_da8c8 0 = .ok (.aload_n 0, 1) := by decide +kernel
theorem dJxa1e45_init_da8c8_1 : decode cJxa1e45_init_da8c8 1 = .ok (.invokespecial 1, 3) := by decide +kernel
theorem zm_141 : Cond.methodLink RJxa1e45 1 ⟨"java/lang/Object", "<init>", "()V"⟩ ∈ WA := zmm (i := 141) (by decide +kernel) (by decide +kernel)
theorem dJxa1e45_init_da8c8_4 : decode cJxa1e45_init_da8c8 4 = .ok (.return_, 1) := by decide +kernel
set_option maxHeartbeats 4000000 in
set_option maxRecDepth 100000 in
theorem c_Jxa1e45_init_da8c8 (l : Launch) (D : va_G) (sa : Nat → Nat) (ea : Nat) (h : Nat) (sz : Nat) : Met l yJxa1e45_init_da8c8 ((Cond.code yJxa1e45_init_da8c8 prog_33_method_1_code 1 (Option.none : Option FieldType)) :: WA) ({ frames := 1, cells := 0, slots := 0, locals := 12 }) (zW D sa ea [] [(h, .inr (4, [.int 0, .null, .int 0]))] [.ref h] sz) (va_Qv (fun (_ : Unit) => True) (fun _ t => va_P D vwCl [(h, .inr (4, [.int 0, .null, .int 0]))] t.heap ∧ va_D (va_A [(h, .inr (4, [.int 0, .null, .int 0]))] sz) [(h, .inr (4, [.int 0, .null, .int 0]))]) (va_A [(h, .inr (4, [.int 0, .null, .int 0]))] sz)) 0 0 (va_A [(h, .inr (4, [.int 0, .null, .int 0]))] sz) := by
  refine Met.ofW (cc := prog_33_method_1_code) (maxL := 1) (ret := (Option.none : Option FieldType)) (by decide) rfl ?_
  intro p e s m args below meth c s₁ B hml hv
  obtain ⟨rfl, hsz, hP, hK, hD0, hT, hE⟩ := hv
  have hx := B.exec
  have hb := B.bytes
  have hr := B.returns
  have hts := atoms_spec (ws := (Cond.code yJxa1e45_init_da8c8 prog_33_method_1_code 1 (Option.none : Option FieldType)) :: WA) B.pre
  have hw : ∀ w ∈ WA, w.before _ s = true := fun w h => hts w (List.mem_cons_of_mem _ h)
  have hown : s.vm.findClass RJxa1e45 = some m.cls := findClass_of_methodNamed B.named
  have hlocks := B.notSynchronized
  have hin : meth.name = "<init>" := (name_of_methodNamed B.named B.method).1
  subst hsz
  have hD := hD0.self (sz := s.heap.size)
  generalize hAe : va_A [(h, .inr (4, [.int 0, .null, .int 0]))] s.heap.size = A at hD hE ⊢
  have hA : ∀ q : Nat, s.heap.size ≤ q → A q := fun q h => by rw [← hAe]; exact Or.inr h
  have hS : va_S A s.heap s.heap [] := va_S.rf
  have hP : va_P D vwCl [(h, .inr (4, [.int 0, .null, .int 0]))] s.heap := hP
  have hD : va_D A [(h, .inr (4, [.int 0, .null, .int 0]))] := hD
  have hl := lv_entry [.ref h] (n := 1) (Nat.le_of_ble_eq_true rfl)
  rw [lg_entry_eq]
  generalize (lg_sl [.ref h] ++ List.replicate (1 - (lg_sl [.ref h]).length) Slot.unset).toArray = ls at hl ⊢
  have hl : lv_has ls 1 [(0, .ref h)] := hl
  refine lv_aload_n hx hb dJxa1e45_init_da8c8_0 rfl (lv_at hl 0 rfl) ?_
  refine W.objInit hx hb hown (hw _ zm_141) (hw _ zm_85) (hw _ zm_86) rfl (by rw [hml]; exact hl.1) rfl dJxa1e45_init_da8c8_1 (Nat.le_of_ble_eq_true rfl) (Nat.le_of_ble_eq_true rfl) ?_
  refine W.eq (g2 := F0 m 4 ls []) rfl ?_
  have hP9 := hP.sub (ws' := [(h, .inr (4, [.int 0, .null, .int 0]))]) [0] rfl
  have hD9 := hD.sub (ws' := [(h, .inr (4, [.int 0, .null, .int 0]))]) [0] (by decide) rfl
  refine W.widen (k := 0) (n := 0) (Nat.le_of_ble_eq_true rfl) (Nat.le_of_ble_eq_true rfl) ?_
  exact W.vret hx hb hr (fun t ht hW => ⟨⟨(), rfl, trivial, by rw [ht]; exact hP9, hD9⟩, hS.F ht⟩) hS.2.2 dJxa1e45_init_da8c8_4
theorem dJxc12de_init_da8c8_0 : decode cJxc12de_init_da8c8 0 = .ok (.aload_n 0, 1) := by decide +kernel
theorem dJxc12de_init_da8c8_1 : decode cJxc12de_init_da8c8 1 = .ok (.invokespecial 1, 3) := by decide +kernel
theorem zm_140 : Cond.code yJxa1e45_init_da8c8 prog_33_method_1_code 1 (Option.none : Option FieldType) ∈ WA := zmm (i := 140) (by decide +kernel) (by decide +kernel)
theorem zm_49 : Cond.initialized RJxa1e45 ∈ WA := zmm (i := 49) (by decide +kernel) (by decide +kernel)
theorem zm_138 : Cond.methodLink RJxc12de 1 yJxa1e45_init_da8c8 ∈ WA := zmm (i := 138) (by decide +kernel) (by decide +kernel)
theorem zm_139 : Cond.instanceMethod yJxa1e45_init_da8c8 ∈ WA := zmm (i := 139) (by decide +kernel) (by decide +kernel)
theorem dJxc12de_init_da8c8_4 : decode cJxc12de_init_da8c8 4 = .ok (.aload_n 0, 1) := by decide +kernel
theorem dJxc12de_init_da8c8_5 : decode cJxc12de_init_da8c8 5 = .ok (.iconst 0, 1) := by decide +kernel
theorem dJxc12de_init_da8c8_6 : decode cJxc12de_init_da8c8 6 = .ok (.putfield 7, 3) := by decide +kernel
theorem zm_148 : Cond.fieldLink RJxc12de 7 RJxc12de "modCount" "I" ∈ WA := zmm (i := 148) (by decide +kernel) (by decide +kernel)
theorem dJxc12de_init_da8c8_9 : decode cJxc12de_init_da8c8 9 = .ok (.return_, 1) := by decide +kernel
set_option maxHeartbeats 4000000 in
set_option maxRecDepth 100000 in
theorem c_Jxc12de_init_da8c8 (l : Launch) (D : va_G) (sa : Nat → Nat) (ea : Nat) (h : Nat) (sz : Nat) : Met l yJxc12de_init_da8c8 ((Cond.code yJxc12de_init_da8c8 prog_34_method_1_code 1 (Option.none : Option FieldType)) :: WA) ({ frames := 2, cells := 0, slots := 0, locals := 32 }) (zW D sa ea [] [(h, .inr (4, [.int 0, .null, .int 0]))] [.ref h] sz) (va_Qv (fun (_ : Unit) => True) (fun _ t => va_P D vwCl [(h, .inr (4, [.int 0, .null, .int 0]))] t.heap ∧ va_D (va_A [(h, .inr (4, [.int 0, .null, .int 0]))] sz) [(h, .inr (4, [.int 0, .null, .int 0]))]) (va_A [(h, .inr (4, [.int 0, .null, .int 0]))] sz)) 0 0 (va_A [(h, .inr (4, [.int 0, .null, .int 0]))] sz) := by
  refine Met.ofW (cc := prog_34_method_1_code) (maxL := 1) (ret := (Option.none : Option FieldType)) (by decide) rfl ?_
  intro p e s m args below meth c s₁ B hml hv
  obtain ⟨rfl, hsz, hP, hK, hD0, hT, hE⟩ := hv
  have hx := B.exec
  have hb := B.bytes
  have hr := B.returns
  have hts := atoms_spec (ws := (Cond.code yJxc12de_init_da8c8 prog_34_method_1_code 1 (Option.none : Option FieldType)) :: WA) B.pre
  have hw : ∀ w ∈ WA, w.before _ s = true := fun w h => hts w (List.mem_cons_of_mem _ h)
  have hown : s.vm.findClass RJxc12de = some m.cls := findClass_of_methodNamed B.named
  have hlocks := B.notSynchronized
  have hin : meth.name = "<init>" := (name_of_methodNamed B.named B.method).1
  subst hsz
  have hD := hD0.self (sz := s.heap.size)
  generalize hAe : va_A [(h, .inr (4, [.int 0, .null, .int 0]))] s.heap.size = A at hD hE ⊢
  have hA : ∀ q : Nat, s.heap.size ≤ q → A q := fun q h => by rw [← hAe]; exact Or.inr h
  have hS : va_S A s.heap s.heap [] := va_S.rf
  have hP : va_P D vwCl [(h, .inr (4, [.int 0, .null, .int 0]))] s.heap := hP
  have hD : va_D A [(h, .inr (4, [.int 0, .null, .int 0]))] := hD
  have hl := lv_entry [.ref h] (n := 1) (Nat.le_of_ble_eq_true rfl)
  rw [lg_entry_eq]
  generalize (lg_sl [.ref h] ++ List.replicate (1 - (lg_sl [.ref h]).length) Slot.unset).toArray = ls at hl ⊢
  have hl : lv_has ls 1 [(0, .ref h)] := hl
  refine lv_aload_n hx hb dJxc12de_init_da8c8_0 rfl (lv_at hl 0 rfl) ?_
  have hFc := va_free (wc := [(h, .inr (4, [.int 0, .null, .int 0]))]) hD hS hA [0] rfl
  refine va_callv (va_runI (As := []) (rest := []) ⟨hx, hb, hml, hown, hw⟩ (c_Jxa1e45_init_da8c8 l D sa ea h _) (cwI 0 hw (zgC zm_140) rfl rfl rfl (hw _ zm_49) (hw _ zm_138) (hw _ zm_139) rfl (by decide +kernel) ⟨Nat.le_of_ble_eq_true rfl, Nat.le_of_ble_eq_true rfl⟩) ⟨zW_blind, zW_pre hP hK hD hT hE hS hFc⟩ rfl rfl hl.1 rfl (lv_room (Nat.le_of_ble_eq_true rfl)) dJxc12de_init_da8c8_1 ⟨Nat.le_of_ble_eq_true rfl, Nat.le_of_ble_eq_true rfl⟩) hS (fun q _ h => hFc q h) hFc (fun u t H locs ht hvm hw1 hB hz1 hk1 hS => ?_)
  obtain ⟨hP1, hD1⟩ := hB
  rw [ht] at hP1
  obtain ⟨hP, hD⟩ := va_join (wr := []) (w1 := [(h, .inr (4, [.int 0, .null, .int 0]))]) hP hD [0] [] rfl rfl (by decide) (by decide) hk1 hFc hP1 hD1
  have hP : va_P D vwCl [(h, .inr (4, [.int 0, .null, .int 0]))] H := hP
  have hD : va_D A [(h, .inr (4, [.int 0, .null, .int 0]))] := hD
  refine lv_aload_n hx hb dJxc12de_init_da8c8_4 rfl (lv_at hl 0 rfl) ?_
  refine lv_iconst (v := 0) hx hb dJxc12de_init_da8c8_5 (by decide) ?_
  refine va_put (D := D) (ci := 4) (v := .int 0) (ty := .int) (C := RJx4a65c) (T := TJx4a65c) (N := 3) hx hb hw zi_RJx4a65c tyJx4a65c tyJx4a65c_ok nmJx4a65c hown hK hP hD hS 0 rfl rfl 0 (by decide) (hw _ zm_148) (fun _ h9 => h9) rfl (by decide +kernel) rfl rfl (Nat.le_of_ble_eq_true rfl) dJxc12de_init_da8c8_6 (fun H locs hP hD hS => ?_)
  have hP : va_P D vwCl [(h, .inr (4, [.int 0, .null, .int 0]))] H := hP
  have hD : va_D A [(h, .inr (4, [.int 0, .null, .int 0]))] := hD
  have hP9 := hP.sub (ws' := [(h, .inr (4, [.int 0, .null, .int 0]))]) [0] rfl
  have hD9 := hD.sub (ws' := [(h, .inr (4, [.int 0, .null, .int 0]))]) [0] (by decide) rfl
  refine W.widen (k := 0) (n := 0) (Nat.le_of_ble_eq_true rfl) (Nat.le_of_ble_eq_true rfl) ?_
  exact W.vret hx hb hr (fun t ht hW => ⟨⟨(), rfl, trivial, by rw [ht]; exact hP9, hD9⟩, hS.F ht⟩) hS.2.2 dJxc12de_init_da8c8_9
theorem dJx4a65c_init_da8c8_0 : decode cJx4a65c_init_da8c8 0 = .ok (.aload_n 0, 1) := by decide +kernel
theorem dJx4a65c_init_da8c8_1 : decode cJx4a65c_init_da8c8 1 = .ok (.invokespecial 1, 3) := by decide +kernel
theorem zm_137 : Cond.code yJxc12de_init_da8c8 prog_34_method_1_code 1 (Option.none : Option FieldType) ∈ WA := zmm (i := 137) (by decide +kernel) (by decide +kernel)
theorem zm_50 : Cond.initialized RJxc12de ∈ WA := zmm (i := 50) (by decide +kernel) (by decide +kernel)
theorem zm_135 : Cond.methodLink RJx4a65c 1 yJxc12de_init_da8c8 ∈ WA := zmm (i := 135) (by decide +kernel) (by decide +kernel)
theorem zm_136 : Cond.instanceMethod yJxc12de_init_da8c8 ∈ WA := zmm (i := 136) (by decide +kernel) (by decide +kernel)
theorem dJx4a65c_init_da8c8_4 : decode cJx4a65c_init_da8c8 4 = .ok (.aload_n 0, 1) := by decide +kernel
theorem dJx4a65c_init_da8c8_5 : decode cJx4a65c_init_da8c8 5 = .ok (.getstatic 39, 3) := by decide +kernel
theorem zm_142 : Cond.fieldLink RJx4a65c 39 RJx4a65c "DEFAULTCAPACITY_EMPTY_ELEMENTDATA" "[Ljava/lang/Object;" ∈ WA := zmm (i := 142) (by decide +kernel) (by decide +kernel)
theorem dJx4a65c_init_da8c8_8 : decode cJx4a65c_init_da8c8 8 = .ok (.putfield 9, 3) := by decide +kernel
theorem dJx4a65c_init_da8c8_11 : decode cJx4a65c_init_da8c8 11 = .ok (.return_, 1) := by decide +kernel
set_option maxHeartbeats 4000000 in
set_option maxRecDepth 100000 in
theorem c_Jx4a65c_init_da8c8 (l : Launch) (D : va_G) (sa : Nat → Nat) (ea : Nat) (h : Nat) (sz : Nat) : Met l yJx4a65c_init_da8c8 ((Cond.code yJx4a65c_init_da8c8 prog_35_method_2_code 1 (Option.none : Option FieldType)) :: WA) ({ frames := 3, cells := 0, slots := 0, locals := 52 }) (zW D sa ea [] [(h, .inr (4, [.int 0, .null, .int 0]))] [.ref h] sz) (va_Qv (fun (_ : Unit) => True) (fun _ t => va_P D vwCl [(h, .inr (4, [.int 0, .ref ea, .int 0]))] t.heap ∧ va_D (va_A [(h, .inr (4, [.int 0, .null, .int 0]))] sz) [(h, .inr (4, [.int 0, .ref ea, .int 0]))]) (va_A [(h, .inr (4, [.int 0, .null, .int 0]))] sz)) 0 0 (va_A [(h, .inr (4, [.int 0, .null, .int 0]))] sz) := by
  refine Met.ofW (cc := prog_35_method_2_code) (maxL := 1) (ret := (Option.none : Option FieldType)) (by decide) rfl ?_
  intro p e s m args below meth c s₁ B hml hv
  obtain ⟨rfl, hsz, hP, hK, hD0, hT, hE⟩ := hv
  have hx := B.exec
  have hb := B.bytes
  have hr := B.returns
  have hts := atoms_spec (ws := (Cond.code yJx4a65c_init_da8c8 prog_35_method_2_code 1 (Option.none : Option FieldType)) :: WA) B.pre
  have hw : ∀ w ∈ WA, w.before _ s = true := fun w h => hts w (List.mem_cons_of_mem _ h)
  have hown : s.vm.findClass RJx4a65c = some m.cls := findClass_of_methodNamed B.named
  have hlocks := B.notSynchronized
  have hin : meth.name = "<init>" := (name_of_methodNamed B.named B.method).1
  subst hsz
  have hD := hD0.self (sz := s.heap.size)
  generalize hAe : va_A [(h, .inr (4, [.int 0, .null, .int 0]))] s.heap.size = A at hD hE ⊢
  have hA : ∀ q : Nat, s.heap.size ≤ q → A q := fun q h => by rw [← hAe]; exact Or.inr h
  have hS : va_S A s.heap s.heap [] := va_S.rf
  have hP : va_P D vwCl [(h, .inr (4, [.int 0, .null, .int 0]))] s.heap := hP
  have hD : va_D A [(h, .inr (4, [.int 0, .null, .int 0]))] := hD
  have hl := lv_entry [.ref h] (n := 1) (Nat.le_of_ble_eq_true rfl)
  rw [lg_entry_eq]
  generalize (lg_sl [.ref h] ++ List.replicate (1 - (lg_sl [.ref h]).length) Slot.unset).toArray = ls at hl ⊢
  have hl : lv_has ls 1 [(0, .ref h)] := hl
  refine lv_aload_n hx hb dJx4a65c_init_da8c8_0 rfl (lv_at hl 0 rfl) ?_
  have hFc := va_free (wc := [(h, .inr (4, [.int 0, .null, .int 0]))]) hD hS hA [0] rfl
  refine va_callv (va_runI (As := []) (rest := []) ⟨hx, hb, hml, hown, hw⟩ (c_Jxc12de_init_da8c8 l D sa ea h _) (cwI 0 hw (zgC zm_137) rfl rfl rfl (hw _ zm_50) (hw _ zm_135) (hw _ zm_136) rfl (by decide +kernel) ⟨Nat.le_of_ble_eq_true rfl, Nat.le_of_ble_eq_true rfl⟩) ⟨zW_blind, zW_pre hP hK hD hT hE hS hFc⟩ rfl rfl hl.1 rfl (lv_room (Nat.le_of_ble_eq_true rfl)) dJx4a65c_init_da8c8_1 ⟨Nat.le_of_ble_eq_true rfl, Nat.le_of_ble_eq_true rfl⟩) hS (fun q _ h => hFc q h) hFc (fun u t H locs ht hvm hw1 hB hz1 hk1 hS => ?_)
  obtain ⟨hP1, hD1⟩ := hB
  rw [ht] at hP1
  obtain ⟨hP, hD⟩ := va_join (wr := []) (w1 := [(h, .inr (4, [.int 0, .null, .int 0]))]) hP hD [0] [] rfl rfl (by decide) (by decide) hk1 hFc hP1 hD1
  have hP : va_P D vwCl [(h, .inr (4, [.int 0, .null, .int 0]))] H := hP
  have hD : va_D A [(h, .inr (4, [.int 0, .null, .int 0]))] := hD
  refine lv_aload_n hx hb dJx4a65c_init_da8c8_4 rfl (lv_at hl 0 rfl) ?_
  refine va_gets hx hb hE hS hown (hw _ zm_142) (fun _ h9 => h9) dJx4a65c_init_da8c8_5 ?_
  refine va_put (D := D) (ci := 4) (v := .ref ea) (ty := .array (.object "java/lang/Object")) (C := RJx4a65c) (T := TJx4a65c) (N := 3) hx hb hw zi_RJx4a65c tyJx4a65c tyJx4a65c_ok nmJx4a65c hown hK hP hD hS 0 rfl rfl 1 (by decide) (hw _ zm_144) (fun _ h9 => h9) rfl (by decide +kernel) rfl rfl (Nat.le_of_ble_eq_true rfl) dJx4a65c_init_da8c8_8 (fun H locs hP hD hS => ?_)
  have hP : va_P D vwCl [(h, .inr (4, [.int 0, .ref ea, .int 0]))] H := hP
  have hD : va_D A [(h, .inr (4, [.int 0, .ref ea, .int 0]))] := hD
  have hP9 := hP.sub (ws' := [(h, .inr (4, [.int 0, .ref ea, .int 0]))]) [0] rfl
  have hD9 := hD.sub (ws' := [(h, .inr (4, [.int 0, .ref ea, .int 0]))]) [0] (by decide) rfl
  refine W.widen (k := 0) (n := 0) (Nat.le_of_ble_eq_true rfl) (Nat.le_of_ble_eq_true rfl) ?_
  exact W.vret hx hb hr (fun t ht hW => ⟨⟨(), rfl, trivial, by rw [ht]; exact hP9, hD9⟩, hS.F ht⟩) hS.2.2 dJx4a65c_init_da8c8_11
theorem dX5_init_0 : decode cX5_init 0 = .ok (.aload_n 0, 1) := by decide +kernel
theorem dX5_init_1 : decode cX5_init 1 = .ok (.invokespecial 1, 3) := by decide +kernel
theorem zm_84 : Cond.methodLink RX5 1 ⟨"java/lang/Object", "<init>", "()V"⟩ ∈ WA := zmm (i := 84) (by decide +kernel) (by decide +kernel)
theorem dX5_init_4 : decode cX5_init 4 = .ok (.aload_n 0, 1) := by decide +kernel
theorem dX5_init_5 : decode cX5_init 5 = .ok (.new 7, 3) := by decide +kernel
theorem zm_87 : Cond.classLink RX5 7 RX2 ∈ WA := zmm (i := 87) (by decide +kernel) (by decide +kernel)
theorem zm_88 : Cond.instantiable RX2 4 ∈ WA := zmm (i := 88) (by decide +kernel) (by decide +kernel)
theorem dX5_init_8 : decode cX5_init 8 = .ok (.dup, 1) := by decide +kernel
theorem dX5_init_9 : decode cX5_init 9 = .ok (.invokespecial 9, 3) := by decide +kernel
theorem zm_91 : Cond.code yX2_init prog_4_method_1_code 1 (Option.none : Option FieldType) ∈ WA := zmm (i := 91) (by decide +kernel) (by decide +kernel)
theorem zm_90 : Cond.instanceMethod yX2_init ∈ WA := zmm (i := 90) (by decide +kernel) (by decide +kernel)
theorem dX5_init_12 : decode cX5_init 12 = .ok (.putfield 10, 3) := by decide +kernel
theorem dX5_init_15 : decode cX5_init 15 = .ok (.aload_n 0, 1) := by decide +kernel
theorem dX5_init_16 : decode cX5_init 16 = .ok (.new 16, 3) := by decide +kernel
theorem zm_108 : Cond.classLink RX5 16 RX3 ∈ WA := zmm (i := 108) (by decide +kernel) (by decide +kernel)
theorem zm_109 : Cond.instantiable RX3 3 ∈ WA := zmm (i := 109) (by decide +kernel) (by decide +kernel)
theorem dX5_init_19 : decode cX5_init 19 = .ok (.dup, 1) := by decide +kernel
theorem dX5_init_20 : decode cX5_init 20 = .ok (.bipush 16, 2) := by decide +kernel
theorem dX5_init_22 : decode cX5_init 22 = .ok (.invokespecial 18, 3) := by decide +kernel
theorem zm_112 : Cond.code yX3_init prog_5_method_1_code 3 (Option.none : Option FieldType) ∈ WA := zmm (i := 112) (by decide +kernel) (by decide +kernel)
theorem zm_110 : Cond.methodLink RX5 18 yX3_init ∈ WA := zmm (i := 110) (by decide +kernel) (by decide +kernel)
theorem zm_111 : Cond.instanceMethod yX3_init ∈ WA := zmm (i := 111) (by decide +kernel) (by decide +kernel)
theorem dX5_init_25 : decode cX5_init 25 = .ok (.putfield 21, 3) := by decide +kernel
theorem dX5_init_28 : decode cX5_init 28 = .ok (.aload_n 0, 1) := by decide +kernel
theorem dX5_init_29 : decode cX5_init 29 = .ok (.new 25, 3) := by decide +kernel
theorem zm_130 : Cond.classLink RX5 25 RJx4a65c ∈ WA := zmm (i := 130) (by decide +kernel) (by decide +kernel)
theorem zm_131 : Cond.instantiable RJx4a65c 3 ∈ WA := zmm (i := 131) (by decide +kernel) (by decide +kernel)
theorem dX5_init_32 : decode cX5_init 32 = .ok (.dup, 1) := by decide +kernel
theorem dX5_init_33 : decode cX5_init 33 = .ok (.invokespecial 27, 3) := by decide +kernel
theorem zm_134 : Cond.code yJx4a65c_init_da8c8 prog_35_method_2_code 1 (Option.none : Option FieldType) ∈ WA := zmm (i := 134) (by decide +kernel) (by decide +kernel)
theorem zm_132 : Cond.methodLink RX5 27 yJx4a65c_init_da8c8 ∈ WA := zmm (i := 132) (by decide +kernel) (by decide +kernel)
theorem zm_133 : Cond.instanceMethod yJx4a65c_init_da8c8 ∈ WA := zmm (i := 133) (by decide +kernel) (by decide +kernel)
theorem dX5_init_36 : decode cX5_init 36 = .ok (.putfield 28, 3) := by decide +kernel
theorem dX5_init_39 : decode cX5_init 39 = .ok (.aload_n 0, 1) := by decide +kernel
theorem dX5_init_40 : decode cX5_init 40 = .ok (.new 25, 3) := by decide +kernel
theorem dX5_init_43 : decode cX5_init 43 = .ok (.dup, 1) := by decide +kernel
theorem dX5_init_44 : decode cX5_init 44 = .ok (.invokespecial 27, 3) := by decide +kernel
theorem dX5_init_47 : decode cX5_init 47 = .ok (.putfield 32, 3) := by decide +kernel
theorem dX5_init_50 : decode cX5_init 50 = .ok (.aload_n 0, 1) := by decide +kernel
theorem dX5_init_51 : decode cX5_init 51 = .ok (.new 35, 3) := by decide +kernel
theorem zm_159 : Cond.classLink RX5 35 RX1 ∈ WA := zmm (i := 159) (by decide +kernel) (by decide +kernel)
theorem zm_160 : Cond.instantiable RX1 5 ∈ WA := zmm (i := 160) (by decide +kernel) (by decide +kernel)
theorem dX5_init_54 : decode cX5_init 54 = .ok (.dup, 1) := by decide +kernel
theorem dX5_init_55 : decode cX5_init 55 = .ok (.invokespecial 37, 3) := by decide +kernel
theorem zm_163 : Cond.code yX1_init prog_3_method_1_code 1 (Option.none : Option FieldType) ∈ WA := zmm (i := 163) (by decide +kernel) (by decide +kernel)
theorem zm_162 : Cond.instanceMethod yX1_init ∈ WA := zmm (i := 162) (by decide +kernel) (by decide +kernel)
theorem dX5_init_58 : decode cX5_init 58 = .ok (.putfield 38, 3) := by decide +kernel
theorem dX5_init_61 : decode cX5_init 61 = .ok (.aload_n 0, 1) := by decide +kernel
theorem dX5_init_62 : decode cX5_init 62 = .ok (.iconst (-1), 1) := by decide +kernel
theorem dX5_init_63 : decode cX5_init 63 = .ok (.putfield 42, 3) := by decide +kernel
theorem zm_187 : Cond.fieldLink RX5 42 RX5 "loss" "I" ∈ WA := zmm (i := 187) (by decide +kernel) (by decide +kernel)
theorem dX5_init_66 : decode cX5_init 66 = .ok (.aload_n 0, 1) := by decide +kernel
theorem dX5_init_67 : decode cX5_init 67 = .ok (.bipush 100, 2) := by decide +kernel
theorem dX5_init_69 : decode cX5_init 69 = .ok (.putfield 46, 3) := by decide +kernel
theorem dX5_init_72 : decode cX5_init 72 = .ok (.aload_n 0, 1) := by decide +kernel
theorem dX5_init_73 : decode cX5_init 73 = .ok (.iconst 0, 1) := by decide +kernel
theorem dX5_init_74 : decode cX5_init 74 = .ok (.putfield 49, 3) := by decide +kernel
theorem dX5_init_77 : decode cX5_init 77 = .ok (.aload_n 0, 1) := by decide +kernel
theorem dX5_init_78 : decode cX5_init 78 = .ok (.iconst 0, 1) := by decide +kernel
theorem dX5_init_79 : decode cX5_init 79 = .ok (.putfield 52, 3) := by decide +kernel
theorem dX5_init_82 : decode cX5_init 82 = .ok (.return_, 1) := by decide +kernel
set_option maxHeartbeats 4000000 in
set_option maxRecDepth 100000 in
theorem c_X5_init (l : Launch) (D : va_G) (sa : Nat → Nat) (ea : Nat) (h : Nat) (sz : Nat) : Met l yX5_init ((Cond.code yX5_init prog_1_method_1_code 1 (Option.none : Option FieldType)) :: WA) ({ frames := 4, cells := 13, slots := 282, locals := 72 }) (zW D sa ea [] [(h, .inr (10, [.null, .null, .null, .null, .null, .int 0, .int 0, .int 0, .int 0]))] [.ref h] sz) (va_Qv (fun u : (Nat → Nat) × (Nat → ClassId) => (u.1 0) = h ∧ (u.1 14) = ea) (fun u t => va_P D vwCl [((u.1 0), .inr (10, [.ref (u.1 1), .ref (u.1 2), .ref (u.1 3), .ref (u.1 4), .ref (u.1 5), .int (-1), .int 100, .int 0, .int 0])), ((u.1 1), .inr (7, [.ref (u.1 6), .ref (u.1 7), .ref (u.1 8), .int 0])), ((u.1 2), .inr (8, [.ref (u.1 9), .ref (u.1 10), .int 0])), ((u.1 3), .inr (4, [.int 0, .ref (u.1 14), .int 0])), ((u.1 4), .inr (4, [.int 0, .ref (u.1 14), .int 0])), ((u.1 5), .inr (6, [.ref (u.1 11), .ref (u.1 12), .ref (u.1 13), .int 0, .int 0])), ((u.1 6), .inl ((u.2 0), 12, .inl (fun _ => 0))), ((u.1 7), .inl ((u.2 1), 36, .inl (fun _ => 0)))] t.heap ∧ va_K D vwCl [((u.2 0), .char), ((u.2 1), .int)] t ∧ va_D (va_A [(h, .inr (10, [.null, .null, .null, .null, .null, .int 0, .int 0, .int 0, .int 0]))] sz) [((u.1 0), .inr (10, [.ref (u.1 1), .ref (u.1 2), .ref (u.1 3), .ref (u.1 4), .ref (u.1 5), .int (-1), .int 100, .int 0, .int 0])), ((u.1 1), .inr (7, [.ref (u.1 6), .ref (u.1 7), .ref (u.1 8), .int 0])), ((u.1 2), .inr (8, [.ref (u.1 9), .ref (u.1 10), .int 0])), ((u.1 3), .inr (4, [.int 0, .ref (u.1 14), .int 0])), ((u.1 4), .inr (4, [.int 0, .ref (u.1 14), .int 0])), ((u.1 5), .inr (6, [.ref (u.1 11), .ref (u.1 12), .ref (u.1 13), .int 0, .int 0])), ((u.1 6), .inl ((u.2 0), 12, .inl (fun _ => 0))), ((u.1 7), .inl ((u.2 1), 36, .inl (fun _ => 0)))]) (va_A [(h, .inr (10, [.null, .null, .null, .null, .null, .int 0, .int 0, .int 0, .int 0]))] sz)) 13 282 (va_A [(h, .inr (10, [.null, .null, .null, .null, .null, .int 0, .int 0, .int 0, .int 0]))] sz) := by
  refine Met.ofW (cc := prog_1_method_1_code) (maxL := 1) (ret := (Option.none : Option FieldType)) (by decide) rfl ?_
  intro p e s m args below meth c s₁ B hml hv
  obtain ⟨rfl, hsz, hP, hK, hD0, hT, hE⟩ := hv
  have hx := B.exec
  have hb := B.bytes
  have hr := B.returns
  have hts := atoms_spec (ws := (Cond.code yX5_init prog_1_method_1_code 1 (Option.none : Option FieldType)) :: WA) B.pre
  have hw : ∀ w ∈ WA, w.before _ s = true := fun w h => hts w (List.mem_cons_of_mem _ h)
  have hown : s.vm.findClass RX5 = some m.cls := findClass_of_methodNamed B.named
  have hlocks := B.notSynchronized
  have hin : meth.name = "<init>" := (name_of_methodNamed B.named B.method).1
  subst hsz
  have hD := hD0.self (sz := s.heap.size)
  generalize hAe : va_A [(h, .inr (10, [.null, .null, .null, .null, .null, .int 0, .int 0, .int 0, .int 0]))] s.heap.size = A at hD hE ⊢
  have hA : ∀ q : Nat, s.heap.size ≤ q → A q := fun q h => by rw [← hAe]; exact Or.inr h
  have hS : va_S A s.heap s.heap [] := va_S.rf
  have hP : va_P D vwCl [(h, .inr (10, [.null, .null, .null, .null, .null, .int 0, .int 0, .int 0, .int 0]))] s.heap := hP
  have hD : va_D A [(h, .inr (10, [.null, .null, .null, .null, .null, .int 0, .int 0, .int 0, .int 0]))] := hD
  have hl := lv_entry [.ref h] (n := 1) (Nat.le_of_ble_eq_true rfl)
  rw [lg_entry_eq]
  generalize (lg_sl [.ref h] ++ List.replicate (1 - (lg_sl [.ref h]).length) Slot.unset).toArray = ls at hl ⊢
  have hl : lv_has ls 1 [(0, .ref h)] := hl
  refine lv_aload_n hx hb dX5_init_0 rfl (lv_at hl 0 rfl) ?_
  refine W.objInit hx hb hown (hw _ zm_84) (hw _ zm_85) (hw _ zm_86) rfl (by rw [hml]; exact hl.1) rfl dX5_init_1 (Nat.le_of_ble_eq_true rfl) (Nat.le_of_ble_eq_true rfl) ?_
  refine W.eq (g2 := F0 m 4 ls []) rfl ?_
  refine lv_aload_n hx hb dX5_init_4 rfl (lv_at hl 0 rfl) ?_
  refine va_new (ci := 7) (fs := [.null, .null, .null, .int 0]) (C := RX2) (T := TX2) (N := 4) hx hb hw zi_RX2 tyX2 tyX2_ok hown (hw _ zm_87) (hw _ zm_88) (hw _ zm_46) hK hP hD hS hA rfl (fun j hj => by rcases (show j = 0 ∨ j = 1 ∨ j = 2 ∨ j = 3 by omega) with rfl | rfl | rfl | rfl <;> rfl) (Nat.le_of_ble_eq_true rfl) (Nat.le_of_ble_eq_true rfl) dX5_init_5 (fun q_1 H hP hD hS => ?_)
  have hP : va_P D vwCl [(h, .inr (10, [.null, .null, .null, .null, .null, .int 0, .int 0, .int 0, .int 0])), (q_1, .inr (7, [.null, .null, .null, .int 0]))] H := hP
  have hD : va_D A [(h, .inr (10, [.null, .null, .null, .null, .null, .int 0, .int 0, .int 0, .int 0])), (q_1, .inr (7, [.null, .null, .null, .int 0]))] := hD
  refine lv_dup hx hb dX5_init_8 rfl ?_
  have hPc := hP.sub (ws' := [(q_1, .inr (7, [.null, .null, .null, .int 0]))]) [1] rfl
  have hDc := hD.sub (ws' := [(q_1, .inr (7, [.null, .null, .null, .int 0]))]) [1] (by decide) rfl
  have hFc := va_free (wc := [(q_1, .inr (7, [.null, .null, .null, .int 0]))]) hD hS hA [1] rfl
  refine va_callv (va_runIN (As := []) (rest := [.ref q_1, .ref h]) ⟨hx, hb, hml, hown, hw⟩ (c_X2_init l D sa ea q_1 _) ⟨va_cnB 0 hw (zgC zm_91) rfl rfl rfl (hT.m 0 rfl) (hw _ zm_46) (by decide +kernel) ⟨Nat.le_of_ble_eq_true rfl, Nat.le_of_ble_eq_true rfl⟩, rfl, (hw _ zm_90)⟩ ⟨zW_blind, zW_pre hPc hK hDc hT hE hS hFc⟩ rfl rfl hl.1 rfl (lv_room (Nat.le_of_ble_eq_true rfl)) dX5_init_9 ⟨Nat.le_of_ble_eq_true rfl, Nat.le_of_ble_eq_true rfl⟩) hS (fun q _ h => hFc q h) hFc (fun u t H locs ht hvm hw1 hB hz1 hk1 hS => ?_)
  obtain ⟨u_3_1, u_3_2⟩ := u
  obtain ⟨hP1, hK1, hD1⟩ := hB
  have hK1 := va_K.moved hvm.symm hK1
  rw [ht] at hP1
  obtain ⟨hP, hD⟩ := va_join (wr := [(h, .inr (10, [.null, .null, .null, .null, .null, .int 0, .int 0, .int 0, .int 0]))]) (w1 := [(q_1, .inr (7, [.ref (u_3_1 0), .ref (u_3_1 1), .ref (u_3_1 2), .int 0])), ((u_3_1 0), .inl ((u_3_2 0), 12, .inl (fun _ => 0))), ((u_3_1 1), .inl ((u_3_2 1), 36, .inl (fun _ => 0)))]) hP hD [1] [0] rfl rfl (by decide) (by decide) hk1 hFc hP1 hD1
  have hK := (hK.sub (tys' := []) [] rfl).app hK1
  have hP : va_P D vwCl [(h, .inr (10, [.null, .null, .null, .null, .null, .int 0, .int 0, .int 0, .int 0])), (q_1, .inr (7, [.ref (u_3_1 0), .ref (u_3_1 1), .ref (u_3_1 2), .int 0])), ((u_3_1 0), .inl ((u_3_2 0), 12, .inl (fun _ => 0))), ((u_3_1 1), .inl ((u_3_2 1), 36, .inl (fun _ => 0)))] H := hP
  have hD : va_D A [(h, .inr (10, [.null, .null, .null, .null, .null, .int 0, .int 0, .int 0, .int 0])), (q_1, .inr (7, [.ref (u_3_1 0), .ref (u_3_1 1), .ref (u_3_1 2), .int 0])), ((u_3_1 0), .inl ((u_3_2 0), 12, .inl (fun _ => 0))), ((u_3_1 1), .inl ((u_3_2 1), 36, .inl (fun _ => 0)))] := hD
  have hK : va_K D vwCl [((u_3_2 0), .char), ((u_3_2 1), .int)] s := hK
  refine va_putF (D := D) (ci := 10) (v := .ref q_1) (ty := .object "Settbook$Palette") (C := RX5) (T := TX5) (N := 9) hx hb hw zi_RX5 tyX5 tyX5_ok nmX5 hown hK hP hD hS 0 rfl rfl 0 (by decide) (hw _ zm_182) (fun _ h9 => h9) rfl hin rfl (by decide +kernel) rfl rfl (Nat.le_of_ble_eq_true rfl) dX5_init_12 (fun H locs hP hD hS => ?_)
  have hP : va_P D vwCl [(h, .inr (10, [.ref q_1, .null, .null, .null, .null, .int 0, .int 0, .int 0, .int 0])), (q_1, .inr (7, [.ref (u_3_1 0), .ref (u_3_1 1), .ref (u_3_1 2), .int 0])), ((u_3_1 0), .inl ((u_3_2 0), 12, .inl (fun _ => 0))), ((u_3_1 1), .inl ((u_3_2 1), 36, .inl (fun _ => 0)))] H := hP
  have hD : va_D A [(h, .inr (10, [.ref q_1, .null, .null, .null, .null, .int 0, .int 0, .int 0, .int 0])), (q_1, .inr (7, [.ref (u_3_1 0), .ref (u_3_1 1), .ref (u_3_1 2), .int 0])), ((u_3_1 0), .inl ((u_3_2 0), 12, .inl (fun _ => 0))), ((u_3_1 1), .inl ((u_3_2 1), 36, .inl (fun _ => 0)))] := hD
  have hK : va_K D vwCl [((u_3_2 0), .char), ((u_3_2 1), .int)] s := hK
  refine lv_aload_n hx hb dX5_init_15 rfl (lv_at hl 0 rfl) ?_
  refine va_new (ci := 8) (fs := [.null, .null, .int 0]) (C := RX3) (T := TX3) (N := 3) hx hb hw zi_RX3 tyX3 tyX3_ok hown (hw _ zm_108) (hw _ zm_109) (hw _ zm_47) hK hP hD hS hA rfl (fun j hj => by rcases (show j = 0 ∨ j = 1 ∨ j = 2 by omega) with rfl | rfl | rfl <;> rfl) (Nat.le_of_ble_eq_true rfl) (Nat.le_of_ble_eq_true rfl) dX5_init_16 (fun q_4 H hP hD hS => ?_)
  have hP : va_P D vwCl [(h, .inr (10, [.ref q_1, .null, .null, .null, .null, .int 0, .int 0, .int 0, .int 0])), (q_1, .inr (7, [.ref (u_3_1 0), .ref (u_3_1 1), .ref (u_3_1 2), .int 0])), ((u_3_1 0), .inl ((u_3_2 0), 12, .inl (fun _ => 0))), ((u_3_1 1), .inl ((u_3_2 1), 36, .inl (fun _ => 0))), (q_4, .inr (8, [.null, .null, .int 0]))] H := hP
  have hD : va_D A [(h, .inr (10, [.ref q_1, .null, .null, .null, .null, .int 0, .int 0, .int 0, .int 0])), (q_1, .inr (7, [.ref (u_3_1 0), .ref (u_3_1 1), .ref (u_3_1 2), .int 0])), ((u_3_1 0), .inl ((u_3_2 0), 12, .inl (fun _ => 0))), ((u_3_1 1), .inl ((u_3_2 1), 36, .inl (fun _ => 0))), (q_4, .inr (8, [.null, .null, .int 0]))] := hD
  have hK : va_K D vwCl [((u_3_2 0), .char), ((u_3_2 1), .int)] s := hK
  refine lv_dup hx hb dX5_init_19 rfl ?_
  refine lv_bipush (v := 16) hx hb dX5_init_20 (by decide) ?_
  have hPc := hP.sub (ws' := [(q_4, .inr (8, [.null, .null, .int 0]))]) [4] rfl
  have hDc := hD.sub (ws' := [(q_4, .inr (8, [.null, .null, .int 0]))]) [4] (by decide) rfl
  have hFc := va_free (wc := [(q_4, .inr (8, [.null, .null, .int 0]))]) hD hS hA [4] rfl
  refine va_callv (va_runI (As := [.int 16]) (rest := [.ref q_4, .ref h]) ⟨hx, hb, hml, hown, hw⟩ (c_X3_init l D sa ea q_4 _) (cwI 1 hw (zgC zm_112) rfl rfl rfl (hw _ zm_47) (hw _ zm_110) (hw _ zm_111) rfl (by decide +kernel) ⟨Nat.le_of_ble_eq_true rfl, Nat.le_of_ble_eq_true rfl⟩) ⟨zW_blind, zW_pre hPc (hK.sub (tys' := []) [] rfl) hDc hT hE hS hFc⟩ rfl rfl hl.1 rfl (lv_room (Nat.le_of_ble_eq_true rfl)) dX5_init_22 ⟨Nat.le_of_ble_eq_true rfl, Nat.le_of_ble_eq_true rfl⟩) hS (fun q _ h => hFc q h) hFc (fun u t H locs ht hvm hw1 hB hz1 hk1 hS => ?_)
  obtain ⟨u_6_1, u_6_2⟩ := u
  obtain ⟨hP1, hK1, hD1⟩ := hB
  have hK1 := va_K.moved hvm.symm hK1
  rw [ht] at hP1
  obtain ⟨hP, hD⟩ := va_join (wr := [(h, .inr (10, [.ref q_1, .null, .null, .null, .null, .int 0, .int 0, .int 0, .int 0])), (q_1, .inr (7, [.ref (u_3_1 0), .ref (u_3_1 1), .ref (u_3_1 2), .int 0])), ((u_3_1 0), .inl ((u_3_2 0), 12, .inl (fun _ => 0))), ((u_3_1 1), .inl ((u_3_2 1), 36, .inl (fun _ => 0)))]) (w1 := [(q_4, .inr (8, [.ref (u_6_1 0), .ref (u_6_1 1), .int 0]))]) hP hD [4] [0, 1, 2, 3] rfl rfl (by decide) (by decide) hk1 hFc hP1 hD1
  have hK := (hK.sub (tys' := [((u_3_2 0), .char), ((u_3_2 1), .int)]) [0, 1] rfl).app hK1
  have hP : va_P D vwCl [(h, .inr (10, [.ref q_1, .null, .null, .null, .null, .int 0, .int 0, .int 0, .int 0])), (q_1, .inr (7, [.ref (u_3_1 0), .ref (u_3_1 1), .ref (u_3_1 2), .int 0])), ((u_3_1 0), .inl ((u_3_2 0), 12, .inl (fun _ => 0))), ((u_3_1 1), .inl ((u_3_2 1), 36, .inl (fun _ => 0))), (q_4, .inr (8, [.ref (u_6_1 0), .ref (u_6_1 1), .int 0]))] H := hP
  have hD : va_D A [(h, .inr (10, [.ref q_1, .null, .null, .null, .null, .int 0, .int 0, .int 0, .int 0])), (q_1, .inr (7, [.ref (u_3_1 0), .ref (u_3_1 1), .ref (u_3_1 2), .int 0])), ((u_3_1 0), .inl ((u_3_2 0), 12, .inl (fun _ => 0))), ((u_3_1 1), .inl ((u_3_2 1), 36, .inl (fun _ => 0))), (q_4, .inr (8, [.ref (u_6_1 0), .ref (u_6_1 1), .int 0]))] := hD
  have hK : va_K D vwCl [((u_3_2 0), .char), ((u_3_2 1), .int)] s := hK
  refine va_putF (D := D) (ci := 10) (v := .ref q_4) (ty := .object "Settbook$Row") (C := RX5) (T := TX5) (N := 9) hx hb hw zi_RX5 tyX5 tyX5_ok nmX5 hown hK hP hD hS 0 rfl rfl 1 (by decide) (hw _ zm_183) (fun _ h9 => h9) rfl hin rfl (by decide +kernel) rfl rfl (Nat.le_of_ble_eq_true rfl) dX5_init_25 (fun H locs hP hD hS => ?_)
  have hP : va_P D vwCl [(h, .inr (10, [.ref q_1, .ref q_4, .null, .null, .null, .int 0, .int 0, .int 0, .int 0])), (q_1, .inr (7, [.ref (u_3_1 0), .ref (u_3_1 1), .ref (u_3_1 2), .int 0])), ((u_3_1 0), .inl ((u_3_2 0), 12, .inl (fun _ => 0))), ((u_3_1 1), .inl ((u_3_2 1), 36, .inl (fun _ => 0))), (q_4, .inr (8, [.ref (u_6_1 0), .ref (u_6_1 1), .int 0]))] H := hP
  have hD : va_D A [(h, .inr (10, [.ref q_1, .ref q_4, .null, .null, .null, .int 0, .int 0, .int 0, .int 0])), (q_1, .inr (7, [.ref (u_3_1 0), .ref (u_3_1 1), .ref (u_3_1 2), .int 0])), ((u_3_1 0), .inl ((u_3_2 0), 12, .inl (fun _ => 0))), ((u_3_1 1), .inl ((u_3_2 1), 36, .inl (fun _ => 0))), (q_4, .inr (8, [.ref (u_6_1 0), .ref (u_6_1 1), .int 0]))] := hD
  have hK : va_K D vwCl [((u_3_2 0), .char), ((u_3_2 1), .int)] s := hK
  refine lv_aload_n hx hb dX5_init_28 rfl (lv_at hl 0 rfl) ?_
  refine va_new (ci := 4) (fs := [.int 0, .null, .int 0]) (C := RJx4a65c) (T := TJx4a65c) (N := 3) hx hb hw zi_RJx4a65c tyJx4a65c tyJx4a65c_ok hown (hw _ zm_130) (hw _ zm_131) (hw _ zm_51) hK hP hD hS hA rfl (fun j hj => by rcases (show j = 0 ∨ j = 1 ∨ j = 2 by omega) with rfl | rfl | rfl <;> rfl) (Nat.le_of_ble_eq_true rfl) (Nat.le_of_ble_eq_true rfl) dX5_init_29 (fun q_7 H hP hD hS => ?_)
  have hP : va_P D vwCl [(h, .inr (10, [.ref q_1, .ref q_4, .null, .null, .null, .int 0, .int 0, .int 0, .int 0])), (q_1, .inr (7, [.ref (u_3_1 0), .ref (u_3_1 1), .ref (u_3_1 2), .int 0])), ((u_3_1 0), .inl ((u_3_2 0), 12, .inl (fun _ => 0))), ((u_3_1 1), .inl ((u_3_2 1), 36, .inl (fun _ => 0))), (q_4, .inr (8, [.ref (u_6_1 0), .ref (u_6_1 1), .int 0])), (q_7, .inr (4, [.int 0, .null, .int 0]))] H := hP
  have hD : va_D A [(h, .inr (10, [.ref q_1, .ref q_4, .null, .null, .null, .int 0, .int 0, .int 0, .int 0])), (q_1, .inr (7, [.ref (u_3_1 0), .ref (u_3_1 1), .ref (u_3_1 2), .int 0])), ((u_3_1 0), .inl ((u_3_2 0), 12, .inl (fun _ => 0))), ((u_3_1 1), .inl ((u_3_2 1), 36, .inl (fun _ => 0))), (q_4, .inr (8, [.ref (u_6_1 0), .ref (u_6_1 1), .int 0])), (q_7, .inr (4, [.int 0, .null, .int 0]))] := hD
  have hK : va_K D vwCl [((u_3_2 0), .char), ((u_3_2 1), .int)] s := hK
  refine lv_dup hx hb dX5_init_32 rfl ?_
  have hPc := hP.sub (ws' := [(q_7, .inr (4, [.int 0, .null, .int 0]))]) [5] rfl
  have hDc := hD.sub (ws' := [(q_7, .inr (4, [.int 0, .null, .int 0]))]) [5] (by decide) rfl
  have hFc := va_free (wc := [(q_7, .inr (4, [.int 0, .null, .int 0]))]) hD hS hA [5] rfl
  refine va_callv (va_runI (As := []) (rest := [.ref q_7, .ref h]) ⟨hx, hb, hml, hown, hw⟩ (c_Jx4a65c_init_da8c8 l D sa ea q_7 _) (cwI 0 hw (zgC zm_134) rfl rfl rfl (hw _ zm_51) (hw _ zm_132) (hw _ zm_133) rfl (by decide +kernel) ⟨Nat.le_of_ble_eq_true rfl, Nat.le_of_ble_eq_true rfl⟩) ⟨zW_blind, zW_pre hPc (hK.sub (tys' := []) [] rfl) hDc hT hE hS hFc⟩ rfl rfl hl.1 rfl (lv_room (Nat.le_of_ble_eq_true rfl)) dX5_init_33 ⟨Nat.le_of_ble_eq_true rfl, Nat.le_of_ble_eq_true rfl⟩) hS (fun q _ h => hFc q h) hFc (fun u t H locs ht hvm hw1 hB hz1 hk1 hS => ?_)
  obtain ⟨hP1, hD1⟩ := hB
  rw [ht] at hP1
  obtain ⟨hP, hD⟩ := va_join (wr := [(h, .inr (10, [.ref q_1, .ref q_4, .null, .null, .null, .int 0, .int 0, .int 0, .int 0])), (q_1, .inr (7, [.ref (u_3_1 0), .ref (u_3_1 1), .ref (u_3_1 2), .int 0])), ((u_3_1 0), .inl ((u_3_2 0), 12, .inl (fun _ => 0))), ((u_3_1 1), .inl ((u_3_2 1), 36, .inl (fun _ => 0))), (q_4, .inr (8, [.ref (u_6_1 0), .ref (u_6_1 1), .int 0]))]) (w1 := [(q_7, .inr (4, [.int 0, .ref ea, .int 0]))]) hP hD [5] [0, 1, 2, 3, 4] rfl rfl (by decide) (by decide) hk1 hFc hP1 hD1
  have hP : va_P D vwCl [(h, .inr (10, [.ref q_1, .ref q_4, .null, .null, .null, .int 0, .int 0, .int 0, .int 0])), (q_1, .inr (7, [.ref (u_3_1 0), .ref (u_3_1 1), .ref (u_3_1 2), .int 0])), ((u_3_1 0), .inl ((u_3_2 0), 12, .inl (fun _ => 0))), ((u_3_1 1), .inl ((u_3_2 1), 36, .inl (fun _ => 0))), (q_4, .inr (8, [.ref (u_6_1 0), .ref (u_6_1 1), .int 0])), (q_7, .inr (4, [.int 0, .ref ea, .int 0]))] H := hP
  have hD : va_D A [(h, .inr (10, [.ref q_1, .ref q_4, .null, .null, .null, .int 0, .int 0, .int 0, .int 0])), (q_1, .inr (7, [.ref (u_3_1 0), .ref (u_3_1 1), .ref (u_3_1 2), .int 0])), ((u_3_1 0), .inl ((u_3_2 0), 12, .inl (fun _ => 0))), ((u_3_1 1), .inl ((u_3_2 1), 36, .inl (fun _ => 0))), (q_4, .inr (8, [.ref (u_6_1 0), .ref (u_6_1 1), .int 0])), (q_7, .inr (4, [.int 0, .ref ea, .int 0]))] := hD
  have hK : va_K D vwCl [((u_3_2 0), .char), ((u_3_2 1), .int)] s := hK
  refine va_putF (D := D) (ci := 10) (v := .ref q_7) (ty := .object "java/util/ArrayList") (C := RX5) (T := TX5) (N := 9) hx hb hw zi_RX5 tyX5 tyX5_ok nmX5 hown hK hP hD hS 0 rfl rfl 2 (by decide) (hw _ zm_184) (fun _ h9 => h9) rfl hin rfl (by decide +kernel) rfl rfl (Nat.le_of_ble_eq_true rfl) dX5_init_36 (fun H locs hP hD hS => ?_)
  have hP : va_P D vwCl [(h, .inr (10, [.ref q_1, .ref q_4, .ref q_7, .null, .null, .int 0, .int 0, .int 0, .int 0])), (q_1, .inr (7, [.ref (u_3_1 0), .ref (u_3_1 1), .ref (u_3_1 2), .int 0])), ((u_3_1 0), .inl ((u_3_2 0), 12, .inl (fun _ => 0))), ((u_3_1 1), .inl ((u_3_2 1), 36, .inl (fun _ => 0))), (q_4, .inr (8, [.ref (u_6_1 0), .ref (u_6_1 1), .int 0])), (q_7, .inr (4, [.int 0, .ref ea, .int 0]))] H := hP
  have hD : va_D A [(h, .inr (10, [.ref q_1, .ref q_4, .ref q_7, .null, .null, .int 0, .int 0, .int 0, .int 0])), (q_1, .inr (7, [.ref (u_3_1 0), .ref (u_3_1 1), .ref (u_3_1 2), .int 0])), ((u_3_1 0), .inl ((u_3_2 0), 12, .inl (fun _ => 0))), ((u_3_1 1), .inl ((u_3_2 1), 36, .inl (fun _ => 0))), (q_4, .inr (8, [.ref (u_6_1 0), .ref (u_6_1 1), .int 0])), (q_7, .inr (4, [.int 0, .ref ea, .int 0]))] := hD
  have hK : va_K D vwCl [((u_3_2 0), .char), ((u_3_2 1), .int)] s := hK
  refine lv_aload_n hx hb dX5_init_39 rfl (lv_at hl 0 rfl) ?_
  refine va_new (ci := 4) (fs := [.int 0, .null, .int 0]) (C := RJx4a65c) (T := TJx4a65c) (N := 3) hx hb hw zi_RJx4a65c tyJx4a65c tyJx4a65c_ok hown (hw _ zm_130) (hw _ zm_131) (hw _ zm_51) hK hP hD hS hA rfl (fun j hj => by rcases (show j = 0 ∨ j = 1 ∨ j = 2 by omega) with rfl | rfl | rfl <;> rfl) (Nat.le_of_ble_eq_true rfl) (Nat.le_of_ble_eq_true rfl) dX5_init_40 (fun q_9 H hP hD hS => ?_)
  have hP : va_P D vwCl [(h, .inr (10, [.ref q_1, .ref q_4, .ref q_7, .null, .null, .int 0, .int 0, .int 0, .int 0])), (q_1, .inr (7, [.ref (u_3_1 0), .ref (u_3_1 1), .ref (u_3_1 2), .int 0])), ((u_3_1 0), .inl ((u_3_2 0), 12, .inl (fun _ => 0))), ((u_3_1 1), .inl ((u_3_2 1), 36, .inl (fun _ => 0))), (q_4, .inr (8, [.ref (u_6_1 0), .ref (u_6_1 1), .int 0])), (q_7, .inr (4, [.int 0, .ref ea, .int 0])), (q_9, .inr (4, [.int 0, .null, .int 0]))] H := hP
  have hD : va_D A [(h, .inr (10, [.ref q_1, .ref q_4, .ref q_7, .null, .null, .int 0, .int 0, .int 0, .int 0])), (q_1, .inr (7, [.ref (u_3_1 0), .ref (u_3_1 1), .ref (u_3_1 2), .int 0])), ((u_3_1 0), .inl ((u_3_2 0), 12, .inl (fun _ => 0))), ((u_3_1 1), .inl ((u_3_2 1), 36, .inl (fun _ => 0))), (q_4, .inr (8, [.ref (u_6_1 0), .ref (u_6_1 1), .int 0])), (q_7, .inr (4, [.int 0, .ref ea, .int 0])), (q_9, .inr (4, [.int 0, .null, .int 0]))] := hD
  have hK : va_K D vwCl [((u_3_2 0), .char), ((u_3_2 1), .int)] s := hK
  refine lv_dup hx hb dX5_init_43 rfl ?_
  have hPc := hP.sub (ws' := [(q_9, .inr (4, [.int 0, .null, .int 0]))]) [6] rfl
  have hDc := hD.sub (ws' := [(q_9, .inr (4, [.int 0, .null, .int 0]))]) [6] (by decide) rfl
  have hFc := va_free (wc := [(q_9, .inr (4, [.int 0, .null, .int 0]))]) hD hS hA [6] rfl
  refine va_callv (va_runI (As := []) (rest := [.ref q_9, .ref h]) ⟨hx, hb, hml, hown, hw⟩ (c_Jx4a65c_init_da8c8 l D sa ea q_9 _) (cwI 0 hw (zgC zm_134) rfl rfl rfl (hw _ zm_51) (hw _ zm_132) (hw _ zm_133) rfl (by decide +kernel) ⟨Nat.le_of_ble_eq_true rfl, Nat.le_of_ble_eq_true rfl⟩) ⟨zW_blind, zW_pre hPc (hK.sub (tys' := []) [] rfl) hDc hT hE hS hFc⟩ rfl rfl hl.1 rfl (lv_room (Nat.le_of_ble_eq_true rfl)) dX5_init_44 ⟨Nat.le_of_ble_eq_true rfl, Nat.le_of_ble_eq_true rfl⟩) hS (fun q _ h => hFc q h) hFc (fun u t H locs ht hvm hw1 hB hz1 hk1 hS => ?_)
  obtain ⟨hP1, hD1⟩ := hB
  rw [ht] at hP1
  obtain ⟨hP, hD⟩ := va_join (wr := [(h, .inr (10, [.ref q_1, .ref q_4, .ref q_7, .null, .null, .int 0, .int 0, .int 0, .int 0])), (q_1, .inr (7, [.ref (u_3_1 0), .ref (u_3_1 1), .ref (u_3_1 2), .int 0])), ((u_3_1 0), .inl ((u_3_2 0), 12, .inl (fun _ => 0))), ((u_3_1 1), .inl ((u_3_2 1), 36, .inl (fun _ => 0))), (q_4, .inr (8, [.ref (u_6_1 0), .ref (u_6_1 1), .int 0])), (q_7, .inr (4, [.int 0, .ref ea, .int 0]))]) (w1 := [(q_9, .inr (4, [.int 0, .ref ea, .int 0]))]) hP hD [6] [0, 1, 2, 3, 4, 5] rfl rfl (by decide) (by decide) hk1 hFc hP1 hD1
  have hP : va_P D vwCl [(h, .inr (10, [.ref q_1, .ref q_4, .ref q_7, .null, .null, .int 0, .int 0, .int 0, .int 0])), (q_1, .inr (7, [.ref (u_3_1 0), .ref (u_3_1 1), .ref (u_3_1 2), .int 0])), ((u_3_1 0), .inl ((u_3_2 0), 12, .inl (fun _ => 0))), ((u_3_1 1), .inl ((u_3_2 1), 36, .inl (fun _ => 0))), (q_4, .inr (8, [.ref (u_6_1 0), .ref (u_6_1 1), .int 0])), (q_7, .inr (4, [.int 0, .ref ea, .int 0])), (q_9, .inr (4, [.int 0, .ref ea, .int 0]))] H := hP
  have hD : va_D A [(h, .inr (10, [.ref q_1, .ref q_4, .ref q_7, .null, .null, .int 0, .int 0, .int 0, .int 0])), (q_1, .inr (7, [.ref (u_3_1 0), .ref (u_3_1 1), .ref (u_3_1 2), .int 0])), ((u_3_1 0), .inl ((u_3_2 0), 12, .inl (fun _ => 0))), ((u_3_1 1), .inl ((u_3_2 1), 36, .inl (fun _ => 0))), (q_4, .inr (8, [.ref (u_6_1 0), .ref (u_6_1 1), .int 0])), (q_7, .inr (4, [.int 0, .ref ea, .int 0])), (q_9, .inr (4, [.int 0, .ref ea, .int 0]))] := hD
  have hK : va_K D vwCl [((u_3_2 0), .char), ((u_3_2 1), .int)] s := hK
  refine va_putF (D := D) (ci := 10) (v := .ref q_9) (ty := .object "java/util/ArrayList") (C := RX5) (T := TX5) (N := 9) hx hb hw zi_RX5 tyX5 tyX5_ok nmX5 hown hK hP hD hS 0 rfl rfl 3 (by decide) (hw _ zm_185) (fun _ h9 => h9) rfl hin rfl (by decide +kernel) rfl rfl (Nat.le_of_ble_eq_true rfl) dX5_init_47 (fun H locs hP hD hS => ?_)
  have hP : va_P D vwCl [(h, .inr (10, [.ref q_1, .ref q_4, .ref q_7, .ref q_9, .null, .int 0, .int 0, .int 0, .int 0])), (q_1, .inr (7, [.ref (u_3_1 0), .ref (u_3_1 1), .ref (u_3_1 2), .int 0])), ((u_3_1 0), .inl ((u_3_2 0), 12, .inl (fun _ => 0))), ((u_3_1 1), .inl ((u_3_2 1), 36, .inl (fun _ => 0))), (q_4, .inr (8, [.ref (u_6_1 0), .ref (u_6_1 1), .int 0])), (q_7, .inr (4, [.int 0, .ref ea, .int 0])), (q_9, .inr (4, [.int 0, .ref ea, .int 0]))] H := hP
  have hD : va_D A [(h, .inr (10, [.ref q_1, .ref q_4, .ref q_7, .ref q_9, .null, .int 0, .int 0, .int 0, .int 0])), (q_1, .inr (7, [.ref (u_3_1 0), .ref (u_3_1 1), .ref (u_3_1 2), .int 0])), ((u_3_1 0), .inl ((u_3_2 0), 12, .inl (fun _ => 0))), ((u_3_1 1), .inl ((u_3_2 1), 36, .inl (fun _ => 0))), (q_4, .inr (8, [.ref (u_6_1 0), .ref (u_6_1 1), .int 0])), (q_7, .inr (4, [.int 0, .ref ea, .int 0])), (q_9, .inr (4, [.int 0, .ref ea, .int 0]))] := hD
  have hK : va_K D vwCl [((u_3_2 0), .char), ((u_3_2 1), .int)] s := hK
  refine lv_aload_n hx hb dX5_init_50 rfl (lv_at hl 0 rfl) ?_
  refine va_new (ci := 6) (fs := [.null, .null, .null, .int 0, .int 0]) (C := RX1) (T := TX1) (N := 5) hx hb hw zi_RX1 tyX1 tyX1_ok hown (hw _ zm_159) (hw _ zm_160) (hw _ zm_52) hK hP hD hS hA rfl (fun j hj => by rcases (show j = 0 ∨ j = 1 ∨ j = 2 ∨ j = 3 ∨ j = 4 by omega) with rfl | rfl | rfl | rfl | rfl <;> rfl) (Nat.le_of_ble_eq_true rfl) (Nat.le_of_ble_eq_true rfl) dX5_init_51 (fun q_11 H hP hD hS => ?_)
  have hP : va_P D vwCl [(h, .inr (10, [.ref q_1, .ref q_4, .ref q_7, .ref q_9, .null, .int 0, .int 0, .int 0, .int 0])), (q_1, .inr (7, [.ref (u_3_1 0), .ref (u_3_1 1), .ref (u_3_1 2), .int 0])), ((u_3_1 0), .inl ((u_3_2 0), 12, .inl (fun _ => 0))), ((u_3_1 1), .inl ((u_3_2 1), 36, .inl (fun _ => 0))), (q_4, .inr (8, [.ref (u_6_1 0), .ref (u_6_1 1), .int 0])), (q_7, .inr (4, [.int 0, .ref ea, .int 0])), (q_9, .inr (4, [.int 0, .ref ea, .int 0])), (q_11, .inr (6, [.null, .null, .null, .int 0, .int 0]))] H := hP
  have hD : va_D A [(h, .inr (10, [.ref q_1, .ref q_4, .ref q_7, .ref q_9, .null, .int 0, .int 0, .int 0, .int 0])), (q_1, .inr (7, [.ref (u_3_1 0), .ref (u_3_1 1), .ref (u_3_1 2), .int 0])), ((u_3_1 0), .inl ((u_3_2 0), 12, .inl (fun _ => 0))), ((u_3_1 1), .inl ((u_3_2 1), 36, .inl (fun _ => 0))), (q_4, .inr (8, [.ref (u_6_1 0), .ref (u_6_1 1), .int 0])), (q_7, .inr (4, [.int 0, .ref ea, .int 0])), (q_9, .inr (4, [.int 0, .ref ea, .int 0])), (q_11, .inr (6, [.null, .null, .null, .int 0, .int 0]))] := hD
  have hK : va_K D vwCl [((u_3_2 0), .char), ((u_3_2 1), .int)] s := hK
  refine lv_dup hx hb dX5_init_54 rfl ?_
  have hPc := hP.sub (ws' := [(q_11, .inr (6, [.null, .null, .null, .int 0, .int 0]))]) [7] rfl
  have hDc := hD.sub (ws' := [(q_11, .inr (6, [.null, .null, .null, .int 0, .int 0]))]) [7] (by decide) rfl
  have hFc := va_free (wc := [(q_11, .inr (6, [.null, .null, .null, .int 0, .int 0]))]) hD hS hA [7] rfl
  refine va_callv (va_runIN (As := []) (rest := [.ref q_11, .ref h]) ⟨hx, hb, hml, hown, hw⟩ (c_X1_init l D sa ea q_11 _) ⟨va_cnB 0 hw (zgC zm_163) rfl rfl rfl (hT.m 1 rfl) (hw _ zm_52) (by decide +kernel) ⟨Nat.le_of_ble_eq_true rfl, Nat.le_of_ble_eq_true rfl⟩, rfl, (hw _ zm_162)⟩ ⟨zW_blind, zW_pre hPc (hK.sub (tys' := []) [] rfl) hDc hT hE hS hFc⟩ rfl rfl hl.1 rfl (lv_room (Nat.le_of_ble_eq_true rfl)) dX5_init_55 ⟨Nat.le_of_ble_eq_true rfl, Nat.le_of_ble_eq_true rfl⟩) hS (fun q _ h => hFc q h) hFc (fun u t H locs ht hvm hw1 hB hz1 hk1 hS => ?_)
  obtain ⟨u_13_1, u_13_2⟩ := u
  obtain ⟨hP1, hK1, hD1⟩ := hB
  have hK1 := va_K.moved hvm.symm hK1
  rw [ht] at hP1
  obtain ⟨hP, hD⟩ := va_join (wr := [(h, .inr (10, [.ref q_1, .ref q_4, .ref q_7, .ref q_9, .null, .int 0, .int 0, .int 0, .int 0])), (q_1, .inr (7, [.ref (u_3_1 0), .ref (u_3_1 1), .ref (u_3_1 2), .int 0])), ((u_3_1 0), .inl ((u_3_2 0), 12, .inl (fun _ => 0))), ((u_3_1 1), .inl ((u_3_2 1), 36, .inl (fun _ => 0))), (q_4, .inr (8, [.ref (u_6_1 0), .ref (u_6_1 1), .int 0])), (q_7, .inr (4, [.int 0, .ref ea, .int 0])), (q_9, .inr (4, [.int 0, .ref ea, .int 0]))]) (w1 := [(q_11, .inr (6, [.ref (u_13_1 0), .ref (u_13_1 1), .ref (u_13_1 2), .int 0, .int 0]))]) hP hD [7] [0, 1, 2, 3, 4, 5, 6] rfl rfl (by decide) (by decide) hk1 hFc hP1 hD1
  have hK := (hK.sub (tys' := [((u_3_2 0), .char), ((u_3_2 1), .int)]) [0, 1] rfl).app hK1
  have hP : va_P D vwCl [(h, .inr (10, [.ref q_1, .ref q_4, .ref q_7, .ref q_9, .null, .int 0, .int 0, .int 0, .int 0])), (q_1, .inr (7, [.ref (u_3_1 0), .ref (u_3_1 1), .ref (u_3_1 2), .int 0])), ((u_3_1 0), .inl ((u_3_2 0), 12, .inl (fun _ => 0))), ((u_3_1 1), .inl ((u_3_2 1), 36, .inl (fun _ => 0))), (q_4, .inr (8, [.ref (u_6_1 0), .ref (u_6_1 1), .int 0])), (q_7, .inr (4, [.int 0, .ref ea, .int 0])), (q_9, .inr (4, [.int 0, .ref ea, .int 0])), (q_11, .inr (6, [.ref (u_13_1 0), .ref (u_13_1 1), .ref (u_13_1 2), .int 0, .int 0]))] H := hP
  have hD : va_D A [(h, .inr (10, [.ref q_1, .ref q_4, .ref q_7, .ref q_9, .null, .int 0, .int 0, .int 0, .int 0])), (q_1, .inr (7, [.ref (u_3_1 0), .ref (u_3_1 1), .ref (u_3_1 2), .int 0])), ((u_3_1 0), .inl ((u_3_2 0), 12, .inl (fun _ => 0))), ((u_3_1 1), .inl ((u_3_2 1), 36, .inl (fun _ => 0))), (q_4, .inr (8, [.ref (u_6_1 0), .ref (u_6_1 1), .int 0])), (q_7, .inr (4, [.int 0, .ref ea, .int 0])), (q_9, .inr (4, [.int 0, .ref ea, .int 0])), (q_11, .inr (6, [.ref (u_13_1 0), .ref (u_13_1 1), .ref (u_13_1 2), .int 0, .int 0]))] := hD
  have hK : va_K D vwCl [((u_3_2 0), .char), ((u_3_2 1), .int)] s := hK
  refine va_putF (D := D) (ci := 10) (v := .ref q_11) (ty := .object "Settbook$Mill") (C := RX5) (T := TX5) (N := 9) hx hb hw zi_RX5 tyX5 tyX5_ok nmX5 hown hK hP hD hS 0 rfl rfl 4 (by decide) (hw _ zm_186) (fun _ h9 => h9) rfl hin rfl (by decide +kernel) rfl rfl (Nat.le_of_ble_eq_true rfl) dX5_init_58 (fun H locs hP hD hS => ?_)
  have hP : va_P D vwCl [(h, .inr (10, [.ref q_1, .ref q_4, .ref q_7, .ref q_9, .ref q_11, .int 0, .int 0, .int 0, .int 0])), (q_1, .inr (7, [.ref (u_3_1 0), .ref (u_3_1 1), .ref (u_3_1 2), .int 0])), ((u_3_1 0), .inl ((u_3_2 0), 12, .inl (fun _ => 0))), ((u_3_1 1), .inl ((u_3_2 1), 36, .inl (fun _ => 0))), (q_4, .inr (8, [.ref (u_6_1 0), .ref (u_6_1 1), .int 0])), (q_7, .inr (4, [.int 0, .ref ea, .int 0])), (q_9, .inr (4, [.int 0, .ref ea, .int 0])), (q_11, .inr (6, [.ref (u_13_1 0), .ref (u_13_1 1), .ref (u_13_1 2), .int 0, .int 0]))] H := hP
  have hD : va_D A [(h, .inr (10, [.ref q_1, .ref q_4, .ref q_7, .ref q_9, .ref q_11, .int 0, .int 0, .int 0, .int 0])), (q_1, .inr (7, [.ref (u_3_1 0), .ref (u_3_1 1), .ref (u_3_1 2), .int 0])), ((u_3_1 0), .inl ((u_3_2 0), 12, .inl (fun _ => 0))), ((u_3_1 1), .inl ((u_3_2 1), 36, .inl (fun _ => 0))), (q_4, .inr (8, [.ref (u_6_1 0), .ref (u_6_1 1), .int 0])), (q_7, .inr (4, [.int 0, .ref ea, .int 0])), (q_9, .inr (4, [.int 0, .ref ea, .int 0])), (q_11, .inr (6, [.ref (u_13_1 0), .ref (u_13_1 1), .ref (u_13_1 2), .int 0, .int 0]))] := hD
  have hK : va_K D vwCl [((u_3_2 0), .char), ((u_3_2 1), .int)] s := hK
  refine lv_aload_n hx hb dX5_init_61 rfl (lv_at hl 0 rfl) ?_
  refine lv_iconst (v := (-1)) hx hb dX5_init_62 (by decide) ?_
  refine va_put (D := D) (ci := 10) (v := .int (-1)) (ty := .int) (C := RX5) (T := TX5) (N := 9) hx hb hw zi_RX5 tyX5 tyX5_ok nmX5 hown hK hP hD hS 0 rfl rfl 5 (by decide) (hw _ zm_187) (fun _ h9 => h9) rfl (by decide +kernel) rfl rfl (Nat.le_of_ble_eq_true rfl) dX5_init_63 (fun H locs hP hD hS => ?_)
  have hP : va_P D vwCl [(h, .inr (10, [.ref q_1, .ref q_4, .ref q_7, .ref q_9, .ref q_11, .int (-1), .int 0, .int 0, .int 0])), (q_1, .inr (7, [.ref (u_3_1 0), .ref (u_3_1 1), .ref (u_3_1 2), .int 0])), ((u_3_1 0), .inl ((u_3_2 0), 12, .inl (fun _ => 0))), ((u_3_1 1), .inl ((u_3_2 1), 36, .inl (fun _ => 0))), (q_4, .inr (8, [.ref (u_6_1 0), .ref (u_6_1 1), .int 0])), (q_7, .inr (4, [.int 0, .ref ea, .int 0])), (q_9, .inr (4, [.int 0, .ref ea, .int 0])), (q_11, .inr (6, [.ref (u_13_1 0), .ref (u_13_1 1), .ref (u_13_1 2), .int 0, .int 0]))] H := hP
  have hD : va_D A [(h, .inr (10, [.ref q_1, .ref q_4, .ref q_7, .ref q_9, .ref q_11, .int (-1), .int 0, .int 0, .int 0])), (q_1, .inr (7, [.ref (u_3_1 0), .ref (u_3_1 1), .ref (u_3_1 2), .int 0])), ((u_3_1 0), .inl ((u_3_2 0), 12, .inl (fun _ => 0))), ((u_3_1 1), .inl ((u_3_2 1), 36, .inl (fun _ => 0))), (q_4, .inr (8, [.ref (u_6_1 0), .ref (u_6_1 1), .int 0])), (q_7, .inr (4, [.int 0, .ref ea, .int 0])), (q_9, .inr (4, [.int 0, .ref ea, .int 0])), (q_11, .inr (6, [.ref (u_13_1 0), .ref (u_13_1 1), .ref (u_13_1 2), .int 0, .int 0]))] := hD
  have hK : va_K D vwCl [((u_3_2 0), .char), ((u_3_2 1), .int)] s := hK
  refine lv_aload_n hx hb dX5_init_66 rfl (lv_at hl 0 rfl) ?_
  refine lv_bipush (v := 100) hx hb dX5_init_67 (by decide) ?_
  refine va_put (D := D) (ci := 10) (v := .int 100) (ty := .int) (C := RX5) (T := TX5) (N := 9) hx hb hw zi_RX5 tyX5 tyX5_ok nmX5 hown hK hP hD hS 0 rfl rfl 6 (by decide) (hw _ zm_188) (fun _ h9 => h9) rfl (by decide +kernel) rfl rfl (Nat.le_of_ble_eq_true rfl) dX5_init_69 (fun H locs hP hD hS => ?_)
  have hP : va_P D vwCl [(h, .inr (10, [.ref q_1, .ref q_4, .ref q_7, .ref q_9, .ref q_11, .int (-1), .int 100, .int 0, .int 0])), (q_1, .inr (7, [.ref (u_3_1 0), .ref (u_3_1 1), .ref (u_3_1 2), .int 0])), ((u_3_1 0), .inl ((u_3_2 0), 12, .inl (fun _ => 0))), ((u_3_1 1), .inl ((u_3_2 1), 36, .inl (fun _ => 0))), (q_4, .inr (8, [.ref (u_6_1 0), .ref (u_6_1 1), .int 0])), (q_7, .inr (4, [.int 0, .ref ea, .int 0])), (q_9, .inr (4, [.int 0, .ref ea, .int 0])), (q_11, .inr (6, [.ref (u_13_1 0), .ref (u_13_1 1), .ref (u_13_1 2), .int 0, .int 0]))] H := hP
  have hD : va_D A [(h, .inr (10, [.ref q_1, .ref q_4, .ref q_7, .ref q_9, .ref q_11, .int (-1), .int 100, .int 0, .int 0])), (q_1, .inr (7, [.ref (u_3_1 0), .ref (u_3_1 1), .ref (u_3_1 2), .int 0])), ((u_3_1 0), .inl ((u_3_2 0), 12, .inl (fun _ => 0))), ((u_3_1 1), .inl ((u_3_2 1), 36, .inl (fun _ => 0))), (q_4, .inr (8, [.ref (u_6_1 0), .ref (u_6_1 1), .int 0])), (q_7, .inr (4, [.int 0, .ref ea, .int 0])), (q_9, .inr (4, [.int 0, .ref ea, .int 0])), (q_11, .inr (6, [.ref (u_13_1 0), .ref (u_13_1 1), .ref (u_13_1 2), .int 0, .int 0]))] := hD
  have hK : va_K D vwCl [((u_3_2 0), .char), ((u_3_2 1), .int)] s := hK
  refine lv_aload_n hx hb dX5_init_72 rfl (lv_at hl 0 rfl) ?_
  refine lv_iconst (v := 0) hx hb dX5_init_73 (by decide) ?_
  refine va_put (D := D) (ci := 10) (v := .int 0) (ty := .int) (C := RX5) (T := TX5) (N := 9) hx hb hw zi_RX5 tyX5 tyX5_ok nmX5 hown hK hP hD hS 0 rfl rfl 7 (by decide) (hw _ zm_189) (fun _ h9 => h9) rfl (by decide +kernel) rfl rfl (Nat.le_of_ble_eq_true rfl) dX5_init_74 (fun H locs hP hD hS => ?_)
  have hP : va_P D vwCl [(h, .inr (10, [.ref q_1, .ref q_4, .ref q_7, .ref q_9, .ref q_11, .int (-1), .int 100, .int 0, .int 0])), (q_1, .inr (7, [.ref (u_3_1 0), .ref (u_3_1 1), .ref (u_3_1 2), .int 0])), ((u_3_1 0), .inl ((u_3_2 0), 12, .inl (fun _ => 0))), ((u_3_1 1), .inl ((u_3_2 1), 36, .inl (fun _ => 0))), (q_4, .inr (8, [.ref (u_6_1 0), .ref (u_6_1 1), .int 0])), (q_7, .inr (4, [.int 0, .ref ea, .int 0])), (q_9, .inr (4, [.int 0, .ref ea, .int 0])), (q_11, .inr (6, [.ref (u_13_1 0), .ref (u_13_1 1), .ref (u_13_1 2), .int 0, .int 0]))] H := hP
  have hD : va_D A [(h, .inr (10, [.ref q_1, .ref q_4, .ref q_7, .ref q_9, .ref q_11, .int (-1), .int 100, .int 0, .int 0])), (q_1, .inr (7, [.ref (u_3_1 0), .ref (u_3_1 1), .ref (u_3_1 2), .int 0])), ((u_3_1 0), .inl ((u_3_2 0), 12, .inl (fun _ => 0))), ((u_3_1 1), .inl ((u_3_2 1), 36, .inl (fun _ => 0))), (q_4, .inr (8, [.ref (u_6_1 0), .ref (u_6_1 1), .int 0])), (q_7, .inr (4, [.int 0, .ref ea, .int 0])), (q_9, .inr (4, [.int 0, .ref ea, .int 0])), (q_11, .inr (6, [.ref (u_13_1 0), .ref (u_13_1 1), .ref (u_13_1 2), .int 0, .int 0]))] := hD
  have hK : va_K D vwCl [((u_3_2 0), .char), ((u_3_2 1), .int)] s := hK
  refine lv_aload_n hx hb dX5_init_77 rfl (lv_at hl 0 rfl) ?_
  refine lv_iconst (v := 0) hx hb dX5_init_78 (by decide) ?_
  refine va_put (D := D) (ci := 10) (v := .int 0) (ty := .int) (C := RX5) (T := TX5) (N := 9) hx hb hw zi_RX5 tyX5 tyX5_ok nmX5 hown hK hP hD hS 0 rfl rfl 8 (by decide) (hw _ zm_190) (fun _ h9 => h9) rfl (by decide +kernel) rfl rfl (Nat.le_of_ble_eq_true rfl) dX5_init_79 (fun H locs hP hD hS => ?_)
  have hP : va_P D vwCl [(h, .inr (10, [.ref q_1, .ref q_4, .ref q_7, .ref q_9, .ref q_11, .int (-1), .int 100, .int 0, .int 0])), (q_1, .inr (7, [.ref (u_3_1 0), .ref (u_3_1 1), .ref (u_3_1 2), .int 0])), ((u_3_1 0), .inl ((u_3_2 0), 12, .inl (fun _ => 0))), ((u_3_1 1), .inl ((u_3_2 1), 36, .inl (fun _ => 0))), (q_4, .inr (8, [.ref (u_6_1 0), .ref (u_6_1 1), .int 0])), (q_7, .inr (4, [.int 0, .ref ea, .int 0])), (q_9, .inr (4, [.int 0, .ref ea, .int 0])), (q_11, .inr (6, [.ref (u_13_1 0), .ref (u_13_1 1), .ref (u_13_1 2), .int 0, .int 0]))] H := hP
  have hD : va_D A [(h, .inr (10, [.ref q_1, .ref q_4, .ref q_7, .ref q_9, .ref q_11, .int (-1), .int 100, .int 0, .int 0])), (q_1, .inr (7, [.ref (u_3_1 0), .ref (u_3_1 1), .ref (u_3_1 2), .int 0])), ((u_3_1 0), .inl ((u_3_2 0), 12, .inl (fun _ => 0))), ((u_3_1 1), .inl ((u_3_2 1), 36, .inl (fun _ => 0))), (q_4, .inr (8, [.ref (u_6_1 0), .ref (u_6_1 1), .int 0])), (q_7, .inr (4, [.int 0, .ref ea, .int 0])), (q_9, .inr (4, [.int 0, .ref ea, .int 0])), (q_11, .inr (6, [.ref (u_13_1 0), .ref (u_13_1 1), .ref (u_13_1 2), .int 0, .int 0]))] := hD
  have hK : va_K D vwCl [((u_3_2 0), .char), ((u_3_2 1), .int)] s := hK
  have hP9 := hP.sub (ws' := [(h, .inr (10, [.ref q_1, .ref q_4, .ref q_7, .ref q_9, .ref q_11, .int (-1), .int 100, .int 0, .int 0])), (q_1, .inr (7, [.ref (u_3_1 0), .ref (u_3_1 1), .ref (u_3_1 2), .int 0])), (q_4, .inr (8, [.ref (u_6_1 0), .ref (u_6_1 1), .int 0])), (q_7, .inr (4, [.int 0, .ref ea, .int 0])), (q_9, .inr (4, [.int 0, .ref ea, .int 0])), (q_11, .inr (6, [.ref (u_13_1 0), .ref (u_13_1 1), .ref (u_13_1 2), .int 0, .int 0])), ((u_3_1 0), .inl ((u_3_2 0), 12, .inl (fun _ => 0))), ((u_3_1 1), .inl ((u_3_2 1), 36, .inl (fun _ => 0)))]) [0, 1, 4, 5, 6, 7, 2, 3] rfl
  have hD9 := hD.sub (ws' := [(h, .inr (10, [.ref q_1, .ref q_4, .ref q_7, .ref q_9, .ref q_11, .int (-1), .int 100, .int 0, .int 0])), (q_1, .inr (7, [.ref (u_3_1 0), .ref (u_3_1 1), .ref (u_3_1 2), .int 0])), (q_4, .inr (8, [.ref (u_6_1 0), .ref (u_6_1 1), .int 0])), (q_7, .inr (4, [.int 0, .ref ea, .int 0])), (q_9, .inr (4, [.int 0, .ref ea, .int 0])), (q_11, .inr (6, [.ref (u_13_1 0), .ref (u_13_1 1), .ref (u_13_1 2), .int 0, .int 0])), ((u_3_1 0), .inl ((u_3_2 0), 12, .inl (fun _ => 0))), ((u_3_1 1), .inl ((u_3_2 1), 36, .inl (fun _ => 0)))]) [0, 1, 4, 5, 6, 7, 2, 3] (by decide) rfl
  have hK9 := hK.sub (tys' := [((u_3_2 0), .char), ((u_3_2 1), .int)]) [0, 1] rfl
  refine W.widen (k := 13) (n := 282) (Nat.le_of_ble_eq_true rfl) (Nat.le_of_ble_eq_true rfl) ?_
  exact W.vret hx hb hr (fun t ht hW => ⟨⟨((fun k => ([h, q_1, q_4, q_7, q_9, q_11, (u_3_1 0), (u_3_1 1), (u_3_1 2), (u_6_1 0), (u_6_1 1), (u_13_1 0), (u_13_1 1), (u_13_1 2), ea] : List Nat).getD k 0), (fun k => ([(u_3_2 0), (u_3_2 1)] : List ClassId).getD k (u_3_2 0))), rfl, ⟨rfl, rfl⟩, by rw [ht]; exact hP9, va_K.moved hW.alike hK9, hD9⟩, hS.F ht⟩) hS.2.2 dX5_init_82
theorem dX9_init_0 : decode cX9_init 0 = .ok (.aload_n 0, 1) := by decide +kernel
theorem dX9_init_1 : decode cX9_init 1 = .ok (.invokespecial 1, 3) := by decide +kernel
theorem zm_1269 : Cond.methodLink RX9 1 ⟨"java/lang/Object", "<init>", "()V"⟩ ∈ WA := zmm (i := 1269) (by decide +kernel) (by decide +kernel)
theorem dX9_init_4 : decode cX9_init 4 = .ok (.aload_n 0, 1) := by decide +kernel
theorem dX9_init_5 : decode cX9_init 5 = .ok (.new 7, 3) := by decide +kernel
theorem zm_1270 : Cond.classLink RX9 7 RJx4a65c ∈ WA := zmm (i := 1270) (by decide +kernel) (by decide +kernel)
theorem dX9_init_8 : decode cX9_init 8 = .ok (.dup, 1) := by decide +kernel
theorem dX9_init_9 : decode cX9_init 9 = .ok (.invokespecial 9, 3) := by decide +kernel
theorem zm_1271 : Cond.methodLink RX9 9 yJx4a65c_init_da8c8 ∈ WA := zmm (i := 1271) (by decide +kernel) (by decide +kernel)
theorem dX9_init_12 : decode cX9_init 12 = .ok (.putfield 10, 3) := by decide +kernel
theorem dX9_init_15 : decode cX9_init 15 = .ok (.aload_n 0, 1) := by decide +kernel
theorem dX9_init_16 : decode cX9_init 16 = .ok (.new 7, 3) := by decide +kernel
theorem dX9_init_19 : decode cX9_init 19 = .ok (.dup, 1) := by decide +kernel
theorem dX9_init_20 : decode cX9_init 20 = .ok (.invokespecial 9, 3) := by decide +kernel
theorem dX9_init_23 : decode cX9_init 23 = .ok (.putfield 16, 3) := by decide +kernel
theorem dX9_init_26 : decode cX9_init 26 = .ok (.aload_n 0, 1) := by decide +kernel
theorem dX9_init_27 : decode cX9_init 27 = .ok (.new 7, 3) := by decide +kernel
theorem dX9_init_30 : decode cX9_init 30 = .ok (.dup, 1) := by decide +kernel
theorem dX9_init_31 : decode cX9_init 31 = .ok (.invokespecial 9, 3) := by decide +kernel
theorem dX9_init_34 : decode cX9_init 34 = .ok (.putfield 19, 3) := by decide +kernel
theorem dX9_init_37 : decode cX9_init 37 = .ok (.aload_n 0, 1) := by decide +kernel
theorem dX9_init_38 : decode cX9_init 38 = .ok (.new 7, 3) := by decide +kernel
theorem dX9_init_41 : decode cX9_init 41 = .ok (.dup, 1) := by decide +kernel
theorem dX9_init_42 : decode cX9_init 42 = .ok (.invokespecial 9, 3) := by decide +kernel
theorem dX9_init_45 : decode cX9_init 45 = .ok (.putfield 22, 3) := by decide +kernel
theorem dX9_init_48 : decode cX9_init 48 = .ok (.aload_n 0, 1) := by decide +kernel
theorem dX9_init_49 : decode cX9_init 49 = .ok (.new 7, 3) := by decide +kernel
theorem dX9_init_52 : decode cX9_init 52 = .ok (.dup, 1) := by decide +kernel
theorem dX9_init_53 : decode cX9_init 53 = .ok (.invokespecial 9, 3) := by decide +kernel
theorem dX9_init_56 : decode cX9_init 56 = .ok (.putfield 25, 3) := by decide +kernel
theorem dX9_init_59 : decode cX9_init 59 = .ok (.aload_n 0, 1) := by decide +kernel
theorem dX9_init_60 : decode cX9_init 60 = .ok (.new 7, 3) := by decide +kernel
theorem dX9_init_63 : decode cX9_init 63 = .ok (.dup, 1) := by decide +kernel
theorem dX9_init_64 : decode cX9_init 64 = .ok (.invokespecial 9, 3) := by decide +kernel
theorem dX9_init_67 : decode cX9_init 67 = .ok (.putfield 28, 3) := by decide +kernel
theorem dX9_init_70 : decode cX9_init 70 = .ok (.aload_n 0, 1) := by decide +kernel
theorem dX9_init_71 : decode cX9_init 71 = .ok (.bipush 100, 2) := by decide +kernel
theorem dX9_init_73 : decode cX9_init 73 = .ok (.putfield 31, 3) := by decide +kernel
theorem dX9_init_76 : decode cX9_init 76 = .ok (.aload_n 0, 1) := by decide +kernel
theorem dX9_init_77 : decode cX9_init 77 = .ok (.iconst (-1), 1) := by decide +kernel
theorem dX9_init_78 : decode cX9_init 78 = .ok (.putfield 35, 3) := by decide +kernel
theorem zm_1279 : Cond.fieldLink RX9 35 RX9 "loss" "I" ∈ WA := zmm (i := 1279) (by decide +kernel) (by decide +kernel)
theorem dX9_init_81 : decode cX9_init 81 = .ok (.return_, 1) := by decide +kernel
set_option maxHeartbeats 4000000 in
set_option maxRecDepth 100000 in
theorem c_X9_init (l : Launch) (D : va_G) (sa : Nat → Nat) (ea : Nat) (h : Nat) (sz : Nat) : Met l yX9_init ((Cond.code yX9_init prog_8_method_1_code 1 (Option.none : Option FieldType)) :: WA) ({ frames := 4, cells := 6, slots := 18, locals := 72 }) (zW D sa ea [] [(h, .inr (14, [.null, .null, .null, .null, .null, .null, .int 0, .int 0, .int 0, .int 0]))] [.ref h] sz) (va_Qv (fun u : (Nat → Nat) × (Nat → ClassId) => (u.1 0) = h ∧ (u.1 7) = ea) (fun u t => va_P D vwCl [((u.1 0), .inr (14, [.ref (u.1 1), .ref (u.1 2), .ref (u.1 3), .ref (u.1 4), .ref (u.1 5), .ref (u.1 6), .int 100, .int (-1), .int 0, .int 0])), ((u.1 1), .inr (4, [.int 0, .ref (u.1 7), .int 0])), ((u.1 2), .inr (4, [.int 0, .ref (u.1 7), .int 0])), ((u.1 3), .inr (4, [.int 0, .ref (u.1 7), .int 0])), ((u.1 4), .inr (4, [.int 0, .ref (u.1 7), .int 0])), ((u.1 5), .inr (4, [.int 0, .ref (u.1 7), .int 0])), ((u.1 6), .inr (4, [.int 0, .ref (u.1 7), .int 0]))] t.heap ∧ va_K D vwCl [] t ∧ va_D (va_A [(h, .inr (14, [.null, .null, .null, .null, .null, .null, .int 0, .int 0, .int 0, .int 0]))] sz) [((u.1 0), .inr (14, [.ref (u.1 1), .ref (u.1 2), .ref (u.1 3), .ref (u.1 4), .ref (u.1 5), .ref (u.1 6), .int 100, .int (-1), .int 0, .int 0])), ((u.1 1), .inr (4, [.int 0, .ref (u.1 7), .int 0])), ((u.1 2), .inr (4, [.int 0, .ref (u.1 7), .int 0])), ((u.1 3), .inr (4, [.int 0, .ref (u.1 7), .int 0])), ((u.1 4), .inr (4, [.int 0, .ref (u.1 7), .int 0])), ((u.1 5), .inr (4, [.int 0, .ref (u.1 7), .int 0])), ((u.1 6), .inr (4, [.int 0, .ref (u.1 7), .int 0]))]) (va_A [(h, .inr (14, [.null, .null, .null, .null, .null, .null, .int 0, .int 0, .int 0, .int 0]))] sz)) 6 18 (va_A [(h, .inr (14, [.null, .null, .null, .null, .null, .null, .int 0, .int 0, .int 0, .int 0]))] sz) := by
  refine Met.ofW (cc := prog_8_method_1_code) (maxL := 1) (ret := (Option.none : Option FieldType)) (by decide) rfl ?_
  intro p e s m args below meth c s₁ B hml hv
  obtain ⟨rfl, hsz, hP, hK, hD0, hT, hE⟩ := hv
  have hx := B.exec
  have hb := B.bytes
  have hr := B.returns
  have hts := atoms_spec (ws := (Cond.code yX9_init prog_8_method_1_code 1 (Option.none : Option FieldType)) :: WA) B.pre
  have hw : ∀ w ∈ WA, w.before _ s = true := fun w h => hts w (List.mem_cons_of_mem _ h)
  have hown : s.vm.findClass RX9 = some m.cls := findClass_of_methodNamed B.named
  have hlocks := B.notSynchronized
  have hin : meth.name = "<init>" := (name_of_methodNamed B.named B.method).1
  subst hsz
  have hD := hD0.self (sz := s.heap.size)
  generalize hAe : va_A [(h, .inr (14, [.null, .null, .null, .null, .null, .null, .int 0, .int 0, .int 0, .int 0]))] s.heap.size = A at hD hE ⊢
  have hA : ∀ q : Nat, s.heap.size ≤ q → A q := fun q h => by rw [← hAe]; exact Or.inr h
  have hS : va_S A s.heap s.heap [] := va_S.rf
  have hP : va_P D vwCl [(h, .inr (14, [.null, .null, .null, .null, .null, .null, .int 0, .int 0, .int 0, .int 0]))] s.heap := hP
  have hD : va_D A [(h, .inr (14, [.null, .null, .null, .null, .null, .null, .int 0, .int 0, .int 0, .int 0]))] := hD
  have hl := lv_entry [.ref h] (n := 1) (Nat.le_of_ble_eq_true rfl)
  rw [lg_entry_eq]
  generalize (lg_sl [.ref h] ++ List.replicate (1 - (lg_sl [.ref h]).length) Slot.unset).toArray = ls at hl ⊢
  have hl : lv_has ls 1 [(0, .ref h)] := hl
  refine lv_aload_n hx hb dX9_init_0 rfl (lv_at hl 0 rfl) ?_
  refine W.objInit hx hb hown (hw _ zm_1269) (hw _ zm_85) (hw _ zm_86) rfl (by rw [hml]; exact hl.1) rfl dX9_init_1 (Nat.le_of_ble_eq_true rfl) (Nat.le_of_ble_eq_true rfl) ?_
  refine W.eq (g2 := F0 m 4 ls []) rfl ?_
  refine lv_aload_n hx hb dX9_init_4 rfl (lv_at hl 0 rfl) ?_
  refine va_new (ci := 4) (fs := [.int 0, .null, .int 0]) (C := RJx4a65c) (T := TJx4a65c) (N := 3) hx hb hw zi_RJx4a65c tyJx4a65c tyJx4a65c_ok hown (hw _ zm_1270) (hw _ zm_131) (hw _ zm_51) hK hP hD hS hA rfl (fun j hj => by rcases (show j = 0 ∨ j = 1 ∨ j = 2 by omega) with rfl | rfl | rfl <;> rfl) (Nat.le_of_ble_eq_true rfl) (Nat.le_of_ble_eq_true rfl) dX9_init_5 (fun q_1 H hP hD hS => ?_)
  have hP : va_P D vwCl [(h, .inr (14, [.null, .null, .null, .null, .null, .null, .int 0, .int 0, .int 0, .int 0])), (q_1, .inr (4, [.int 0, .null, .int 0]))] H := hP
  have hD : va_D A [(h, .inr (14, [.null, .null, .null, .null, .null, .null, .int 0, .int 0, .int 0, .int 0])), (q_1, .inr (4, [.int 0, .null, .int 0]))] := hD
  refine lv_dup hx hb dX9_init_8 rfl ?_
  have hPc := hP.sub (ws' := [(q_1, .inr (4, [.int 0, .null, .int 0]))]) [1] rfl
  have hDc := hD.sub (ws' := [(q_1, .inr (4, [.int 0, .null, .int 0]))]) [1] (by decide) rfl
  have hFc := va_free (wc := [(q_1, .inr (4, [.int 0, .null, .int 0]))]) hD hS hA [1] rfl
  refine va_callv (va_runI (As := []) (rest := [.ref q_1, .ref h]) ⟨hx, hb, hml, hown, hw⟩ (c_Jx4a65c_init_da8c8 l D sa ea q_1 _) (cwI 0 hw (zgC zm_134) rfl rfl rfl (hw _ zm_51) (hw _ zm_1271) (hw _ zm_133) rfl (by decide +kernel) ⟨Nat.le_of_ble_eq_true rfl, Nat.le_of_ble_eq_true rfl⟩) ⟨zW_blind, zW_pre hPc hK hDc hT hE hS hFc⟩ rfl rfl hl.1 rfl (lv_room (Nat.le_of_ble_eq_true rfl)) dX9_init_9 ⟨Nat.le_of_ble_eq_true rfl, Nat.le_of_ble_eq_true rfl⟩) hS (fun q _ h => hFc q h) hFc (fun u t H locs ht hvm hw1 hB hz1 hk1 hS => ?_)
  obtain ⟨hP1, hD1⟩ := hB
  rw [ht] at hP1
  obtain ⟨hP, hD⟩ := va_join (wr := [(h, .inr (14, [.null, .null, .null, .null, .null, .null, .int 0, .int 0, .int 0, .int 0]))]) (w1 := [(q_1, .inr (4, [.int 0, .ref ea, .int 0]))]) hP hD [1] [0] rfl rfl (by decide) (by decide) hk1 hFc hP1 hD1
  have hP : va_P D vwCl [(h, .inr (14, [.null, .null, .null, .null, .null, .null, .int 0, .int 0, .int 0, .int 0])), (q_1, .inr (4, [.int 0, .ref ea, .int 0]))] H := hP
  have hD : va_D A [(h, .inr (14, [.null, .null, .null, .null, .null, .null, .int 0, .int 0, .int 0, .int 0])), (q_1, .inr (4, [.int 0, .ref ea, .int 0]))] := hD
  refine va_putF (D := D) (ci := 14) (v := .ref q_1) (ty := .object "java/util/List") (C := RX9) (T := TX9) (N := 10) hx hb hw zi_RX9 tyX9 tyX9_ok nmX9 hown hK hP hD hS 0 rfl rfl 0 (by decide) (hw _ zm_1272) (fun _ h9 => h9) rfl hin rfl (by decide +kernel) rfl rfl (Nat.le_of_ble_eq_true rfl) dX9_init_12 (fun H locs hP hD hS => ?_)
  have hP : va_P D vwCl [(h, .inr (14, [.ref q_1, .null, .null, .null, .null, .null, .int 0, .int 0, .int 0, .int 0])), (q_1, .inr (4, [.int 0, .ref ea, .int 0]))] H := hP
  have hD : va_D A [(h, .inr (14, [.ref q_1, .null, .null, .null, .null, .null, .int 0, .int 0, .int 0, .int 0])), (q_1, .inr (4, [.int 0, .ref ea, .int 0]))] := hD
  refine lv_aload_n hx hb dX9_init_15 rfl (lv_at hl 0 rfl) ?_
  refine va_new (ci := 4) (fs := [.int 0, .null, .int 0]) (C := RJx4a65c) (T := TJx4a65c) (N := 3) hx hb hw zi_RJx4a65c tyJx4a65c tyJx4a65c_ok hown (hw _ zm_1270) (hw _ zm_131) (hw _ zm_51) hK hP hD hS hA rfl (fun j hj => by rcases (show j = 0 ∨ j = 1 ∨ j = 2 by omega) with rfl | rfl | rfl <;> rfl) (Nat.le_of_ble_eq_true rfl) (Nat.le_of_ble_eq_true rfl) dX9_init_16 (fun q_3 H hP hD hS => ?_)
  have hP : va_P D vwCl [(h, .inr (14, [.ref q_1, .null, .null, .null, .null, .null, .int 0, .int 0, .int 0, .int 0])), (q_1, .inr (4, [.int 0, .ref ea, .int 0])), (q_3, .inr (4, [.int 0, .null, .int 0]))] H := hP
  have hD : va_D A [(h, .inr (14, [.ref q_1, .null, .null, .null, .null, .null, .int 0, .int 0, .int 0, .int 0])), (q_1, .inr (4, [.int 0, .ref ea, .int 0])), (q_3, .inr (4, [.int 0, .null, .int 0]))] := hD
  refine lv_dup hx hb dX9_init_19 rfl ?_
  have hPc := hP.sub (ws' := [(q_3, .inr (4, [.int 0, .null, .int 0]))]) [2] rfl
  have hDc := hD.sub (ws' := [(q_3, .inr (4, [.int 0, .null, .int 0]))]) [2] (by decide) rfl
  have hFc := va_free (wc := [(q_3, .inr (4, [.int 0, .null, .int 0]))]) hD hS hA [2] rfl
  refine va_callv (va_runI (As := []) (rest := [.ref q_3, .ref h]) ⟨hx, hb, hml, hown, hw⟩ (c_Jx4a65c_init_da8c8 l D sa ea q_3 _) (cwI 0 hw (zgC zm_134) rfl rfl rfl (hw _ zm_51) (hw _ zm_1271) (hw _ zm_133) rfl (by decide +kernel) ⟨Nat.le_of_ble_eq_true rfl, Nat.le_of_ble_eq_true rfl⟩) ⟨zW_blind, zW_pre hPc hK hDc hT hE hS hFc⟩ rfl rfl hl.1 rfl (lv_room (Nat.le_of_ble_eq_true rfl)) dX9_init_20 ⟨Nat.le_of_ble_eq_true rfl, Nat.le_of_ble_eq_true rfl⟩) hS (fun q _ h => hFc q h) hFc (fun u t H locs ht hvm hw1 hB hz1 hk1 hS => ?_)
  obtain ⟨hP1, hD1⟩ := hB
  rw [ht] at hP1
  obtain ⟨hP, hD⟩ := va_join (wr := [(h, .inr (14, [.ref q_1, .null, .null, .null, .null, .null, .int 0, .int 0, .int 0, .int 0])), (q_1, .inr (4, [.int 0, .ref ea, .int 0]))]) (w1 := [(q_3, .inr (4, [.int 0, .ref ea, .int 0]))]) hP hD [2] [0, 1] rfl rfl (by decide) (by decide) hk1 hFc hP1 hD1
  have hP : va_P D vwCl [(h, .inr (14, [.ref q_1, .null, .null, .null, .null, .null, .int 0, .int 0, .int 0, .int 0])), (q_1, .inr (4, [.int 0, .ref ea, .int 0])), (q_3, .inr (4, [.int 0, .ref ea, .int 0]))] H := hP
  have hD : va_D A [(h, .inr (14, [.ref q_1, .null, .null, .null, .null, .null, .int 0, .int 0, .int 0, .int 0])), (q_1, .inr (4, [.int 0, .ref ea, .int 0])), (q_3, .inr (4, [.int 0, .ref ea, .int 0]))] := hD
  refine va_putF (D := D) (ci := 14) (v := .ref q_3) (ty := .object "java/util/List") (C := RX9) (T := TX9) (N := 10) hx hb hw zi_RX9 tyX9 tyX9_ok nmX9 hown hK hP hD hS 0 rfl rfl 1 (by decide) (hw _ zm_1273) (fun _ h9 => h9) rfl hin rfl (by decide +kernel) rfl rfl (Nat.le_of_ble_eq_true rfl) dX9_init_23 (fun H locs hP hD hS => ?_)
  have hP : va_P D vwCl [(h, .inr (14, [.ref q_1, .ref q_3, .null, .null, .null, .null, .int 0, .int 0, .int 0, .int 0])), (q_1, .inr (4, [.int 0, .ref ea, .int 0])), (q_3, .inr (4, [.int 0, .ref ea, .int 0]))] H := hP
  have hD : va_D A [(h, .inr (14, [.ref q_1, .ref q_3, .null, .null, .null, .null, .int 0, .int 0, .int 0, .int 0])), (q_1, .inr (4, [.int 0, .ref ea, .int 0])), (q_3, .inr (4, [.int 0, .ref ea, .int 0]))] := hD
  refine lv_aload_n hx hb dX9_init_26 rfl (lv_at hl 0 rfl) ?_
  refine va_new (ci := 4) (fs := [.int 0, .null, .int 0]) (C := RJx4a65c) (T := TJx4a65c) (N := 3) hx hb hw zi_RJx4a65c tyJx4a65c tyJx4a65c_ok hown (hw _ zm_1270) (hw _ zm_131) (hw _ zm_51) hK hP hD hS hA rfl (fun j hj => by rcases (show j = 0 ∨ j = 1 ∨ j = 2 by omega) with rfl | rfl | rfl <;> rfl) (Nat.le_of_ble_eq_true rfl) (Nat.le_of_ble_eq_true rfl) dX9_init_27 (fun q_5 H hP hD hS => ?_)
  have hP : va_P D vwCl [(h, .inr (14, [.ref q_1, .ref q_3, .null, .null, .null, .null, .int 0, .int 0, .int 0, .int 0])), (q_1, .inr (4, [.int 0, .ref ea, .int 0])), (q_3, .inr (4, [.int 0, .ref ea, .int 0])), (q_5, .inr (4, [.int 0, .null, .int 0]))] H := hP
  have hD : va_D A [(h, .inr (14, [.ref q_1, .ref q_3, .null, .null, .null, .null, .int 0, .int 0, .int 0, .int 0])), (q_1, .inr (4, [.int 0, .ref ea, .int 0])), (q_3, .inr (4, [.int 0, .ref ea, .int 0])), (q_5, .inr (4, [.int 0, .null, .int 0]))] := hD
  refine lv_dup hx hb dX9_init_30 rfl ?_
  have hPc := hP.sub (ws' := [(q_5, .inr (4, [.int 0, .null, .int 0]))]) [3] rfl
  have hDc := hD.sub (ws' := [(q_5, .inr (4, [.int 0, .null, .int 0]))]) [3] (by decide) rfl
  have hFc := va_free (wc := [(q_5, .inr (4, [.int 0, .null, .int 0]))]) hD hS hA [3] rfl
  refine va_callv (va_runI (As := []) (rest := [.ref q_5, .ref h]) ⟨hx, hb, hml, hown, hw⟩ (c_Jx4a65c_init_da8c8 l D sa ea q_5 _) (cwI 0 hw (zgC zm_134) rfl rfl rfl (hw _ zm_51) (hw _ zm_1271) (hw _ zm_133) rfl (by decide +kernel) ⟨Nat.le_of_ble_eq_true rfl, Nat.le_of_ble_eq_true rfl⟩) ⟨zW_blind, zW_pre hPc hK hDc hT hE hS hFc⟩ rfl rfl hl.1 rfl (lv_room (Nat.le_of_ble_eq_true rfl)) dX9_init_31 ⟨Nat.le_of_ble_eq_true rfl, Nat.le_of_ble_eq_true rfl⟩) hS (fun q _ h => hFc q h) hFc (fun u t H locs ht hvm hw1 hB hz1 hk1 hS => ?_)
  obtain ⟨hP1, hD1⟩ := hB
  rw [ht] at hP1
  obtain ⟨hP, hD⟩ := va_join (wr := [(h, .inr (14, [.ref q_1, .ref q_3, .null, .null, .null, .null, .int 0, .int 0, .int 0, .int 0])), (q_1, .inr (4, [.int 0, .ref ea, .int 0])), (q_3, .inr (4, [.int 0, .ref ea, .int 0]))]) (w1 := [(q_5, .inr (4, [.int 0, .ref ea, .int 0]))]) hP hD [3] [0, 1, 2] rfl rfl (by decide) (by decide) hk1 hFc hP1 hD1
  have hP : va_P D vwCl [(h, .inr (14, [.ref q_1, .ref q_3, .null, .null, .null, .null, .int 0, .int 0, .int 0, .int 0])), (q_1, .inr (4, [.int 0, .ref ea, .int 0])), (q_3, .inr (4, [.int 0, .ref ea, .int 0])), (q_5, .inr (4, [.int 0, .ref ea, .int 0]))] H := hP
  have hD : va_D A [(h, .inr (14, [.ref q_1, .ref q_3, .null, .null, .null, .null, .int 0, .int 0, .int 0, .int 0])), (q_1, .inr (4, [.int 0, .ref ea, .int 0])), (q_3, .inr (4, [.int 0, .ref ea, .int 0])), (q_5, .inr (4, [.int 0, .ref ea, .int 0]))] := hD
  refine va_putF (D := D) (ci := 14) (v := .ref q_5) (ty := .object "java/util/List") (C := RX9) (T := TX9) (N := 10) hx hb hw zi_RX9 tyX9 tyX9_ok nmX9 hown hK hP hD hS 0 rfl rfl 2 (by decide) (hw _ zm_1274) (fun _ h9 => h9) rfl hin rfl (by decide +kernel) rfl rfl (Nat.le_of_ble_eq_true rfl) dX9_init_34 (fun H locs hP hD hS => ?_)
  have hP : va_P D vwCl [(h, .inr (14, [.ref q_1, .ref q_3, .ref q_5, .null, .null, .null, .int 0, .int 0, .int 0, .int 0])), (q_1, .inr (4, [.int 0, .ref ea, .int 0])), (q_3, .inr (4, [.int 0, .ref ea, .int 0])), (q_5, .inr (4, [.int 0, .ref ea, .int 0]))] H := hP
  have hD : va_D A [(h, .inr (14, [.ref q_1, .ref q_3, .ref q_5, .null, .null, .null, .int 0, .int 0, .int 0, .int 0])), (q_1, .inr (4, [.int 0, .ref ea, .int 0])), (q_3, .inr (4, [.int 0, .ref ea, .int 0])), (q_5, .inr (4, [.int 0, .ref ea, .int 0]))] := hD
  refine lv_aload_n hx hb dX9_init_37 rfl (lv_at hl 0 rfl) ?_
  refine va_new (ci := 4) (fs := [.int 0, .null, .int 0]) (C := RJx4a65c) (T := TJx4a65c) (N := 3) hx hb hw zi_RJx4a65c tyJx4a65c tyJx4a65c_ok hown (hw _ zm_1270) (hw _ zm_131) (hw _ zm_51) hK hP hD hS hA rfl (fun j hj => by rcases (show j = 0 ∨ j = 1 ∨ j = 2 by omega) with rfl | rfl | rfl <;> rfl) (Nat.le_of_ble_eq_true rfl) (Nat.le_of_ble_eq_true rfl) dX9_init_38 (fun q_7 H hP hD hS => ?_)
  have hP : va_P D vwCl [(h, .inr (14, [.ref q_1, .ref q_3, .ref q_5, .null, .null, .null, .int 0, .int 0, .int 0, .int 0])), (q_1, .inr (4, [.int 0, .ref ea, .int 0])), (q_3, .inr (4, [.int 0, .ref ea, .int 0])), (q_5, .inr (4, [.int 0, .ref ea, .int 0])), (q_7, .inr (4, [.int 0, .null, .int 0]))] H := hP
  have hD : va_D A [(h, .inr (14, [.ref q_1, .ref q_3, .ref q_5, .null, .null, .null, .int 0, .int 0, .int 0, .int 0])), (q_1, .inr (4, [.int 0, .ref ea, .int 0])), (q_3, .inr (4, [.int 0, .ref ea, .int 0])), (q_5, .inr (4, [.int 0, .ref ea, .int 0])), (q_7, .inr (4, [.int 0, .null, .int 0]))] := hD
  refine lv_dup hx hb dX9_init_41 rfl ?_
  have hPc := hP.sub (ws' := [(q_7, .inr (4, [.int 0, .null, .int 0]))]) [4] rfl
  have hDc := hD.sub (ws' := [(q_7, .inr (4, [.int 0, .null, .int 0]))]) [4] (by decide) rfl
  have hFc := va_free (wc := [(q_7, .inr (4, [.int 0, .null, .int 0]))]) hD hS hA [4] rfl
  refine va_callv (va_runI (As := []) (rest := [.ref q_7, .ref h]) ⟨hx, hb, hml, hown, hw⟩ (c_Jx4a65c_init_da8c8 l D sa ea q_7 _) (cwI 0 hw (zgC zm_134) rfl rfl rfl (hw _ zm_51) (hw _ zm_1271) (hw _ zm_133) rfl (by decide +kernel) ⟨Nat.le_of_ble_eq_true rfl, Nat.le_of_ble_eq_true rfl⟩) ⟨zW_blind, zW_pre hPc hK hDc hT hE hS hFc⟩ rfl rfl hl.1 rfl (lv_room (Nat.le_of_ble_eq_true rfl)) dX9_init_42 ⟨Nat.le_of_ble_eq_true rfl, Nat.le_of_ble_eq_true rfl⟩) hS (fun q _ h => hFc q h) hFc (fun u t H locs ht hvm hw1 hB hz1 hk1 hS => ?_)
  obtain ⟨hP1, hD1⟩ := hB
  rw [ht] at hP1
  obtain ⟨hP, hD⟩ := va_join (wr := [(h, .inr (14, [.ref q_1, .ref q_3, .ref q_5, .null, .null, .null, .int 0, .int 0, .int 0, .int 0])), (q_1, .inr (4, [.int 0, .ref ea, .int 0])), (q_3, .inr (4, [.int 0, .ref ea, .int 0])), (q_5, .inr (4, [.int 0, .ref ea, .int 0]))]) (w1 := [(q_7, .inr (4, [.int 0, .ref ea, .int 0]))]) hP hD [4] [0, 1, 2, 3] rfl rfl (by decide) (by decide) hk1 hFc hP1 hD1
  have hP : va_P D vwCl [(h, .inr (14, [.ref q_1, .ref q_3, .ref q_5, .null, .null, .null, .int 0, .int 0, .int 0, .int 0])), (q_1, .inr (4, [.int 0, .ref ea, .int 0])), (q_3, .inr (4, [.int 0, .ref ea, .int 0])), (q_5, .inr (4, [.int 0, .ref ea, .int 0])), (q_7, .inr (4, [.int 0, .ref ea, .int 0]))] H := hP
  have hD : va_D A [(h, .inr (14, [.ref q_1, .ref q_3, .ref q_5, .null, .null, .null, .int 0, .int 0, .int 0, .int 0])), (q_1, .inr (4, [.int 0, .ref ea, .int 0])), (q_3, .inr (4, [.int 0, .ref ea, .int 0])), (q_5, .inr (4, [.int 0, .ref ea, .int 0])), (q_7, .inr (4, [.int 0, .ref ea, .int 0]))] := hD
  refine va_putF (D := D) (ci := 14) (v := .ref q_7) (ty := .object "java/util/List") (C := RX9) (T := TX9) (N := 10) hx hb hw zi_RX9 tyX9 tyX9_ok nmX9 hown hK hP hD hS 0 rfl rfl 3 (by decide) (hw _ zm_1275) (fun _ h9 => h9) rfl hin rfl (by decide +kernel) rfl rfl (Nat.le_of_ble_eq_true rfl) dX9_init_45 (fun H locs hP hD hS => ?_)
  have hP : va_P D vwCl [(h, .inr (14, [.ref q_1, .ref q_3, .ref q_5, .ref q_7, .null, .null, .int 0, .int 0, .int 0, .int 0])), (q_1, .inr (4, [.int 0, .ref ea, .int 0])), (q_3, .inr (4, [.int 0, .ref ea, .int 0])), (q_5, .inr (4, [.int 0, .ref ea, .int 0])), (q_7, .inr (4, [.int 0, .ref ea, .int 0]))] H := hP
  have hD : va_D A [(h, .inr (14, [.ref q_1, .ref q_3, .ref q_5, .ref q_7, .null, .null, .int 0, .int 0, .int 0, .int 0])), (q_1, .inr (4, [.int 0, .ref ea, .int 0])), (q_3, .inr (4, [.int 0, .ref ea, .int 0])), (q_5, .inr (4, [.int 0, .ref ea, .int 0])), (q_7, .inr (4, [.int 0, .ref ea, .int 0]))] := hD
  refine lv_aload_n hx hb dX9_init_48 rfl (lv_at hl 0 rfl) ?_
  refine va_new (ci := 4) (fs := [.int 0, .null, .int 0]) (C := RJx4a65c) (T := TJx4a65c) (N := 3) hx hb hw zi_RJx4a65c tyJx4a65c tyJx4a65c_ok hown (hw _ zm_1270) (hw _ zm_131) (hw _ zm_51) hK hP hD hS hA rfl (fun j hj => by rcases (show j = 0 ∨ j = 1 ∨ j = 2 by omega) with rfl | rfl | rfl <;> rfl) (Nat.le_of_ble_eq_true rfl) (Nat.le_of_ble_eq_true rfl) dX9_init_49 (fun q_9 H hP hD hS => ?_)
  have hP : va_P D vwCl [(h, .inr (14, [.ref q_1, .ref q_3, .ref q_5, .ref q_7, .null, .null, .int 0, .int 0, .int 0, .int 0])), (q_1, .inr (4, [.int 0, .ref ea, .int 0])), (q_3, .inr (4, [.int 0, .ref ea, .int 0])), (q_5, .inr (4, [.int 0, .ref ea, .int 0])), (q_7, .inr (4, [.int 0, .ref ea, .int 0])), (q_9, .inr (4, [.int 0, .null, .int 0]))] H := hP
  have hD : va_D A [(h, .inr (14, [.ref q_1, .ref q_3, .ref q_5, .ref q_7, .null, .null, .int 0, .int 0, .int 0, .int 0])), (q_1, .inr (4, [.int 0, .ref ea, .int 0])), (q_3, .inr (4, [.int 0, .ref ea, .int 0])), (q_5, .inr (4, [.int 0, .ref ea, .int 0])), (q_7, .inr (4, [.int 0, .ref ea, .int 0])), (q_9, .inr (4, [.int 0, .null, .int 0]))] := hD
  refine lv_dup hx hb dX9_init_52 rfl ?_
  have hPc := hP.sub (ws' := [(q_9, .inr (4, [.int 0, .null, .int 0]))]) [5] rfl
  have hDc := hD.sub (ws' := [(q_9, .inr (4, [.int 0, .null, .int 0]))]) [5] (by decide) rfl
  have hFc := va_free (wc := [(q_9, .inr (4, [.int 0, .null, .int 0]))]) hD hS hA [5] rfl
  refine va_callv (va_runI (As := []) (rest := [.ref q_9, .ref h]) ⟨hx, hb, hml, hown, hw⟩ (c_Jx4a65c_init_da8c8 l D sa ea q_9 _) (cwI 0 hw (zgC zm_134) rfl rfl rfl (hw _ zm_51) (hw _ zm_1271) (hw _ zm_133) rfl (by decide +kernel) ⟨Nat.le_of_ble_eq_true rfl, Nat.le_of_ble_eq_true rfl⟩) ⟨zW_blind, zW_pre hPc hK hDc hT hE hS hFc⟩ rfl rfl hl.1 rfl (lv_room (Nat.le_of_ble_eq_true rfl)) dX9_init_53 ⟨Nat.le_of_ble_eq_true rfl, Nat.le_of_ble_eq_true rfl⟩) hS (fun q _ h => hFc q h) hFc (fun u t H locs ht hvm hw1 hB hz1 hk1 hS => ?_)
  obtain ⟨hP1, hD1⟩ := hB
  rw [ht] at hP1
  obtain ⟨hP, hD⟩ := va_join (wr := [(h, .inr (14, [.ref q_1, .ref q_3, .ref q_5, .ref q_7, .null, .null, .int 0, .int 0, .int 0, .int 0])), (q_1, .inr (4, [.int 0, .ref ea, .int 0])), (q_3, .inr (4, [.int 0, .ref ea, .int 0])), (q_5, .inr (4, [.int 0, .ref ea, .int 0])), (q_7, .inr (4, [.int 0, .ref ea, .int 0]))]) (w1 := [(q_9, .inr (4, [.int 0, .ref ea, .int 0]))]) hP hD [5] [0, 1, 2, 3, 4] rfl rfl (by decide) (by decide) hk1 hFc hP1 hD1
  have hP : va_P D vwCl [(h, .inr (14, [.ref q_1, .ref q_3, .ref q_5, .ref q_7, .null, .null, .int 0, .int 0, .int 0, .int 0])), (q_1, .inr (4, [.int 0, .ref ea, .int 0])), (q_3, .inr (4, [.int 0, .ref ea, .int 0])), (q_5, .inr (4, [.int 0, .ref ea, .int 0])), (q_7, .inr (4, [.int 0, .ref ea, .int 0])), (q_9, .inr (4, [.int 0, .ref ea, .int 0]))] H := hP
  have hD : va_D A [(h, .inr (14, [.ref q_1, .ref q_3, .ref q_5, .ref q_7, .null, .null, .int 0, .int 0, .int 0, .int 0])), (q_1, .inr (4, [.int 0, .ref ea, .int 0])), (q_3, .inr (4, [.int 0, .ref ea, .int 0])), (q_5, .inr (4, [.int 0, .ref ea, .int 0])), (q_7, .inr (4, [.int 0, .ref ea, .int 0])), (q_9, .inr (4, [.int 0, .ref ea, .int 0]))] := hD
  refine va_putF (D := D) (ci := 14) (v := .ref q_9) (ty := .object "java/util/List") (C := RX9) (T := TX9) (N := 10) hx hb hw zi_RX9 tyX9 tyX9_ok nmX9 hown hK hP hD hS 0 rfl rfl 4 (by decide) (hw _ zm_1276) (fun _ h9 => h9) rfl hin rfl (by decide +kernel) rfl rfl (Nat.le_of_ble_eq_true rfl) dX9_init_56 (fun H locs hP hD hS => ?_)
  have hP : va_P D vwCl [(h, .inr (14, [.ref q_1, .ref q_3, .ref q_5, .ref q_7, .ref q_9, .null, .int 0, .int 0, .int 0, .int 0])), (q_1, .inr (4, [.int 0, .ref ea, .int 0])), (q_3, .inr (4, [.int 0, .ref ea, .int 0])), (q_5, .inr (4, [.int 0, .ref ea, .int 0])), (q_7, .inr (4, [.int 0, .ref ea, .int 0])), (q_9, .inr (4, [.int 0, .ref ea, .int 0]))] H := hP
  have hD : va_D A [(h, .inr (14, [.ref q_1, .ref q_3, .ref q_5, .ref q_7, .ref q_9, .null, .int 0, .int 0, .int 0, .int 0])), (q_1, .inr (4, [.int 0, .ref ea, .int 0])), (q_3, .inr (4, [.int 0, .ref ea, .int 0])), (q_5, .inr (4, [.int 0, .ref ea, .int 0])), (q_7, .inr (4, [.int 0, .ref ea, .int 0])), (q_9, .inr (4, [.int 0, .ref ea, .int 0]))] := hD
  refine lv_aload_n hx hb dX9_init_59 rfl (lv_at hl 0 rfl) ?_
  refine va_new (ci := 4) (fs := [.int 0, .null, .int 0]) (C := RJx4a65c) (T := TJx4a65c) (N := 3) hx hb hw zi_RJx4a65c tyJx4a65c tyJx4a65c_ok hown (hw _ zm_1270) (hw _ zm_131) (hw _ zm_51) hK hP hD hS hA rfl (fun j hj => by rcases (show j = 0 ∨ j = 1 ∨ j = 2 by omega) with rfl | rfl | rfl <;> rfl) (Nat.le_of_ble_eq_true rfl) (Nat.le_of_ble_eq_true rfl) dX9_init_60 (fun q_11 H hP hD hS => ?_)
  have hP : va_P D vwCl [(h, .inr (14, [.ref q_1, .ref q_3, .ref q_5, .ref q_7, .ref q_9, .null, .int 0, .int 0, .int 0, .int 0])), (q_1, .inr (4, [.int 0, .ref ea, .int 0])), (q_3, .inr (4, [.int 0, .ref ea, .int 0])), (q_5, .inr (4, [.int 0, .ref ea, .int 0])), (q_7, .inr (4, [.int 0, .ref ea, .int 0])), (q_9, .inr (4, [.int 0, .ref ea, .int 0])), (q_11, .inr (4, [.int 0, .null, .int 0]))] H := hP
  have hD : va_D A [(h, .inr (14, [.ref q_1, .ref q_3, .ref q_5, .ref q_7, .ref q_9, .null, .int 0, .int 0, .int 0, .int 0])), (q_1, .inr (4, [.int 0, .ref ea, .int 0])), (q_3, .inr (4, [.int 0, .ref ea, .int 0])), (q_5, .inr (4, [.int 0, .ref ea, .int 0])), (q_7, .inr (4, [.int 0, .ref ea, .int 0])), (q_9, .inr (4, [.int 0, .ref ea, .int 0])), (q_11, .inr (4, [.int 0, .null, .int 0]))] := hD
  refine lv_dup hx hb dX9_init_63 rfl ?_
  have hPc := hP.sub (ws' := [(q_11, .inr (4, [.int 0, .null, .int 0]))]) [6] rfl
  have hDc := hD.sub (ws' := [(q_11, .inr (4, [.int 0, .null, .int 0]))]) [6] (by decide) rfl
  have hFc := va_free (wc := [(q_11, .inr (4, [.int 0, .null, .int 0]))]) hD hS hA [6] rfl
  refine va_callv (va_runI (As := []) (rest := [.ref q_11, .ref h]) ⟨hx, hb, hml, hown, hw⟩ (c_Jx4a65c_init_da8c8 l D sa ea q_11 _) (cwI 0 hw (zgC zm_134) rfl rfl rfl (hw _ zm_51) (hw _ zm_1271) (hw _ zm_133) rfl (by decide +kernel) ⟨Nat.le_of_ble_eq_true rfl, Nat.le_of_ble_eq_true rfl⟩) ⟨zW_blind, zW_pre hPc hK hDc hT hE hS hFc⟩ rfl rfl hl.1 rfl (lv_room (Nat.le_of_ble_eq_true rfl)) dX9_init_64 ⟨Nat.le_of_ble_eq_true rfl, Nat.le_of_ble_eq_true rfl⟩) hS (fun q _ h => hFc q h) hFc (fun u t H locs ht hvm hw1 hB hz1 hk1 hS => ?_)
  obtain ⟨hP1, hD1⟩ := hB
  rw [ht] at hP1
  obtain ⟨hP, hD⟩ := va_join (wr := [(h, .inr (14, [.ref q_1, .ref q_3, .ref q_5, .ref q_7, .ref q_9, .null, .int 0, .int 0, .int 0, .int 0])), (q_1, .inr (4, [.int 0, .ref ea, .int 0])), (q_3, .inr (4, [.int 0, .ref ea, .int 0])), (q_5, .inr (4, [.int 0, .ref ea, .int 0])), (q_7, .inr (4, [.int 0, .ref ea, .int 0])), (q_9, .inr (4, [.int 0, .ref ea, .int 0]))]) (w1 := [(q_11, .inr (4, [.int 0, .ref ea, .int 0]))]) hP hD [6] [0, 1, 2, 3, 4, 5] rfl rfl (by decide) (by decide) hk1 hFc hP1 hD1
  have hP : va_P D vwCl [(h, .inr (14, [.ref q_1, .ref q_3, .ref q_5, .ref q_7, .ref q_9, .null, .int 0, .int 0, .int 0, .int 0])), (q_1, .inr (4, [.int 0, .ref ea, .int 0])), (q_3, .inr (4, [.int 0, .ref ea, .int 0])), (q_5, .inr (4, [.int 0, .ref ea, .int 0])), (q_7, .inr (4, [.int 0, .ref ea, .int 0])), (q_9, .inr (4, [.int 0, .ref ea, .int 0])), (q_11, .inr (4, [.int 0, .ref ea, .int 0]))] H := hP
  have hD : va_D A [(h, .inr (14, [.ref q_1, .ref q_3, .ref q_5, .ref q_7, .ref q_9, .null, .int 0, .int 0, .int 0, .int 0])), (q_1, .inr (4, [.int 0, .ref ea, .int 0])), (q_3, .inr (4, [.int 0, .ref ea, .int 0])), (q_5, .inr (4, [.int 0, .ref ea, .int 0])), (q_7, .inr (4, [.int 0, .ref ea, .int 0])), (q_9, .inr (4, [.int 0, .ref ea, .int 0])), (q_11, .inr (4, [.int 0, .ref ea, .int 0]))] := hD
  refine va_putF (D := D) (ci := 14) (v := .ref q_11) (ty := .object "java/util/List") (C := RX9) (T := TX9) (N := 10) hx hb hw zi_RX9 tyX9 tyX9_ok nmX9 hown hK hP hD hS 0 rfl rfl 5 (by decide) (hw _ zm_1277) (fun _ h9 => h9) rfl hin rfl (by decide +kernel) rfl rfl (Nat.le_of_ble_eq_true rfl) dX9_init_67 (fun H locs hP hD hS => ?_)
  have hP : va_P D vwCl [(h, .inr (14, [.ref q_1, .ref q_3, .ref q_5, .ref q_7, .ref q_9, .ref q_11, .int 0, .int 0, .int 0, .int 0])), (q_1, .inr (4, [.int 0, .ref ea, .int 0])), (q_3, .inr (4, [.int 0, .ref ea, .int 0])), (q_5, .inr (4, [.int 0, .ref ea, .int 0])), (q_7, .inr (4, [.int 0, .ref ea, .int 0])), (q_9, .inr (4, [.int 0, .ref ea, .int 0])), (q_11, .inr (4, [.int 0, .ref ea, .int 0]))] H := hP
  have hD : va_D A [(h, .inr (14, [.ref q_1, .ref q_3, .ref q_5, .ref q_7, .ref q_9, .ref q_11, .int 0, .int 0, .int 0, .int 0])), (q_1, .inr (4, [.int 0, .ref ea, .int 0])), (q_3, .inr (4, [.int 0, .ref ea, .int 0])), (q_5, .inr (4, [.int 0, .ref ea, .int 0])), (q_7, .inr (4, [.int 0, .ref ea, .int 0])), (q_9, .inr (4, [.int 0, .ref ea, .int 0])), (q_11, .inr (4, [.int 0, .ref ea, .int 0]))] := hD
  refine lv_aload_n hx hb dX9_init_70 rfl (lv_at hl 0 rfl) ?_
  refine lv_bipush (v := 100) hx hb dX9_init_71 (by decide) ?_
  refine va_put (D := D) (ci := 14) (v := .int 100) (ty := .int) (C := RX9) (T := TX9) (N := 10) hx hb hw zi_RX9 tyX9 tyX9_ok nmX9 hown hK hP hD hS 0 rfl rfl 6 (by decide) (hw _ zm_1278) (fun _ h9 => h9) rfl (by decide +kernel) rfl rfl (Nat.le_of_ble_eq_true rfl) dX9_init_73 (fun H locs hP hD hS => ?_)
  have hP : va_P D vwCl [(h, .inr (14, [.ref q_1, .ref q_3, .ref q_5, .ref q_7, .ref q_9, .ref q_11, .int 100, .int 0, .int 0, .int 0])), (q_1, .inr (4, [.int 0, .ref ea, .int 0])), (q_3, .inr (4, [.int 0, .ref ea, .int 0])), (q_5, .inr (4, [.int 0, .ref ea, .int 0])), (q_7, .inr (4, [.int 0, .ref ea, .int 0])), (q_9, .inr (4, [.int 0, .ref ea, .int 0])), (q_11, .inr (4, [.int 0, .ref ea, .int 0]))] H := hP
  have hD : va_D A [(h, .inr (14, [.ref q_1, .ref q_3, .ref q_5, .ref q_7, .ref q_9, .ref q_11, .int 100, .int 0, .int 0, .int 0])), (q_1, .inr (4, [.int 0, .ref ea, .int 0])), (q_3, .inr (4, [.int 0, .ref ea, .int 0])), (q_5, .inr (4, [.int 0, .ref ea, .int 0])), (q_7, .inr (4, [.int 0, .ref ea, .int 0])), (q_9, .inr (4, [.int 0, .ref ea, .int 0])), (q_11, .inr (4, [.int 0, .ref ea, .int 0]))] := hD
  refine lv_aload_n hx hb dX9_init_76 rfl (lv_at hl 0 rfl) ?_
  refine lv_iconst (v := (-1)) hx hb dX9_init_77 (by decide) ?_
  refine va_put (D := D) (ci := 14) (v := .int (-1)) (ty := .int) (C := RX9) (T := TX9) (N := 10) hx hb hw zi_RX9 tyX9 tyX9_ok nmX9 hown hK hP hD hS 0 rfl rfl 7 (by decide) (hw _ zm_1279) (fun _ h9 => h9) rfl (by decide +kernel) rfl rfl (Nat.le_of_ble_eq_true rfl) dX9_init_78 (fun H locs hP hD hS => ?_)
  have hP : va_P D vwCl [(h, .inr (14, [.ref q_1, .ref q_3, .ref q_5, .ref q_7, .ref q_9, .ref q_11, .int 100, .int (-1), .int 0, .int 0])), (q_1, .inr (4, [.int 0, .ref ea, .int 0])), (q_3, .inr (4, [.int 0, .ref ea, .int 0])), (q_5, .inr (4, [.int 0, .ref ea, .int 0])), (q_7, .inr (4, [.int 0, .ref ea, .int 0])), (q_9, .inr (4, [.int 0, .ref ea, .int 0])), (q_11, .inr (4, [.int 0, .ref ea, .int 0]))] H := hP
  have hD : va_D A [(h, .inr (14, [.ref q_1, .ref q_3, .ref q_5, .ref q_7, .ref q_9, .ref q_11, .int 100, .int (-1), .int 0, .int 0])), (q_1, .inr (4, [.int 0, .ref ea, .int 0])), (q_3, .inr (4, [.int 0, .ref ea, .int 0])), (q_5, .inr (4, [.int 0, .ref ea, .int 0])), (q_7, .inr (4, [.int 0, .ref ea, .int 0])), (q_9, .inr (4, [.int 0, .ref ea, .int 0])), (q_11, .inr (4, [.int 0, .ref ea, .int 0]))] := hD
  have hP9 := hP.sub (ws' := [(h, .inr (14, [.ref q_1, .ref q_3, .ref q_5, .ref q_7, .ref q_9, .ref q_11, .int 100, .int (-1), .int 0, .int 0])), (q_1, .inr (4, [.int 0, .ref ea, .int 0])), (q_3, .inr (4, [.int 0, .ref ea, .int 0])), (q_5, .inr (4, [.int 0, .ref ea, .int 0])), (q_7, .inr (4, [.int 0, .ref ea, .int 0])), (q_9, .inr (4, [.int 0, .ref ea, .int 0])), (q_11, .inr (4, [.int 0, .ref ea, .int 0]))]) [0, 1, 2, 3, 4, 5, 6] rfl
  have hD9 := hD.sub (ws' := [(h, .inr (14, [.ref q_1, .ref q_3, .ref q_5, .ref q_7, .ref q_9, .ref q_11, .int 100, .int (-1), .int 0, .int 0])), (q_1, .inr (4, [.int 0, .ref ea, .int 0])), (q_3, .inr (4, [.int 0, .ref ea, .int 0])), (q_5, .inr (4, [.int 0, .ref ea, .int 0])), (q_7, .inr (4, [.int 0, .ref ea, .int 0])), (q_9, .inr (4, [.int 0, .ref ea, .int 0])), (q_11, .inr (4, [.int 0, .ref ea, .int 0]))]) [0, 1, 2, 3, 4, 5, 6] (by decide) rfl
  have hK9 := hK.sub (tys' := []) [] rfl
  refine W.widen (k := 6) (n := 18) (Nat.le_of_ble_eq_true rfl) (Nat.le_of_ble_eq_true rfl) ?_
  exact W.vret hx hb hr (fun t ht hW => ⟨⟨((fun k => ([h, q_1, q_3, q_5, q_7, q_9, q_11, ea] : List Nat).getD k 0), (fun k => ([] : List ClassId).getD k 0)), rfl, ⟨rfl, rfl⟩, by rw [ht]; exact hP9, va_K.moved hW.alike hK9, hD9⟩, hS.F ht⟩) hS.2.2 dX9_init_81
