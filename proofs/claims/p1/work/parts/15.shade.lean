theorem dX2_hasLetter_0 : decode cX2_hasLetter 0 = .ok (.iconst 0, 1) := by decide +kernel
theorem dX2_hasLetter_1 : decode cX2_hasLetter 1 = .ok (.istore_n 2, 1) := by decide +kernel
theorem dX2_hasLetter_2 : decode cX2_hasLetter 2 = .ok (.iload_n 2, 1) := by decide +kernel
theorem dX2_hasLetter_3 : decode cX2_hasLetter 3 = .ok (.aload_n 0, 1) := by decide +kernel
theorem dX2_hasLetter_4 : decode cX2_hasLetter 4 = .ok (.getfield 22, 3) := by decide +kernel
theorem dX2_hasLetter_7 : decode cX2_hasLetter 7 = .ok (.if_icmp .ge 30, 3) := by decide +kernel
theorem dX2_hasLetter_37 : decode cX2_hasLetter 37 = .ok (.iconst 0, 1) := by decide +kernel
theorem dX2_hasLetter_38 : decode cX2_hasLetter 38 = .ok (.ireturn, 1) := by decide +kernel
set_option maxHeartbeats 4000000 in
set_option maxRecDepth 100000 in
theorem c_X2_hasLetter (l : Launch) (D : va_G) (sa : Nat → Nat) (ad : Nat → Nat) (sz : Nat) (p0 : Int32) : Met l yX2_hasLetter ((Cond.code yX2_hasLetter prog_4_method_3_code 3 (Option.some FieldType.boolean)) :: WA) ({ frames := 0, cells := 0, slots := 0, locals := 0 }) (zJ D sa [((ad 1), .inr (7, [.ref (ad 6), .ref (ad 7), .ref (ad 8), .int 0]))] [.ref (ad 1), .int p0] sz) (va_Qi (fun (r : Int32) (_ : Unit) => r = 0) (fun _ _ => True) (zN sz)) 0 0 (zN sz) := by
  refine Met.ofW (cc := prog_4_method_3_code) (maxL := 3) (ret := (Option.some FieldType.boolean)) (by decide) rfl ?_
  intro p e s m args below meth c s₁ B hml hv
  obtain ⟨rfl, hsz, hP, hK, hT⟩ := hv
  have hx := B.exec
  have hb := B.bytes
  have hr := B.returns
  have hts := atoms_spec (ws := (Cond.code yX2_hasLetter prog_4_method_3_code 3 (Option.some FieldType.boolean)) :: WA) B.pre
  have hw : ∀ w ∈ WA, w.before _ s = true := fun w h => hts w (List.mem_cons_of_mem _ h)
  have hown : s.vm.findClass RX2 = some m.cls := findClass_of_methodNamed B.named
  have hlocks := B.notSynchronized
  subst hsz
  have hA : ∀ q : Nat, s.heap.size ≤ q → zN s.heap.size q := fun _ h => h
  have hS : va_S (zN s.heap.size) s.heap s.heap [] := va_S.rf
  have hP : va_P D vwCl [((ad 1), .inr (7, [.ref (ad 6), .ref (ad 7), .ref (ad 8), .int 0]))] s.heap := hP
  have hl := lv_entry [.ref (ad 1), .int p0] (n := 3) (Nat.le_of_ble_eq_true rfl)
  rw [lg_entry_eq]
  generalize (lg_sl [.ref (ad 1), .int p0] ++ List.replicate (3 - (lg_sl [.ref (ad 1), .int p0]).length) Slot.unset).toArray = ls at hl ⊢
  have hl : lv_has ls 3 [(0, .ref (ad 1)), (1, .int p0)] := hl
  refine lv_iconst (v := 0) hx hb dX2_hasLetter_0 (by decide) ?_
  refine lv_istore_n (lv' := [(2, .int 0), (0, .ref (ad 1)), (1, .int p0)]) hx hb dX2_hasLetter_1 rfl hl (by decide) rfl (fun ls hl => ?_)
  refine lv_iload_n hx hb dX2_hasLetter_2 rfl (lv_at hl 0 rfl) ?_
  refine lv_aload_n hx hb dX2_hasLetter_3 rfl (lv_at hl 1 rfl) ?_
  refine va_get (D := D) (ci := 7) (v := .int 0) (C := RX2) (T := TX2) (N := 4) hx hb hw zi_RX2 hown hK hP 0 rfl rfl 3 (by decide) (hw _ zm_96) (fun _ h9 => h9) rfl dX2_hasLetter_4 ?_
  refine lv_icmp_ge (tgt := 37) hx hb dX2_hasLetter_7 (by decide) (fun _ => ?_) (fun c_1 => absurd (by decide) c_1)
  refine lv_iconst (v := 0) hx hb dX2_hasLetter_37 (by decide) ?_
  exact W.zret (v := 0) hx hb hr (by decide) (fun t ht hW => ⟨⟨0, (), rfl, rfl, trivial⟩, hS.F ht⟩) hS.2.2 dX2_hasLetter_38
theorem dX2_isFull_0 : decode cX2_isFull 0 = .ok (.aload_n 0, 1) := by decide +kernel
theorem dX2_isFull_1 : decode cX2_isFull 1 = .ok (.getfield 22, 3) := by decide +kernel
theorem dX2_isFull_4 : decode cX2_isFull 4 = .ok (.bipush 12, 2) := by decide +kernel
theorem dX2_isFull_6 : decode cX2_isFull 6 = .ok (.if_icmp .lt 7, 3) := by decide +kernel
theorem dX2_isFull_13 : decode cX2_isFull 13 = .ok (.iconst 0, 1) := by decide +kernel
theorem dX2_isFull_14 : decode cX2_isFull 14 = .ok (.ireturn, 1) := by decide +kernel
set_option maxHeartbeats 4000000 in
set_option maxRecDepth 100000 in
theorem c_X2_isFull (l : Launch) (D : va_G) (sa : Nat → Nat) (ad : Nat → Nat) (sz : Nat) : Met l yX2_isFull ((Cond.code yX2_isFull prog_4_method_4_code 1 (Option.some FieldType.boolean)) :: WA) ({ frames := 0, cells := 0, slots := 0, locals := 0 }) (zJ D sa [((ad 1), .inr (7, [.ref (ad 6), .ref (ad 7), .ref (ad 8), .int 0]))] [.ref (ad 1)] sz) (va_Qi (fun (r : Int32) (_ : Unit) => r = 0) (fun _ _ => True) (zN sz)) 0 0 (zN sz) := by
  refine Met.ofW (cc := prog_4_method_4_code) (maxL := 1) (ret := (Option.some FieldType.boolean)) (by decide) rfl ?_
  intro p e s m args below meth c s₁ B hml hv
  obtain ⟨rfl, hsz, hP, hK, hT⟩ := hv
  have hx := B.exec
  have hb := B.bytes
  have hr := B.returns
  have hts := atoms_spec (ws := (Cond.code yX2_isFull prog_4_method_4_code 1 (Option.some FieldType.boolean)) :: WA) B.pre
  have hw : ∀ w ∈ WA, w.before _ s = true := fun w h => hts w (List.mem_cons_of_mem _ h)
  have hown : s.vm.findClass RX2 = some m.cls := findClass_of_methodNamed B.named
  have hlocks := B.notSynchronized
  subst hsz
  have hA : ∀ q : Nat, s.heap.size ≤ q → zN s.heap.size q := fun _ h => h
  have hS : va_S (zN s.heap.size) s.heap s.heap [] := va_S.rf
  have hP : va_P D vwCl [((ad 1), .inr (7, [.ref (ad 6), .ref (ad 7), .ref (ad 8), .int 0]))] s.heap := hP
  have hl := lv_entry [.ref (ad 1)] (n := 1) (Nat.le_of_ble_eq_true rfl)
  rw [lg_entry_eq]
  generalize (lg_sl [.ref (ad 1)] ++ List.replicate (1 - (lg_sl [.ref (ad 1)]).length) Slot.unset).toArray = ls at hl ⊢
  have hl : lv_has ls 1 [(0, .ref (ad 1))] := hl
  refine lv_aload_n hx hb dX2_isFull_0 rfl (lv_at hl 0 rfl) ?_
  refine va_get (D := D) (ci := 7) (v := .int 0) (C := RX2) (T := TX2) (N := 4) hx hb hw zi_RX2 hown hK hP 0 rfl rfl 3 (by decide) (hw _ zm_96) (fun _ h9 => h9) rfl dX2_isFull_1 ?_
  refine lv_bipush (v := 12) hx hb dX2_isFull_4 (by decide) ?_
  refine lv_icmp_lt (tgt := 13) hx hb dX2_isFull_6 (by decide) (fun _ => ?_) (fun c_1 => absurd (by decide) c_1)
  refine lv_iconst (v := 0) hx hb dX2_isFull_13 (by decide) ?_
  exact W.zret (v := 0) hx hb hr (by decide) (fun t ht hW => ⟨⟨0, (), rfl, rfl, trivial⟩, hS.F ht⟩) hS.2.2 dX2_isFull_14
theorem dX2_measure_0 : decode cX2_measure 0 = .ok (.iconst 0, 1) := by decide +kernel
theorem dX2_measure_1 : decode cX2_measure 1 = .ok (.istore_n 2, 1) := by decide +kernel
theorem dX2_measure_2 : decode cX2_measure 2 = .ok (.iload_n 2, 1) := by decide +kernel
theorem dX2_measure_3 : decode cX2_measure 3 = .ok (.iload_n 1, 1) := by decide +kernel
theorem dX2_measure_4 : decode cX2_measure 4 = .ok (.if_icmp .ge 30, 3) := by decide +kernel
theorem dX2_measure_34 : decode cX2_measure 34 = .ok (.return_, 1) := by decide +kernel
set_option maxHeartbeats 4000000 in
set_option maxRecDepth 100000 in
theorem c_X2_measure (l : Launch) (D : va_G) (sa : Nat → Nat) (ad : Nat → Nat) (sz : Nat) : Met l yX2_measure ((Cond.code yX2_measure prog_4_method_6_code 4 (Option.none : Option FieldType)) :: WA) ({ frames := 0, cells := 0, slots := 0, locals := 0 }) (zJ D sa [((ad 1), .inr (7, [.ref (ad 6), .ref (ad 7), .ref (ad 8), .int 1]))] [.ref (ad 1), .int 0] sz) (va_Qv (fun (_ : Unit) => True) (fun _ _ => True) (zN sz)) 0 0 (zN sz) := by
  refine Met.ofW (cc := prog_4_method_6_code) (maxL := 4) (ret := (Option.none : Option FieldType)) (by decide) rfl ?_
  intro p e s m args below meth c s₁ B hml hv
  obtain ⟨rfl, hsz, hP, hK, hT⟩ := hv
  have hx := B.exec
  have hb := B.bytes
  have hr := B.returns
  have hts := atoms_spec (ws := (Cond.code yX2_measure prog_4_method_6_code 4 (Option.none : Option FieldType)) :: WA) B.pre
  have hw : ∀ w ∈ WA, w.before _ s = true := fun w h => hts w (List.mem_cons_of_mem _ h)
  have hown : s.vm.findClass RX2 = some m.cls := findClass_of_methodNamed B.named
  have hlocks := B.notSynchronized
  subst hsz
  have hA : ∀ q : Nat, s.heap.size ≤ q → zN s.heap.size q := fun _ h => h
  have hS : va_S (zN s.heap.size) s.heap s.heap [] := va_S.rf
  have hP : va_P D vwCl [((ad 1), .inr (7, [.ref (ad 6), .ref (ad 7), .ref (ad 8), .int 1]))] s.heap := hP
  have hl := lv_entry [.ref (ad 1), .int 0] (n := 4) (Nat.le_of_ble_eq_true rfl)
  rw [lg_entry_eq]
  generalize (lg_sl [.ref (ad 1), .int 0] ++ List.replicate (4 - (lg_sl [.ref (ad 1), .int 0]).length) Slot.unset).toArray = ls at hl ⊢
  have hl : lv_has ls 4 [(0, .ref (ad 1)), (1, .int 0)] := hl
  refine lv_iconst (v := 0) hx hb dX2_measure_0 (by decide) ?_
  refine lv_istore_n (lv' := [(2, .int 0), (0, .ref (ad 1)), (1, .int 0)]) hx hb dX2_measure_1 rfl hl (by decide) rfl (fun ls hl => ?_)
  refine lv_iload_n hx hb dX2_measure_2 rfl (lv_at hl 0 rfl) ?_
  refine lv_iload_n hx hb dX2_measure_3 rfl (lv_at hl 2 rfl) ?_
  refine lv_icmp_ge (tgt := 34) hx hb dX2_measure_4 (by decide) (fun _ => ?_) (fun c_1 => absurd (by decide) c_1)
  exact W.vret hx hb hr (fun t ht hW => ⟨⟨(), rfl, trivial, trivial⟩, hS.F ht⟩) hS.2.2 dX2_measure_34
theorem dX2_put_0 : decode cX2_put 0 = .ok (.aload_n 0, 1) := by decide +kernel
theorem dX2_put_1 : decode cX2_put 1 = .ok (.getfield 22, 3) := by decide +kernel
theorem dX2_put_4 : decode cX2_put 4 = .ok (.istore 5, 2) := by decide +kernel
theorem dX2_put_6 : decode cX2_put 6 = .ok (.iload 5, 2) := by decide +kernel
theorem dX2_put_8 : decode cX2_put 8 = .ok (.iconst 3, 1) := by decide +kernel
theorem dX2_put_9 : decode cX2_put 9 = .ok (.imul, 1) := by decide +kernel
theorem dX2_put_10 : decode cX2_put 10 = .ok (.istore 6, 2) := by decide +kernel
theorem dX2_put_12 : decode cX2_put 12 = .ok (.iload 5, 2) := by decide +kernel
theorem dX2_put_14 : decode cX2_put 14 = .ok (.ifCond .lt 30, 3) := by decide +kernel
theorem dX2_put_17 : decode cX2_put 17 = .ok (.iload 5, 2) := by decide +kernel
theorem dX2_put_19 : decode cX2_put 19 = .ok (.aload_n 0, 1) := by decide +kernel
theorem dX2_put_20 : decode cX2_put 20 = .ok (.getfield 11, 3) := by decide +kernel
theorem dX2_put_23 : decode cX2_put 23 = .ok (.arraylength, 1) := by decide +kernel
theorem dX2_put_24 : decode cX2_put 24 = .ok (.if_icmp .ge 20, 3) := by decide +kernel
theorem dX2_put_27 : decode cX2_put 27 = .ok (.iload 6, 2) := by decide +kernel
theorem dX2_put_29 : decode cX2_put 29 = .ok (.ifCond .lt 15, 3) := by decide +kernel
theorem dX2_put_32 : decode cX2_put 32 = .ok (.iload 6, 2) := by decide +kernel
theorem dX2_put_34 : decode cX2_put 34 = .ok (.iconst 2, 1) := by decide +kernel
theorem dX2_put_35 : decode cX2_put 35 = .ok (.iadd, 1) := by decide +kernel
theorem dX2_put_36 : decode cX2_put 36 = .ok (.aload_n 0, 1) := by decide +kernel
theorem dX2_put_37 : decode cX2_put 37 = .ok (.getfield 15, 3) := by decide +kernel
theorem dX2_put_40 : decode cX2_put 40 = .ok (.arraylength, 1) := by decide +kernel
theorem dX2_put_41 : decode cX2_put 41 = .ok (.if_icmp .lt 5, 3) := by decide +kernel
theorem dX2_put_46 : decode cX2_put 46 = .ok (.aload_n 0, 1) := by decide +kernel
theorem dX2_put_47 : decode cX2_put 47 = .ok (.getfield 11, 3) := by decide +kernel
theorem dX2_put_50 : decode cX2_put 50 = .ok (.iload 5, 2) := by decide +kernel
theorem dX2_put_52 : decode cX2_put 52 = .ok (.iload_n 1, 1) := by decide +kernel
theorem dX2_put_53 : decode cX2_put 53 = .ok (.castore, 1) := by decide +kernel
theorem dX2_put_54 : decode cX2_put 54 = .ok (.aload_n 0, 1) := by decide +kernel
theorem dX2_put_55 : decode cX2_put 55 = .ok (.getfield 15, 3) := by decide +kernel
theorem dX2_put_58 : decode cX2_put 58 = .ok (.iload 6, 2) := by decide +kernel
theorem dX2_put_60 : decode cX2_put 60 = .ok (.iload_n 2, 1) := by decide +kernel
theorem dX2_put_61 : decode cX2_put 61 = .ok (.iastore, 1) := by decide +kernel
theorem dX2_put_62 : decode cX2_put 62 = .ok (.aload_n 0, 1) := by decide +kernel
theorem dX2_put_63 : decode cX2_put 63 = .ok (.getfield 15, 3) := by decide +kernel
theorem dX2_put_66 : decode cX2_put 66 = .ok (.iload 6, 2) := by decide +kernel
theorem dX2_put_68 : decode cX2_put 68 = .ok (.iconst 1, 1) := by decide +kernel
theorem dX2_put_69 : decode cX2_put 69 = .ok (.iadd, 1) := by decide +kernel
theorem dX2_put_70 : decode cX2_put 70 = .ok (.iload_n 3, 1) := by decide +kernel
theorem dX2_put_71 : decode cX2_put 71 = .ok (.iastore, 1) := by decide +kernel
theorem dX2_put_72 : decode cX2_put 72 = .ok (.aload_n 0, 1) := by decide +kernel
theorem dX2_put_73 : decode cX2_put 73 = .ok (.getfield 15, 3) := by decide +kernel
theorem dX2_put_76 : decode cX2_put 76 = .ok (.iload 6, 2) := by decide +kernel
theorem dX2_put_78 : decode cX2_put 78 = .ok (.iconst 2, 1) := by decide +kernel
theorem dX2_put_79 : decode cX2_put 79 = .ok (.iadd, 1) := by decide +kernel
theorem dX2_put_80 : decode cX2_put 80 = .ok (.iload 4, 2) := by decide +kernel
theorem dX2_put_82 : decode cX2_put 82 = .ok (.iastore, 1) := by decide +kernel
theorem dX2_put_83 : decode cX2_put 83 = .ok (.aload_n 0, 1) := by decide +kernel
theorem dX2_put_84 : decode cX2_put 84 = .ok (.dup, 1) := by decide +kernel
theorem dX2_put_85 : decode cX2_put 85 = .ok (.getfield 22, 3) := by decide +kernel
theorem dX2_put_88 : decode cX2_put 88 = .ok (.iconst 1, 1) := by decide +kernel
theorem dX2_put_89 : decode cX2_put 89 = .ok (.iadd, 1) := by decide +kernel
theorem dX2_put_90 : decode cX2_put 90 = .ok (.putfield 22, 3) := by decide +kernel
theorem dX2_put_93 : decode cX2_put 93 = .ok (.aload_n 0, 1) := by decide +kernel
theorem dX2_put_94 : decode cX2_put 94 = .ok (.iload 5, 2) := by decide +kernel
theorem dX2_put_96 : decode cX2_put 96 = .ok (.invokevirtual 26, 3) := by decide +kernel
theorem zm_465 : Cond.methodLink RX2 26 yX2_measure ∈ WA := zmm (i := 465) (by decide +kernel) (by decide +kernel)
theorem zm_467 : Cond.instanceMethod yX2_measure ∈ WA := zmm (i := 467) (by decide +kernel) (by decide +kernel)
theorem zm_6 : Cond.selects RX2 yX2_measure yX2_measure ∈ WA := zmm (i := 6) (by decide +kernel) (by decide +kernel)
theorem zm_468 : Cond.code yX2_measure prog_4_method_6_code 4 (Option.none : Option FieldType) ∈ WA := zmm (i := 468) (by decide +kernel) (by decide +kernel)
theorem dX2_put_99 : decode cX2_put 99 = .ok (.iload 5, 2) := by decide +kernel
theorem dX2_put_101 : decode cX2_put 101 = .ok (.ireturn, 1) := by decide +kernel
set_option maxHeartbeats 4000000 in
set_option maxRecDepth 100000 in
theorem c_X2_put (l : Launch) (D : va_G) (sa : Nat → Nat) (ea : Nat) (ad : Nat → Nat) (kC kI : ClassId) (sz : Nat) (p0 : Int32) (p1 : Int32) (p2 : Int32) (p3 : Int32) : Met l yX2_put ((Cond.code yX2_put prog_4_method_5_code 7 (Option.some FieldType.int)) :: WA) ({ frames := 1, cells := 0, slots := 0, locals := 23 }) (zW D sa ea [(kC, .char), (kI, .int)] [((ad 1), .inr (7, [.ref (ad 6), .ref (ad 7), .ref (ad 8), .int 0])), ((ad 6), .inl (kC, 12, .inl (fun _ => 0))), ((ad 7), .inl (kI, 36, .inl (fun _ => 0)))] [.ref (ad 1), .int p0, .int p1, .int p2, .int p3] sz) (va_Qi (fun (r : Int32) (_ : Unit) => r = 0) (fun _ t => va_P D vwCl [] t.heap ∧ va_D (va_A [((ad 1), .inr (7, [.ref (ad 6), .ref (ad 7), .ref (ad 8), .int 0])), ((ad 6), .inl (kC, 12, .inl (fun _ => 0))), ((ad 7), .inl (kI, 36, .inl (fun _ => 0)))] sz) []) (va_A [((ad 1), .inr (7, [.ref (ad 6), .ref (ad 7), .ref (ad 8), .int 0])), ((ad 6), .inl (kC, 12, .inl (fun _ => 0))), ((ad 7), .inl (kI, 36, .inl (fun _ => 0)))] sz)) 0 0 (va_A [((ad 1), .inr (7, [.ref (ad 6), .ref (ad 7), .ref (ad 8), .int 0])), ((ad 6), .inl (kC, 12, .inl (fun _ => 0))), ((ad 7), .inl (kI, 36, .inl (fun _ => 0)))] sz) := by
  refine Met.ofW (cc := prog_4_method_5_code) (maxL := 7) (ret := (Option.some FieldType.int)) (by decide) rfl ?_
  intro p e s m args below meth c s₁ B hml hv
  obtain ⟨rfl, hsz, hP, hK, hD0, hT, hE⟩ := hv
  have hx := B.exec
  have hb := B.bytes
  have hr := B.returns
  have hts := atoms_spec (ws := (Cond.code yX2_put prog_4_method_5_code 7 (Option.some FieldType.int)) :: WA) B.pre
  have hw : ∀ w ∈ WA, w.before _ s = true := fun w h => hts w (List.mem_cons_of_mem _ h)
  have hown : s.vm.findClass RX2 = some m.cls := findClass_of_methodNamed B.named
  have hlocks := B.notSynchronized
  subst hsz
  have hD := hD0.self (sz := s.heap.size)
  generalize hAe : va_A [((ad 1), .inr (7, [.ref (ad 6), .ref (ad 7), .ref (ad 8), .int 0])), ((ad 6), .inl (kC, 12, .inl (fun _ => 0))), ((ad 7), .inl (kI, 36, .inl (fun _ => 0)))] s.heap.size = A at hD hE ⊢
  have hA : ∀ q : Nat, s.heap.size ≤ q → A q := fun q h => by rw [← hAe]; exact Or.inr h
  have hS : va_S A s.heap s.heap [] := va_S.rf
  have hP : va_P D vwCl [((ad 1), .inr (7, [.ref (ad 6), .ref (ad 7), .ref (ad 8), .int 0])), ((ad 6), .inl (kC, 12, .inl (fun _ => 0))), ((ad 7), .inl (kI, 36, .inl (fun _ => 0)))] s.heap := hP
  have hD : va_D A [((ad 1), .inr (7, [.ref (ad 6), .ref (ad 7), .ref (ad 8), .int 0])), ((ad 6), .inl (kC, 12, .inl (fun _ => 0))), ((ad 7), .inl (kI, 36, .inl (fun _ => 0)))] := hD
  have hl := lv_entry [.ref (ad 1), .int p0, .int p1, .int p2, .int p3] (n := 7) (Nat.le_of_ble_eq_true rfl)
  rw [lg_entry_eq]
  generalize (lg_sl [.ref (ad 1), .int p0, .int p1, .int p2, .int p3] ++ List.replicate (7 - (lg_sl [.ref (ad 1), .int p0, .int p1, .int p2, .int p3]).length) Slot.unset).toArray = ls at hl ⊢
  have hl : lv_has ls 7 [(0, .ref (ad 1)), (1, .int p0), (2, .int p1), (3, .int p2), (4, .int p3)] := hl
  refine lv_aload_n hx hb dX2_put_0 rfl (lv_at hl 0 rfl) ?_
  refine va_get (D := D) (ci := 7) (v := .int 0) (C := RX2) (T := TX2) (N := 4) hx hb hw zi_RX2 hown hK hP 0 rfl rfl 3 (by decide) (hw _ zm_96) (fun _ h9 => h9) rfl dX2_put_1 ?_
  refine lv_istore (lv' := [(5, .int 0), (0, .ref (ad 1)), (1, .int p0), (2, .int p1), (3, .int p2), (4, .int p3)]) hx hb dX2_put_4 hl (by decide) rfl (fun ls hl => ?_)
  refine lv_iload hx hb dX2_put_6 (lv_at hl 0 rfl) ?_
  refine lv_iconst (v := 3) hx hb dX2_put_8 (by decide) ?_
  refine lv_imul hx hb dX2_put_9 ?_
  refine lv_topi (fun f_1 ef_1 => ?_)
  obtain rfl : f_1 = 0 := ef_1.trans (by decide)
  refine lv_istore (lv' := [(6, .int 0), (5, .int 0), (0, .ref (ad 1)), (1, .int p0), (2, .int p1), (3, .int p2), (4, .int p3)]) hx hb dX2_put_10 hl (by decide) rfl (fun ls hl => ?_)
  refine lv_iload hx hb dX2_put_12 (lv_at hl 1 rfl) ?_
  refine lv_if_lt (tgt := 44) hx hb dX2_put_14 (by decide) (fun c_2 => absurd c_2 (by decide)) (fun _ => ?_)
  refine lv_iload hx hb dX2_put_17 (lv_at hl 1 rfl) ?_
  refine lv_aload_n hx hb dX2_put_19 rfl (lv_at hl 2 rfl) ?_
  refine va_get (D := D) (ci := 7) (v := .ref (ad 6)) (C := RX2) (T := TX2) (N := 4) hx hb hw zi_RX2 hown hK hP 0 rfl rfl 0 (by decide) (hw _ zm_93) (fun _ h9 => h9) rfl dX2_put_20 ?_
  refine va_alen (v := 12) hx hb hK hP 1 0 rfl rfl (by decide) dX2_put_23 ?_
  refine lv_icmp_ge (tgt := 44) hx hb dX2_put_24 (by decide) (fun c_3 => absurd c_3 (by decide)) (fun _ => ?_)
  refine lv_iload hx hb dX2_put_27 (lv_at hl 0 rfl) ?_
  refine lv_if_lt (tgt := 44) hx hb dX2_put_29 (by decide) (fun c_4 => absurd c_4 (by decide)) (fun _ => ?_)
  refine lv_iload hx hb dX2_put_32 (lv_at hl 0 rfl) ?_
  refine lv_iconst (v := 2) hx hb dX2_put_34 (by decide) ?_
  refine lv_iadd hx hb dX2_put_35 ?_
  refine lv_topi (fun f_5 ef_5 => ?_)
  obtain rfl : f_5 = 2 := ef_5.trans (by decide)
  refine lv_aload_n hx hb dX2_put_36 rfl (lv_at hl 2 rfl) ?_
  refine va_get (D := D) (ci := 7) (v := .ref (ad 7)) (C := RX2) (T := TX2) (N := 4) hx hb hw zi_RX2 hown hK hP 0 rfl rfl 1 (by decide) (hw _ zm_94) (fun _ h9 => h9) rfl dX2_put_37 ?_
  refine va_alen (v := 36) hx hb hK hP 2 1 rfl rfl (by decide) dX2_put_40 ?_
  refine lv_icmp_lt (tgt := 46) hx hb dX2_put_41 (by decide) (fun _ => ?_) (fun c_6 => absurd (by decide) c_6)
  refine lv_aload_n hx hb dX2_put_46 rfl (lv_at hl 2 rfl) ?_
  refine va_get (D := D) (ci := 7) (v := .ref (ad 6)) (C := RX2) (T := TX2) (N := 4) hx hb hw zi_RX2 hown hK hP 0 rfl rfl 0 (by decide) (hw _ zm_93) (fun _ h9 => h9) rfl dX2_put_47 ?_
  refine lv_iload hx hb dX2_put_50 (lv_at hl 1 rfl) ?_
  refine lv_iload_n hx hb dX2_put_52 rfl (lv_at hl 3 rfl) ?_
  refine va_cast hx hb hK hP hD hS 1 0 rfl rfl (by unfold vp_in; decide) dX2_put_53 (fun H locs hP hD hS => ?_)
  have hP : va_P D vwCl [((ad 1), .inr (7, [.ref (ad 6), .ref (ad 7), .ref (ad 8), .int 0])), ((ad 6), .inl (kC, 12, .inl (upd (fun _ => 0) (Int32.toNatClampNeg 0) (vp_nar .char p0)))), ((ad 7), .inl (kI, 36, .inl (fun _ => 0)))] H := hP
  have hD : va_D A [((ad 1), .inr (7, [.ref (ad 6), .ref (ad 7), .ref (ad 8), .int 0])), ((ad 6), .inl (kC, 12, .inl (upd (fun _ => 0) (Int32.toNatClampNeg 0) (vp_nar .char p0)))), ((ad 7), .inl (kI, 36, .inl (fun _ => 0)))] := hD
  have hK : va_K D vwCl [(kC, .char), (kI, .int)] s := hK
  refine lv_aload_n hx hb dX2_put_54 rfl (lv_at hl 2 rfl) ?_
  refine va_get (D := D) (ci := 7) (v := .ref (ad 7)) (C := RX2) (T := TX2) (N := 4) hx hb hw zi_RX2 hown hK hP 0 rfl rfl 1 (by decide) (hw _ zm_94) (fun _ h9 => h9) rfl dX2_put_55 ?_
  refine lv_iload hx hb dX2_put_58 (lv_at hl 0 rfl) ?_
  refine lv_iload_n hx hb dX2_put_60 rfl (lv_at hl 4 rfl) ?_
  refine va_iast hx hb hK hP hD hS 2 1 rfl rfl (by unfold vp_in; decide) dX2_put_61 (fun H locs hP hD hS => ?_)
  have hP : va_P D vwCl [((ad 1), .inr (7, [.ref (ad 6), .ref (ad 7), .ref (ad 8), .int 0])), ((ad 6), .inl (kC, 12, .inl (upd (fun _ => 0) (Int32.toNatClampNeg 0) (vp_nar .char p0)))), ((ad 7), .inl (kI, 36, .inl (upd (fun _ => 0) (Int32.toNatClampNeg 0) p1)))] H := hP
  have hD : va_D A [((ad 1), .inr (7, [.ref (ad 6), .ref (ad 7), .ref (ad 8), .int 0])), ((ad 6), .inl (kC, 12, .inl (upd (fun _ => 0) (Int32.toNatClampNeg 0) (vp_nar .char p0)))), ((ad 7), .inl (kI, 36, .inl (upd (fun _ => 0) (Int32.toNatClampNeg 0) p1)))] := hD
  have hK : va_K D vwCl [(kC, .char), (kI, .int)] s := hK
  refine lv_aload_n hx hb dX2_put_62 rfl (lv_at hl 2 rfl) ?_
  refine va_get (D := D) (ci := 7) (v := .ref (ad 7)) (C := RX2) (T := TX2) (N := 4) hx hb hw zi_RX2 hown hK hP 0 rfl rfl 1 (by decide) (hw _ zm_94) (fun _ h9 => h9) rfl dX2_put_63 ?_
  refine lv_iload hx hb dX2_put_66 (lv_at hl 0 rfl) ?_
  refine lv_iconst (v := 1) hx hb dX2_put_68 (by decide) ?_
  refine lv_iadd hx hb dX2_put_69 ?_
  refine lv_topi (fun f_7 ef_7 => ?_)
  obtain rfl : f_7 = 1 := ef_7.trans (by decide)
  refine lv_iload_n hx hb dX2_put_70 rfl (lv_at hl 5 rfl) ?_
  refine va_iast hx hb hK hP hD hS 2 1 rfl rfl (by unfold vp_in; decide) dX2_put_71 (fun H locs hP hD hS => ?_)
  have hP : va_P D vwCl [((ad 1), .inr (7, [.ref (ad 6), .ref (ad 7), .ref (ad 8), .int 0])), ((ad 6), .inl (kC, 12, .inl (upd (fun _ => 0) (Int32.toNatClampNeg 0) (vp_nar .char p0)))), ((ad 7), .inl (kI, 36, .inl (upd (upd (fun _ => 0) (Int32.toNatClampNeg 0) p1) (Int32.toNatClampNeg 1) p2)))] H := hP
  have hD : va_D A [((ad 1), .inr (7, [.ref (ad 6), .ref (ad 7), .ref (ad 8), .int 0])), ((ad 6), .inl (kC, 12, .inl (upd (fun _ => 0) (Int32.toNatClampNeg 0) (vp_nar .char p0)))), ((ad 7), .inl (kI, 36, .inl (upd (upd (fun _ => 0) (Int32.toNatClampNeg 0) p1) (Int32.toNatClampNeg 1) p2)))] := hD
  have hK : va_K D vwCl [(kC, .char), (kI, .int)] s := hK
  refine lv_aload_n hx hb dX2_put_72 rfl (lv_at hl 2 rfl) ?_
  refine va_get (D := D) (ci := 7) (v := .ref (ad 7)) (C := RX2) (T := TX2) (N := 4) hx hb hw zi_RX2 hown hK hP 0 rfl rfl 1 (by decide) (hw _ zm_94) (fun _ h9 => h9) rfl dX2_put_73 ?_
  refine lv_iload hx hb dX2_put_76 (lv_at hl 0 rfl) ?_
  refine lv_iconst (v := 2) hx hb dX2_put_78 (by decide) ?_
  refine lv_iadd hx hb dX2_put_79 ?_
  refine lv_topi (fun f_8 ef_8 => ?_)
  obtain rfl : f_8 = 2 := ef_8.trans (by decide)
  refine lv_iload hx hb dX2_put_80 (lv_at hl 6 rfl) ?_
  refine va_iast hx hb hK hP hD hS 2 1 rfl rfl (by unfold vp_in; decide) dX2_put_82 (fun H locs hP hD hS => ?_)
  have hP : va_P D vwCl [((ad 1), .inr (7, [.ref (ad 6), .ref (ad 7), .ref (ad 8), .int 0])), ((ad 6), .inl (kC, 12, .inl (upd (fun _ => 0) (Int32.toNatClampNeg 0) (vp_nar .char p0)))), ((ad 7), .inl (kI, 36, .inl (upd (upd (upd (fun _ => 0) (Int32.toNatClampNeg 0) p1) (Int32.toNatClampNeg 1) p2) (Int32.toNatClampNeg 2) p3)))] H := hP
  have hD : va_D A [((ad 1), .inr (7, [.ref (ad 6), .ref (ad 7), .ref (ad 8), .int 0])), ((ad 6), .inl (kC, 12, .inl (upd (fun _ => 0) (Int32.toNatClampNeg 0) (vp_nar .char p0)))), ((ad 7), .inl (kI, 36, .inl (upd (upd (upd (fun _ => 0) (Int32.toNatClampNeg 0) p1) (Int32.toNatClampNeg 1) p2) (Int32.toNatClampNeg 2) p3)))] := hD
  have hK : va_K D vwCl [(kC, .char), (kI, .int)] s := hK
  refine lv_aload_n hx hb dX2_put_83 rfl (lv_at hl 2 rfl) ?_
  refine lv_dup hx hb dX2_put_84 rfl ?_
  refine va_get (D := D) (ci := 7) (v := .int 0) (C := RX2) (T := TX2) (N := 4) hx hb hw zi_RX2 hown hK hP 0 rfl rfl 3 (by decide) (hw _ zm_96) (fun _ h9 => h9) rfl dX2_put_85 ?_
  refine lv_iconst (v := 1) hx hb dX2_put_88 (by decide) ?_
  refine lv_iadd hx hb dX2_put_89 ?_
  refine lv_topi (fun f_9 ef_9 => ?_)
  obtain rfl : f_9 = 1 := ef_9.trans (by decide)
  refine va_put (D := D) (ci := 7) (v := .int 1) (ty := .int) (C := RX2) (T := TX2) (N := 4) hx hb hw zi_RX2 tyX2 tyX2_ok nmX2 hown hK hP hD hS 0 rfl rfl 3 (by decide) (hw _ zm_96) (fun _ h9 => h9) rfl (by decide +kernel) rfl rfl (Nat.le_of_ble_eq_true rfl) dX2_put_90 (fun H locs hP hD hS => ?_)
  have hP : va_P D vwCl [((ad 1), .inr (7, [.ref (ad 6), .ref (ad 7), .ref (ad 8), .int 1])), ((ad 6), .inl (kC, 12, .inl (upd (fun _ => 0) (Int32.toNatClampNeg 0) (vp_nar .char p0)))), ((ad 7), .inl (kI, 36, .inl (upd (upd (upd (fun _ => 0) (Int32.toNatClampNeg 0) p1) (Int32.toNatClampNeg 1) p2) (Int32.toNatClampNeg 2) p3)))] H := hP
  have hD : va_D A [((ad 1), .inr (7, [.ref (ad 6), .ref (ad 7), .ref (ad 8), .int 1])), ((ad 6), .inl (kC, 12, .inl (upd (fun _ => 0) (Int32.toNatClampNeg 0) (vp_nar .char p0)))), ((ad 7), .inl (kI, 36, .inl (upd (upd (upd (fun _ => 0) (Int32.toNatClampNeg 0) p1) (Int32.toNatClampNeg 1) p2) (Int32.toNatClampNeg 2) p3)))] := hD
  have hK : va_K D vwCl [(kC, .char), (kI, .int)] s := hK
  refine lv_aload_n hx hb dX2_put_93 rfl (lv_at hl 2 rfl) ?_
  refine lv_iload hx hb dX2_put_94 (lv_at hl 1 rfl) ?_
  have hPc := hP.sub (ws' := [((ad 1), .inr (7, [.ref (ad 6), .ref (ad 7), .ref (ad 8), .int 1]))]) [0] rfl
  refine va_callv (va_runV (As := [.int 0]) (rest := []) ⟨hx, hb, hml, hown, hw⟩ (c_X2_measure l D sa ad _) (cwV 1 hw (zg4 zm_465 zm_467 zm_6 zm_46 zm_468) rfl rfl rfl (by decide +kernel) ⟨Nat.le_of_ble_eq_true rfl, Nat.le_of_ble_eq_true rfl⟩) ⟨zJ_blind, va_recv hK hPc (ci := 7) (q0 := 0) rfl rfl, zJ_pre hPc hK hT⟩ rfl rfl hl.1 rfl (lv_room (Nat.le_of_ble_eq_true rfl)) dX2_put_96 ⟨Nat.le_of_ble_eq_true rfl, Nat.le_of_ble_eq_true rfl⟩) hS zN_in (zN_fr hS hA) (fun u t H locs ht hvm hw1 hB hz1 hk1 hS => ?_)
  have hP := zN_keep hP hk1
  refine lv_iload hx hb dX2_put_99 (lv_at hl 1 rfl) ?_
  have hP9 := hP.sub (ws' := []) [] rfl
  have hD9 := hD.sub (ws' := []) [] (by decide) rfl
  refine W.widen (k := 0) (n := 0) (Nat.le_of_ble_eq_true rfl) (Nat.le_of_ble_eq_true rfl) ?_
  exact W.iret (v := 0) hx hb hr (fun t ht hW => ⟨⟨0, (), rfl, rfl, by rw [ht]; exact hP9, hD9⟩, hS.F ht⟩) hS.2.2 dX2_put_101
theorem dX5_addShade_44 : decode cX5_addShade 44 = .ok (.aload_n 0, 1) := by decide +kernel
theorem dX5_addShade_45 : decode cX5_addShade 45 = .ok (.getfield 10, 3) := by decide +kernel
theorem dX5_addShade_48 : decode cX5_addShade 48 = .ok (.iload_n 1, 1) := by decide +kernel
theorem dX5_addShade_49 : decode cX5_addShade 49 = .ok (.invokevirtual 66, 3) := by decide +kernel
theorem zm_421 : Cond.methodLink RX5 66 yX2_hasLetter ∈ WA := zmm (i := 421) (by decide +kernel) (by decide +kernel)
theorem zm_422 : Cond.instanceMethod yX2_hasLetter ∈ WA := zmm (i := 422) (by decide +kernel) (by decide +kernel)
theorem zm_423 : Cond.selects RX2 yX2_hasLetter yX2_hasLetter ∈ WA := zmm (i := 423) (by decide +kernel) (by decide +kernel)
theorem zm_424 : Cond.code yX2_hasLetter prog_4_method_3_code 3 (Option.some FieldType.boolean) ∈ WA := zmm (i := 424) (by decide +kernel) (by decide +kernel)
theorem dX5_addShade_52 : decode cX5_addShade 52 = .ok (.ifCond .eq 13, 3) := by decide +kernel
theorem dX5_addShade_65 : decode cX5_addShade 65 = .ok (.aload_n 0, 1) := by decide +kernel
theorem dX5_addShade_66 : decode cX5_addShade 66 = .ok (.getfield 10, 3) := by decide +kernel
theorem dX5_addShade_69 : decode cX5_addShade 69 = .ok (.invokevirtual 75, 3) := by decide +kernel
theorem zm_441 : Cond.methodLink RX5 75 yX2_isFull ∈ WA := zmm (i := 441) (by decide +kernel) (by decide +kernel)
theorem zm_442 : Cond.instanceMethod yX2_isFull ∈ WA := zmm (i := 442) (by decide +kernel) (by decide +kernel)
theorem zm_443 : Cond.selects RX2 yX2_isFull yX2_isFull ∈ WA := zmm (i := 443) (by decide +kernel) (by decide +kernel)
theorem zm_444 : Cond.code yX2_isFull prog_4_method_4_code 1 (Option.some FieldType.boolean) ∈ WA := zmm (i := 444) (by decide +kernel) (by decide +kernel)
theorem dX5_addShade_72 : decode cX5_addShade 72 = .ok (.ifCond .eq 13, 3) := by decide +kernel
theorem dX5_addShade_85 : decode cX5_addShade 85 = .ok (.aload_n 0, 1) := by decide +kernel
theorem dX5_addShade_86 : decode cX5_addShade 86 = .ok (.getfield 10, 3) := by decide +kernel
theorem dX5_addShade_89 : decode cX5_addShade 89 = .ok (.iload_n 1, 1) := by decide +kernel
theorem dX5_addShade_90 : decode cX5_addShade 90 = .ok (.iload_n 2, 1) := by decide +kernel
theorem dX5_addShade_91 : decode cX5_addShade 91 = .ok (.iload_n 3, 1) := by decide +kernel
theorem dX5_addShade_92 : decode cX5_addShade 92 = .ok (.iload 4, 2) := by decide +kernel
theorem dX5_addShade_94 : decode cX5_addShade 94 = .ok (.invokevirtual 84, 3) := by decide +kernel
theorem zm_461 : Cond.methodLink RX5 84 yX2_put ∈ WA := zmm (i := 461) (by decide +kernel) (by decide +kernel)
theorem zm_462 : Cond.instanceMethod yX2_put ∈ WA := zmm (i := 462) (by decide +kernel) (by decide +kernel)
theorem zm_463 : Cond.selects RX2 yX2_put yX2_put ∈ WA := zmm (i := 463) (by decide +kernel) (by decide +kernel)
theorem zm_464 : Cond.code yX2_put prog_4_method_5_code 7 (Option.some FieldType.int) ∈ WA := zmm (i := 464) (by decide +kernel) (by decide +kernel)
theorem dX5_addShade_97 : decode cX5_addShade 97 = .ok (.ireturn, 1) := by decide +kernel
set_option maxHeartbeats 4000000 in
set_option maxRecDepth 100000 in
theorem c_X5_addShade4 (l : Launch) (D : va_G) (sa : Nat → Nat) (ea : Nat) (ad : Nat → Nat) (kC kI : ClassId) (sz : Nat) (p0 : Int32) (p1 : Int32) (p2 : Int32) (p3 : Int32) (hy0 : z_in p0 65 90 = 1) (hy1 : z_in p1 0 31 = 1) (hy2 : z_in p2 0 31 = 1) (hy3 : z_in p3 0 31 = 1) : Met l yX5_addShade ((Cond.code yX5_addShade prog_1_method_2_code 5 (Option.some FieldType.int)) :: WA) ({ frames := 2, cells := 0, slots := 0, locals := 49 }) (zW D sa ea [(kC, .char), (kI, .int)] [((ad 0), .inr (10, [.ref (ad 1), .ref (ad 2), .ref (ad 3), .ref (ad 4), .ref (ad 5), .int (-1), .int 100, .int 0, .int 0])), ((ad 1), .inr (7, [.ref (ad 6), .ref (ad 7), .ref (ad 8), .int 0])), ((ad 2), .inr (8, [.ref (ad 9), .ref (ad 10), .int 0])), ((ad 3), .inr (4, [.int 0, .ref (ad 14), .int 0])), ((ad 4), .inr (4, [.int 0, .ref (ad 14), .int 0])), ((ad 5), .inr (6, [.ref (ad 11), .ref (ad 12), .ref (ad 13), .int 0, .int 0])), ((ad 6), .inl (kC, 12, .inl (fun _ => 0))), ((ad 7), .inl (kI, 36, .inl (fun _ => 0)))] [.ref (ad 0), .int p0, .int p1, .int p2, .int p3] sz) (va_Qi (fun (r : Int32) (_ : Unit) => r = 0) (fun _ t => va_P D vwCl [] t.heap ∧ va_D (va_A [((ad 0), .inr (10, [.ref (ad 1), .ref (ad 2), .ref (ad 3), .ref (ad 4), .ref (ad 5), .int (-1), .int 100, .int 0, .int 0])), ((ad 1), .inr (7, [.ref (ad 6), .ref (ad 7), .ref (ad 8), .int 0])), ((ad 2), .inr (8, [.ref (ad 9), .ref (ad 10), .int 0])), ((ad 3), .inr (4, [.int 0, .ref (ad 14), .int 0])), ((ad 4), .inr (4, [.int 0, .ref (ad 14), .int 0])), ((ad 5), .inr (6, [.ref (ad 11), .ref (ad 12), .ref (ad 13), .int 0, .int 0])), ((ad 6), .inl (kC, 12, .inl (fun _ => 0))), ((ad 7), .inl (kI, 36, .inl (fun _ => 0)))] sz) []) (va_A [((ad 0), .inr (10, [.ref (ad 1), .ref (ad 2), .ref (ad 3), .ref (ad 4), .ref (ad 5), .int (-1), .int 100, .int 0, .int 0])), ((ad 1), .inr (7, [.ref (ad 6), .ref (ad 7), .ref (ad 8), .int 0])), ((ad 2), .inr (8, [.ref (ad 9), .ref (ad 10), .int 0])), ((ad 3), .inr (4, [.int 0, .ref (ad 14), .int 0])), ((ad 4), .inr (4, [.int 0, .ref (ad 14), .int 0])), ((ad 5), .inr (6, [.ref (ad 11), .ref (ad 12), .ref (ad 13), .int 0, .int 0])), ((ad 6), .inl (kC, 12, .inl (fun _ => 0))), ((ad 7), .inl (kI, 36, .inl (fun _ => 0)))] sz)) 0 0 (va_A [((ad 0), .inr (10, [.ref (ad 1), .ref (ad 2), .ref (ad 3), .ref (ad 4), .ref (ad 5), .int (-1), .int 100, .int 0, .int 0])), ((ad 1), .inr (7, [.ref (ad 6), .ref (ad 7), .ref (ad 8), .int 0])), ((ad 2), .inr (8, [.ref (ad 9), .ref (ad 10), .int 0])), ((ad 3), .inr (4, [.int 0, .ref (ad 14), .int 0])), ((ad 4), .inr (4, [.int 0, .ref (ad 14), .int 0])), ((ad 5), .inr (6, [.ref (ad 11), .ref (ad 12), .ref (ad 13), .int 0, .int 0])), ((ad 6), .inl (kC, 12, .inl (fun _ => 0))), ((ad 7), .inl (kI, 36, .inl (fun _ => 0)))] sz) := by
  refine Met.ofW (cc := prog_1_method_2_code) (maxL := 5) (ret := (Option.some FieldType.int)) (by decide) rfl ?_
  intro p e s m args below meth c s₁ B hml hv
  obtain ⟨rfl, hsz, hP, hK, hD0, hT, hE⟩ := hv
  have hx := B.exec
  have hb := B.bytes
  have hr := B.returns
  have hts := atoms_spec (ws := (Cond.code yX5_addShade prog_1_method_2_code 5 (Option.some FieldType.int)) :: WA) B.pre
  have hw : ∀ w ∈ WA, w.before _ s = true := fun w h => hts w (List.mem_cons_of_mem _ h)
  have hown : s.vm.findClass RX5 = some m.cls := findClass_of_methodNamed B.named
  have hlocks := B.notSynchronized
  subst hsz
  have hD := hD0.self (sz := s.heap.size)
  generalize hAe : va_A [((ad 0), .inr (10, [.ref (ad 1), .ref (ad 2), .ref (ad 3), .ref (ad 4), .ref (ad 5), .int (-1), .int 100, .int 0, .int 0])), ((ad 1), .inr (7, [.ref (ad 6), .ref (ad 7), .ref (ad 8), .int 0])), ((ad 2), .inr (8, [.ref (ad 9), .ref (ad 10), .int 0])), ((ad 3), .inr (4, [.int 0, .ref (ad 14), .int 0])), ((ad 4), .inr (4, [.int 0, .ref (ad 14), .int 0])), ((ad 5), .inr (6, [.ref (ad 11), .ref (ad 12), .ref (ad 13), .int 0, .int 0])), ((ad 6), .inl (kC, 12, .inl (fun _ => 0))), ((ad 7), .inl (kI, 36, .inl (fun _ => 0)))] s.heap.size = A at hD hE ⊢
  have hA : ∀ q : Nat, s.heap.size ≤ q → A q := fun q h => by rw [← hAe]; exact Or.inr h
  have hS : va_S A s.heap s.heap [] := va_S.rf
  have hP : va_P D vwCl [((ad 0), .inr (10, [.ref (ad 1), .ref (ad 2), .ref (ad 3), .ref (ad 4), .ref (ad 5), .int (-1), .int 100, .int 0, .int 0])), ((ad 1), .inr (7, [.ref (ad 6), .ref (ad 7), .ref (ad 8), .int 0])), ((ad 2), .inr (8, [.ref (ad 9), .ref (ad 10), .int 0])), ((ad 3), .inr (4, [.int 0, .ref (ad 14), .int 0])), ((ad 4), .inr (4, [.int 0, .ref (ad 14), .int 0])), ((ad 5), .inr (6, [.ref (ad 11), .ref (ad 12), .ref (ad 13), .int 0, .int 0])), ((ad 6), .inl (kC, 12, .inl (fun _ => 0))), ((ad 7), .inl (kI, 36, .inl (fun _ => 0)))] s.heap := hP
  have hD : va_D A [((ad 0), .inr (10, [.ref (ad 1), .ref (ad 2), .ref (ad 3), .ref (ad 4), .ref (ad 5), .int (-1), .int 100, .int 0, .int 0])), ((ad 1), .inr (7, [.ref (ad 6), .ref (ad 7), .ref (ad 8), .int 0])), ((ad 2), .inr (8, [.ref (ad 9), .ref (ad 10), .int 0])), ((ad 3), .inr (4, [.int 0, .ref (ad 14), .int 0])), ((ad 4), .inr (4, [.int 0, .ref (ad 14), .int 0])), ((ad 5), .inr (6, [.ref (ad 11), .ref (ad 12), .ref (ad 13), .int 0, .int 0])), ((ad 6), .inl (kC, 12, .inl (fun _ => 0))), ((ad 7), .inl (kI, 36, .inl (fun _ => 0)))] := hD
  have hl := lv_entry [.ref (ad 0), .int p0, .int p1, .int p2, .int p3] (n := 5) (Nat.le_of_ble_eq_true rfl)
  rw [lg_entry_eq]
  generalize (lg_sl [.ref (ad 0), .int p0, .int p1, .int p2, .int p3] ++ List.replicate (5 - (lg_sl [.ref (ad 0), .int p0, .int p1, .int p2, .int p3]).length) Slot.unset).toArray = ls at hl ⊢
  have hl : lv_has ls 5 [(0, .ref (ad 0)), (1, .int p0), (2, .int p1), (3, .int p2), (4, .int p3)] := hl
  refine lv_iload_n hx hb dX5_addShade_0 rfl (lv_at hl 1 rfl) ?_
  refine lv_bipush (v := 65) hx hb dX5_addShade_1 (by decide) ?_
  refine lv_icmp_lt (tgt := 12) hx hb dX5_addShade_3 (by decide) (fun c_1 => absurd c_1 (z_1a hy0)) (fun _ => ?_)
  refine lv_iload_n hx hb dX5_addShade_6 rfl (lv_at hl 1 rfl) ?_
  refine lv_bipush (v := 90) hx hb dX5_addShade_7 (by decide) ?_
  refine lv_icmp_le (tgt := 22) hx hb dX5_addShade_9 (by decide) (fun _ => ?_) (fun c_2 => absurd (zl_le (z_1b hy0)) c_2)
  refine lv_iload_n hx hb dX5_addShade_22 rfl (lv_at hl 2 rfl) ?_
  refine lv_iconst (v := 0) hx hb dX5_addShade_23 (by decide) ?_
  refine lv_bipush (v := 31) hx hb dX5_addShade_24 (by decide) ?_
  have hPc := hP.sub (ws' := []) [] rfl
  refine va_callv (va_runS (As := [.int p1, .int 0, .int 31]) (rest := []) ⟨hx, hb, hml, hown, hw⟩ (c_X5_requireWithin1 l D sa _ p1 0 31 hy1) (va_cwS 3 hw (zg3 zm_414 zm_415 zm_45 zm_416) rfl rfl rfl (by decide +kernel) ⟨Nat.le_of_ble_eq_true rfl, Nat.le_of_ble_eq_true rfl⟩) ⟨zJ_blind, zJ_pre hPc hK hT⟩ rfl rfl hl.1 rfl (lv_room (Nat.le_of_ble_eq_true rfl)) dX5_addShade_26 ⟨Nat.le_of_ble_eq_true rfl, Nat.le_of_ble_eq_true rfl⟩) hS zN_in (zN_fr hS hA) (fun u t H locs ht hvm hw1 hB hz1 hk1 hS => ?_)
  have hP := zN_keep hP hk1
  refine lv_iload_n hx hb dX5_addShade_29 rfl (lv_at hl 3 rfl) ?_
  refine lv_iconst (v := 0) hx hb dX5_addShade_30 (by decide) ?_
  refine lv_bipush (v := 31) hx hb dX5_addShade_31 (by decide) ?_
  have hPc := hP.sub (ws' := []) [] rfl
  refine va_callv (va_runS (As := [.int p2, .int 0, .int 31]) (rest := []) ⟨hx, hb, hml, hown, hw⟩ (c_X5_requireWithin1 l D sa _ p2 0 31 hy2) (va_cwS 3 hw (zg3 zm_414 zm_415 zm_45 zm_416) rfl rfl rfl (by decide +kernel) ⟨Nat.le_of_ble_eq_true rfl, Nat.le_of_ble_eq_true rfl⟩) ⟨zJ_blind, zJ_pre hPc hK hT⟩ rfl rfl hl.1 rfl (lv_room (Nat.le_of_ble_eq_true rfl)) dX5_addShade_33 ⟨Nat.le_of_ble_eq_true rfl, Nat.le_of_ble_eq_true rfl⟩) hS zN_in (zN_fr hS hA) (fun u t H locs ht hvm hw1 hB hz1 hk1 hS => ?_)
  have hP := zN_keep hP hk1
  refine lv_iload hx hb dX5_addShade_36 (lv_at hl 4 rfl) ?_
  refine lv_iconst (v := 0) hx hb dX5_addShade_38 (by decide) ?_
  refine lv_bipush (v := 31) hx hb dX5_addShade_39 (by decide) ?_
  have hPc := hP.sub (ws' := []) [] rfl
  refine va_callv (va_runS (As := [.int p3, .int 0, .int 31]) (rest := []) ⟨hx, hb, hml, hown, hw⟩ (c_X5_requireWithin1 l D sa _ p3 0 31 hy3) (va_cwS 3 hw (zg3 zm_414 zm_415 zm_45 zm_416) rfl rfl rfl (by decide +kernel) ⟨Nat.le_of_ble_eq_true rfl, Nat.le_of_ble_eq_true rfl⟩) ⟨zJ_blind, zJ_pre hPc hK hT⟩ rfl rfl hl.1 rfl (lv_room (Nat.le_of_ble_eq_true rfl)) dX5_addShade_41 ⟨Nat.le_of_ble_eq_true rfl, Nat.le_of_ble_eq_true rfl⟩) hS zN_in (zN_fr hS hA) (fun u t H locs ht hvm hw1 hB hz1 hk1 hS => ?_)
  have hP := zN_keep hP hk1
  refine lv_aload_n hx hb dX5_addShade_44 rfl (lv_at hl 0 rfl) ?_
  refine va_get (D := D) (ci := 10) (v := .ref (ad 1)) (C := RX5) (T := TX5) (N := 9) hx hb hw zi_RX5 hown hK hP 0 rfl rfl 0 (by decide) (hw _ zm_182) (fun _ h9 => h9) rfl dX5_addShade_45 ?_
  refine lv_iload_n hx hb dX5_addShade_48 rfl (lv_at hl 1 rfl) ?_
  have hPc := hP.sub (ws' := [((ad 1), .inr (7, [.ref (ad 6), .ref (ad 7), .ref (ad 8), .int 0]))]) [1] rfl
  refine va_calli (va_runV (As := [.int p0]) (rest := []) ⟨hx, hb, hml, hown, hw⟩ (c_X2_hasLetter l D sa ad _ p0) (cwV 1 hw (zg4 zm_421 zm_422 zm_423 zm_46 zm_424) rfl rfl rfl (by decide +kernel) ⟨Nat.le_of_ble_eq_true rfl, Nat.le_of_ble_eq_true rfl⟩) ⟨zJ_blind, va_recv hK hPc (ci := 7) (q0 := 0) rfl rfl, zJ_pre hPc hK hT⟩ rfl rfl hl.1 rfl (lv_room (Nat.le_of_ble_eq_true rfl)) dX5_addShade_49 ⟨Nat.le_of_ble_eq_true rfl, Nat.le_of_ble_eq_true rfl⟩) hS zN_in (zN_fr hS hA) (fun r_6 u t H locs ht hvm hw1 hB hz1 hk1 hS => ?_)
  have hP := zN_keep hP hk1
  subst hw1
  refine lv_if_eq (tgt := 65) hx hb dX5_addShade_52 (by decide) (fun _ => ?_) (fun c_7 => absurd (by decide) c_7)
  refine lv_aload_n hx hb dX5_addShade_65 rfl (lv_at hl 0 rfl) ?_
  refine va_get (D := D) (ci := 10) (v := .ref (ad 1)) (C := RX5) (T := TX5) (N := 9) hx hb hw zi_RX5 hown hK hP 0 rfl rfl 0 (by decide) (hw _ zm_182) (fun _ h9 => h9) rfl dX5_addShade_66 ?_
  have hPc := hP.sub (ws' := [((ad 1), .inr (7, [.ref (ad 6), .ref (ad 7), .ref (ad 8), .int 0]))]) [1] rfl
  refine va_calli (va_runV (As := []) (rest := []) ⟨hx, hb, hml, hown, hw⟩ (c_X2_isFull l D sa ad _) (cwV 0 hw (zg4 zm_441 zm_442 zm_443 zm_46 zm_444) rfl rfl rfl (by decide +kernel) ⟨Nat.le_of_ble_eq_true rfl, Nat.le_of_ble_eq_true rfl⟩) ⟨zJ_blind, va_recv hK hPc (ci := 7) (q0 := 0) rfl rfl, zJ_pre hPc hK hT⟩ rfl rfl hl.1 rfl (lv_room (Nat.le_of_ble_eq_true rfl)) dX5_addShade_69 ⟨Nat.le_of_ble_eq_true rfl, Nat.le_of_ble_eq_true rfl⟩) hS zN_in (zN_fr hS hA) (fun r_8 u t H locs ht hvm hw1 hB hz1 hk1 hS => ?_)
  have hP := zN_keep hP hk1
  subst hw1
  refine lv_if_eq (tgt := 85) hx hb dX5_addShade_72 (by decide) (fun _ => ?_) (fun c_9 => absurd (by decide) c_9)
  refine lv_aload_n hx hb dX5_addShade_85 rfl (lv_at hl 0 rfl) ?_
  refine va_get (D := D) (ci := 10) (v := .ref (ad 1)) (C := RX5) (T := TX5) (N := 9) hx hb hw zi_RX5 hown hK hP 0 rfl rfl 0 (by decide) (hw _ zm_182) (fun _ h9 => h9) rfl dX5_addShade_86 ?_
  refine lv_iload_n hx hb dX5_addShade_89 rfl (lv_at hl 1 rfl) ?_
  refine lv_iload_n hx hb dX5_addShade_90 rfl (lv_at hl 2 rfl) ?_
  refine lv_iload_n hx hb dX5_addShade_91 rfl (lv_at hl 3 rfl) ?_
  refine lv_iload hx hb dX5_addShade_92 (lv_at hl 4 rfl) ?_
  have hPc := hP.sub (ws' := [((ad 1), .inr (7, [.ref (ad 6), .ref (ad 7), .ref (ad 8), .int 0])), ((ad 6), .inl (kC, 12, .inl (fun _ => 0))), ((ad 7), .inl (kI, 36, .inl (fun _ => 0)))]) [1, 6, 7] rfl
  have hDc := hD.sub (ws' := [((ad 1), .inr (7, [.ref (ad 6), .ref (ad 7), .ref (ad 8), .int 0])), ((ad 6), .inl (kC, 12, .inl (fun _ => 0))), ((ad 7), .inl (kI, 36, .inl (fun _ => 0)))]) [1, 6, 7] (by decide) rfl
  have hFc := va_free (wc := [((ad 1), .inr (7, [.ref (ad 6), .ref (ad 7), .ref (ad 8), .int 0])), ((ad 6), .inl (kC, 12, .inl (fun _ => 0))), ((ad 7), .inl (kI, 36, .inl (fun _ => 0)))]) hD hS hA [1, 6, 7] rfl
  refine va_calli (va_runV (As := [.int p0, .int p1, .int p2, .int p3]) (rest := []) ⟨hx, hb, hml, hown, hw⟩ (c_X2_put l D sa ea ad kC kI _ p0 p1 p2 p3) (cwV 4 hw (zg4 zm_461 zm_462 zm_463 zm_46 zm_464) rfl rfl rfl (by decide +kernel) ⟨Nat.le_of_ble_eq_true rfl, Nat.le_of_ble_eq_true rfl⟩) ⟨zW_blind, va_recv hK hPc (ci := 7) (q0 := 0) rfl rfl, zW_pre hPc hK hDc hT hE hS hFc⟩ rfl rfl hl.1 rfl (lv_room (Nat.le_of_ble_eq_true rfl)) dX5_addShade_94 ⟨Nat.le_of_ble_eq_true rfl, Nat.le_of_ble_eq_true rfl⟩) hS (fun q _ h => hFc q h) hFc (fun r_10 u t H locs ht hvm hw1 hB hz1 hk1 hS => ?_)
  subst hw1
  obtain ⟨hP1, hD1⟩ := hB
  rw [ht] at hP1
  obtain ⟨hP, hD⟩ := va_join (wr := [((ad 0), .inr (10, [.ref (ad 1), .ref (ad 2), .ref (ad 3), .ref (ad 4), .ref (ad 5), .int (-1), .int 100, .int 0, .int 0])), ((ad 2), .inr (8, [.ref (ad 9), .ref (ad 10), .int 0])), ((ad 3), .inr (4, [.int 0, .ref (ad 14), .int 0])), ((ad 4), .inr (4, [.int 0, .ref (ad 14), .int 0])), ((ad 5), .inr (6, [.ref (ad 11), .ref (ad 12), .ref (ad 13), .int 0, .int 0]))]) (w1 := []) hP hD [1, 6, 7] [0, 2, 3, 4, 5] rfl rfl (by decide) (by decide) hk1 hFc hP1 hD1
  have hP : va_P D vwCl [((ad 0), .inr (10, [.ref (ad 1), .ref (ad 2), .ref (ad 3), .ref (ad 4), .ref (ad 5), .int (-1), .int 100, .int 0, .int 0])), ((ad 2), .inr (8, [.ref (ad 9), .ref (ad 10), .int 0])), ((ad 3), .inr (4, [.int 0, .ref (ad 14), .int 0])), ((ad 4), .inr (4, [.int 0, .ref (ad 14), .int 0])), ((ad 5), .inr (6, [.ref (ad 11), .ref (ad 12), .ref (ad 13), .int 0, .int 0]))] H := hP
  have hD : va_D A [((ad 0), .inr (10, [.ref (ad 1), .ref (ad 2), .ref (ad 3), .ref (ad 4), .ref (ad 5), .int (-1), .int 100, .int 0, .int 0])), ((ad 2), .inr (8, [.ref (ad 9), .ref (ad 10), .int 0])), ((ad 3), .inr (4, [.int 0, .ref (ad 14), .int 0])), ((ad 4), .inr (4, [.int 0, .ref (ad 14), .int 0])), ((ad 5), .inr (6, [.ref (ad 11), .ref (ad 12), .ref (ad 13), .int 0, .int 0]))] := hD
  have hK : va_K D vwCl [(kC, .char), (kI, .int)] s := hK
  have hP9 := hP.sub (ws' := []) [] rfl
  have hD9 := hD.sub (ws' := []) [] (by decide) rfl
  refine W.widen (k := 0) (n := 0) (Nat.le_of_ble_eq_true rfl) (Nat.le_of_ble_eq_true rfl) ?_
  exact W.iret (v := 0) hx hb hr (fun t ht hW => ⟨⟨0, (), rfl, rfl, by rw [ht]; exact hP9, hD9⟩, hS.F ht⟩) hS.2.2 dX5_addShade_97
theorem dL_addShade_12 : decode cL_addShade 12 = .ok (.i2l, 1) := by decide +kernel
theorem dL_addShade_13 : decode cL_addShade 13 = .ok (.lastore, 1) := by decide +kernel
theorem dL_addShade_14 : decode cL_addShade 14 = .ok (.goto 15, 3) := by decide +kernel
theorem dL_addShade_29 : decode cL_addShade 29 = .ok (.iconst 0, 1) := by decide +kernel
theorem dL_addShade_30 : decode cL_addShade 30 = .ok (.ireturn, 1) := by decide +kernel
set_option maxHeartbeats 4000000 in
set_option maxRecDepth 100000 in
theorem c_L_addShade4 (l : Launch) (D : va_G) (sa : Nat → Nat) (ea : Nat) (ad : Nat → Nat) (kC kI : ClassId) (oa : Nat) (cO : ClassId) (sz : Nat) (p0 : Int32) (p1 : Int32) (p2 : Int32) (p3 : Int32) (hy0 : z_in p0 65 90 = 1) (hy1 : z_in p1 0 31 = 1) (hy2 : z_in p2 0 31 = 1) (hy3 : z_in p3 0 31 = 1) : vx_Met l yL_addShade ((Cond.codeWith yL_addShade method_3_code 7 (Option.some FieldType.int) [(0, 14, 17, 13), (0, 14, 21, 15), (0, 14, 25, 17)]) :: WA) ({ frames := 3, cells := 0, slots := 0, locals := 73 }) (zW D sa ea [(kC, .char), (kI, .int), (cO, .long)] [((ad 0), .inr (10, [.ref (ad 1), .ref (ad 2), .ref (ad 3), .ref (ad 4), .ref (ad 5), .int (-1), .int 100, .int 0, .int 0])), ((ad 1), .inr (7, [.ref (ad 6), .ref (ad 7), .ref (ad 8), .int 0])), ((ad 2), .inr (8, [.ref (ad 9), .ref (ad 10), .int 0])), ((ad 3), .inr (4, [.int 0, .ref (ad 14), .int 0])), ((ad 4), .inr (4, [.int 0, .ref (ad 14), .int 0])), ((ad 5), .inr (6, [.ref (ad 11), .ref (ad 12), .ref (ad 13), .int 0, .int 0])), ((ad 6), .inl (kC, 12, .inl (fun _ => 0))), ((ad 7), .inl (kI, 36, .inl (fun _ => 0))), (oa, .inl (cO, 1, .inr (.inl (fun _ => 0))))] [.ref (ad 0), .int p0, .int p1, .int p2, .int p3, .ref oa] sz) (va_Qi (fun (r : Int32) (_ : Unit) => r = 0) (fun _ t => va_P D vwCl [(oa, .inl (cO, 1, .inr (.inl (vp_updL (fun _ => 0) (Int32.toNatClampNeg 0) 0))))] t.heap ∧ va_D (va_A [((ad 0), .inr (10, [.ref (ad 1), .ref (ad 2), .ref (ad 3), .ref (ad 4), .ref (ad 5), .int (-1), .int 100, .int 0, .int 0])), ((ad 1), .inr (7, [.ref (ad 6), .ref (ad 7), .ref (ad 8), .int 0])), ((ad 2), .inr (8, [.ref (ad 9), .ref (ad 10), .int 0])), ((ad 3), .inr (4, [.int 0, .ref (ad 14), .int 0])), ((ad 4), .inr (4, [.int 0, .ref (ad 14), .int 0])), ((ad 5), .inr (6, [.ref (ad 11), .ref (ad 12), .ref (ad 13), .int 0, .int 0])), ((ad 6), .inl (kC, 12, .inl (fun _ => 0))), ((ad 7), .inl (kI, 36, .inl (fun _ => 0))), (oa, .inl (cO, 1, .inr (.inl (fun _ => 0))))] sz) [(oa, .inl (cO, 1, .inr (.inl (vp_updL (fun _ => 0) (Int32.toNatClampNeg 0) 0))))]) (va_A [((ad 0), .inr (10, [.ref (ad 1), .ref (ad 2), .ref (ad 3), .ref (ad 4), .ref (ad 5), .int (-1), .int 100, .int 0, .int 0])), ((ad 1), .inr (7, [.ref (ad 6), .ref (ad 7), .ref (ad 8), .int 0])), ((ad 2), .inr (8, [.ref (ad 9), .ref (ad 10), .int 0])), ((ad 3), .inr (4, [.int 0, .ref (ad 14), .int 0])), ((ad 4), .inr (4, [.int 0, .ref (ad 14), .int 0])), ((ad 5), .inr (6, [.ref (ad 11), .ref (ad 12), .ref (ad 13), .int 0, .int 0])), ((ad 6), .inl (kC, 12, .inl (fun _ => 0))), ((ad 7), .inl (kI, 36, .inl (fun _ => 0))), (oa, .inl (cO, 1, .inr (.inl (fun _ => 0))))] sz)) (zX0 sz) 0 0 (va_A [((ad 0), .inr (10, [.ref (ad 1), .ref (ad 2), .ref (ad 3), .ref (ad 4), .ref (ad 5), .int (-1), .int 100, .int 0, .int 0])), ((ad 1), .inr (7, [.ref (ad 6), .ref (ad 7), .ref (ad 8), .int 0])), ((ad 2), .inr (8, [.ref (ad 9), .ref (ad 10), .int 0])), ((ad 3), .inr (4, [.int 0, .ref (ad 14), .int 0])), ((ad 4), .inr (4, [.int 0, .ref (ad 14), .int 0])), ((ad 5), .inr (6, [.ref (ad 11), .ref (ad 12), .ref (ad 13), .int 0, .int 0])), ((ad 6), .inl (kC, 12, .inl (fun _ => 0))), ((ad 7), .inl (kI, 36, .inl (fun _ => 0))), (oa, .inl (cO, 1, .inr (.inl (fun _ => 0))))] sz) := by
  refine vx_ofWH (cc := method_3_code) (maxL := 7) (ret := (Option.some FieldType.int)) (hh := [(0, 14, 17, 13), (0, 14, 21, 15), (0, 14, 25, 17)]) (by decide) rfl ?_
  intro p e s m args below meth c s₁ B hml hv
  obtain ⟨rfl, hsz, hP, hK, hD0, hT, hE⟩ := hv
  have hx := B.exec
  have hb := B.bytes
  have hr := B.returns
  have hts := atoms_spec (ws := (Cond.codeWith yL_addShade method_3_code 7 (Option.some FieldType.int) [(0, 14, 17, 13), (0, 14, 21, 15), (0, 14, 25, 17)]) :: WA) B.pre
  have hw : ∀ w ∈ WA, w.before _ s = true := fun w h => hts w (List.mem_cons_of_mem _ h)
  have htab := vx_table (x := yL_addShade) B (hts _ List.mem_cons_self)
  have hown : s.vm.findClass RL = some m.cls := findClass_of_methodNamed B.named
  have hlocks := B.notSynchronized
  subst hsz
  have hD := hD0.self (sz := s.heap.size)
  generalize hAe : va_A [((ad 0), .inr (10, [.ref (ad 1), .ref (ad 2), .ref (ad 3), .ref (ad 4), .ref (ad 5), .int (-1), .int 100, .int 0, .int 0])), ((ad 1), .inr (7, [.ref (ad 6), .ref (ad 7), .ref (ad 8), .int 0])), ((ad 2), .inr (8, [.ref (ad 9), .ref (ad 10), .int 0])), ((ad 3), .inr (4, [.int 0, .ref (ad 14), .int 0])), ((ad 4), .inr (4, [.int 0, .ref (ad 14), .int 0])), ((ad 5), .inr (6, [.ref (ad 11), .ref (ad 12), .ref (ad 13), .int 0, .int 0])), ((ad 6), .inl (kC, 12, .inl (fun _ => 0))), ((ad 7), .inl (kI, 36, .inl (fun _ => 0))), (oa, .inl (cO, 1, .inr (.inl (fun _ => 0))))] s.heap.size = A at hD hE ⊢
  have hA : ∀ q : Nat, s.heap.size ≤ q → A q := fun q h => by rw [← hAe]; exact Or.inr h
  have hS : va_S A s.heap s.heap [] := va_S.rf
  have hP : va_P D vwCl [((ad 0), .inr (10, [.ref (ad 1), .ref (ad 2), .ref (ad 3), .ref (ad 4), .ref (ad 5), .int (-1), .int 100, .int 0, .int 0])), ((ad 1), .inr (7, [.ref (ad 6), .ref (ad 7), .ref (ad 8), .int 0])), ((ad 2), .inr (8, [.ref (ad 9), .ref (ad 10), .int 0])), ((ad 3), .inr (4, [.int 0, .ref (ad 14), .int 0])), ((ad 4), .inr (4, [.int 0, .ref (ad 14), .int 0])), ((ad 5), .inr (6, [.ref (ad 11), .ref (ad 12), .ref (ad 13), .int 0, .int 0])), ((ad 6), .inl (kC, 12, .inl (fun _ => 0))), ((ad 7), .inl (kI, 36, .inl (fun _ => 0))), (oa, .inl (cO, 1, .inr (.inl (fun _ => 0))))] s.heap := hP
  have hD : va_D A [((ad 0), .inr (10, [.ref (ad 1), .ref (ad 2), .ref (ad 3), .ref (ad 4), .ref (ad 5), .int (-1), .int 100, .int 0, .int 0])), ((ad 1), .inr (7, [.ref (ad 6), .ref (ad 7), .ref (ad 8), .int 0])), ((ad 2), .inr (8, [.ref (ad 9), .ref (ad 10), .int 0])), ((ad 3), .inr (4, [.int 0, .ref (ad 14), .int 0])), ((ad 4), .inr (4, [.int 0, .ref (ad 14), .int 0])), ((ad 5), .inr (6, [.ref (ad 11), .ref (ad 12), .ref (ad 13), .int 0, .int 0])), ((ad 6), .inl (kC, 12, .inl (fun _ => 0))), ((ad 7), .inl (kI, 36, .inl (fun _ => 0))), (oa, .inl (cO, 1, .inr (.inl (fun _ => 0))))] := hD
  have hl := lv_entry [.ref (ad 0), .int p0, .int p1, .int p2, .int p3, .ref oa] (n := 7) (Nat.le_of_ble_eq_true rfl)
  rw [lg_entry_eq]
  generalize (lg_sl [.ref (ad 0), .int p0, .int p1, .int p2, .int p3, .ref oa] ++ List.replicate (7 - (lg_sl [.ref (ad 0), .int p0, .int p1, .int p2, .int p3, .ref oa]).length) Slot.unset).toArray = ls at hl ⊢
  have hl : lv_has ls 7 [(0, .ref (ad 0)), (1, .int p0), (2, .int p1), (3, .int p2), (4, .int p3), (5, .ref oa)] := hl
  refine lv_aload hx hb dL_addShade_0 (lv_at hl 5 rfl) ?_
  refine lv_iconst (v := 0) hx hb dL_addShade_2 (by decide) ?_
  refine lv_aload_n hx hb dL_addShade_3 rfl (lv_at hl 0 rfl) ?_
  refine lv_iload_n hx hb dL_addShade_4 rfl (lv_at hl 1 rfl) ?_
  refine lv_iload_n hx hb dL_addShade_5 rfl (lv_at hl 2 rfl) ?_
  refine lv_iload_n hx hb dL_addShade_6 rfl (lv_at hl 3 rfl) ?_
  refine lv_iload hx hb dL_addShade_7 (lv_at hl 4 rfl) ?_
  have hPc := hP.sub (ws' := [((ad 0), .inr (10, [.ref (ad 1), .ref (ad 2), .ref (ad 3), .ref (ad 4), .ref (ad 5), .int (-1), .int 100, .int 0, .int 0])), ((ad 1), .inr (7, [.ref (ad 6), .ref (ad 7), .ref (ad 8), .int 0])), ((ad 2), .inr (8, [.ref (ad 9), .ref (ad 10), .int 0])), ((ad 3), .inr (4, [.int 0, .ref (ad 14), .int 0])), ((ad 4), .inr (4, [.int 0, .ref (ad 14), .int 0])), ((ad 5), .inr (6, [.ref (ad 11), .ref (ad 12), .ref (ad 13), .int 0, .int 0])), ((ad 6), .inl (kC, 12, .inl (fun _ => 0))), ((ad 7), .inl (kI, 36, .inl (fun _ => 0)))]) [0, 1, 2, 3, 4, 5, 6, 7] rfl
  have hDc := hD.sub (ws' := [((ad 0), .inr (10, [.ref (ad 1), .ref (ad 2), .ref (ad 3), .ref (ad 4), .ref (ad 5), .int (-1), .int 100, .int 0, .int 0])), ((ad 1), .inr (7, [.ref (ad 6), .ref (ad 7), .ref (ad 8), .int 0])), ((ad 2), .inr (8, [.ref (ad 9), .ref (ad 10), .int 0])), ((ad 3), .inr (4, [.int 0, .ref (ad 14), .int 0])), ((ad 4), .inr (4, [.int 0, .ref (ad 14), .int 0])), ((ad 5), .inr (6, [.ref (ad 11), .ref (ad 12), .ref (ad 13), .int 0, .int 0])), ((ad 6), .inl (kC, 12, .inl (fun _ => 0))), ((ad 7), .inl (kI, 36, .inl (fun _ => 0)))]) [0, 1, 2, 3, 4, 5, 6, 7] (by decide) rfl
  have hFc := va_free (wc := [((ad 0), .inr (10, [.ref (ad 1), .ref (ad 2), .ref (ad 3), .ref (ad 4), .ref (ad 5), .int (-1), .int 100, .int 0, .int 0])), ((ad 1), .inr (7, [.ref (ad 6), .ref (ad 7), .ref (ad 8), .int 0])), ((ad 2), .inr (8, [.ref (ad 9), .ref (ad 10), .int 0])), ((ad 3), .inr (4, [.int 0, .ref (ad 14), .int 0])), ((ad 4), .inr (4, [.int 0, .ref (ad 14), .int 0])), ((ad 5), .inr (6, [.ref (ad 11), .ref (ad 12), .ref (ad 13), .int 0, .int 0])), ((ad 6), .inl (kC, 12, .inl (fun _ => 0))), ((ad 7), .inl (kI, 36, .inl (fun _ => 0)))]) hD hS hA [0, 1, 2, 3, 4, 5, 6, 7] rfl
  refine va_calli (va_runV (As := [.int p0, .int p1, .int p2, .int p3]) (rest := [.int 0, .ref oa]) ⟨hx, hb, hml, hown, hw⟩ (c_X5_addShade4 l D sa ea ad kC kI _ p0 p1 p2 p3 hy0 hy1 hy2 hy3) (cwV 4 hw (zg4 zm_338 zm_339 zm_340 zm_45 zm_341) rfl rfl rfl (by decide +kernel) ⟨Nat.le_of_ble_eq_true rfl, Nat.le_of_ble_eq_true rfl⟩) ⟨zW_blind, va_recv hK hPc (ci := 10) (q0 := 0) rfl rfl, zW_pre hPc (hK.sub (tys' := [(kC, .char), (kI, .int)]) [0, 1] rfl) hDc hT hE hS hFc⟩ rfl rfl hl.1 rfl (lv_room (Nat.le_of_ble_eq_true rfl)) dL_addShade_9 ⟨Nat.le_of_ble_eq_true rfl, Nat.le_of_ble_eq_true rfl⟩) hS (fun q _ h => hFc q h) hFc (fun r_1 u t H locs ht hvm hw1 hB hz1 hk1 hS => ?_)
  subst hw1
  obtain ⟨hP1, hD1⟩ := hB
  rw [ht] at hP1
  obtain ⟨hP, hD⟩ := va_join (wr := [(oa, .inl (cO, 1, .inr (.inl (fun _ => 0))))]) (w1 := []) hP hD [0, 1, 2, 3, 4, 5, 6, 7] [8] rfl rfl (by decide) (by decide) hk1 hFc hP1 hD1
  have hP : va_P D vwCl [(oa, .inl (cO, 1, .inr (.inl (fun _ => 0))))] H := hP
  have hD : va_D A [(oa, .inl (cO, 1, .inr (.inl (fun _ => 0))))] := hD
  have hK : va_K D vwCl [(kC, .char), (kI, .int), (cO, .long)] s := hK
  refine lv_i2l (v := 0) hx hb dL_addShade_12 (by decide) ?_
  refine va_last hx hb hK hP hD hS 0 2 rfl rfl (by unfold vp_in; decide) dL_addShade_13 (fun H locs hP hD hS => ?_)
  have hP : va_P D vwCl [(oa, .inl (cO, 1, .inr (.inl (vp_updL (fun _ => 0) (Int32.toNatClampNeg 0) 0))))] H := hP
  have hD : va_D A [(oa, .inl (cO, 1, .inr (.inl (vp_updL (fun _ => 0) (Int32.toNatClampNeg 0) 0))))] := hD
  have hK : va_K D vwCl [(kC, .char), (kI, .int), (cO, .long)] s := hK
  refine lv_goto (tgt := 29) hx hb dL_addShade_14 (by decide) ?_
  refine lv_iconst (v := 0) hx hb dL_addShade_29 (by decide) ?_
  refine vx_ret ?_
  have hP9 := hP.sub (ws' := [(oa, .inl (cO, 1, .inr (.inl (vp_updL (fun _ => 0) (Int32.toNatClampNeg 0) 0))))]) [0] rfl
  have hD9 := hD.sub (ws' := [(oa, .inl (cO, 1, .inr (.inl (vp_updL (fun _ => 0) (Int32.toNatClampNeg 0) 0))))]) [0] (by decide) rfl
  refine W.widen (k := 0) (n := 0) (Nat.le_of_ble_eq_true rfl) (Nat.le_of_ble_eq_true rfl) ?_
  exact W.iret (v := 0) hx hb hr (fun t ht hW => ⟨⟨0, (), rfl, rfl, by rw [ht]; exact hP9, hD9⟩, hS.F ht⟩) hS.2.2 dL_addShade_30
