theorem zl_topf {p : Program} {l : Launch} {e : Env} {R : Room} {s : State} {m : MethodId} {args : Array Value} {below : List Frame} {meth : Method} {c : Code} {H : Heap} {locs : List Loc} {cells slots : Nat} {Q : State → Prop} {pc : Nat} {ls : Array Slot} {rest : List Value} {x : UInt32} (k : ∀ y : UInt32, W p l e R s m args below meth c H locs cells slots Q (F0 m pc ls (.float y :: rest))) : W p l e R s m args below meth c H locs cells slots Q (F0 m pc ls (.float x :: rest)) := k x
theorem zl_topd {p : Program} {l : Launch} {e : Env} {R : Room} {s : State} {m : MethodId} {args : Array Value} {below : List Frame} {meth : Method} {c : Code} {H : Heap} {locs : List Loc} {cells slots : Nat} {Q : State → Prop} {pc : Nat} {ls : Array Slot} {rest : List Value} {x : UInt64} (k : ∀ y : UInt64, W p l e R s m args below meth c H locs cells slots Q (F0 m pc ls (.double y :: rest))) : W p l e R s m args below meth c H locs cells slots Q (F0 m pc ls (.double x :: rest)) := k x
theorem dX5_getWaste_0 : decode cX5_getWaste 0 = .ok (.aload_n 0, 1) := by decide +kernel
theorem dX5_getWaste_1 : decode cX5_getWaste 1 = .ok (.getfield 52, 3) := by decide +kernel
theorem zm_190 : Cond.fieldLink RX5 52 RX5 "waste" "I" ∈ WA := zmm (i := 190) (by decide +kernel) (by decide +kernel)
theorem dX5_getWaste_4 : decode cX5_getWaste 4 = .ok (.ireturn, 1) := by decide +kernel
set_option maxHeartbeats 4000000 in
set_option maxRecDepth 100000 in
theorem c_X5_getWaste (l : Launch) (D : va_G) (sa : Nat → Nat) (ad : Nat → Nat) (sz : Nat) : Met l yX5_getWaste ((Cond.code yX5_getWaste prog_1_method_40_code 1 (Option.some FieldType.int)) :: WA) ({ frames := 0, cells := 0, slots := 0, locals := 0 }) (zJ D sa (zX ad) [.ref (ad 0)] sz) (va_Qi (fun (r : Int32) (_ : Unit) => r = 0) (fun _ _ => True) (zN sz)) 0 0 (zN sz) := by
  refine Met.ofW (cc := prog_1_method_40_code) (maxL := 1) (ret := (Option.some FieldType.int)) (by decide) rfl ?_
  intro p e s m args below meth c s₁ B hml hv
  obtain ⟨rfl, hsz, hP, hK, hT⟩ := hv
  have hx := B.exec
  have hb := B.bytes
  have hr := B.returns
  have hts := atoms_spec (ws := (Cond.code yX5_getWaste prog_1_method_40_code 1 (Option.some FieldType.int)) :: WA) B.pre
  have hw : ∀ w ∈ WA, w.before _ s = true := fun w h => hts w (List.mem_cons_of_mem _ h)
  have hown : s.vm.findClass RX5 = some m.cls := findClass_of_methodNamed B.named
  have hlocks := B.notSynchronized
  subst hsz
  have hA : ∀ q : Nat, s.heap.size ≤ q → zN s.heap.size q := fun _ h => h
  have hS : va_S (zN s.heap.size) s.heap s.heap [] := va_S.rf
  have hP : va_P D vwCl [((ad 0), .inr (10, [.ref (ad 1), .ref (ad 2), .ref (ad 3), .ref (ad 4), .ref (ad 5), .int (-1), .int 100, .int 0, .int 0])), ((ad 1), .inr (7, [.ref (ad 6), .ref (ad 7), .ref (ad 8), .int 0])), ((ad 2), .inr (8, [.ref (ad 9), .ref (ad 10), .int 0])), ((ad 3), .inr (4, [.int 0, .ref (ad 14), .int 0])), ((ad 4), .inr (4, [.int 0, .ref (ad 14), .int 0])), ((ad 5), .inr (6, [.ref (ad 11), .ref (ad 12), .ref (ad 13), .int 0, .int 0]))] s.heap := hP
  have hl := lv_entry [.ref (ad 0)] (n := 1) (Nat.le_of_ble_eq_true rfl)
  rw [lg_entry_eq]
  generalize (lg_sl [.ref (ad 0)] ++ List.replicate (1 - (lg_sl [.ref (ad 0)]).length) Slot.unset).toArray = ls at hl ⊢
  have hl : lv_has ls 1 [(0, .ref (ad 0))] := hl
  refine lv_aload_n hx hb dX5_getWaste_0 rfl (lv_at hl 0 rfl) ?_
  refine va_get (D := D) (ci := 10) (v := .int 0) (C := RX5) (T := TX5) (N := 9) hx hb hw zi_RX5 hown hK hP 0 rfl rfl 8 (by decide) (hw _ zm_190) (fun _ h9 => h9) rfl dX5_getWaste_1 ?_
  exact W.iret (v := 0) hx hb hr (fun t ht hW => ⟨⟨0, (), rfl, rfl, trivial⟩, hS.F ht⟩) hS.2.2 dX5_getWaste_4
theorem dX9_getWaste_0 : decode cX9_getWaste 0 = .ok (.aload_n 0, 1) := by decide +kernel
theorem dX9_getWaste_1 : decode cX9_getWaste 1 = .ok (.getfield 218, 3) := by decide +kernel
theorem zm_1280 : Cond.fieldLink RX9 218 RX9 "waste" "I" ∈ WA := zmm (i := 1280) (by decide +kernel) (by decide +kernel)
theorem dX9_getWaste_4 : decode cX9_getWaste 4 = .ok (.ireturn, 1) := by decide +kernel
set_option maxHeartbeats 4000000 in
set_option maxRecDepth 100000 in
theorem c_X9_getWaste (l : Launch) (D : va_G) (sa : Nat → Nat) (bd : Nat → Nat) (th : Int32) (sz : Nat) : Met l yX9_getWaste ((Cond.code yX9_getWaste prog_8_method_58_code 1 (Option.some FieldType.int)) :: WA) ({ frames := 0, cells := 0, slots := 0, locals := 0 }) (zJ D sa (zM bd th) [.ref (bd 0)] sz) (va_Qi (fun (r : Int32) (_ : Unit) => r = 0) (fun _ _ => True) (zN sz)) 0 0 (zN sz) := by
  refine Met.ofW (cc := prog_8_method_58_code) (maxL := 1) (ret := (Option.some FieldType.int)) (by decide) rfl ?_
  intro p e s m args below meth c s₁ B hml hv
  obtain ⟨rfl, hsz, hP, hK, hT⟩ := hv
  have hx := B.exec
  have hb := B.bytes
  have hr := B.returns
  have hts := atoms_spec (ws := (Cond.code yX9_getWaste prog_8_method_58_code 1 (Option.some FieldType.int)) :: WA) B.pre
  have hw : ∀ w ∈ WA, w.before _ s = true := fun w h => hts w (List.mem_cons_of_mem _ h)
  have hown : s.vm.findClass RX9 = some m.cls := findClass_of_methodNamed B.named
  have hlocks := B.notSynchronized
  subst hsz
  have hA : ∀ q : Nat, s.heap.size ≤ q → zN s.heap.size q := fun _ h => h
  have hS : va_S (zN s.heap.size) s.heap s.heap [] := va_S.rf
  have hP : va_P D vwCl [((bd 0), .inr (14, [.ref (bd 1), .ref (bd 2), .ref (bd 3), .ref (bd 4), .ref (bd 5), .ref (bd 6), .int 100, .int (-1), .int 0, .int th])), ((bd 1), .inr (4, [.int 0, .ref (bd 7), .int 0])), ((bd 2), .inr (4, [.int 0, .ref (bd 7), .int 0])), ((bd 3), .inr (4, [.int 0, .ref (bd 7), .int 0])), ((bd 4), .inr (4, [.int 0, .ref (bd 7), .int 0])), ((bd 5), .inr (4, [.int 0, .ref (bd 7), .int 0])), ((bd 6), .inr (4, [.int 0, .ref (bd 7), .int 0]))] s.heap := hP
  have hl := lv_entry [.ref (bd 0)] (n := 1) (Nat.le_of_ble_eq_true rfl)
  rw [lg_entry_eq]
  generalize (lg_sl [.ref (bd 0)] ++ List.replicate (1 - (lg_sl [.ref (bd 0)]).length) Slot.unset).toArray = ls at hl ⊢
  have hl : lv_has ls 1 [(0, .ref (bd 0))] := hl
  refine lv_aload_n hx hb dX9_getWaste_0 rfl (lv_at hl 0 rfl) ?_
  refine va_get (D := D) (ci := 14) (v := .int 0) (C := RX9) (T := TX9) (N := 10) hx hb hw zi_RX9 hown hK hP 0 rfl rfl 8 (by decide) (hw _ zm_1280) (fun _ h9 => h9) rfl dX9_getWaste_1 ?_
  exact W.iret (v := 0) hx hb hr (fun t ht hW => ⟨⟨0, (), rfl, rfl, trivial⟩, hS.F ht⟩) hS.2.2 dX9_getWaste_4
theorem dX9_isSound_0 : decode cX9_isSound 0 = .ok (.iconst 1, 1) := by decide +kernel
theorem dX9_isSound_1 : decode cX9_isSound 1 = .ok (.ireturn, 1) := by decide +kernel
set_option maxHeartbeats 4000000 in
set_option maxRecDepth 100000 in
theorem c_X9_isSound (l : Launch) (D : va_G) (sa : Nat → Nat) (bd : Nat → Nat) (th : Int32) (sz : Nat) : Met l yX9_isSound ((Cond.code yX9_isSound prog_8_method_72_code 1 (Option.some FieldType.boolean)) :: WA) ({ frames := 0, cells := 0, slots := 0, locals := 0 }) (zJ D sa (zM bd th) [.ref (bd 0)] sz) (va_Qi (fun (r : Int32) (_ : Unit) => r = 1) (fun _ _ => True) (zN sz)) 0 0 (zN sz) := by
  refine Met.ofW (cc := prog_8_method_72_code) (maxL := 1) (ret := (Option.some FieldType.boolean)) (by decide) rfl ?_
  intro p e s m args below meth c s₁ B hml hv
  obtain ⟨rfl, hsz, hP, hK, hT⟩ := hv
  have hx := B.exec
  have hb := B.bytes
  have hr := B.returns
  have hts := atoms_spec (ws := (Cond.code yX9_isSound prog_8_method_72_code 1 (Option.some FieldType.boolean)) :: WA) B.pre
  have hw : ∀ w ∈ WA, w.before _ s = true := fun w h => hts w (List.mem_cons_of_mem _ h)
  have hown : s.vm.findClass RX9 = some m.cls := findClass_of_methodNamed B.named
  have hlocks := B.notSynchronized
  subst hsz
  have hA : ∀ q : Nat, s.heap.size ≤ q → zN s.heap.size q := fun _ h => h
  have hS : va_S (zN s.heap.size) s.heap s.heap [] := va_S.rf
  have hP : va_P D vwCl [((bd 0), .inr (14, [.ref (bd 1), .ref (bd 2), .ref (bd 3), .ref (bd 4), .ref (bd 5), .ref (bd 6), .int 100, .int (-1), .int 0, .int th])), ((bd 1), .inr (4, [.int 0, .ref (bd 7), .int 0])), ((bd 2), .inr (4, [.int 0, .ref (bd 7), .int 0])), ((bd 3), .inr (4, [.int 0, .ref (bd 7), .int 0])), ((bd 4), .inr (4, [.int 0, .ref (bd 7), .int 0])), ((bd 5), .inr (4, [.int 0, .ref (bd 7), .int 0])), ((bd 6), .inr (4, [.int 0, .ref (bd 7), .int 0]))] s.heap := hP
  have hl := lv_entry [.ref (bd 0)] (n := 1) (Nat.le_of_ble_eq_true rfl)
  rw [lg_entry_eq]
  generalize (lg_sl [.ref (bd 0)] ++ List.replicate (1 - (lg_sl [.ref (bd 0)]).length) Slot.unset).toArray = ls at hl ⊢
  have hl : lv_has ls 1 [(0, .ref (bd 0))] := hl
  refine lv_iconst (v := 1) hx hb dX9_isSound_0 (by decide) ?_
  exact W.zret (v := 1) hx hb hr (by decide) (fun t ht hW => ⟨⟨1, (), rfl, rfl, trivial⟩, hS.F ht⟩) hS.2.2 dX9_isSound_1
theorem dX5_areRoundsSound_0 : decode cX5_areRoundsSound 0 = .ok (.iconst 0, 1) := by decide +kernel
theorem dX5_areRoundsSound_1 : decode cX5_areRoundsSound 1 = .ok (.istore_n 1, 1) := by decide +kernel
theorem dX5_areRoundsSound_2 : decode cX5_areRoundsSound 2 = .ok (.iload_n 1, 1) := by decide +kernel
theorem dX5_areRoundsSound_3 : decode cX5_areRoundsSound 3 = .ok (.aload_n 0, 1) := by decide +kernel
theorem dX5_areRoundsSound_4 : decode cX5_areRoundsSound 4 = .ok (.getfield 28, 3) := by decide +kernel
theorem dX5_areRoundsSound_7 : decode cX5_areRoundsSound 7 = .ok (.invokevirtual 167, 3) := by decide +kernel
theorem dX5_areRoundsSound_10 : decode cX5_areRoundsSound 10 = .ok (.if_icmp .ge 47, 3) := by decide +kernel
theorem dX5_areRoundsSound_57 : decode cX5_areRoundsSound 57 = .ok (.iconst 1, 1) := by decide +kernel
theorem dX5_areRoundsSound_58 : decode cX5_areRoundsSound 58 = .ok (.ireturn, 1) := by decide +kernel
set_option maxHeartbeats 4000000 in
set_option maxRecDepth 100000 in
theorem c_X5_areRoundsSound (l : Launch) (D : va_G) (sa : Nat → Nat) (ad : Nat → Nat) (sz : Nat) : Met l yX5_areRoundsSound ((Cond.code yX5_areRoundsSound prog_1_method_75_code 3 (Option.some FieldType.boolean)) :: WA) ({ frames := 1, cells := 0, slots := 0, locals := 20 }) (zJ D sa (zX ad) [.ref (ad 0)] sz) (va_Qi (fun (r : Int32) (_ : Unit) => r = 1) (fun _ _ => True) (zN sz)) 0 0 (zN sz) := by
  refine Met.ofW (cc := prog_1_method_75_code) (maxL := 3) (ret := (Option.some FieldType.boolean)) (by decide) rfl ?_
  intro p e s m args below meth c s₁ B hml hv
  obtain ⟨rfl, hsz, hP, hK, hT⟩ := hv
  have hx := B.exec
  have hb := B.bytes
  have hr := B.returns
  have hts := atoms_spec (ws := (Cond.code yX5_areRoundsSound prog_1_method_75_code 3 (Option.some FieldType.boolean)) :: WA) B.pre
  have hw : ∀ w ∈ WA, w.before _ s = true := fun w h => hts w (List.mem_cons_of_mem _ h)
  have hown : s.vm.findClass RX5 = some m.cls := findClass_of_methodNamed B.named
  have hlocks := B.notSynchronized
  subst hsz
  have hA : ∀ q : Nat, s.heap.size ≤ q → zN s.heap.size q := fun _ h => h
  have hS : va_S (zN s.heap.size) s.heap s.heap [] := va_S.rf
  have hP : va_P D vwCl [((ad 0), .inr (10, [.ref (ad 1), .ref (ad 2), .ref (ad 3), .ref (ad 4), .ref (ad 5), .int (-1), .int 100, .int 0, .int 0])), ((ad 1), .inr (7, [.ref (ad 6), .ref (ad 7), .ref (ad 8), .int 0])), ((ad 2), .inr (8, [.ref (ad 9), .ref (ad 10), .int 0])), ((ad 3), .inr (4, [.int 0, .ref (ad 14), .int 0])), ((ad 4), .inr (4, [.int 0, .ref (ad 14), .int 0])), ((ad 5), .inr (6, [.ref (ad 11), .ref (ad 12), .ref (ad 13), .int 0, .int 0]))] s.heap := hP
  have hl := lv_entry [.ref (ad 0)] (n := 3) (Nat.le_of_ble_eq_true rfl)
  rw [lg_entry_eq]
  generalize (lg_sl [.ref (ad 0)] ++ List.replicate (3 - (lg_sl [.ref (ad 0)]).length) Slot.unset).toArray = ls at hl ⊢
  have hl : lv_has ls 3 [(0, .ref (ad 0))] := hl
  refine lv_iconst (v := 0) hx hb dX5_areRoundsSound_0 (by decide) ?_
  refine lv_istore_n (lv' := [(1, .int 0), (0, .ref (ad 0))]) hx hb dX5_areRoundsSound_1 rfl hl (by decide) rfl (fun ls hl => ?_)
  refine lv_iload_n hx hb dX5_areRoundsSound_2 rfl (lv_at hl 0 rfl) ?_
  refine lv_aload_n hx hb dX5_areRoundsSound_3 rfl (lv_at hl 1 rfl) ?_
  refine va_get (D := D) (ci := 10) (v := .ref (ad 3)) (C := RX5) (T := TX5) (N := 9) hx hb hw zi_RX5 hown hK hP 0 rfl rfl 2 (by decide) (hw _ zm_184) (fun _ h9 => h9) rfl dX5_areRoundsSound_4 ?_
  have hPc := hP.sub (ws' := [((ad 3), .inr (4, [.int 0, .ref (ad 14), .int 0]))]) [3] rfl
  refine va_calli (va_runV (As := []) (rest := [.int 0]) ⟨hx, hb, hml, hown, hw⟩ (c_Jx4a65c_size_8abf5 l D sa (ad 3) 0 (ad 14) _) (cwV 0 hw (zg4 zm_239 zm_240 zm_241 zm_51 zm_242) rfl rfl rfl (by decide +kernel) ⟨Nat.le_of_ble_eq_true rfl, Nat.le_of_ble_eq_true rfl⟩) ⟨zJ_blind, va_recv hK hPc (ci := 4) (q0 := 0) rfl rfl, zJ_pre hPc hK hT⟩ rfl rfl hl.1 rfl (lv_room (Nat.le_of_ble_eq_true rfl)) dX5_areRoundsSound_7 ⟨Nat.le_of_ble_eq_true rfl, Nat.le_of_ble_eq_true rfl⟩) hS zN_in (zN_fr hS hA) (fun r_1 u t H locs ht hvm hw1 hB hz1 hk1 hS => ?_)
  have hP := zN_keep hP hk1
  subst hw1
  refine lv_icmp_ge (tgt := 57) hx hb dX5_areRoundsSound_10 (by decide) (fun _ => ?_) (fun c_2 => absurd (by decide) c_2)
  refine lv_iconst (v := 1) hx hb dX5_areRoundsSound_57 (by decide) ?_
  exact W.zret (v := 1) hx hb hr (by decide) (fun t ht hW => ⟨⟨1, (), rfl, rfl, trivial⟩, hS.F ht⟩) hS.2.2 dX5_areRoundsSound_58
theorem dX5_doFormsTellLikeness_0 : decode cX5_doFormsTellLikeness 0 = .ok (.iconst 0, 1) := by decide +kernel
theorem dX5_doFormsTellLikeness_1 : decode cX5_doFormsTellLikeness 1 = .ok (.istore_n 1, 1) := by decide +kernel
theorem dX5_doFormsTellLikeness_2 : decode cX5_doFormsTellLikeness 2 = .ok (.iload_n 1, 1) := by decide +kernel
theorem dX5_doFormsTellLikeness_3 : decode cX5_doFormsTellLikeness 3 = .ok (.aload_n 0, 1) := by decide +kernel
theorem dX5_doFormsTellLikeness_4 : decode cX5_doFormsTellLikeness 4 = .ok (.getfield 28, 3) := by decide +kernel
theorem dX5_doFormsTellLikeness_7 : decode cX5_doFormsTellLikeness 7 = .ok (.invokevirtual 167, 3) := by decide +kernel
theorem dX5_doFormsTellLikeness_10 : decode cX5_doFormsTellLikeness 10 = .ok (.if_icmp .ge 82, 3) := by decide +kernel
theorem dX5_doFormsTellLikeness_92 : decode cX5_doFormsTellLikeness 92 = .ok (.iconst 1, 1) := by decide +kernel
theorem dX5_doFormsTellLikeness_93 : decode cX5_doFormsTellLikeness 93 = .ok (.ireturn, 1) := by decide +kernel
set_option maxHeartbeats 4000000 in
set_option maxRecDepth 100000 in
theorem c_X5_doFormsTellLikeness (l : Launch) (D : va_G) (sa : Nat → Nat) (ad : Nat → Nat) (sz : Nat) : Met l yX5_doFormsTellLikeness ((Cond.code yX5_doFormsTellLikeness prog_1_method_76_code 6 (Option.some FieldType.boolean)) :: WA) ({ frames := 1, cells := 0, slots := 0, locals := 20 }) (zJ D sa (zX ad) [.ref (ad 0)] sz) (va_Qi (fun (r : Int32) (_ : Unit) => r = 1) (fun _ _ => True) (zN sz)) 0 0 (zN sz) := by
  refine Met.ofW (cc := prog_1_method_76_code) (maxL := 6) (ret := (Option.some FieldType.boolean)) (by decide) rfl ?_
  intro p e s m args below meth c s₁ B hml hv
  obtain ⟨rfl, hsz, hP, hK, hT⟩ := hv
  have hx := B.exec
  have hb := B.bytes
  have hr := B.returns
  have hts := atoms_spec (ws := (Cond.code yX5_doFormsTellLikeness prog_1_method_76_code 6 (Option.some FieldType.boolean)) :: WA) B.pre
  have hw : ∀ w ∈ WA, w.before _ s = true := fun w h => hts w (List.mem_cons_of_mem _ h)
  have hown : s.vm.findClass RX5 = some m.cls := findClass_of_methodNamed B.named
  have hlocks := B.notSynchronized
  subst hsz
  have hA : ∀ q : Nat, s.heap.size ≤ q → zN s.heap.size q := fun _ h => h
  have hS : va_S (zN s.heap.size) s.heap s.heap [] := va_S.rf
  have hP : va_P D vwCl [((ad 0), .inr (10, [.ref (ad 1), .ref (ad 2), .ref (ad 3), .ref (ad 4), .ref (ad 5), .int (-1), .int 100, .int 0, .int 0])), ((ad 1), .inr (7, [.ref (ad 6), .ref (ad 7), .ref (ad 8), .int 0])), ((ad 2), .inr (8, [.ref (ad 9), .ref (ad 10), .int 0])), ((ad 3), .inr (4, [.int 0, .ref (ad 14), .int 0])), ((ad 4), .inr (4, [.int 0, .ref (ad 14), .int 0])), ((ad 5), .inr (6, [.ref (ad 11), .ref (ad 12), .ref (ad 13), .int 0, .int 0]))] s.heap := hP
  have hl := lv_entry [.ref (ad 0)] (n := 6) (Nat.le_of_ble_eq_true rfl)
  rw [lg_entry_eq]
  generalize (lg_sl [.ref (ad 0)] ++ List.replicate (6 - (lg_sl [.ref (ad 0)]).length) Slot.unset).toArray = ls at hl ⊢
  have hl : lv_has ls 6 [(0, .ref (ad 0))] := hl
  refine lv_iconst (v := 0) hx hb dX5_doFormsTellLikeness_0 (by decide) ?_
  refine lv_istore_n (lv' := [(1, .int 0), (0, .ref (ad 0))]) hx hb dX5_doFormsTellLikeness_1 rfl hl (by decide) rfl (fun ls hl => ?_)
  refine lv_iload_n hx hb dX5_doFormsTellLikeness_2 rfl (lv_at hl 0 rfl) ?_
  refine lv_aload_n hx hb dX5_doFormsTellLikeness_3 rfl (lv_at hl 1 rfl) ?_
  refine va_get (D := D) (ci := 10) (v := .ref (ad 3)) (C := RX5) (T := TX5) (N := 9) hx hb hw zi_RX5 hown hK hP 0 rfl rfl 2 (by decide) (hw _ zm_184) (fun _ h9 => h9) rfl dX5_doFormsTellLikeness_4 ?_
  have hPc := hP.sub (ws' := [((ad 3), .inr (4, [.int 0, .ref (ad 14), .int 0]))]) [3] rfl
  refine va_calli (va_runV (As := []) (rest := [.int 0]) ⟨hx, hb, hml, hown, hw⟩ (c_Jx4a65c_size_8abf5 l D sa (ad 3) 0 (ad 14) _) (cwV 0 hw (zg4 zm_239 zm_240 zm_241 zm_51 zm_242) rfl rfl rfl (by decide +kernel) ⟨Nat.le_of_ble_eq_true rfl, Nat.le_of_ble_eq_true rfl⟩) ⟨zJ_blind, va_recv hK hPc (ci := 4) (q0 := 0) rfl rfl, zJ_pre hPc hK hT⟩ rfl rfl hl.1 rfl (lv_room (Nat.le_of_ble_eq_true rfl)) dX5_doFormsTellLikeness_7 ⟨Nat.le_of_ble_eq_true rfl, Nat.le_of_ble_eq_true rfl⟩) hS zN_in (zN_fr hS hA) (fun r_1 u t H locs ht hvm hw1 hB hz1 hk1 hS => ?_)
  have hP := zN_keep hP hk1
  subst hw1
  refine lv_icmp_ge (tgt := 92) hx hb dX5_doFormsTellLikeness_10 (by decide) (fun _ => ?_) (fun c_2 => absurd (by decide) c_2)
  refine lv_iconst (v := 1) hx hb dX5_doFormsTellLikeness_92 (by decide) ?_
  exact W.zret (v := 1) hx hb hr (by decide) (fun t ht hW => ⟨⟨1, (), rfl, rfl, trivial⟩, hS.F ht⟩) hS.2.2 dX5_doFormsTellLikeness_93
theorem dX5_areWarpsSound_0 : decode cX5_areWarpsSound 0 = .ok (.iconst 0, 1) := by decide +kernel
theorem dX5_areWarpsSound_1 : decode cX5_areWarpsSound 1 = .ok (.istore_n 1, 1) := by decide +kernel
theorem dX5_areWarpsSound_2 : decode cX5_areWarpsSound 2 = .ok (.iload_n 1, 1) := by decide +kernel
theorem dX5_areWarpsSound_3 : decode cX5_areWarpsSound 3 = .ok (.aload_n 0, 1) := by decide +kernel
theorem dX5_areWarpsSound_4 : decode cX5_areWarpsSound 4 = .ok (.getfield 38, 3) := by decide +kernel
theorem dX5_areWarpsSound_7 : decode cX5_areWarpsSound 7 = .ok (.getfield 437, 3) := by decide +kernel
theorem dX5_areWarpsSound_10 : decode cX5_areWarpsSound 10 = .ok (.if_icmp .ge 22, 3) := by decide +kernel
theorem dX5_areWarpsSound_32 : decode cX5_areWarpsSound 32 = .ok (.iconst 1, 1) := by decide +kernel
theorem dX5_areWarpsSound_33 : decode cX5_areWarpsSound 33 = .ok (.ireturn, 1) := by decide +kernel
set_option maxHeartbeats 4000000 in
set_option maxRecDepth 100000 in
theorem c_X5_areWarpsSound (l : Launch) (D : va_G) (sa : Nat → Nat) (ad : Nat → Nat) (sz : Nat) : Met l yX5_areWarpsSound ((Cond.code yX5_areWarpsSound prog_1_method_77_code 2 (Option.some FieldType.boolean)) :: WA) ({ frames := 0, cells := 0, slots := 0, locals := 0 }) (zJ D sa (zX ad) [.ref (ad 0)] sz) (va_Qi (fun (r : Int32) (_ : Unit) => r = 1) (fun _ _ => True) (zN sz)) 0 0 (zN sz) := by
  refine Met.ofW (cc := prog_1_method_77_code) (maxL := 2) (ret := (Option.some FieldType.boolean)) (by decide) rfl ?_
  intro p e s m args below meth c s₁ B hml hv
  obtain ⟨rfl, hsz, hP, hK, hT⟩ := hv
  have hx := B.exec
  have hb := B.bytes
  have hr := B.returns
  have hts := atoms_spec (ws := (Cond.code yX5_areWarpsSound prog_1_method_77_code 2 (Option.some FieldType.boolean)) :: WA) B.pre
  have hw : ∀ w ∈ WA, w.before _ s = true := fun w h => hts w (List.mem_cons_of_mem _ h)
  have hown : s.vm.findClass RX5 = some m.cls := findClass_of_methodNamed B.named
  have hlocks := B.notSynchronized
  subst hsz
  have hA : ∀ q : Nat, s.heap.size ≤ q → zN s.heap.size q := fun _ h => h
  have hS : va_S (zN s.heap.size) s.heap s.heap [] := va_S.rf
  have hP : va_P D vwCl [((ad 0), .inr (10, [.ref (ad 1), .ref (ad 2), .ref (ad 3), .ref (ad 4), .ref (ad 5), .int (-1), .int 100, .int 0, .int 0])), ((ad 1), .inr (7, [.ref (ad 6), .ref (ad 7), .ref (ad 8), .int 0])), ((ad 2), .inr (8, [.ref (ad 9), .ref (ad 10), .int 0])), ((ad 3), .inr (4, [.int 0, .ref (ad 14), .int 0])), ((ad 4), .inr (4, [.int 0, .ref (ad 14), .int 0])), ((ad 5), .inr (6, [.ref (ad 11), .ref (ad 12), .ref (ad 13), .int 0, .int 0]))] s.heap := hP
  have hl := lv_entry [.ref (ad 0)] (n := 2) (Nat.le_of_ble_eq_true rfl)
  rw [lg_entry_eq]
  generalize (lg_sl [.ref (ad 0)] ++ List.replicate (2 - (lg_sl [.ref (ad 0)]).length) Slot.unset).toArray = ls at hl ⊢
  have hl : lv_has ls 2 [(0, .ref (ad 0))] := hl
  refine lv_iconst (v := 0) hx hb dX5_areWarpsSound_0 (by decide) ?_
  refine lv_istore_n (lv' := [(1, .int 0), (0, .ref (ad 0))]) hx hb dX5_areWarpsSound_1 rfl hl (by decide) rfl (fun ls hl => ?_)
  refine lv_iload_n hx hb dX5_areWarpsSound_2 rfl (lv_at hl 0 rfl) ?_
  refine lv_aload_n hx hb dX5_areWarpsSound_3 rfl (lv_at hl 1 rfl) ?_
  refine va_get (D := D) (ci := 10) (v := .ref (ad 5)) (C := RX5) (T := TX5) (N := 9) hx hb hw zi_RX5 hown hK hP 0 rfl rfl 4 (by decide) (hw _ zm_186) (fun _ h9 => h9) rfl dX5_areWarpsSound_4 ?_
  refine va_getN (D := D) (ci := 6) (v := .int 0) (C := RX1) (T := TX1) (N := 5) hx hb hw zi_RX1 hown hK hP 5 rfl rfl 3 (by decide) (hT.f 4 rfl) (fun _ h9 => h9) rfl dX5_areWarpsSound_7 ?_
  refine lv_icmp_ge (tgt := 32) hx hb dX5_areWarpsSound_10 (by decide) (fun _ => ?_) (fun c_1 => absurd (by decide) c_1)
  refine lv_iconst (v := 1) hx hb dX5_areWarpsSound_32 (by decide) ?_
  exact W.zret (v := 1) hx hb hr (by decide) (fun t ht hW => ⟨⟨1, (), rfl, rfl, trivial⟩, hS.F ht⟩) hS.2.2 dX5_areWarpsSound_33
theorem dX5_areParentsSound_0 : decode cX5_areParentsSound 0 = .ok (.iconst 0, 1) := by decide +kernel
theorem dX5_areParentsSound_1 : decode cX5_areParentsSound 1 = .ok (.istore_n 1, 1) := by decide +kernel
theorem dX5_areParentsSound_2 : decode cX5_areParentsSound 2 = .ok (.iload_n 1, 1) := by decide +kernel
theorem dX5_areParentsSound_3 : decode cX5_areParentsSound 3 = .ok (.aload_n 0, 1) := by decide +kernel
theorem dX5_areParentsSound_4 : decode cX5_areParentsSound 4 = .ok (.getfield 32, 3) := by decide +kernel
theorem dX5_areParentsSound_7 : decode cX5_areParentsSound 7 = .ok (.invokevirtual 167, 3) := by decide +kernel
theorem dX5_areParentsSound_10 : decode cX5_areParentsSound 10 = .ok (.if_icmp .ge 31, 3) := by decide +kernel
theorem dX5_areParentsSound_41 : decode cX5_areParentsSound 41 = .ok (.iconst 1, 1) := by decide +kernel
theorem dX5_areParentsSound_42 : decode cX5_areParentsSound 42 = .ok (.ireturn, 1) := by decide +kernel
set_option maxHeartbeats 4000000 in
set_option maxRecDepth 100000 in
theorem c_X5_areParentsSound (l : Launch) (D : va_G) (sa : Nat → Nat) (ad : Nat → Nat) (sz : Nat) : Met l yX5_areParentsSound ((Cond.code yX5_areParentsSound prog_1_method_78_code 2 (Option.some FieldType.boolean)) :: WA) ({ frames := 1, cells := 0, slots := 0, locals := 20 }) (zJ D sa (zX ad) [.ref (ad 0)] sz) (va_Qi (fun (r : Int32) (_ : Unit) => r = 1) (fun _ _ => True) (zN sz)) 0 0 (zN sz) := by
  refine Met.ofW (cc := prog_1_method_78_code) (maxL := 2) (ret := (Option.some FieldType.boolean)) (by decide) rfl ?_
  intro p e s m args below meth c s₁ B hml hv
  obtain ⟨rfl, hsz, hP, hK, hT⟩ := hv
  have hx := B.exec
  have hb := B.bytes
  have hr := B.returns
  have hts := atoms_spec (ws := (Cond.code yX5_areParentsSound prog_1_method_78_code 2 (Option.some FieldType.boolean)) :: WA) B.pre
  have hw : ∀ w ∈ WA, w.before _ s = true := fun w h => hts w (List.mem_cons_of_mem _ h)
  have hown : s.vm.findClass RX5 = some m.cls := findClass_of_methodNamed B.named
  have hlocks := B.notSynchronized
  subst hsz
  have hA : ∀ q : Nat, s.heap.size ≤ q → zN s.heap.size q := fun _ h => h
  have hS : va_S (zN s.heap.size) s.heap s.heap [] := va_S.rf
  have hP : va_P D vwCl [((ad 0), .inr (10, [.ref (ad 1), .ref (ad 2), .ref (ad 3), .ref (ad 4), .ref (ad 5), .int (-1), .int 100, .int 0, .int 0])), ((ad 1), .inr (7, [.ref (ad 6), .ref (ad 7), .ref (ad 8), .int 0])), ((ad 2), .inr (8, [.ref (ad 9), .ref (ad 10), .int 0])), ((ad 3), .inr (4, [.int 0, .ref (ad 14), .int 0])), ((ad 4), .inr (4, [.int 0, .ref (ad 14), .int 0])), ((ad 5), .inr (6, [.ref (ad 11), .ref (ad 12), .ref (ad 13), .int 0, .int 0]))] s.heap := hP
  have hl := lv_entry [.ref (ad 0)] (n := 2) (Nat.le_of_ble_eq_true rfl)
  rw [lg_entry_eq]
  generalize (lg_sl [.ref (ad 0)] ++ List.replicate (2 - (lg_sl [.ref (ad 0)]).length) Slot.unset).toArray = ls at hl ⊢
  have hl : lv_has ls 2 [(0, .ref (ad 0))] := hl
  refine lv_iconst (v := 0) hx hb dX5_areParentsSound_0 (by decide) ?_
  refine lv_istore_n (lv' := [(1, .int 0), (0, .ref (ad 0))]) hx hb dX5_areParentsSound_1 rfl hl (by decide) rfl (fun ls hl => ?_)
  refine lv_iload_n hx hb dX5_areParentsSound_2 rfl (lv_at hl 0 rfl) ?_
  refine lv_aload_n hx hb dX5_areParentsSound_3 rfl (lv_at hl 1 rfl) ?_
  refine va_get (D := D) (ci := 10) (v := .ref (ad 4)) (C := RX5) (T := TX5) (N := 9) hx hb hw zi_RX5 hown hK hP 0 rfl rfl 3 (by decide) (hw _ zm_185) (fun _ h9 => h9) rfl dX5_areParentsSound_4 ?_
  have hPc := hP.sub (ws' := [((ad 4), .inr (4, [.int 0, .ref (ad 14), .int 0]))]) [4] rfl
  refine va_calli (va_runV (As := []) (rest := [.int 0]) ⟨hx, hb, hml, hown, hw⟩ (c_Jx4a65c_size_8abf5 l D sa (ad 4) 0 (ad 14) _) (cwV 0 hw (zg4 zm_239 zm_240 zm_241 zm_51 zm_242) rfl rfl rfl (by decide +kernel) ⟨Nat.le_of_ble_eq_true rfl, Nat.le_of_ble_eq_true rfl⟩) ⟨zJ_blind, va_recv hK hPc (ci := 4) (q0 := 0) rfl rfl, zJ_pre hPc hK hT⟩ rfl rfl hl.1 rfl (lv_room (Nat.le_of_ble_eq_true rfl)) dX5_areParentsSound_7 ⟨Nat.le_of_ble_eq_true rfl, Nat.le_of_ble_eq_true rfl⟩) hS zN_in (zN_fr hS hA) (fun r_1 u t H locs ht hvm hw1 hB hz1 hk1 hS => ?_)
  have hP := zN_keep hP hk1
  subst hw1
  refine lv_icmp_ge (tgt := 41) hx hb dX5_areParentsSound_10 (by decide) (fun _ => ?_) (fun c_2 => absurd (by decide) c_2)
  refine lv_iconst (v := 1) hx hb dX5_areParentsSound_41 (by decide) ?_
  exact W.zret (v := 1) hx hb hr (by decide) (fun t ht hW => ⟨⟨1, (), rfl, rfl, trivial⟩, hS.F ht⟩) hS.2.2 dX5_areParentsSound_42
theorem dX5_isSound_0 : decode cX5_isSound 0 = .ok (.aload_n 0, 1) := by decide +kernel
theorem dX5_isSound_1 : decode cX5_isSound 1 = .ok (.invokevirtual 365, 3) := by decide +kernel
theorem zm_271 : Cond.methodLink RX5 365 yX5_areRoundsSound ∈ WA := zmm (i := 271) (by decide +kernel) (by decide +kernel)
theorem zm_273 : Cond.instanceMethod yX5_areRoundsSound ∈ WA := zmm (i := 273) (by decide +kernel) (by decide +kernel)
theorem zm_0 : Cond.selects RX5 yX5_areRoundsSound yX5_areRoundsSound ∈ WA := zmm (i := 0) (by decide +kernel) (by decide +kernel)
theorem zm_274 : Cond.code yX5_areRoundsSound prog_1_method_75_code 3 (Option.some FieldType.boolean) ∈ WA := zmm (i := 274) (by decide +kernel) (by decide +kernel)
theorem dX5_isSound_4 : decode cX5_isSound 4 = .ok (.ifCond .eq 28, 3) := by decide +kernel
theorem dX5_isSound_7 : decode cX5_isSound 7 = .ok (.aload_n 0, 1) := by decide +kernel
theorem dX5_isSound_8 : decode cX5_isSound 8 = .ok (.invokevirtual 368, 3) := by decide +kernel
theorem zm_296 : Cond.methodLink RX5 368 yX5_doFormsTellLikeness ∈ WA := zmm (i := 296) (by decide +kernel) (by decide +kernel)
theorem zm_298 : Cond.instanceMethod yX5_doFormsTellLikeness ∈ WA := zmm (i := 298) (by decide +kernel) (by decide +kernel)
theorem zm_1 : Cond.selects RX5 yX5_doFormsTellLikeness yX5_doFormsTellLikeness ∈ WA := zmm (i := 1) (by decide +kernel) (by decide +kernel)
theorem zm_299 : Cond.code yX5_doFormsTellLikeness prog_1_method_76_code 6 (Option.some FieldType.boolean) ∈ WA := zmm (i := 299) (by decide +kernel) (by decide +kernel)
theorem dX5_isSound_11 : decode cX5_isSound 11 = .ok (.ifCond .eq 21, 3) := by decide +kernel
theorem dX5_isSound_14 : decode cX5_isSound 14 = .ok (.aload_n 0, 1) := by decide +kernel
theorem dX5_isSound_15 : decode cX5_isSound 15 = .ok (.invokevirtual 371, 3) := by decide +kernel
theorem zm_301 : Cond.methodLink RX5 371 yX5_areWarpsSound ∈ WA := zmm (i := 301) (by decide +kernel) (by decide +kernel)
theorem zm_303 : Cond.instanceMethod yX5_areWarpsSound ∈ WA := zmm (i := 303) (by decide +kernel) (by decide +kernel)
theorem zm_2 : Cond.selects RX5 yX5_areWarpsSound yX5_areWarpsSound ∈ WA := zmm (i := 2) (by decide +kernel) (by decide +kernel)
theorem zm_304 : Cond.code yX5_areWarpsSound prog_1_method_77_code 2 (Option.some FieldType.boolean) ∈ WA := zmm (i := 304) (by decide +kernel) (by decide +kernel)
theorem dX5_isSound_18 : decode cX5_isSound 18 = .ok (.ifCond .eq 14, 3) := by decide +kernel
theorem dX5_isSound_21 : decode cX5_isSound 21 = .ok (.aload_n 0, 1) := by decide +kernel
theorem dX5_isSound_22 : decode cX5_isSound 22 = .ok (.invokevirtual 374, 3) := by decide +kernel
theorem zm_306 : Cond.methodLink RX5 374 yX5_areParentsSound ∈ WA := zmm (i := 306) (by decide +kernel) (by decide +kernel)
theorem zm_308 : Cond.instanceMethod yX5_areParentsSound ∈ WA := zmm (i := 308) (by decide +kernel) (by decide +kernel)
theorem zm_3 : Cond.selects RX5 yX5_areParentsSound yX5_areParentsSound ∈ WA := zmm (i := 3) (by decide +kernel) (by decide +kernel)
theorem zm_309 : Cond.code yX5_areParentsSound prog_1_method_78_code 2 (Option.some FieldType.boolean) ∈ WA := zmm (i := 309) (by decide +kernel) (by decide +kernel)
theorem dX5_isSound_25 : decode cX5_isSound 25 = .ok (.ifCond .eq 7, 3) := by decide +kernel
theorem dX5_isSound_28 : decode cX5_isSound 28 = .ok (.iconst 1, 1) := by decide +kernel
theorem dX5_isSound_29 : decode cX5_isSound 29 = .ok (.goto 4, 3) := by decide +kernel
theorem dX5_isSound_33 : decode cX5_isSound 33 = .ok (.ireturn, 1) := by decide +kernel
set_option maxHeartbeats 4000000 in
set_option maxRecDepth 100000 in
theorem c_X5_isSound (l : Launch) (D : va_G) (sa : Nat → Nat) (ad : Nat → Nat) (sz : Nat) : Met l yX5_isSound ((Cond.code yX5_isSound prog_1_method_50_code 1 (Option.some FieldType.boolean)) :: WA) ({ frames := 2, cells := 0, slots := 0, locals := 45 }) (zJ D sa (zX ad) [.ref (ad 0)] sz) (va_Qi (fun (r : Int32) (_ : Unit) => r = 1) (fun _ _ => True) (zN sz)) 0 0 (zN sz) := by
  refine Met.ofW (cc := prog_1_method_50_code) (maxL := 1) (ret := (Option.some FieldType.boolean)) (by decide) rfl ?_
  intro p e s m args below meth c s₁ B hml hv
  obtain ⟨rfl, hsz, hP, hK, hT⟩ := hv
  have hx := B.exec
  have hb := B.bytes
  have hr := B.returns
  have hts := atoms_spec (ws := (Cond.code yX5_isSound prog_1_method_50_code 1 (Option.some FieldType.boolean)) :: WA) B.pre
  have hw : ∀ w ∈ WA, w.before _ s = true := fun w h => hts w (List.mem_cons_of_mem _ h)
  have hown : s.vm.findClass RX5 = some m.cls := findClass_of_methodNamed B.named
  have hlocks := B.notSynchronized
  subst hsz
  have hA : ∀ q : Nat, s.heap.size ≤ q → zN s.heap.size q := fun _ h => h
  have hS : va_S (zN s.heap.size) s.heap s.heap [] := va_S.rf
  have hP : va_P D vwCl [((ad 0), .inr (10, [.ref (ad 1), .ref (ad 2), .ref (ad 3), .ref (ad 4), .ref (ad 5), .int (-1), .int 100, .int 0, .int 0])), ((ad 1), .inr (7, [.ref (ad 6), .ref (ad 7), .ref (ad 8), .int 0])), ((ad 2), .inr (8, [.ref (ad 9), .ref (ad 10), .int 0])), ((ad 3), .inr (4, [.int 0, .ref (ad 14), .int 0])), ((ad 4), .inr (4, [.int 0, .ref (ad 14), .int 0])), ((ad 5), .inr (6, [.ref (ad 11), .ref (ad 12), .ref (ad 13), .int 0, .int 0]))] s.heap := hP
  have hl := lv_entry [.ref (ad 0)] (n := 1) (Nat.le_of_ble_eq_true rfl)
  rw [lg_entry_eq]
  generalize (lg_sl [.ref (ad 0)] ++ List.replicate (1 - (lg_sl [.ref (ad 0)]).length) Slot.unset).toArray = ls at hl ⊢
  have hl : lv_has ls 1 [(0, .ref (ad 0))] := hl
  refine lv_aload_n hx hb dX5_isSound_0 rfl (lv_at hl 0 rfl) ?_
  refine va_calli (va_runV (As := []) (rest := []) ⟨hx, hb, hml, hown, hw⟩ (c_X5_areRoundsSound l D sa ad _) (cwV 0 hw (zg4 zm_271 zm_273 zm_0 zm_45 zm_274) rfl rfl rfl (by decide +kernel) ⟨Nat.le_of_ble_eq_true rfl, Nat.le_of_ble_eq_true rfl⟩) ⟨zJ_blind, va_recv hK hP (ci := 10) (q0 := 0) rfl rfl, zJ_pre hP hK hT⟩ rfl rfl hl.1 rfl (lv_room (Nat.le_of_ble_eq_true rfl)) dX5_isSound_1 ⟨Nat.le_of_ble_eq_true rfl, Nat.le_of_ble_eq_true rfl⟩) hS zN_in (zN_fr hS hA) (fun r_1 u t H locs ht hvm hw1 hB hz1 hk1 hS => ?_)
  have hP := zN_keep hP hk1
  subst hw1
  refine lv_if_eq (tgt := 32) hx hb dX5_isSound_4 (by decide) (fun c_2 => absurd c_2 (by decide)) (fun _ => ?_)
  refine lv_aload_n hx hb dX5_isSound_7 rfl (lv_at hl 0 rfl) ?_
  refine va_calli (va_runV (As := []) (rest := []) ⟨hx, hb, hml, hown, hw⟩ (c_X5_doFormsTellLikeness l D sa ad _) (cwV 0 hw (zg4 zm_296 zm_298 zm_1 zm_45 zm_299) rfl rfl rfl (by decide +kernel) ⟨Nat.le_of_ble_eq_true rfl, Nat.le_of_ble_eq_true rfl⟩) ⟨zJ_blind, va_recv hK hP (ci := 10) (q0 := 0) rfl rfl, zJ_pre hP hK hT⟩ rfl rfl hl.1 rfl (lv_room (Nat.le_of_ble_eq_true rfl)) dX5_isSound_8 ⟨Nat.le_of_ble_eq_true rfl, Nat.le_of_ble_eq_true rfl⟩) hS zN_in (zN_fr hS hA) (fun r_3 u t H locs ht hvm hw1 hB hz1 hk1 hS => ?_)
  have hP := zN_keep hP hk1
  subst hw1
  refine lv_if_eq (tgt := 32) hx hb dX5_isSound_11 (by decide) (fun c_4 => absurd c_4 (by decide)) (fun _ => ?_)
  refine lv_aload_n hx hb dX5_isSound_14 rfl (lv_at hl 0 rfl) ?_
  refine va_calli (va_runV (As := []) (rest := []) ⟨hx, hb, hml, hown, hw⟩ (c_X5_areWarpsSound l D sa ad _) (cwV 0 hw (zg4 zm_301 zm_303 zm_2 zm_45 zm_304) rfl rfl rfl (by decide +kernel) ⟨Nat.le_of_ble_eq_true rfl, Nat.le_of_ble_eq_true rfl⟩) ⟨zJ_blind, va_recv hK hP (ci := 10) (q0 := 0) rfl rfl, zJ_pre hP hK hT⟩ rfl rfl hl.1 rfl (lv_room (Nat.le_of_ble_eq_true rfl)) dX5_isSound_15 ⟨Nat.le_of_ble_eq_true rfl, Nat.le_of_ble_eq_true rfl⟩) hS zN_in (zN_fr hS hA) (fun r_5 u t H locs ht hvm hw1 hB hz1 hk1 hS => ?_)
  have hP := zN_keep hP hk1
  subst hw1
  refine lv_if_eq (tgt := 32) hx hb dX5_isSound_18 (by decide) (fun c_6 => absurd c_6 (by decide)) (fun _ => ?_)
  refine lv_aload_n hx hb dX5_isSound_21 rfl (lv_at hl 0 rfl) ?_
  refine va_calli (va_runV (As := []) (rest := []) ⟨hx, hb, hml, hown, hw⟩ (c_X5_areParentsSound l D sa ad _) (cwV 0 hw (zg4 zm_306 zm_308 zm_3 zm_45 zm_309) rfl rfl rfl (by decide +kernel) ⟨Nat.le_of_ble_eq_true rfl, Nat.le_of_ble_eq_true rfl⟩) ⟨zJ_blind, va_recv hK hP (ci := 10) (q0 := 0) rfl rfl, zJ_pre hP hK hT⟩ rfl rfl hl.1 rfl (lv_room (Nat.le_of_ble_eq_true rfl)) dX5_isSound_22 ⟨Nat.le_of_ble_eq_true rfl, Nat.le_of_ble_eq_true rfl⟩) hS zN_in (zN_fr hS hA) (fun r_7 u t H locs ht hvm hw1 hB hz1 hk1 hS => ?_)
  have hP := zN_keep hP hk1
  subst hw1
  refine lv_if_eq (tgt := 32) hx hb dX5_isSound_25 (by decide) (fun c_8 => absurd c_8 (by decide)) (fun _ => ?_)
  refine lv_iconst (v := 1) hx hb dX5_isSound_28 (by decide) ?_
  refine lv_goto (tgt := 33) hx hb dX5_isSound_29 (by decide) ?_
  exact W.zret (v := 1) hx hb hr (by decide) (fun t ht hW => ⟨⟨1, (), rfl, rfl, trivial⟩, hS.F ht⟩) hS.2.2 dX5_isSound_33
theorem dX5_checksum_0 : decode cX5_checksum 0 = .ok (.ldc2_w 351, 3) := by decide +kernel
theorem zm_238 : Cond.constantLong RX5 351 7 ∈ WA := zmm (i := 238) (by decide +kernel) (by decide +kernel)
theorem dX5_checksum_3 : decode cX5_checksum 3 = .ok (.lstore_n 1, 1) := by decide +kernel
theorem dX5_checksum_4 : decode cX5_checksum 4 = .ok (.iconst 0, 1) := by decide +kernel
theorem dX5_checksum_5 : decode cX5_checksum 5 = .ok (.istore_n 3, 1) := by decide +kernel
theorem dX5_checksum_6 : decode cX5_checksum 6 = .ok (.iload_n 3, 1) := by decide +kernel
theorem dX5_checksum_7 : decode cX5_checksum 7 = .ok (.aload_n 0, 1) := by decide +kernel
theorem dX5_checksum_8 : decode cX5_checksum 8 = .ok (.getfield 28, 3) := by decide +kernel
theorem dX5_checksum_11 : decode cX5_checksum 11 = .ok (.invokevirtual 167, 3) := by decide +kernel
theorem dX5_checksum_14 : decode cX5_checksum 14 = .ok (.if_icmp .ge 69, 3) := by decide +kernel
theorem dX5_checksum_83 : decode cX5_checksum 83 = .ok (.ldc2_w 353, 3) := by decide +kernel
theorem zm_258 : Cond.constantLong RX5 353 31 ∈ WA := zmm (i := 258) (by decide +kernel) (by decide +kernel)
theorem dX5_checksum_86 : decode cX5_checksum 86 = .ok (.lload_n 1, 1) := by decide +kernel
theorem dX5_checksum_87 : decode cX5_checksum 87 = .ok (.lmul, 1) := by decide +kernel
theorem dX5_checksum_88 : decode cX5_checksum 88 = .ok (.aload_n 0, 1) := by decide +kernel
theorem dX5_checksum_89 : decode cX5_checksum 89 = .ok (.getfield 52, 3) := by decide +kernel
theorem dX5_checksum_92 : decode cX5_checksum 92 = .ok (.i2l, 1) := by decide +kernel
theorem dX5_checksum_93 : decode cX5_checksum 93 = .ok (.ladd, 1) := by decide +kernel
theorem dX5_checksum_94 : decode cX5_checksum 94 = .ok (.lreturn, 1) := by decide +kernel
set_option maxHeartbeats 4000000 in
set_option maxRecDepth 100000 in
theorem c_X5_checksum (l : Launch) (D : va_G) (sa : Nat → Nat) (ad : Nat → Nat) (sz : Nat) : Met l yX5_checksum ((Cond.code yX5_checksum prog_1_method_47_code 5 (Option.some FieldType.long)) :: WA) ({ frames := 1, cells := 0, slots := 0, locals := 20 }) (zJ D sa (zX ad) [.ref (ad 0)] sz) (va_Ql (fun (r : Int64) (_ : Unit) => r = 217) (fun _ _ => True) (zN sz)) 0 0 (zN sz) := by
  refine Met.ofW (cc := prog_1_method_47_code) (maxL := 5) (ret := (Option.some FieldType.long)) (by decide) rfl ?_
  intro p e s m args below meth c s₁ B hml hv
  obtain ⟨rfl, hsz, hP, hK, hT⟩ := hv
  have hx := B.exec
  have hb := B.bytes
  have hr := B.returns
  have hts := atoms_spec (ws := (Cond.code yX5_checksum prog_1_method_47_code 5 (Option.some FieldType.long)) :: WA) B.pre
  have hw : ∀ w ∈ WA, w.before _ s = true := fun w h => hts w (List.mem_cons_of_mem _ h)
  have hown : s.vm.findClass RX5 = some m.cls := findClass_of_methodNamed B.named
  have hlocks := B.notSynchronized
  subst hsz
  have hA : ∀ q : Nat, s.heap.size ≤ q → zN s.heap.size q := fun _ h => h
  have hS : va_S (zN s.heap.size) s.heap s.heap [] := va_S.rf
  have hP : va_P D vwCl [((ad 0), .inr (10, [.ref (ad 1), .ref (ad 2), .ref (ad 3), .ref (ad 4), .ref (ad 5), .int (-1), .int 100, .int 0, .int 0])), ((ad 1), .inr (7, [.ref (ad 6), .ref (ad 7), .ref (ad 8), .int 0])), ((ad 2), .inr (8, [.ref (ad 9), .ref (ad 10), .int 0])), ((ad 3), .inr (4, [.int 0, .ref (ad 14), .int 0])), ((ad 4), .inr (4, [.int 0, .ref (ad 14), .int 0])), ((ad 5), .inr (6, [.ref (ad 11), .ref (ad 12), .ref (ad 13), .int 0, .int 0]))] s.heap := hP
  have hl := lv_entry [.ref (ad 0)] (n := 5) (Nat.le_of_ble_eq_true rfl)
  rw [lg_entry_eq]
  generalize (lg_sl [.ref (ad 0)] ++ List.replicate (5 - (lg_sl [.ref (ad 0)]).length) Slot.unset).toArray = ls at hl ⊢
  have hl : lv_has ls 5 [(0, .ref (ad 0))] := hl
  refine lv_ldc2 (v := 7) hx hb hown (hw _ zm_238) dX5_checksum_0 ?_
  refine lv_lstore_n (lv' := [(1, .long 7), (0, .ref (ad 0))]) hx hb dX5_checksum_3 rfl hl (by decide) rfl (fun ls hl => ?_)
  refine lv_iconst (v := 0) hx hb dX5_checksum_4 (by decide) ?_
  refine lv_istore_n (lv' := [(3, .int 0), (1, .long 7), (0, .ref (ad 0))]) hx hb dX5_checksum_5 rfl hl (by decide) rfl (fun ls hl => ?_)
  refine lv_iload_n hx hb dX5_checksum_6 rfl (lv_at hl 0 rfl) ?_
  refine lv_aload_n hx hb dX5_checksum_7 rfl (lv_at hl 2 rfl) ?_
  refine va_get (D := D) (ci := 10) (v := .ref (ad 3)) (C := RX5) (T := TX5) (N := 9) hx hb hw zi_RX5 hown hK hP 0 rfl rfl 2 (by decide) (hw _ zm_184) (fun _ h9 => h9) rfl dX5_checksum_8 ?_
  have hPc := hP.sub (ws' := [((ad 3), .inr (4, [.int 0, .ref (ad 14), .int 0]))]) [3] rfl
  refine va_calli (va_runV (As := []) (rest := [.int 0]) ⟨hx, hb, hml, hown, hw⟩ (c_Jx4a65c_size_8abf5 l D sa (ad 3) 0 (ad 14) _) (cwV 0 hw (zg4 zm_239 zm_240 zm_241 zm_51 zm_242) rfl rfl rfl (by decide +kernel) ⟨Nat.le_of_ble_eq_true rfl, Nat.le_of_ble_eq_true rfl⟩) ⟨zJ_blind, va_recv hK hPc (ci := 4) (q0 := 0) rfl rfl, zJ_pre hPc hK hT⟩ rfl rfl hl.1 rfl (lv_room (Nat.le_of_ble_eq_true rfl)) dX5_checksum_11 ⟨Nat.le_of_ble_eq_true rfl, Nat.le_of_ble_eq_true rfl⟩) hS zN_in (zN_fr hS hA) (fun r_1 u t H locs ht hvm hw1 hB hz1 hk1 hS => ?_)
  have hP := zN_keep hP hk1
  subst hw1
  refine lv_icmp_ge (tgt := 83) hx hb dX5_checksum_14 (by decide) (fun _ => ?_) (fun c_2 => absurd (by decide) c_2)
  refine lv_ldc2 (v := 31) hx hb hown (hw _ zm_258) dX5_checksum_83 ?_
  refine lv_lload_n hx hb dX5_checksum_86 rfl (lv_at hl 1 rfl) ?_
  refine lv_lmul hx hb dX5_checksum_87 ?_
  refine lv_topl (fun f_3 ef_3 => ?_)
  obtain rfl : f_3 = 217 := ef_3.trans (by decide)
  refine lv_aload_n hx hb dX5_checksum_88 rfl (lv_at hl 2 rfl) ?_
  refine va_get (D := D) (ci := 10) (v := .int 0) (C := RX5) (T := TX5) (N := 9) hx hb hw zi_RX5 hown hK hP 0 rfl rfl 8 (by decide) (hw _ zm_190) (fun _ h9 => h9) rfl dX5_checksum_89 ?_
  refine lv_i2l (v := 0) hx hb dX5_checksum_92 (by decide) ?_
  refine lv_ladd hx hb dX5_checksum_93 ?_
  refine lv_topl (fun f_4 ef_4 => ?_)
  obtain rfl : f_4 = 217 := ef_4.trans (by decide)
  exact W.lret (v := 217) hx hb hr (fun t ht hW => ⟨⟨217, (), rfl, rfl, trivial⟩, hS.F ht⟩) hS.2.2 dX5_checksum_94
theorem dX3_clear_0 : decode cX3_clear 0 = .ok (.aload_n 0, 1) := by decide +kernel
theorem dX3_clear_1 : decode cX3_clear 1 = .ok (.iconst 0, 1) := by decide +kernel
theorem dX3_clear_2 : decode cX3_clear 2 = .ok (.putfield 7, 3) := by decide +kernel
theorem dX3_clear_5 : decode cX3_clear 5 = .ok (.return_, 1) := by decide +kernel
set_option maxHeartbeats 4000000 in
set_option maxRecDepth 100000 in
theorem c_X3_clear (l : Launch) (D : va_G) (sa : Nat → Nat) (ea : Nat) (ad : Nat → Nat) (sz : Nat) : Met l yX3_clear ((Cond.code yX3_clear prog_5_method_5_code 1 (Option.none : Option FieldType)) :: WA) ({ frames := 0, cells := 0, slots := 0, locals := 0 }) (zW D sa ea [] [((ad 2), .inr (8, [.ref (ad 9), .ref (ad 10), .int 0]))] [.ref (ad 2)] sz) (va_Qv (fun (_ : Unit) => True) (fun _ t => va_P D vwCl [((ad 2), .inr (8, [.ref (ad 9), .ref (ad 10), .int 0]))] t.heap ∧ va_D (va_A [((ad 2), .inr (8, [.ref (ad 9), .ref (ad 10), .int 0]))] sz) [((ad 2), .inr (8, [.ref (ad 9), .ref (ad 10), .int 0]))]) (va_A [((ad 2), .inr (8, [.ref (ad 9), .ref (ad 10), .int 0]))] sz)) 0 0 (va_A [((ad 2), .inr (8, [.ref (ad 9), .ref (ad 10), .int 0]))] sz) := by
  refine Met.ofW (cc := prog_5_method_5_code) (maxL := 1) (ret := (Option.none : Option FieldType)) (by decide) rfl ?_
  intro p e s m args below meth c s₁ B hml hv
  obtain ⟨rfl, hsz, hP, hK, hD0, hT, hE⟩ := hv
  have hx := B.exec
  have hb := B.bytes
  have hr := B.returns
  have hts := atoms_spec (ws := (Cond.code yX3_clear prog_5_method_5_code 1 (Option.none : Option FieldType)) :: WA) B.pre
  have hw : ∀ w ∈ WA, w.before _ s = true := fun w h => hts w (List.mem_cons_of_mem _ h)
  have hown : s.vm.findClass RX3 = some m.cls := findClass_of_methodNamed B.named
  have hlocks := B.notSynchronized
  subst hsz
  have hD := hD0.self (sz := s.heap.size)
  generalize hAe : va_A [((ad 2), .inr (8, [.ref (ad 9), .ref (ad 10), .int 0]))] s.heap.size = A at hD hE ⊢
  have hA : ∀ q : Nat, s.heap.size ≤ q → A q := fun q h => by rw [← hAe]; exact Or.inr h
  have hS : va_S A s.heap s.heap [] := va_S.rf
  have hP : va_P D vwCl [((ad 2), .inr (8, [.ref (ad 9), .ref (ad 10), .int 0]))] s.heap := hP
  have hD : va_D A [((ad 2), .inr (8, [.ref (ad 9), .ref (ad 10), .int 0]))] := hD
  have hl := lv_entry [.ref (ad 2)] (n := 1) (Nat.le_of_ble_eq_true rfl)
  rw [lg_entry_eq]
  generalize (lg_sl [.ref (ad 2)] ++ List.replicate (1 - (lg_sl [.ref (ad 2)]).length) Slot.unset).toArray = ls at hl ⊢
  have hl : lv_has ls 1 [(0, .ref (ad 2))] := hl
  refine lv_aload_n hx hb dX3_clear_0 rfl (lv_at hl 0 rfl) ?_
  refine lv_iconst (v := 0) hx hb dX3_clear_1 (by decide) ?_
  refine va_put (D := D) (ci := 8) (v := .int 0) (ty := .int) (C := RX3) (T := TX3) (N := 3) hx hb hw zi_RX3 tyX3 tyX3_ok nmX3 hown hK hP hD hS 0 rfl rfl 2 (by decide) (hw _ zm_119) (fun _ h9 => h9) rfl (by decide +kernel) rfl rfl (Nat.le_of_ble_eq_true rfl) dX3_clear_2 (fun H locs hP hD hS => ?_)
  have hP : va_P D vwCl [((ad 2), .inr (8, [.ref (ad 9), .ref (ad 10), .int 0]))] H := hP
  have hD : va_D A [((ad 2), .inr (8, [.ref (ad 9), .ref (ad 10), .int 0]))] := hD
  have hP9 := hP.sub (ws' := [((ad 2), .inr (8, [.ref (ad 9), .ref (ad 10), .int 0]))]) [0] rfl
  have hD9 := hD.sub (ws' := [((ad 2), .inr (8, [.ref (ad 9), .ref (ad 10), .int 0]))]) [0] (by decide) rfl
  refine W.widen (k := 0) (n := 0) (Nat.le_of_ble_eq_true rfl) (Nat.le_of_ble_eq_true rfl) ?_
  exact W.vret hx hb hr (fun t ht hW => ⟨⟨(), rfl, trivial, by rw [ht]; exact hP9, hD9⟩, hS.F ht⟩) hS.2.2 dX3_clear_5
theorem dX5_clearStripes_0 : decode cX5_clearStripes 0 = .ok (.aload_n 0, 1) := by decide +kernel
theorem dX5_clearStripes_1 : decode cX5_clearStripes 1 = .ok (.getfield 21, 3) := by decide +kernel
theorem dX5_clearStripes_4 : decode cX5_clearStripes 4 = .ok (.getfield 114, 3) := by decide +kernel
theorem dX5_clearStripes_7 : decode cX5_clearStripes 7 = .ok (.istore_n 1, 1) := by decide +kernel
theorem dX5_clearStripes_8 : decode cX5_clearStripes 8 = .ok (.aload_n 0, 1) := by decide +kernel
theorem dX5_clearStripes_9 : decode cX5_clearStripes 9 = .ok (.getfield 21, 3) := by decide +kernel
theorem dX5_clearStripes_12 : decode cX5_clearStripes 12 = .ok (.invokevirtual 117, 3) := by decide +kernel
theorem zm_214 : Cond.methodLink RX5 117 yX3_clear ∈ WA := zmm (i := 214) (by decide +kernel) (by decide +kernel)
theorem zm_215 : Cond.instanceMethod yX3_clear ∈ WA := zmm (i := 215) (by decide +kernel) (by decide +kernel)
theorem zm_216 : Cond.selects RX3 yX3_clear yX3_clear ∈ WA := zmm (i := 216) (by decide +kernel) (by decide +kernel)
theorem zm_217 : Cond.code yX3_clear prog_5_method_5_code 1 (Option.none : Option FieldType) ∈ WA := zmm (i := 217) (by decide +kernel) (by decide +kernel)
theorem dX5_clearStripes_15 : decode cX5_clearStripes 15 = .ok (.iload_n 1, 1) := by decide +kernel
theorem dX5_clearStripes_16 : decode cX5_clearStripes 16 = .ok (.ireturn, 1) := by decide +kernel
set_option maxHeartbeats 4000000 in
set_option maxRecDepth 100000 in
theorem c_X5_clearStripes (l : Launch) (D : va_G) (sa : Nat → Nat) (ea : Nat) (ad : Nat → Nat) (sz : Nat) : Met l yX5_clearStripes ((Cond.code yX5_clearStripes prog_1_method_6_code 2 (Option.some FieldType.int)) :: WA) ({ frames := 1, cells := 0, slots := 0, locals := 20 }) (zW D sa ea [] (zX ad) [.ref (ad 0)] sz) (va_Qi (fun (r : Int32) (_ : Unit) => r = 0) (fun _ t => va_P D vwCl [((ad 0), .inr (10, [.ref (ad 1), .ref (ad 2), .ref (ad 3), .ref (ad 4), .ref (ad 5), .int (-1), .int 100, .int 0, .int 0])), ((ad 1), .inr (7, [.ref (ad 6), .ref (ad 7), .ref (ad 8), .int 0])), ((ad 2), .inr (8, [.ref (ad 9), .ref (ad 10), .int 0])), ((ad 3), .inr (4, [.int 0, .ref (ad 14), .int 0])), ((ad 4), .inr (4, [.int 0, .ref (ad 14), .int 0])), ((ad 5), .inr (6, [.ref (ad 11), .ref (ad 12), .ref (ad 13), .int 0, .int 0]))] t.heap ∧ va_D (va_A (zX ad) sz) [((ad 0), .inr (10, [.ref (ad 1), .ref (ad 2), .ref (ad 3), .ref (ad 4), .ref (ad 5), .int (-1), .int 100, .int 0, .int 0])), ((ad 1), .inr (7, [.ref (ad 6), .ref (ad 7), .ref (ad 8), .int 0])), ((ad 2), .inr (8, [.ref (ad 9), .ref (ad 10), .int 0])), ((ad 3), .inr (4, [.int 0, .ref (ad 14), .int 0])), ((ad 4), .inr (4, [.int 0, .ref (ad 14), .int 0])), ((ad 5), .inr (6, [.ref (ad 11), .ref (ad 12), .ref (ad 13), .int 0, .int 0]))]) (va_A (zX ad) sz)) 0 0 (va_A (zX ad) sz) := by
  refine Met.ofW (cc := prog_1_method_6_code) (maxL := 2) (ret := (Option.some FieldType.int)) (by decide) rfl ?_
  intro p e s m args below meth c s₁ B hml hv
  obtain ⟨rfl, hsz, hP, hK, hD0, hT, hE⟩ := hv
  have hx := B.exec
  have hb := B.bytes
  have hr := B.returns
  have hts := atoms_spec (ws := (Cond.code yX5_clearStripes prog_1_method_6_code 2 (Option.some FieldType.int)) :: WA) B.pre
  have hw : ∀ w ∈ WA, w.before _ s = true := fun w h => hts w (List.mem_cons_of_mem _ h)
  have hown : s.vm.findClass RX5 = some m.cls := findClass_of_methodNamed B.named
  have hlocks := B.notSynchronized
  subst hsz
  have hD := hD0.self (sz := s.heap.size)
  generalize hAe : va_A (zX ad) s.heap.size = A at hD hE ⊢
  have hA : ∀ q : Nat, s.heap.size ≤ q → A q := fun q h => by rw [← hAe]; exact Or.inr h
  have hS : va_S A s.heap s.heap [] := va_S.rf
  have hP : va_P D vwCl [((ad 0), .inr (10, [.ref (ad 1), .ref (ad 2), .ref (ad 3), .ref (ad 4), .ref (ad 5), .int (-1), .int 100, .int 0, .int 0])), ((ad 1), .inr (7, [.ref (ad 6), .ref (ad 7), .ref (ad 8), .int 0])), ((ad 2), .inr (8, [.ref (ad 9), .ref (ad 10), .int 0])), ((ad 3), .inr (4, [.int 0, .ref (ad 14), .int 0])), ((ad 4), .inr (4, [.int 0, .ref (ad 14), .int 0])), ((ad 5), .inr (6, [.ref (ad 11), .ref (ad 12), .ref (ad 13), .int 0, .int 0]))] s.heap := hP
  have hD : va_D A [((ad 0), .inr (10, [.ref (ad 1), .ref (ad 2), .ref (ad 3), .ref (ad 4), .ref (ad 5), .int (-1), .int 100, .int 0, .int 0])), ((ad 1), .inr (7, [.ref (ad 6), .ref (ad 7), .ref (ad 8), .int 0])), ((ad 2), .inr (8, [.ref (ad 9), .ref (ad 10), .int 0])), ((ad 3), .inr (4, [.int 0, .ref (ad 14), .int 0])), ((ad 4), .inr (4, [.int 0, .ref (ad 14), .int 0])), ((ad 5), .inr (6, [.ref (ad 11), .ref (ad 12), .ref (ad 13), .int 0, .int 0]))] := hD
  have hl := lv_entry [.ref (ad 0)] (n := 2) (Nat.le_of_ble_eq_true rfl)
  rw [lg_entry_eq]
  generalize (lg_sl [.ref (ad 0)] ++ List.replicate (2 - (lg_sl [.ref (ad 0)]).length) Slot.unset).toArray = ls at hl ⊢
  have hl : lv_has ls 2 [(0, .ref (ad 0))] := hl
  refine lv_aload_n hx hb dX5_clearStripes_0 rfl (lv_at hl 0 rfl) ?_
  refine va_get (D := D) (ci := 10) (v := .ref (ad 2)) (C := RX5) (T := TX5) (N := 9) hx hb hw zi_RX5 hown hK hP 0 rfl rfl 1 (by decide) (hw _ zm_183) (fun _ h9 => h9) rfl dX5_clearStripes_1 ?_
  refine va_getN (D := D) (ci := 8) (v := .int 0) (C := RX3) (T := TX3) (N := 3) hx hb hw zi_RX3 hown hK hP 2 rfl rfl 2 (by decide) (hT.f 2 rfl) (fun _ h9 => h9) rfl dX5_clearStripes_4 ?_
  refine lv_istore_n (lv' := [(1, .int 0), (0, .ref (ad 0))]) hx hb dX5_clearStripes_7 rfl hl (by decide) rfl (fun ls hl => ?_)
  refine lv_aload_n hx hb dX5_clearStripes_8 rfl (lv_at hl 1 rfl) ?_
  refine va_get (D := D) (ci := 10) (v := .ref (ad 2)) (C := RX5) (T := TX5) (N := 9) hx hb hw zi_RX5 hown hK hP 0 rfl rfl 1 (by decide) (hw _ zm_183) (fun _ h9 => h9) rfl dX5_clearStripes_9 ?_
  have hPc := hP.sub (ws' := [((ad 2), .inr (8, [.ref (ad 9), .ref (ad 10), .int 0]))]) [2] rfl
  have hDc := hD.sub (ws' := [((ad 2), .inr (8, [.ref (ad 9), .ref (ad 10), .int 0]))]) [2] (by decide) rfl
  have hFc := va_free (wc := [((ad 2), .inr (8, [.ref (ad 9), .ref (ad 10), .int 0]))]) hD hS hA [2] rfl
  refine va_callv (va_runV (As := []) (rest := []) ⟨hx, hb, hml, hown, hw⟩ (c_X3_clear l D sa ea ad _) (cwV 0 hw (zg4 zm_214 zm_215 zm_216 zm_47 zm_217) rfl rfl rfl (by decide +kernel) ⟨Nat.le_of_ble_eq_true rfl, Nat.le_of_ble_eq_true rfl⟩) ⟨zW_blind, va_recv hK hPc (ci := 8) (q0 := 0) rfl rfl, zW_pre hPc hK hDc hT hE hS hFc⟩ rfl rfl hl.1 rfl (lv_room (Nat.le_of_ble_eq_true rfl)) dX5_clearStripes_12 ⟨Nat.le_of_ble_eq_true rfl, Nat.le_of_ble_eq_true rfl⟩) hS (fun q _ h => hFc q h) hFc (fun u t H locs ht hvm hw1 hB hz1 hk1 hS => ?_)
  obtain ⟨hP1, hD1⟩ := hB
  rw [ht] at hP1
  obtain ⟨hP, hD⟩ := va_join (wr := [((ad 0), .inr (10, [.ref (ad 1), .ref (ad 2), .ref (ad 3), .ref (ad 4), .ref (ad 5), .int (-1), .int 100, .int 0, .int 0])), ((ad 1), .inr (7, [.ref (ad 6), .ref (ad 7), .ref (ad 8), .int 0])), ((ad 3), .inr (4, [.int 0, .ref (ad 14), .int 0])), ((ad 4), .inr (4, [.int 0, .ref (ad 14), .int 0])), ((ad 5), .inr (6, [.ref (ad 11), .ref (ad 12), .ref (ad 13), .int 0, .int 0]))]) (w1 := [((ad 2), .inr (8, [.ref (ad 9), .ref (ad 10), .int 0]))]) hP hD [2] [0, 1, 3, 4, 5] rfl rfl (by decide) (by decide) hk1 hFc hP1 hD1
  have hP : va_P D vwCl [((ad 0), .inr (10, [.ref (ad 1), .ref (ad 2), .ref (ad 3), .ref (ad 4), .ref (ad 5), .int (-1), .int 100, .int 0, .int 0])), ((ad 1), .inr (7, [.ref (ad 6), .ref (ad 7), .ref (ad 8), .int 0])), ((ad 3), .inr (4, [.int 0, .ref (ad 14), .int 0])), ((ad 4), .inr (4, [.int 0, .ref (ad 14), .int 0])), ((ad 5), .inr (6, [.ref (ad 11), .ref (ad 12), .ref (ad 13), .int 0, .int 0])), ((ad 2), .inr (8, [.ref (ad 9), .ref (ad 10), .int 0]))] H := hP
  have hD : va_D A [((ad 0), .inr (10, [.ref (ad 1), .ref (ad 2), .ref (ad 3), .ref (ad 4), .ref (ad 5), .int (-1), .int 100, .int 0, .int 0])), ((ad 1), .inr (7, [.ref (ad 6), .ref (ad 7), .ref (ad 8), .int 0])), ((ad 3), .inr (4, [.int 0, .ref (ad 14), .int 0])), ((ad 4), .inr (4, [.int 0, .ref (ad 14), .int 0])), ((ad 5), .inr (6, [.ref (ad 11), .ref (ad 12), .ref (ad 13), .int 0, .int 0])), ((ad 2), .inr (8, [.ref (ad 9), .ref (ad 10), .int 0]))] := hD
  refine lv_iload_n hx hb dX5_clearStripes_15 rfl (lv_at hl 0 rfl) ?_
  have hP9 := hP.sub (ws' := [((ad 0), .inr (10, [.ref (ad 1), .ref (ad 2), .ref (ad 3), .ref (ad 4), .ref (ad 5), .int (-1), .int 100, .int 0, .int 0])), ((ad 1), .inr (7, [.ref (ad 6), .ref (ad 7), .ref (ad 8), .int 0])), ((ad 2), .inr (8, [.ref (ad 9), .ref (ad 10), .int 0])), ((ad 3), .inr (4, [.int 0, .ref (ad 14), .int 0])), ((ad 4), .inr (4, [.int 0, .ref (ad 14), .int 0])), ((ad 5), .inr (6, [.ref (ad 11), .ref (ad 12), .ref (ad 13), .int 0, .int 0]))]) [0, 1, 5, 2, 3, 4] rfl
  have hD9 := hD.sub (ws' := [((ad 0), .inr (10, [.ref (ad 1), .ref (ad 2), .ref (ad 3), .ref (ad 4), .ref (ad 5), .int (-1), .int 100, .int 0, .int 0])), ((ad 1), .inr (7, [.ref (ad 6), .ref (ad 7), .ref (ad 8), .int 0])), ((ad 2), .inr (8, [.ref (ad 9), .ref (ad 10), .int 0])), ((ad 3), .inr (4, [.int 0, .ref (ad 14), .int 0])), ((ad 4), .inr (4, [.int 0, .ref (ad 14), .int 0])), ((ad 5), .inr (6, [.ref (ad 11), .ref (ad 12), .ref (ad 13), .int 0, .int 0]))]) [0, 1, 5, 2, 3, 4] (by decide) rfl
  refine W.widen (k := 0) (n := 0) (Nat.le_of_ble_eq_true rfl) (Nat.le_of_ble_eq_true rfl) ?_
  exact W.iret (v := 0) hx hb hr (fun t ht hW => ⟨⟨0, (), rfl, rfl, by rw [ht]; exact hP9, hD9⟩, hS.F ht⟩) hS.2.2 dX5_clearStripes_16
theorem dX1_takeDown_0 : decode cX1_takeDown 0 = .ok (.iconst 0, 1) := by decide +kernel
theorem dX1_takeDown_1 : decode cX1_takeDown 1 = .ok (.istore_n 1, 1) := by decide +kernel
theorem dX1_takeDown_2 : decode cX1_takeDown 2 = .ok (.iconst 0, 1) := by decide +kernel
theorem dX1_takeDown_3 : decode cX1_takeDown 3 = .ok (.istore_n 2, 1) := by decide +kernel
theorem dX1_takeDown_4 : decode cX1_takeDown 4 = .ok (.iload_n 2, 1) := by decide +kernel
theorem dX1_takeDown_5 : decode cX1_takeDown 5 = .ok (.aload_n 0, 1) := by decide +kernel
theorem dX1_takeDown_6 : decode cX1_takeDown 6 = .ok (.getfield 21, 3) := by decide +kernel
theorem dX1_takeDown_9 : decode cX1_takeDown 9 = .ok (.if_icmp .ge 17, 3) := by decide +kernel
theorem dX1_takeDown_26 : decode cX1_takeDown 26 = .ok (.aload_n 0, 1) := by decide +kernel
theorem dX1_takeDown_27 : decode cX1_takeDown 27 = .ok (.iconst 0, 1) := by decide +kernel
theorem dX1_takeDown_28 : decode cX1_takeDown 28 = .ok (.putfield 21, 3) := by decide +kernel
theorem dX1_takeDown_31 : decode cX1_takeDown 31 = .ok (.aload_n 0, 1) := by decide +kernel
theorem dX1_takeDown_32 : decode cX1_takeDown 32 = .ok (.iconst 0, 1) := by decide +kernel
theorem dX1_takeDown_33 : decode cX1_takeDown 33 = .ok (.putfield 25, 3) := by decide +kernel
theorem dX1_takeDown_36 : decode cX1_takeDown 36 = .ok (.iload_n 1, 1) := by decide +kernel
theorem dX1_takeDown_37 : decode cX1_takeDown 37 = .ok (.ireturn, 1) := by decide +kernel
set_option maxHeartbeats 4000000 in
set_option maxRecDepth 100000 in
theorem c_X1_takeDown (l : Launch) (D : va_G) (sa : Nat → Nat) (ea : Nat) (ad : Nat → Nat) (sz : Nat) : Met l yX1_takeDown ((Cond.code yX1_takeDown prog_3_method_10_code 3 (Option.some FieldType.int)) :: WA) ({ frames := 0, cells := 0, slots := 0, locals := 0 }) (zW D sa ea [] [((ad 5), .inr (6, [.ref (ad 11), .ref (ad 12), .ref (ad 13), .int 0, .int 0]))] [.ref (ad 5)] sz) (va_Qi (fun (r : Int32) (_ : Unit) => r = 0) (fun _ t => va_P D vwCl [((ad 5), .inr (6, [.ref (ad 11), .ref (ad 12), .ref (ad 13), .int 0, .int 0]))] t.heap ∧ va_D (va_A [((ad 5), .inr (6, [.ref (ad 11), .ref (ad 12), .ref (ad 13), .int 0, .int 0]))] sz) [((ad 5), .inr (6, [.ref (ad 11), .ref (ad 12), .ref (ad 13), .int 0, .int 0]))]) (va_A [((ad 5), .inr (6, [.ref (ad 11), .ref (ad 12), .ref (ad 13), .int 0, .int 0]))] sz)) 0 0 (va_A [((ad 5), .inr (6, [.ref (ad 11), .ref (ad 12), .ref (ad 13), .int 0, .int 0]))] sz) := by
  refine Met.ofW (cc := prog_3_method_10_code) (maxL := 3) (ret := (Option.some FieldType.int)) (by decide) rfl ?_
  intro p e s m args below meth c s₁ B hml hv
  obtain ⟨rfl, hsz, hP, hK, hD0, hT, hE⟩ := hv
  have hx := B.exec
  have hb := B.bytes
  have hr := B.returns
  have hts := atoms_spec (ws := (Cond.code yX1_takeDown prog_3_method_10_code 3 (Option.some FieldType.int)) :: WA) B.pre
  have hw : ∀ w ∈ WA, w.before _ s = true := fun w h => hts w (List.mem_cons_of_mem _ h)
  have hown : s.vm.findClass RX1 = some m.cls := findClass_of_methodNamed B.named
  have hlocks := B.notSynchronized
  subst hsz
  have hD := hD0.self (sz := s.heap.size)
  generalize hAe : va_A [((ad 5), .inr (6, [.ref (ad 11), .ref (ad 12), .ref (ad 13), .int 0, .int 0]))] s.heap.size = A at hD hE ⊢
  have hA : ∀ q : Nat, s.heap.size ≤ q → A q := fun q h => by rw [← hAe]; exact Or.inr h
  have hS : va_S A s.heap s.heap [] := va_S.rf
  have hP : va_P D vwCl [((ad 5), .inr (6, [.ref (ad 11), .ref (ad 12), .ref (ad 13), .int 0, .int 0]))] s.heap := hP
  have hD : va_D A [((ad 5), .inr (6, [.ref (ad 11), .ref (ad 12), .ref (ad 13), .int 0, .int 0]))] := hD
  have hl := lv_entry [.ref (ad 5)] (n := 3) (Nat.le_of_ble_eq_true rfl)
  rw [lg_entry_eq]
  generalize (lg_sl [.ref (ad 5)] ++ List.replicate (3 - (lg_sl [.ref (ad 5)]).length) Slot.unset).toArray = ls at hl ⊢
  have hl : lv_has ls 3 [(0, .ref (ad 5))] := hl
  refine lv_iconst (v := 0) hx hb dX1_takeDown_0 (by decide) ?_
  refine lv_istore_n (lv' := [(1, .int 0), (0, .ref (ad 5))]) hx hb dX1_takeDown_1 rfl hl (by decide) rfl (fun ls hl => ?_)
  refine lv_iconst (v := 0) hx hb dX1_takeDown_2 (by decide) ?_
  refine lv_istore_n (lv' := [(2, .int 0), (1, .int 0), (0, .ref (ad 5))]) hx hb dX1_takeDown_3 rfl hl (by decide) rfl (fun ls hl => ?_)
  refine lv_iload_n hx hb dX1_takeDown_4 rfl (lv_at hl 0 rfl) ?_
  refine lv_aload_n hx hb dX1_takeDown_5 rfl (lv_at hl 2 rfl) ?_
  refine va_get (D := D) (ci := 6) (v := .int 0) (C := RX1) (T := TX1) (N := 5) hx hb hw zi_RX1 hown hK hP 0 rfl rfl 3 (by decide) (hw _ zm_168) (fun _ h9 => h9) rfl dX1_takeDown_6 ?_
  refine lv_icmp_ge (tgt := 26) hx hb dX1_takeDown_9 (by decide) (fun _ => ?_) (fun c_1 => absurd (by decide) c_1)
  refine lv_aload_n hx hb dX1_takeDown_26 rfl (lv_at hl 2 rfl) ?_
  refine lv_iconst (v := 0) hx hb dX1_takeDown_27 (by decide) ?_
  refine va_put (D := D) (ci := 6) (v := .int 0) (ty := .int) (C := RX1) (T := TX1) (N := 5) hx hb hw zi_RX1 tyX1 tyX1_ok nmX1 hown hK hP hD hS 0 rfl rfl 3 (by decide) (hw _ zm_168) (fun _ h9 => h9) rfl (by decide +kernel) rfl rfl (Nat.le_of_ble_eq_true rfl) dX1_takeDown_28 (fun H locs hP hD hS => ?_)
  have hP : va_P D vwCl [((ad 5), .inr (6, [.ref (ad 11), .ref (ad 12), .ref (ad 13), .int 0, .int 0]))] H := hP
  have hD : va_D A [((ad 5), .inr (6, [.ref (ad 11), .ref (ad 12), .ref (ad 13), .int 0, .int 0]))] := hD
  refine lv_aload_n hx hb dX1_takeDown_31 rfl (lv_at hl 2 rfl) ?_
  refine lv_iconst (v := 0) hx hb dX1_takeDown_32 (by decide) ?_
  refine va_put (D := D) (ci := 6) (v := .int 0) (ty := .int) (C := RX1) (T := TX1) (N := 5) hx hb hw zi_RX1 tyX1 tyX1_ok nmX1 hown hK hP hD hS 0 rfl rfl 4 (by decide) (hw _ zm_170) (fun _ h9 => h9) rfl (by decide +kernel) rfl rfl (Nat.le_of_ble_eq_true rfl) dX1_takeDown_33 (fun H locs hP hD hS => ?_)
  have hP : va_P D vwCl [((ad 5), .inr (6, [.ref (ad 11), .ref (ad 12), .ref (ad 13), .int 0, .int 0]))] H := hP
  have hD : va_D A [((ad 5), .inr (6, [.ref (ad 11), .ref (ad 12), .ref (ad 13), .int 0, .int 0]))] := hD
  refine lv_iload_n hx hb dX1_takeDown_36 rfl (lv_at hl 1 rfl) ?_
  have hP9 := hP.sub (ws' := [((ad 5), .inr (6, [.ref (ad 11), .ref (ad 12), .ref (ad 13), .int 0, .int 0]))]) [0] rfl
  have hD9 := hD.sub (ws' := [((ad 5), .inr (6, [.ref (ad 11), .ref (ad 12), .ref (ad 13), .int 0, .int 0]))]) [0] (by decide) rfl
  refine W.widen (k := 0) (n := 0) (Nat.le_of_ble_eq_true rfl) (Nat.le_of_ble_eq_true rfl) ?_
  exact W.iret (v := 0) hx hb hr (fun t ht hW => ⟨⟨0, (), rfl, rfl, by rw [ht]; exact hP9, hD9⟩, hS.F ht⟩) hS.2.2 dX1_takeDown_37
theorem dX5_cut_0 : decode cX5_cut 0 = .ok (.aload_n 0, 1) := by decide +kernel
theorem dX5_cut_1 : decode cX5_cut 1 = .ok (.getfield 38, 3) := by decide +kernel
theorem dX5_cut_4 : decode cX5_cut 4 = .ok (.invokevirtual 314, 3) := by decide +kernel
theorem zm_222 : Cond.methodLink RX5 314 yX1_takeDown ∈ WA := zmm (i := 222) (by decide +kernel) (by decide +kernel)
theorem zm_223 : Cond.instanceMethod yX1_takeDown ∈ WA := zmm (i := 223) (by decide +kernel) (by decide +kernel)
theorem zm_224 : Cond.selects RX1 yX1_takeDown yX1_takeDown ∈ WA := zmm (i := 224) (by decide +kernel) (by decide +kernel)
theorem zm_225 : Cond.code yX1_takeDown prog_3_method_10_code 3 (Option.some FieldType.int) ∈ WA := zmm (i := 225) (by decide +kernel) (by decide +kernel)
theorem dX5_cut_7 : decode cX5_cut 7 = .ok (.istore_n 1, 1) := by decide +kernel
theorem dX5_cut_8 : decode cX5_cut 8 = .ok (.aload_n 0, 1) := by decide +kernel
theorem dX5_cut_9 : decode cX5_cut 9 = .ok (.dup, 1) := by decide +kernel
theorem dX5_cut_10 : decode cX5_cut 10 = .ok (.getfield 52, 3) := by decide +kernel
theorem dX5_cut_13 : decode cX5_cut 13 = .ok (.iload_n 1, 1) := by decide +kernel
theorem dX5_cut_14 : decode cX5_cut 14 = .ok (.iadd, 1) := by decide +kernel
theorem dX5_cut_15 : decode cX5_cut 15 = .ok (.putfield 52, 3) := by decide +kernel
theorem dX5_cut_18 : decode cX5_cut 18 = .ok (.iload_n 1, 1) := by decide +kernel
theorem dX5_cut_19 : decode cX5_cut 19 = .ok (.ireturn, 1) := by decide +kernel
set_option maxHeartbeats 4000000 in
set_option maxRecDepth 100000 in
theorem c_X5_cut (l : Launch) (D : va_G) (sa : Nat → Nat) (ea : Nat) (ad : Nat → Nat) (sz : Nat) : Met l yX5_cut ((Cond.code yX5_cut prog_1_method_39_code 2 (Option.some FieldType.int)) :: WA) ({ frames := 1, cells := 0, slots := 0, locals := 22 }) (zW D sa ea [] (zX ad) [.ref (ad 0)] sz) (va_Qi (fun (r : Int32) (_ : Unit) => r = 0) (fun _ t => va_P D vwCl [((ad 0), .inr (10, [.ref (ad 1), .ref (ad 2), .ref (ad 3), .ref (ad 4), .ref (ad 5), .int (-1), .int 100, .int 0, .int 0])), ((ad 1), .inr (7, [.ref (ad 6), .ref (ad 7), .ref (ad 8), .int 0])), ((ad 2), .inr (8, [.ref (ad 9), .ref (ad 10), .int 0])), ((ad 3), .inr (4, [.int 0, .ref (ad 14), .int 0])), ((ad 4), .inr (4, [.int 0, .ref (ad 14), .int 0])), ((ad 5), .inr (6, [.ref (ad 11), .ref (ad 12), .ref (ad 13), .int 0, .int 0]))] t.heap ∧ va_D (va_A (zX ad) sz) [((ad 0), .inr (10, [.ref (ad 1), .ref (ad 2), .ref (ad 3), .ref (ad 4), .ref (ad 5), .int (-1), .int 100, .int 0, .int 0])), ((ad 1), .inr (7, [.ref (ad 6), .ref (ad 7), .ref (ad 8), .int 0])), ((ad 2), .inr (8, [.ref (ad 9), .ref (ad 10), .int 0])), ((ad 3), .inr (4, [.int 0, .ref (ad 14), .int 0])), ((ad 4), .inr (4, [.int 0, .ref (ad 14), .int 0])), ((ad 5), .inr (6, [.ref (ad 11), .ref (ad 12), .ref (ad 13), .int 0, .int 0]))]) (va_A (zX ad) sz)) 0 0 (va_A (zX ad) sz) := by
  refine Met.ofW (cc := prog_1_method_39_code) (maxL := 2) (ret := (Option.some FieldType.int)) (by decide) rfl ?_
  intro p e s m args below meth c s₁ B hml hv
  obtain ⟨rfl, hsz, hP, hK, hD0, hT, hE⟩ := hv
  have hx := B.exec
  have hb := B.bytes
  have hr := B.returns
  have hts := atoms_spec (ws := (Cond.code yX5_cut prog_1_method_39_code 2 (Option.some FieldType.int)) :: WA) B.pre
  have hw : ∀ w ∈ WA, w.before _ s = true := fun w h => hts w (List.mem_cons_of_mem _ h)
  have hown : s.vm.findClass RX5 = some m.cls := findClass_of_methodNamed B.named
  have hlocks := B.notSynchronized
  subst hsz
  have hD := hD0.self (sz := s.heap.size)
  generalize hAe : va_A (zX ad) s.heap.size = A at hD hE ⊢
  have hA : ∀ q : Nat, s.heap.size ≤ q → A q := fun q h => by rw [← hAe]; exact Or.inr h
  have hS : va_S A s.heap s.heap [] := va_S.rf
  have hP : va_P D vwCl [((ad 0), .inr (10, [.ref (ad 1), .ref (ad 2), .ref (ad 3), .ref (ad 4), .ref (ad 5), .int (-1), .int 100, .int 0, .int 0])), ((ad 1), .inr (7, [.ref (ad 6), .ref (ad 7), .ref (ad 8), .int 0])), ((ad 2), .inr (8, [.ref (ad 9), .ref (ad 10), .int 0])), ((ad 3), .inr (4, [.int 0, .ref (ad 14), .int 0])), ((ad 4), .inr (4, [.int 0, .ref (ad 14), .int 0])), ((ad 5), .inr (6, [.ref (ad 11), .ref (ad 12), .ref (ad 13), .int 0, .int 0]))] s.heap := hP
  have hD : va_D A [((ad 0), .inr (10, [.ref (ad 1), .ref (ad 2), .ref (ad 3), .ref (ad 4), .ref (ad 5), .int (-1), .int 100, .int 0, .int 0])), ((ad 1), .inr (7, [.ref (ad 6), .ref (ad 7), .ref (ad 8), .int 0])), ((ad 2), .inr (8, [.ref (ad 9), .ref (ad 10), .int 0])), ((ad 3), .inr (4, [.int 0, .ref (ad 14), .int 0])), ((ad 4), .inr (4, [.int 0, .ref (ad 14), .int 0])), ((ad 5), .inr (6, [.ref (ad 11), .ref (ad 12), .ref (ad 13), .int 0, .int 0]))] := hD
  have hl := lv_entry [.ref (ad 0)] (n := 2) (Nat.le_of_ble_eq_true rfl)
  rw [lg_entry_eq]
  generalize (lg_sl [.ref (ad 0)] ++ List.replicate (2 - (lg_sl [.ref (ad 0)]).length) Slot.unset).toArray = ls at hl ⊢
  have hl : lv_has ls 2 [(0, .ref (ad 0))] := hl
  refine lv_aload_n hx hb dX5_cut_0 rfl (lv_at hl 0 rfl) ?_
  refine va_get (D := D) (ci := 10) (v := .ref (ad 5)) (C := RX5) (T := TX5) (N := 9) hx hb hw zi_RX5 hown hK hP 0 rfl rfl 4 (by decide) (hw _ zm_186) (fun _ h9 => h9) rfl dX5_cut_1 ?_
  have hPc := hP.sub (ws' := [((ad 5), .inr (6, [.ref (ad 11), .ref (ad 12), .ref (ad 13), .int 0, .int 0]))]) [5] rfl
  have hDc := hD.sub (ws' := [((ad 5), .inr (6, [.ref (ad 11), .ref (ad 12), .ref (ad 13), .int 0, .int 0]))]) [5] (by decide) rfl
  have hFc := va_free (wc := [((ad 5), .inr (6, [.ref (ad 11), .ref (ad 12), .ref (ad 13), .int 0, .int 0]))]) hD hS hA [5] rfl
  refine va_calli (va_runV (As := []) (rest := []) ⟨hx, hb, hml, hown, hw⟩ (c_X1_takeDown l D sa ea ad _) (cwV 0 hw (zg4 zm_222 zm_223 zm_224 zm_52 zm_225) rfl rfl rfl (by decide +kernel) ⟨Nat.le_of_ble_eq_true rfl, Nat.le_of_ble_eq_true rfl⟩) ⟨zW_blind, va_recv hK hPc (ci := 6) (q0 := 0) rfl rfl, zW_pre hPc hK hDc hT hE hS hFc⟩ rfl rfl hl.1 rfl (lv_room (Nat.le_of_ble_eq_true rfl)) dX5_cut_4 ⟨Nat.le_of_ble_eq_true rfl, Nat.le_of_ble_eq_true rfl⟩) hS (fun q _ h => hFc q h) hFc (fun r_1 u t H locs ht hvm hw1 hB hz1 hk1 hS => ?_)
  subst hw1
  obtain ⟨hP1, hD1⟩ := hB
  rw [ht] at hP1
  obtain ⟨hP, hD⟩ := va_join (wr := [((ad 0), .inr (10, [.ref (ad 1), .ref (ad 2), .ref (ad 3), .ref (ad 4), .ref (ad 5), .int (-1), .int 100, .int 0, .int 0])), ((ad 1), .inr (7, [.ref (ad 6), .ref (ad 7), .ref (ad 8), .int 0])), ((ad 2), .inr (8, [.ref (ad 9), .ref (ad 10), .int 0])), ((ad 3), .inr (4, [.int 0, .ref (ad 14), .int 0])), ((ad 4), .inr (4, [.int 0, .ref (ad 14), .int 0]))]) (w1 := [((ad 5), .inr (6, [.ref (ad 11), .ref (ad 12), .ref (ad 13), .int 0, .int 0]))]) hP hD [5] [0, 1, 2, 3, 4] rfl rfl (by decide) (by decide) hk1 hFc hP1 hD1
  have hP : va_P D vwCl [((ad 0), .inr (10, [.ref (ad 1), .ref (ad 2), .ref (ad 3), .ref (ad 4), .ref (ad 5), .int (-1), .int 100, .int 0, .int 0])), ((ad 1), .inr (7, [.ref (ad 6), .ref (ad 7), .ref (ad 8), .int 0])), ((ad 2), .inr (8, [.ref (ad 9), .ref (ad 10), .int 0])), ((ad 3), .inr (4, [.int 0, .ref (ad 14), .int 0])), ((ad 4), .inr (4, [.int 0, .ref (ad 14), .int 0])), ((ad 5), .inr (6, [.ref (ad 11), .ref (ad 12), .ref (ad 13), .int 0, .int 0]))] H := hP
  have hD : va_D A [((ad 0), .inr (10, [.ref (ad 1), .ref (ad 2), .ref (ad 3), .ref (ad 4), .ref (ad 5), .int (-1), .int 100, .int 0, .int 0])), ((ad 1), .inr (7, [.ref (ad 6), .ref (ad 7), .ref (ad 8), .int 0])), ((ad 2), .inr (8, [.ref (ad 9), .ref (ad 10), .int 0])), ((ad 3), .inr (4, [.int 0, .ref (ad 14), .int 0])), ((ad 4), .inr (4, [.int 0, .ref (ad 14), .int 0])), ((ad 5), .inr (6, [.ref (ad 11), .ref (ad 12), .ref (ad 13), .int 0, .int 0]))] := hD
  refine lv_istore_n (lv' := [(1, .int 0), (0, .ref (ad 0))]) hx hb dX5_cut_7 rfl hl (by decide) rfl (fun ls hl => ?_)
  refine lv_aload_n hx hb dX5_cut_8 rfl (lv_at hl 1 rfl) ?_
  refine lv_dup hx hb dX5_cut_9 rfl ?_
  refine va_get (D := D) (ci := 10) (v := .int 0) (C := RX5) (T := TX5) (N := 9) hx hb hw zi_RX5 hown hK hP 0 rfl rfl 8 (by decide) (hw _ zm_190) (fun _ h9 => h9) rfl dX5_cut_10 ?_
  refine lv_iload_n hx hb dX5_cut_13 rfl (lv_at hl 0 rfl) ?_
  refine lv_iadd hx hb dX5_cut_14 ?_
  refine lv_topi (fun f_2 ef_2 => ?_)
  obtain rfl : f_2 = 0 := ef_2.trans (by decide)
  refine va_put (D := D) (ci := 10) (v := .int 0) (ty := .int) (C := RX5) (T := TX5) (N := 9) hx hb hw zi_RX5 tyX5 tyX5_ok nmX5 hown hK hP hD hS 0 rfl rfl 8 (by decide) (hw _ zm_190) (fun _ h9 => h9) rfl (by decide +kernel) rfl rfl (Nat.le_of_ble_eq_true rfl) dX5_cut_15 (fun H locs hP hD hS => ?_)
  have hP : va_P D vwCl [((ad 0), .inr (10, [.ref (ad 1), .ref (ad 2), .ref (ad 3), .ref (ad 4), .ref (ad 5), .int (-1), .int 100, .int 0, .int 0])), ((ad 1), .inr (7, [.ref (ad 6), .ref (ad 7), .ref (ad 8), .int 0])), ((ad 2), .inr (8, [.ref (ad 9), .ref (ad 10), .int 0])), ((ad 3), .inr (4, [.int 0, .ref (ad 14), .int 0])), ((ad 4), .inr (4, [.int 0, .ref (ad 14), .int 0])), ((ad 5), .inr (6, [.ref (ad 11), .ref (ad 12), .ref (ad 13), .int 0, .int 0]))] H := hP
  have hD : va_D A [((ad 0), .inr (10, [.ref (ad 1), .ref (ad 2), .ref (ad 3), .ref (ad 4), .ref (ad 5), .int (-1), .int 100, .int 0, .int 0])), ((ad 1), .inr (7, [.ref (ad 6), .ref (ad 7), .ref (ad 8), .int 0])), ((ad 2), .inr (8, [.ref (ad 9), .ref (ad 10), .int 0])), ((ad 3), .inr (4, [.int 0, .ref (ad 14), .int 0])), ((ad 4), .inr (4, [.int 0, .ref (ad 14), .int 0])), ((ad 5), .inr (6, [.ref (ad 11), .ref (ad 12), .ref (ad 13), .int 0, .int 0]))] := hD
  refine lv_iload_n hx hb dX5_cut_18 rfl (lv_at hl 0 rfl) ?_
  have hP9 := hP.sub (ws' := [((ad 0), .inr (10, [.ref (ad 1), .ref (ad 2), .ref (ad 3), .ref (ad 4), .ref (ad 5), .int (-1), .int 100, .int 0, .int 0])), ((ad 1), .inr (7, [.ref (ad 6), .ref (ad 7), .ref (ad 8), .int 0])), ((ad 2), .inr (8, [.ref (ad 9), .ref (ad 10), .int 0])), ((ad 3), .inr (4, [.int 0, .ref (ad 14), .int 0])), ((ad 4), .inr (4, [.int 0, .ref (ad 14), .int 0])), ((ad 5), .inr (6, [.ref (ad 11), .ref (ad 12), .ref (ad 13), .int 0, .int 0]))]) [0, 1, 2, 3, 4, 5] rfl
  have hD9 := hD.sub (ws' := [((ad 0), .inr (10, [.ref (ad 1), .ref (ad 2), .ref (ad 3), .ref (ad 4), .ref (ad 5), .int (-1), .int 100, .int 0, .int 0])), ((ad 1), .inr (7, [.ref (ad 6), .ref (ad 7), .ref (ad 8), .int 0])), ((ad 2), .inr (8, [.ref (ad 9), .ref (ad 10), .int 0])), ((ad 3), .inr (4, [.int 0, .ref (ad 14), .int 0])), ((ad 4), .inr (4, [.int 0, .ref (ad 14), .int 0])), ((ad 5), .inr (6, [.ref (ad 11), .ref (ad 12), .ref (ad 13), .int 0, .int 0]))]) [0, 1, 2, 3, 4, 5] (by decide) rfl
  refine W.widen (k := 0) (n := 0) (Nat.le_of_ble_eq_true rfl) (Nat.le_of_ble_eq_true rfl) ?_
  exact W.iret (v := 0) hx hb hr (fun t ht hW => ⟨⟨0, (), rfl, rfl, by rw [ht]; exact hP9, hD9⟩, hS.F ht⟩) hS.2.2 dX5_cut_19
theorem dJx4a65c_clear_da8c8_0 : decode cJx4a65c_clear_da8c8 0 = .ok (.aload_n 0, 1) := by decide +kernel
theorem dJx4a65c_clear_da8c8_1 : decode cJx4a65c_clear_da8c8 1 = .ok (.dup, 1) := by decide +kernel
theorem dJx4a65c_clear_da8c8_2 : decode cJx4a65c_clear_da8c8 2 = .ok (.getfield 63, 3) := by decide +kernel
theorem zm_151 : Cond.fieldLink RJx4a65c 63 RJx4a65c "modCount" "I" ∈ WA := zmm (i := 151) (by decide +kernel) (by decide +kernel)
theorem zm_150 : Cond.sameField RJx4a65c RJxc12de "modCount" "I" ∈ WA := zmm (i := 150) (by decide +kernel) (by decide +kernel)
theorem dJx4a65c_clear_da8c8_5 : decode cJx4a65c_clear_da8c8 5 = .ok (.iconst 1, 1) := by decide +kernel
theorem dJx4a65c_clear_da8c8_6 : decode cJx4a65c_clear_da8c8 6 = .ok (.iadd, 1) := by decide +kernel
theorem dJx4a65c_clear_da8c8_7 : decode cJx4a65c_clear_da8c8 7 = .ok (.putfield 63, 3) := by decide +kernel
theorem dJx4a65c_clear_da8c8_10 : decode cJx4a65c_clear_da8c8 10 = .ok (.aload_n 0, 1) := by decide +kernel
theorem dJx4a65c_clear_da8c8_11 : decode cJx4a65c_clear_da8c8 11 = .ok (.getfield 9, 3) := by decide +kernel
theorem zm_144 : Cond.fieldLink RJx4a65c 9 RJx4a65c "elementData" "[Ljava/lang/Object;" ∈ WA := zmm (i := 144) (by decide +kernel) (by decide +kernel)
theorem dJx4a65c_clear_da8c8_14 : decode cJx4a65c_clear_da8c8 14 = .ok (.astore_n 1, 1) := by decide +kernel
theorem dJx4a65c_clear_da8c8_15 : decode cJx4a65c_clear_da8c8 15 = .ok (.aload_n 0, 1) := by decide +kernel
theorem dJx4a65c_clear_da8c8_16 : decode cJx4a65c_clear_da8c8 16 = .ok (.getfield 48, 3) := by decide +kernel
theorem dJx4a65c_clear_da8c8_19 : decode cJx4a65c_clear_da8c8 19 = .ok (.istore_n 2, 1) := by decide +kernel
theorem dJx4a65c_clear_da8c8_20 : decode cJx4a65c_clear_da8c8 20 = .ok (.aload_n 0, 1) := by decide +kernel
theorem dJx4a65c_clear_da8c8_21 : decode cJx4a65c_clear_da8c8 21 = .ok (.iconst 0, 1) := by decide +kernel
theorem dJx4a65c_clear_da8c8_22 : decode cJx4a65c_clear_da8c8 22 = .ok (.dup_x1, 1) := by decide +kernel
theorem dJx4a65c_clear_da8c8_23 : decode cJx4a65c_clear_da8c8 23 = .ok (.putfield 48, 3) := by decide +kernel
theorem dJx4a65c_clear_da8c8_26 : decode cJx4a65c_clear_da8c8 26 = .ok (.istore_n 3, 1) := by decide +kernel
theorem dJx4a65c_clear_da8c8_27 : decode cJx4a65c_clear_da8c8 27 = .ok (.iload_n 3, 1) := by decide +kernel
theorem dJx4a65c_clear_da8c8_28 : decode cJx4a65c_clear_da8c8 28 = .ok (.iload_n 2, 1) := by decide +kernel
theorem dJx4a65c_clear_da8c8_29 : decode cJx4a65c_clear_da8c8 29 = .ok (.if_icmp .ge 13, 3) := by decide +kernel
theorem dJx4a65c_clear_da8c8_42 : decode cJx4a65c_clear_da8c8 42 = .ok (.return_, 1) := by decide +kernel
set_option maxHeartbeats 4000000 in
set_option maxRecDepth 100000 in
theorem c_Jx4a65c_clear_da8c8 (l : Launch) (D : va_G) (sa : Nat → Nat) (ea : Nat) (h : Nat) (x1 : Nat) (sz : Nat) : Met l yJx4a65c_clear_da8c8 ((Cond.code yJx4a65c_clear_da8c8 prog_35_method_40_code 4 (Option.none : Option FieldType)) :: WA) ({ frames := 0, cells := 0, slots := 0, locals := 0 }) (zW D sa ea [] [(h, .inr (4, [.int 0, .ref x1, .int 0]))] [.ref h] sz) (va_Qv (fun (_ : Unit) => True) (fun _ t => va_P D vwCl [(h, .inr (4, [.int 1, .ref x1, .int 0]))] t.heap ∧ va_D (va_A [(h, .inr (4, [.int 0, .ref x1, .int 0]))] sz) [(h, .inr (4, [.int 1, .ref x1, .int 0]))]) (va_A [(h, .inr (4, [.int 0, .ref x1, .int 0]))] sz)) 0 0 (va_A [(h, .inr (4, [.int 0, .ref x1, .int 0]))] sz) := by
  refine Met.ofW (cc := prog_35_method_40_code) (maxL := 4) (ret := (Option.none : Option FieldType)) (by decide) rfl ?_
  intro p e s m args below meth c s₁ B hml hv
  obtain ⟨rfl, hsz, hP, hK, hD0, hT, hE⟩ := hv
  have hx := B.exec
  have hb := B.bytes
  have hr := B.returns
  have hts := atoms_spec (ws := (Cond.code yJx4a65c_clear_da8c8 prog_35_method_40_code 4 (Option.none : Option FieldType)) :: WA) B.pre
  have hw : ∀ w ∈ WA, w.before _ s = true := fun w h => hts w (List.mem_cons_of_mem _ h)
  have hown : s.vm.findClass RJx4a65c = some m.cls := findClass_of_methodNamed B.named
  have hlocks := B.notSynchronized
  subst hsz
  have hD := hD0.self (sz := s.heap.size)
  generalize hAe : va_A [(h, .inr (4, [.int 0, .ref x1, .int 0]))] s.heap.size = A at hD hE ⊢
  have hA : ∀ q : Nat, s.heap.size ≤ q → A q := fun q h => by rw [← hAe]; exact Or.inr h
  have hS : va_S A s.heap s.heap [] := va_S.rf
  have hP : va_P D vwCl [(h, .inr (4, [.int 0, .ref x1, .int 0]))] s.heap := hP
  have hD : va_D A [(h, .inr (4, [.int 0, .ref x1, .int 0]))] := hD
  have hl := lv_entry [.ref h] (n := 4) (Nat.le_of_ble_eq_true rfl)
  rw [lg_entry_eq]
  generalize (lg_sl [.ref h] ++ List.replicate (4 - (lg_sl [.ref h]).length) Slot.unset).toArray = ls at hl ⊢
  have hl : lv_has ls 4 [(0, .ref h)] := hl
  refine lv_aload_n hx hb dJx4a65c_clear_da8c8_0 rfl (lv_at hl 0 rfl) ?_
  refine lv_dup hx hb dJx4a65c_clear_da8c8_1 rfl ?_
  refine va_get (D := D) (ci := 4) (v := .int 0) (C := RJx4a65c) (T := TJx4a65c) (N := 3) hx hb hw zi_RJx4a65c hown hK hP 0 rfl rfl 0 (by decide) (hw _ zm_151) (u_same (hw _ zm_150)) rfl dJx4a65c_clear_da8c8_2 ?_
  refine lv_iconst (v := 1) hx hb dJx4a65c_clear_da8c8_5 (by decide) ?_
  refine lv_iadd hx hb dJx4a65c_clear_da8c8_6 ?_
  refine lv_topi (fun f_1 ef_1 => ?_)
  obtain rfl : f_1 = 1 := ef_1.trans (by decide)
  refine va_put (D := D) (ci := 4) (v := .int 1) (ty := .int) (C := RJx4a65c) (T := TJx4a65c) (N := 3) hx hb hw zi_RJx4a65c tyJx4a65c tyJx4a65c_ok nmJx4a65c hown hK hP hD hS 0 rfl rfl 0 (by decide) (hw _ zm_151) (u_same (hw _ zm_150)) rfl (by decide +kernel) rfl rfl (Nat.le_of_ble_eq_true rfl) dJx4a65c_clear_da8c8_7 (fun H locs hP hD hS => ?_)
  have hP : va_P D vwCl [(h, .inr (4, [.int 1, .ref x1, .int 0]))] H := hP
  have hD : va_D A [(h, .inr (4, [.int 1, .ref x1, .int 0]))] := hD
  refine lv_aload_n hx hb dJx4a65c_clear_da8c8_10 rfl (lv_at hl 0 rfl) ?_
  refine va_get (D := D) (ci := 4) (v := .ref x1) (C := RJx4a65c) (T := TJx4a65c) (N := 3) hx hb hw zi_RJx4a65c hown hK hP 0 rfl rfl 1 (by decide) (hw _ zm_144) (fun _ h9 => h9) rfl dJx4a65c_clear_da8c8_11 ?_
  refine lv_astore_n (lv' := [(1, .ref x1), (0, .ref h)]) hx hb dJx4a65c_clear_da8c8_14 rfl hl (by decide) rfl (fun ls hl => ?_)
  refine lv_aload_n hx hb dJx4a65c_clear_da8c8_15 rfl (lv_at hl 1 rfl) ?_
  refine va_get (D := D) (ci := 4) (v := .int 0) (C := RJx4a65c) (T := TJx4a65c) (N := 3) hx hb hw zi_RJx4a65c hown hK hP 0 rfl rfl 2 (by decide) (hw _ zm_147) (fun _ h9 => h9) rfl dJx4a65c_clear_da8c8_16 ?_
  refine lv_istore_n (lv' := [(2, .int 0), (1, .ref x1), (0, .ref h)]) hx hb dJx4a65c_clear_da8c8_19 rfl hl (by decide) rfl (fun ls hl => ?_)
  refine lv_aload_n hx hb dJx4a65c_clear_da8c8_20 rfl (lv_at hl 2 rfl) ?_
  refine lv_iconst (v := 0) hx hb dJx4a65c_clear_da8c8_21 (by decide) ?_
  refine lv_dup_x1 hx hb dJx4a65c_clear_da8c8_22 rfl rfl ?_
  refine va_put (D := D) (ci := 4) (v := .int 0) (ty := .int) (C := RJx4a65c) (T := TJx4a65c) (N := 3) hx hb hw zi_RJx4a65c tyJx4a65c tyJx4a65c_ok nmJx4a65c hown hK hP hD hS 0 rfl rfl 2 (by decide) (hw _ zm_147) (fun _ h9 => h9) rfl (by decide +kernel) rfl rfl (Nat.le_of_ble_eq_true rfl) dJx4a65c_clear_da8c8_23 (fun H locs hP hD hS => ?_)
  have hP : va_P D vwCl [(h, .inr (4, [.int 1, .ref x1, .int 0]))] H := hP
  have hD : va_D A [(h, .inr (4, [.int 1, .ref x1, .int 0]))] := hD
  refine lv_istore_n (lv' := [(3, .int 0), (2, .int 0), (1, .ref x1), (0, .ref h)]) hx hb dJx4a65c_clear_da8c8_26 rfl hl (by decide) rfl (fun ls hl => ?_)
  refine lv_iload_n hx hb dJx4a65c_clear_da8c8_27 rfl (lv_at hl 0 rfl) ?_
  refine lv_iload_n hx hb dJx4a65c_clear_da8c8_28 rfl (lv_at hl 1 rfl) ?_
  refine lv_icmp_ge (tgt := 42) hx hb dJx4a65c_clear_da8c8_29 (by decide) (fun _ => ?_) (fun c_2 => absurd (by decide) c_2)
  have hP9 := hP.sub (ws' := [(h, .inr (4, [.int 1, .ref x1, .int 0]))]) [0] rfl
  have hD9 := hD.sub (ws' := [(h, .inr (4, [.int 1, .ref x1, .int 0]))]) [0] (by decide) rfl
  refine W.widen (k := 0) (n := 0) (Nat.le_of_ble_eq_true rfl) (Nat.le_of_ble_eq_true rfl) ?_
  exact W.vret hx hb hr (fun t ht hW => ⟨⟨(), rfl, trivial, by rw [ht]; exact hP9, hD9⟩, hS.F ht⟩) hS.2.2 dJx4a65c_clear_da8c8_42
theorem dJx35411_init_45d68_0 : decode cJx35411_init_45d68 0 = .ok (.aload_n 0, 1) := by decide +kernel
theorem dJx35411_init_45d68_1 : decode cJx35411_init_45d68 1 = .ok (.aload_n 1, 1) := by decide +kernel
theorem dJx35411_init_45d68_2 : decode cJx35411_init_45d68 2 = .ok (.putfield 1, 3) := by decide +kernel
theorem zm_1337 : Cond.fieldLink RJx35411 1 RJx35411 "this$0" "Ljava/util/ArrayList;" ∈ WA := zmm (i := 1337) (by decide +kernel) (by decide +kernel)
theorem zi_RJx35411 : ∀ w ∈ u_ws RJx35411 TJx35411 4, w ∈ WA := zma (by decide +kernel) (by decide +kernel)
theorem dJx35411_init_45d68_5 : decode cJx35411_init_45d68 5 = .ok (.aload_n 0, 1) := by decide +kernel
theorem dJx35411_init_45d68_6 : decode cJx35411_init_45d68 6 = .ok (.invokespecial 7, 3) := by decide +kernel
theorem zm_1333 : Cond.methodLink RJx35411 7 ⟨"java/lang/Object", "<init>", "()V"⟩ ∈ WA := zmm (i := 1333) (by decide +kernel) (by decide +kernel)
theorem zm_85 : Cond.instanceMethod ⟨"java/lang/Object", "<init>", "()V"⟩ ∈ WA := zmm (i := 85) (by decide +kernel) (by decide +kernel)
theorem zm_86 : Cond.code ⟨"java/lang/Object", "<init>", "()V"⟩ object_method_1_code 1 (Option.none : Option FieldType) ∈ WA := zmm (i := 86) (by decide +kernel) (by decide +kernel)
theorem dJx35411_init_45d68_9 : decode cJx35411_init_45d68 9 = .ok (.aload_n 0, 1) := by decide +kernel
theorem dJx35411_init_45d68_10 : decode cJx35411_init_45d68 10 = .ok (.iconst (-1), 1) := by decide +kernel
theorem dJx35411_init_45d68_11 : decode cJx35411_init_45d68 11 = .ok (.putfield 13, 3) := by decide +kernel
theorem zm_1335 : Cond.fieldLink RJx35411 13 RJx35411 "lastRet" "I" ∈ WA := zmm (i := 1335) (by decide +kernel) (by decide +kernel)
theorem dJx35411_init_45d68_14 : decode cJx35411_init_45d68 14 = .ok (.aload_n 0, 1) := by decide +kernel
theorem dJx35411_init_45d68_15 : decode cJx35411_init_45d68 15 = .ok (.aload_n 0, 1) := by decide +kernel
theorem dJx35411_init_45d68_16 : decode cJx35411_init_45d68 16 = .ok (.getfield 1, 3) := by decide +kernel
theorem dJx35411_init_45d68_19 : decode cJx35411_init_45d68 19 = .ok (.getfield 17, 3) := by decide +kernel
theorem zm_149 : Cond.fieldLink RJx35411 17 RJx4a65c "modCount" "I" ∈ WA := zmm (i := 149) (by decide +kernel) (by decide +kernel)
theorem dJx35411_init_45d68_22 : decode cJx35411_init_45d68 22 = .ok (.putfield 22, 3) := by decide +kernel
theorem zm_1336 : Cond.fieldLink RJx35411 22 RJx35411 "expectedModCount" "I" ∈ WA := zmm (i := 1336) (by decide +kernel) (by decide +kernel)
theorem dJx35411_init_45d68_25 : decode cJx35411_init_45d68 25 = .ok (.return_, 1) := by decide +kernel
set_option maxHeartbeats 4000000 in
set_option maxRecDepth 100000 in
theorem c_Jx35411_init_45d68 (l : Launch) (D : va_G) (sa : Nat → Nat) (ea : Nat) (it h : Nat) (x0 : Int32) (x1 : Nat) (sz : Nat) : Met l yJx35411_init_45d68 ((Cond.code yJx35411_init_45d68 prog_36_method_1_code 2 (Option.none : Option FieldType)) :: WA) ({ frames := 1, cells := 0, slots := 0, locals := 12 }) (zW D sa ea [] [(it, .inr (3, [.int 0, .int 0, .int 0, .null])), (h, .inr (4, [.int x0, .ref x1, .int 0]))] [.ref it, .ref h] sz) (va_Qv (fun (_ : Unit) => True) (fun _ t => va_P D vwCl [(it, .inr (3, [.int 0, .int (-1), .int x0, .ref h])), (h, .inr (4, [.int x0, .ref x1, .int 0]))] t.heap ∧ va_D (va_A [(it, .inr (3, [.int 0, .int 0, .int 0, .null])), (h, .inr (4, [.int x0, .ref x1, .int 0]))] sz) [(it, .inr (3, [.int 0, .int (-1), .int x0, .ref h])), (h, .inr (4, [.int x0, .ref x1, .int 0]))]) (va_A [(it, .inr (3, [.int 0, .int 0, .int 0, .null])), (h, .inr (4, [.int x0, .ref x1, .int 0]))] sz)) 0 0 (va_A [(it, .inr (3, [.int 0, .int 0, .int 0, .null])), (h, .inr (4, [.int x0, .ref x1, .int 0]))] sz) := by
  refine Met.ofW (cc := prog_36_method_1_code) (maxL := 2) (ret := (Option.none : Option FieldType)) (by decide) rfl ?_
  intro p e s m args below meth c s₁ B hml hv
  obtain ⟨rfl, hsz, hP, hK, hD0, hT, hE⟩ := hv
  have hx := B.exec
  have hb := B.bytes
  have hr := B.returns
  have hts := atoms_spec (ws := (Cond.code yJx35411_init_45d68 prog_36_method_1_code 2 (Option.none : Option FieldType)) :: WA) B.pre
  have hw : ∀ w ∈ WA, w.before _ s = true := fun w h => hts w (List.mem_cons_of_mem _ h)
  have hown : s.vm.findClass RJx35411 = some m.cls := findClass_of_methodNamed B.named
  have hlocks := B.notSynchronized
  have hin : meth.name = "<init>" := (name_of_methodNamed B.named B.method).1
  subst hsz
  have hD := hD0.self (sz := s.heap.size)
  generalize hAe : va_A [(it, .inr (3, [.int 0, .int 0, .int 0, .null])), (h, .inr (4, [.int x0, .ref x1, .int 0]))] s.heap.size = A at hD hE ⊢
  have hA : ∀ q : Nat, s.heap.size ≤ q → A q := fun q h => by rw [← hAe]; exact Or.inr h
  have hS : va_S A s.heap s.heap [] := va_S.rf
  have hP : va_P D vwCl [(it, .inr (3, [.int 0, .int 0, .int 0, .null])), (h, .inr (4, [.int x0, .ref x1, .int 0]))] s.heap := hP
  have hD : va_D A [(it, .inr (3, [.int 0, .int 0, .int 0, .null])), (h, .inr (4, [.int x0, .ref x1, .int 0]))] := hD
  have hl := lv_entry [.ref it, .ref h] (n := 2) (Nat.le_of_ble_eq_true rfl)
  rw [lg_entry_eq]
  generalize (lg_sl [.ref it, .ref h] ++ List.replicate (2 - (lg_sl [.ref it, .ref h]).length) Slot.unset).toArray = ls at hl ⊢
  have hl : lv_has ls 2 [(0, .ref it), (1, .ref h)] := hl
  refine lv_aload_n hx hb dJx35411_init_45d68_0 rfl (lv_at hl 0 rfl) ?_
  refine lv_aload_n hx hb dJx35411_init_45d68_1 rfl (lv_at hl 1 rfl) ?_
  refine va_putF (D := D) (ci := 3) (v := .ref h) (ty := .object "java/util/ArrayList") (C := RJx35411) (T := TJx35411) (N := 4) hx hb hw zi_RJx35411 tyJx35411 tyJx35411_ok nmJx35411 hown hK hP hD hS 0 rfl rfl 3 (by decide) (hw _ zm_1337) (fun _ h9 => h9) rfl hin rfl (by decide +kernel) rfl rfl (Nat.le_of_ble_eq_true rfl) dJx35411_init_45d68_2 (fun H locs hP hD hS => ?_)
  have hP : va_P D vwCl [(it, .inr (3, [.int 0, .int 0, .int 0, .ref h])), (h, .inr (4, [.int x0, .ref x1, .int 0]))] H := hP
  have hD : va_D A [(it, .inr (3, [.int 0, .int 0, .int 0, .ref h])), (h, .inr (4, [.int x0, .ref x1, .int 0]))] := hD
  refine lv_aload_n hx hb dJx35411_init_45d68_5 rfl (lv_at hl 0 rfl) ?_
  refine W.objInit hx hb hown (hw _ zm_1333) (hw _ zm_85) (hw _ zm_86) rfl (by rw [hml]; exact hl.1) rfl dJx35411_init_45d68_6 (Nat.le_of_ble_eq_true rfl) (Nat.le_of_ble_eq_true rfl) ?_
  refine W.eq (g2 := F0 m 9 ls []) rfl ?_
  refine lv_aload_n hx hb dJx35411_init_45d68_9 rfl (lv_at hl 0 rfl) ?_
  refine lv_iconst (v := (-1)) hx hb dJx35411_init_45d68_10 (by decide) ?_
  refine va_put (D := D) (ci := 3) (v := .int (-1)) (ty := .int) (C := RJx35411) (T := TJx35411) (N := 4) hx hb hw zi_RJx35411 tyJx35411 tyJx35411_ok nmJx35411 hown hK hP hD hS 0 rfl rfl 1 (by decide) (hw _ zm_1335) (fun _ h9 => h9) rfl (by decide +kernel) rfl rfl (Nat.le_of_ble_eq_true rfl) dJx35411_init_45d68_11 (fun H locs hP hD hS => ?_)
  have hP : va_P D vwCl [(it, .inr (3, [.int 0, .int (-1), .int 0, .ref h])), (h, .inr (4, [.int x0, .ref x1, .int 0]))] H := hP
  have hD : va_D A [(it, .inr (3, [.int 0, .int (-1), .int 0, .ref h])), (h, .inr (4, [.int x0, .ref x1, .int 0]))] := hD
  refine lv_aload_n hx hb dJx35411_init_45d68_14 rfl (lv_at hl 0 rfl) ?_
  refine lv_aload_n hx hb dJx35411_init_45d68_15 rfl (lv_at hl 0 rfl) ?_
  refine va_get (D := D) (ci := 3) (v := .ref h) (C := RJx35411) (T := TJx35411) (N := 4) hx hb hw zi_RJx35411 hown hK hP 0 rfl rfl 3 (by decide) (hw _ zm_1337) (fun _ h9 => h9) rfl dJx35411_init_45d68_16 ?_
  refine va_get (D := D) (ci := 4) (v := .int x0) (C := RJx4a65c) (T := TJx4a65c) (N := 3) hx hb hw zi_RJx4a65c hown hK hP 1 rfl rfl 0 (by decide) (hw _ zm_149) (u_same (hw _ zm_150)) rfl dJx35411_init_45d68_19 ?_
  refine va_put (D := D) (ci := 3) (v := .int x0) (ty := .int) (C := RJx35411) (T := TJx35411) (N := 4) hx hb hw zi_RJx35411 tyJx35411 tyJx35411_ok nmJx35411 hown hK hP hD hS 0 rfl rfl 2 (by decide) (hw _ zm_1336) (fun _ h9 => h9) rfl (by decide +kernel) rfl rfl (Nat.le_of_ble_eq_true rfl) dJx35411_init_45d68_22 (fun H locs hP hD hS => ?_)
  have hP : va_P D vwCl [(it, .inr (3, [.int 0, .int (-1), .int x0, .ref h])), (h, .inr (4, [.int x0, .ref x1, .int 0]))] H := hP
  have hD : va_D A [(it, .inr (3, [.int 0, .int (-1), .int x0, .ref h])), (h, .inr (4, [.int x0, .ref x1, .int 0]))] := hD
  have hP9 := hP.sub (ws' := [(it, .inr (3, [.int 0, .int (-1), .int x0, .ref h])), (h, .inr (4, [.int x0, .ref x1, .int 0]))]) [0, 1] rfl
  have hD9 := hD.sub (ws' := [(it, .inr (3, [.int 0, .int (-1), .int x0, .ref h])), (h, .inr (4, [.int x0, .ref x1, .int 0]))]) [0, 1] (by decide) rfl
  refine W.widen (k := 0) (n := 0) (Nat.le_of_ble_eq_true rfl) (Nat.le_of_ble_eq_true rfl) ?_
  exact W.vret hx hb hr (fun t ht hW => ⟨⟨(), rfl, trivial, by rw [ht]; exact hP9, hD9⟩, hS.F ht⟩) hS.2.2 dJx35411_init_45d68_25
theorem dJx4a65c_iterator_32c93_0 : decode cJx4a65c_iterator_32c93 0 = .ok (.new 267, 3) := by decide +kernel
theorem zm_1328 : Cond.classLink RJx4a65c 267 RJx35411 ∈ WA := zmm (i := 1328) (by decide +kernel) (by decide +kernel)
theorem zm_1329 : Cond.instantiable RJx35411 4 ∈ WA := zmm (i := 1329) (by decide +kernel) (by decide +kernel)
theorem zm_60 : Cond.initialized RJx35411 ∈ WA := zmm (i := 60) (by decide +kernel) (by decide +kernel)
theorem dJx4a65c_iterator_32c93_3 : decode cJx4a65c_iterator_32c93 3 = .ok (.dup, 1) := by decide +kernel
theorem dJx4a65c_iterator_32c93_4 : decode cJx4a65c_iterator_32c93 4 = .ok (.aload_n 0, 1) := by decide +kernel
theorem dJx4a65c_iterator_32c93_5 : decode cJx4a65c_iterator_32c93 5 = .ok (.invokespecial 269, 3) := by decide +kernel
theorem zm_1332 : Cond.code yJx35411_init_45d68 prog_36_method_1_code 2 (Option.none : Option FieldType) ∈ WA := zmm (i := 1332) (by decide +kernel) (by decide +kernel)
theorem zm_1330 : Cond.methodLink RJx4a65c 269 yJx35411_init_45d68 ∈ WA := zmm (i := 1330) (by decide +kernel) (by decide +kernel)
theorem zm_1331 : Cond.instanceMethod yJx35411_init_45d68 ∈ WA := zmm (i := 1331) (by decide +kernel) (by decide +kernel)
theorem dJx4a65c_iterator_32c93_8 : decode cJx4a65c_iterator_32c93 8 = .ok (.areturn, 1) := by decide +kernel
set_option maxHeartbeats 4000000 in
set_option maxRecDepth 100000 in
theorem c_Jx4a65c_iterator_32c93 (l : Launch) (D : va_G) (sa : Nat → Nat) (ea : Nat) (h : Nat) (x0 : Int32) (x1 : Nat) (sz : Nat) : Met l yJx4a65c_iterator_32c93 ((Cond.code yJx4a65c_iterator_32c93 prog_35_method_55_code 1 (Option.some (FieldType.object "java/util/Iterator"))) :: WA) ({ frames := 2, cells := 1, slots := 4, locals := 33 }) (zW D sa ea [] [(h, .inr (4, [.int x0, .ref x1, .int 0]))] [.ref h] sz) (va_Qr (fun (_ : Unit) => True) (fun _ a t => va_P D vwCl [(a, .inr (3, [.int 0, .int (-1), .int x0, .ref h])), (h, .inr (4, [.int x0, .ref x1, .int 0]))] t.heap ∧ va_D (va_A [(h, .inr (4, [.int x0, .ref x1, .int 0]))] sz) [(a, .inr (3, [.int 0, .int (-1), .int x0, .ref h])), (h, .inr (4, [.int x0, .ref x1, .int 0]))]) (va_A [(h, .inr (4, [.int x0, .ref x1, .int 0]))] sz)) 1 4 (va_A [(h, .inr (4, [.int x0, .ref x1, .int 0]))] sz) := by
  refine Met.ofW (cc := prog_35_method_55_code) (maxL := 1) (ret := (Option.some (FieldType.object "java/util/Iterator"))) (by decide) rfl ?_
  intro p e s m args below meth c s₁ B hml hv
  obtain ⟨rfl, hsz, hP, hK, hD0, hT, hE⟩ := hv
  have hx := B.exec
  have hb := B.bytes
  have hr := B.returns
  have hts := atoms_spec (ws := (Cond.code yJx4a65c_iterator_32c93 prog_35_method_55_code 1 (Option.some (FieldType.object "java/util/Iterator"))) :: WA) B.pre
  have hw : ∀ w ∈ WA, w.before _ s = true := fun w h => hts w (List.mem_cons_of_mem _ h)
  have hown : s.vm.findClass RJx4a65c = some m.cls := findClass_of_methodNamed B.named
  have hlocks := B.notSynchronized
  subst hsz
  have hD := hD0.self (sz := s.heap.size)
  generalize hAe : va_A [(h, .inr (4, [.int x0, .ref x1, .int 0]))] s.heap.size = A at hD hE ⊢
  have hA : ∀ q : Nat, s.heap.size ≤ q → A q := fun q h => by rw [← hAe]; exact Or.inr h
  have hS : va_S A s.heap s.heap [] := va_S.rf
  have hP : va_P D vwCl [(h, .inr (4, [.int x0, .ref x1, .int 0]))] s.heap := hP
  have hD : va_D A [(h, .inr (4, [.int x0, .ref x1, .int 0]))] := hD
  have hl := lv_entry [.ref h] (n := 1) (Nat.le_of_ble_eq_true rfl)
  rw [lg_entry_eq]
  generalize (lg_sl [.ref h] ++ List.replicate (1 - (lg_sl [.ref h]).length) Slot.unset).toArray = ls at hl ⊢
  have hl : lv_has ls 1 [(0, .ref h)] := hl
  refine va_new (ci := 3) (fs := [.int 0, .int 0, .int 0, .null]) (C := RJx35411) (T := TJx35411) (N := 4) hx hb hw zi_RJx35411 tyJx35411 tyJx35411_ok hown (hw _ zm_1328) (hw _ zm_1329) (hw _ zm_60) hK hP hD hS hA rfl (fun j hj => by rcases (show j = 0 ∨ j = 1 ∨ j = 2 ∨ j = 3 by omega) with rfl | rfl | rfl | rfl <;> rfl) (Nat.le_of_ble_eq_true rfl) (Nat.le_of_ble_eq_true rfl) dJx4a65c_iterator_32c93_0 (fun q_1 H hP hD hS => ?_)
  have hP : va_P D vwCl [(h, .inr (4, [.int x0, .ref x1, .int 0])), (q_1, .inr (3, [.int 0, .int 0, .int 0, .null]))] H := hP
  have hD : va_D A [(h, .inr (4, [.int x0, .ref x1, .int 0])), (q_1, .inr (3, [.int 0, .int 0, .int 0, .null]))] := hD
  refine lv_dup hx hb dJx4a65c_iterator_32c93_3 rfl ?_
  refine lv_aload_n hx hb dJx4a65c_iterator_32c93_4 rfl (lv_at hl 0 rfl) ?_
  have hPc := hP.sub (ws' := [(q_1, .inr (3, [.int 0, .int 0, .int 0, .null])), (h, .inr (4, [.int x0, .ref x1, .int 0]))]) [1, 0] rfl
  have hDc := hD.sub (ws' := [(q_1, .inr (3, [.int 0, .int 0, .int 0, .null])), (h, .inr (4, [.int x0, .ref x1, .int 0]))]) [1, 0] (by decide) rfl
  have hFc := va_free (wc := [(q_1, .inr (3, [.int 0, .int 0, .int 0, .null])), (h, .inr (4, [.int x0, .ref x1, .int 0]))]) hD hS hA [1, 0] rfl
  refine va_callv (va_runI (As := [.ref h]) (rest := [.ref q_1]) ⟨hx, hb, hml, hown, hw⟩ (c_Jx35411_init_45d68 l D sa ea q_1 h x0 x1 _) (cwI 1 hw (zgC zm_1332) rfl rfl rfl (hw _ zm_60) (hw _ zm_1330) (hw _ zm_1331) rfl (by decide +kernel) ⟨Nat.le_of_ble_eq_true rfl, Nat.le_of_ble_eq_true rfl⟩) ⟨zW_blind, zW_pre hPc hK hDc hT hE hS hFc⟩ rfl rfl hl.1 rfl (lv_room (Nat.le_of_ble_eq_true rfl)) dJx4a65c_iterator_32c93_5 ⟨Nat.le_of_ble_eq_true rfl, Nat.le_of_ble_eq_true rfl⟩) hS (fun q _ h => hFc q h) hFc (fun u t H locs ht hvm hw1 hB hz1 hk1 hS => ?_)
  obtain ⟨hP1, hD1⟩ := hB
  rw [ht] at hP1
  obtain ⟨hP, hD⟩ := va_join (wr := []) (w1 := [(q_1, .inr (3, [.int 0, .int (-1), .int x0, .ref h])), (h, .inr (4, [.int x0, .ref x1, .int 0]))]) hP hD [1, 0] [] rfl rfl (by decide) (by decide) hk1 hFc hP1 hD1
  have hP : va_P D vwCl [(q_1, .inr (3, [.int 0, .int (-1), .int x0, .ref h])), (h, .inr (4, [.int x0, .ref x1, .int 0]))] H := hP
  have hD : va_D A [(q_1, .inr (3, [.int 0, .int (-1), .int x0, .ref h])), (h, .inr (4, [.int x0, .ref x1, .int 0]))] := hD
  have hP9 := hP.sub (ws' := [(q_1, .inr (3, [.int 0, .int (-1), .int x0, .ref h])), (h, .inr (4, [.int x0, .ref x1, .int 0]))]) [0, 1] rfl
  have hD9 := hD.sub (ws' := [(q_1, .inr (3, [.int 0, .int (-1), .int x0, .ref h])), (h, .inr (4, [.int x0, .ref x1, .int 0]))]) [0, 1] (by decide) rfl
  refine W.widen (k := 1) (n := 4) (Nat.le_of_ble_eq_true rfl) (Nat.le_of_ble_eq_true rfl) ?_
  exact W.aret (v := .ref q_1) hx hb hr (by first | exact Or.inl ⟨_, rfl⟩ | exact Or.inr ⟨_, rfl⟩) (Or.inr ⟨_, rfl⟩) (fun t ht hW => ⟨⟨(), q_1, rfl, trivial, by rw [ht]; exact hP9, hD9⟩, hS.F ht⟩) hS.2.2 dJx4a65c_iterator_32c93_8
theorem dJx35411_hasNext_aae02_0 : decode cJx35411_hasNext_aae02 0 = .ok (.aload_n 0, 1) := by decide +kernel
theorem dJx35411_hasNext_aae02_1 : decode cJx35411_hasNext_aae02 1 = .ok (.getfield 25, 3) := by decide +kernel
theorem zm_1334 : Cond.fieldLink RJx35411 25 RJx35411 "cursor" "I" ∈ WA := zmm (i := 1334) (by decide +kernel) (by decide +kernel)
theorem dJx35411_hasNext_aae02_4 : decode cJx35411_hasNext_aae02 4 = .ok (.aload_n 0, 1) := by decide +kernel
theorem dJx35411_hasNext_aae02_5 : decode cJx35411_hasNext_aae02 5 = .ok (.getfield 1, 3) := by decide +kernel
theorem dJx35411_hasNext_aae02_8 : decode cJx35411_hasNext_aae02 8 = .ok (.getfield 28, 3) := by decide +kernel
theorem dJx35411_hasNext_aae02_11 : decode cJx35411_hasNext_aae02 11 = .ok (.if_icmp .eq 7, 3) := by decide +kernel
theorem dJx35411_hasNext_aae02_18 : decode cJx35411_hasNext_aae02 18 = .ok (.iconst 0, 1) := by decide +kernel
theorem dJx35411_hasNext_aae02_19 : decode cJx35411_hasNext_aae02 19 = .ok (.ireturn, 1) := by decide +kernel
set_option maxHeartbeats 4000000 in
set_option maxRecDepth 100000 in
theorem c_Jx35411_hasNext_aae02 (l : Launch) (D : va_G) (sa : Nat → Nat) (it h : Nat) (x0 : Int32) (x1 : Nat) (sz : Nat) : Met l yJx35411_hasNext_aae02 ((Cond.code yJx35411_hasNext_aae02 prog_36_method_2_code 1 (Option.some FieldType.boolean)) :: WA) ({ frames := 0, cells := 0, slots := 0, locals := 0 }) (zJ D sa [(it, .inr (3, [.int 0, .int (-1), .int x0, .ref h])), (h, .inr (4, [.int x0, .ref x1, .int 0]))] [.ref it] sz) (va_Qi (fun (r : Int32) (_ : Unit) => r = 0) (fun _ _ => True) (zN sz)) 0 0 (zN sz) := by
  refine Met.ofW (cc := prog_36_method_2_code) (maxL := 1) (ret := (Option.some FieldType.boolean)) (by decide) rfl ?_
  intro p e s m args below meth c s₁ B hml hv
  obtain ⟨rfl, hsz, hP, hK, hT⟩ := hv
  have hx := B.exec
  have hb := B.bytes
  have hr := B.returns
  have hts := atoms_spec (ws := (Cond.code yJx35411_hasNext_aae02 prog_36_method_2_code 1 (Option.some FieldType.boolean)) :: WA) B.pre
  have hw : ∀ w ∈ WA, w.before _ s = true := fun w h => hts w (List.mem_cons_of_mem _ h)
  have hown : s.vm.findClass RJx35411 = some m.cls := findClass_of_methodNamed B.named
  have hlocks := B.notSynchronized
  subst hsz
  have hA : ∀ q : Nat, s.heap.size ≤ q → zN s.heap.size q := fun _ h => h
  have hS : va_S (zN s.heap.size) s.heap s.heap [] := va_S.rf
  have hP : va_P D vwCl [(it, .inr (3, [.int 0, .int (-1), .int x0, .ref h])), (h, .inr (4, [.int x0, .ref x1, .int 0]))] s.heap := hP
  have hl := lv_entry [.ref it] (n := 1) (Nat.le_of_ble_eq_true rfl)
  rw [lg_entry_eq]
  generalize (lg_sl [.ref it] ++ List.replicate (1 - (lg_sl [.ref it]).length) Slot.unset).toArray = ls at hl ⊢
  have hl : lv_has ls 1 [(0, .ref it)] := hl
  refine lv_aload_n hx hb dJx35411_hasNext_aae02_0 rfl (lv_at hl 0 rfl) ?_
  refine va_get (D := D) (ci := 3) (v := .int 0) (C := RJx35411) (T := TJx35411) (N := 4) hx hb hw zi_RJx35411 hown hK hP 0 rfl rfl 0 (by decide) (hw _ zm_1334) (fun _ h9 => h9) rfl dJx35411_hasNext_aae02_1 ?_
  refine lv_aload_n hx hb dJx35411_hasNext_aae02_4 rfl (lv_at hl 0 rfl) ?_
  refine va_get (D := D) (ci := 3) (v := .ref h) (C := RJx35411) (T := TJx35411) (N := 4) hx hb hw zi_RJx35411 hown hK hP 0 rfl rfl 3 (by decide) (hw _ zm_1337) (fun _ h9 => h9) rfl dJx35411_hasNext_aae02_5 ?_
  refine va_getN (D := D) (ci := 4) (v := .int 0) (C := RJx4a65c) (T := TJx4a65c) (N := 3) hx hb hw zi_RJx4a65c hown hK hP 1 rfl rfl 2 (by decide) (hT.f 3 rfl) (fun _ h9 => h9) rfl dJx35411_hasNext_aae02_8 ?_
  refine lv_icmp_eq (tgt := 18) hx hb dJx35411_hasNext_aae02_11 (by decide) (fun _ => ?_) (fun c_1 => absurd (by decide) c_1)
  refine lv_iconst (v := 0) hx hb dJx35411_hasNext_aae02_18 (by decide) ?_
  exact W.zret (v := 0) hx hb hr (by decide) (fun t ht hW => ⟨⟨0, (), rfl, rfl, trivial⟩, hS.F ht⟩) hS.2.2 dJx35411_hasNext_aae02_19
theorem dX9_clearStripes_0 : decode cX9_clearStripes 0 = .ok (.aload_n 0, 1) := by decide +kernel
theorem dX9_clearStripes_1 : decode cX9_clearStripes 1 = .ok (.getfield 16, 3) := by decide +kernel
theorem dX9_clearStripes_4 : decode cX9_clearStripes 4 = .ok (.invokeinterface 41 1, 5) := by decide +kernel
theorem dX9_clearStripes_9 : decode cX9_clearStripes 9 = .ok (.istore_n 1, 1) := by decide +kernel
theorem dX9_clearStripes_10 : decode cX9_clearStripes 10 = .ok (.aload_n 0, 1) := by decide +kernel
theorem dX9_clearStripes_11 : decode cX9_clearStripes 11 = .ok (.getfield 16, 3) := by decide +kernel
theorem dX9_clearStripes_14 : decode cX9_clearStripes 14 = .ok (.invokeinterface 101 1, 5) := by decide +kernel
theorem zm_1448 : Cond.methodLink RX9 101 ⟨"java/util/List", "clear", "()V"⟩ ∈ WA := zmm (i := 1448) (by decide +kernel) (by decide +kernel)
theorem zm_1451 : Cond.selects RJx4a65c ⟨"java/util/List", "clear", "()V"⟩ yJx4a65c_clear_da8c8 ∈ WA := zmm (i := 1451) (by decide +kernel) (by decide +kernel)
theorem zm_1453 : Cond.instanceMethod yJx4a65c_clear_da8c8 ∈ WA := zmm (i := 1453) (by decide +kernel) (by decide +kernel)
theorem zm_1455 : Cond.code yJx4a65c_clear_da8c8 prog_35_method_40_code 4 (Option.none : Option FieldType) ∈ WA := zmm (i := 1455) (by decide +kernel) (by decide +kernel)
theorem dX9_clearStripes_19 : decode cX9_clearStripes 19 = .ok (.iload_n 1, 1) := by decide +kernel
theorem dX9_clearStripes_20 : decode cX9_clearStripes 20 = .ok (.ireturn, 1) := by decide +kernel
set_option maxHeartbeats 4000000 in
set_option maxRecDepth 100000 in
theorem c_X9_clearStripes (l : Launch) (D : va_G) (sa : Nat → Nat) (ea : Nat) (bd : Nat → Nat) (th : Int32) (sz : Nat) : Met l yX9_clearStripes ((Cond.code yX9_clearStripes prog_8_method_12_code 2 (Option.some FieldType.int)) :: WA) ({ frames := 1, cells := 0, slots := 0, locals := 23 }) (zW D sa ea [] (zM bd th) [.ref (bd 0)] sz) (va_Qi (fun (r : Int32) (_ : Unit) => r = 0) (fun _ t => va_P D vwCl [((bd 0), .inr (14, [.ref (bd 1), .ref (bd 2), .ref (bd 3), .ref (bd 4), .ref (bd 5), .ref (bd 6), .int 100, .int (-1), .int 0, .int th])), ((bd 1), .inr (4, [.int 0, .ref (bd 7), .int 0])), ((bd 2), .inr (4, [.int 1, .ref (bd 7), .int 0])), ((bd 3), .inr (4, [.int 0, .ref (bd 7), .int 0])), ((bd 4), .inr (4, [.int 0, .ref (bd 7), .int 0])), ((bd 5), .inr (4, [.int 0, .ref (bd 7), .int 0])), ((bd 6), .inr (4, [.int 0, .ref (bd 7), .int 0]))] t.heap ∧ va_D (va_A (zM bd th) sz) [((bd 0), .inr (14, [.ref (bd 1), .ref (bd 2), .ref (bd 3), .ref (bd 4), .ref (bd 5), .ref (bd 6), .int 100, .int (-1), .int 0, .int th])), ((bd 1), .inr (4, [.int 0, .ref (bd 7), .int 0])), ((bd 2), .inr (4, [.int 1, .ref (bd 7), .int 0])), ((bd 3), .inr (4, [.int 0, .ref (bd 7), .int 0])), ((bd 4), .inr (4, [.int 0, .ref (bd 7), .int 0])), ((bd 5), .inr (4, [.int 0, .ref (bd 7), .int 0])), ((bd 6), .inr (4, [.int 0, .ref (bd 7), .int 0]))]) (va_A (zM bd th) sz)) 0 0 (va_A (zM bd th) sz) := by
  refine Met.ofW (cc := prog_8_method_12_code) (maxL := 2) (ret := (Option.some FieldType.int)) (by decide) rfl ?_
  intro p e s m args below meth c s₁ B hml hv
  obtain ⟨rfl, hsz, hP, hK, hD0, hT, hE⟩ := hv
  have hx := B.exec
  have hb := B.bytes
  have hr := B.returns
  have hts := atoms_spec (ws := (Cond.code yX9_clearStripes prog_8_method_12_code 2 (Option.some FieldType.int)) :: WA) B.pre
  have hw : ∀ w ∈ WA, w.before _ s = true := fun w h => hts w (List.mem_cons_of_mem _ h)
  have hown : s.vm.findClass RX9 = some m.cls := findClass_of_methodNamed B.named
  have hlocks := B.notSynchronized
  subst hsz
  have hD := hD0.self (sz := s.heap.size)
  generalize hAe : va_A (zM bd th) s.heap.size = A at hD hE ⊢
  have hA : ∀ q : Nat, s.heap.size ≤ q → A q := fun q h => by rw [← hAe]; exact Or.inr h
  have hS : va_S A s.heap s.heap [] := va_S.rf
  have hP : va_P D vwCl [((bd 0), .inr (14, [.ref (bd 1), .ref (bd 2), .ref (bd 3), .ref (bd 4), .ref (bd 5), .ref (bd 6), .int 100, .int (-1), .int 0, .int th])), ((bd 1), .inr (4, [.int 0, .ref (bd 7), .int 0])), ((bd 2), .inr (4, [.int 0, .ref (bd 7), .int 0])), ((bd 3), .inr (4, [.int 0, .ref (bd 7), .int 0])), ((bd 4), .inr (4, [.int 0, .ref (bd 7), .int 0])), ((bd 5), .inr (4, [.int 0, .ref (bd 7), .int 0])), ((bd 6), .inr (4, [.int 0, .ref (bd 7), .int 0]))] s.heap := hP
  have hD : va_D A [((bd 0), .inr (14, [.ref (bd 1), .ref (bd 2), .ref (bd 3), .ref (bd 4), .ref (bd 5), .ref (bd 6), .int 100, .int (-1), .int 0, .int th])), ((bd 1), .inr (4, [.int 0, .ref (bd 7), .int 0])), ((bd 2), .inr (4, [.int 0, .ref (bd 7), .int 0])), ((bd 3), .inr (4, [.int 0, .ref (bd 7), .int 0])), ((bd 4), .inr (4, [.int 0, .ref (bd 7), .int 0])), ((bd 5), .inr (4, [.int 0, .ref (bd 7), .int 0])), ((bd 6), .inr (4, [.int 0, .ref (bd 7), .int 0]))] := hD
  have hl := lv_entry [.ref (bd 0)] (n := 2) (Nat.le_of_ble_eq_true rfl)
  rw [lg_entry_eq]
  generalize (lg_sl [.ref (bd 0)] ++ List.replicate (2 - (lg_sl [.ref (bd 0)]).length) Slot.unset).toArray = ls at hl ⊢
  have hl : lv_has ls 2 [(0, .ref (bd 0))] := hl
  refine lv_aload_n hx hb dX9_clearStripes_0 rfl (lv_at hl 0 rfl) ?_
  refine va_get (D := D) (ci := 14) (v := .ref (bd 2)) (C := RX9) (T := TX9) (N := 10) hx hb hw zi_RX9 hown hK hP 0 rfl rfl 1 (by decide) (hw _ zm_1273) (fun _ h9 => h9) rfl dX9_clearStripes_1 ?_
  have hPc := hP.sub (ws' := [((bd 2), .inr (4, [.int 0, .ref (bd 7), .int 0]))]) [2] rfl
  refine va_callFi (va_runF (As := []) (rest := []) (hK.1 4 _ rfl).2 ⟨hx, hb, hml, hown, hw⟩ (c_Jx4a65c_size_8abf5 l D sa (bd 2) 0 (bd 7) _) (va_cwF 0 hw (zg4 zm_1383 zm_1386 zm_240 zm_51 zm_242) rfl rfl rfl (hT.i 0 rfl) (by decide +kernel) ⟨Nat.le_of_ble_eq_true rfl, Nat.le_of_ble_eq_true rfl⟩) ⟨zJ_blind, va_recv hK hPc (ci := 4) (q0 := 0) rfl rfl, zJ_pre hPc hK hT⟩ rfl rfl hl.1 rfl (lv_room (Nat.le_of_ble_eq_true rfl)) dX9_clearStripes_4 ⟨Nat.le_of_ble_eq_true rfl, Nat.le_of_ble_eq_true rfl⟩) hS zN_in (zN_fr hS hA) (fun r_1 u t H locs ht hvm hw1 hB hz1 hk1 hS => ?_)
  have hP := zN_keep hP hk1
  subst hw1
  refine lv_istore_n (lv' := [(1, .int 0), (0, .ref (bd 0))]) hx hb dX9_clearStripes_9 rfl hl (by decide) rfl (fun ls hl => ?_)
  refine lv_aload_n hx hb dX9_clearStripes_10 rfl (lv_at hl 1 rfl) ?_
  refine va_get (D := D) (ci := 14) (v := .ref (bd 2)) (C := RX9) (T := TX9) (N := 10) hx hb hw zi_RX9 hown hK hP 0 rfl rfl 1 (by decide) (hw _ zm_1273) (fun _ h9 => h9) rfl dX9_clearStripes_11 ?_
  have hPc := hP.sub (ws' := [((bd 2), .inr (4, [.int 0, .ref (bd 7), .int 0]))]) [2] rfl
  have hDc := hD.sub (ws' := [((bd 2), .inr (4, [.int 0, .ref (bd 7), .int 0]))]) [2] (by decide) rfl
  have hFc := va_free (wc := [((bd 2), .inr (4, [.int 0, .ref (bd 7), .int 0]))]) hD hS hA [2] rfl
  refine va_callFv (va_runF (As := []) (rest := []) (hK.1 4 _ rfl).2 ⟨hx, hb, hml, hown, hw⟩ (c_Jx4a65c_clear_da8c8 l D sa ea (bd 2) (bd 7) _) (va_cwF 0 hw (zg4 zm_1448 zm_1451 zm_1453 zm_51 zm_1455) rfl rfl rfl (hT.i 4 rfl) (by decide +kernel) ⟨Nat.le_of_ble_eq_true rfl, Nat.le_of_ble_eq_true rfl⟩) ⟨zW_blind, va_recv hK hPc (ci := 4) (q0 := 0) rfl rfl, zW_pre hPc hK hDc hT hE hS hFc⟩ rfl rfl hl.1 rfl (lv_room (Nat.le_of_ble_eq_true rfl)) dX9_clearStripes_14 ⟨Nat.le_of_ble_eq_true rfl, Nat.le_of_ble_eq_true rfl⟩) hS (fun q _ h => hFc q h) hFc (fun u t H locs ht hvm hw1 hB hz1 hk1 hS => ?_)
  obtain ⟨hP1, hD1⟩ := hB
  rw [ht] at hP1
  obtain ⟨hP, hD⟩ := va_join (wr := [((bd 0), .inr (14, [.ref (bd 1), .ref (bd 2), .ref (bd 3), .ref (bd 4), .ref (bd 5), .ref (bd 6), .int 100, .int (-1), .int 0, .int th])), ((bd 1), .inr (4, [.int 0, .ref (bd 7), .int 0])), ((bd 3), .inr (4, [.int 0, .ref (bd 7), .int 0])), ((bd 4), .inr (4, [.int 0, .ref (bd 7), .int 0])), ((bd 5), .inr (4, [.int 0, .ref (bd 7), .int 0])), ((bd 6), .inr (4, [.int 0, .ref (bd 7), .int 0]))]) (w1 := [((bd 2), .inr (4, [.int 1, .ref (bd 7), .int 0]))]) hP hD [2] [0, 1, 3, 4, 5, 6] rfl rfl (by decide) (by decide) hk1 hFc hP1 hD1
  have hP : va_P D vwCl [((bd 0), .inr (14, [.ref (bd 1), .ref (bd 2), .ref (bd 3), .ref (bd 4), .ref (bd 5), .ref (bd 6), .int 100, .int (-1), .int 0, .int th])), ((bd 1), .inr (4, [.int 0, .ref (bd 7), .int 0])), ((bd 3), .inr (4, [.int 0, .ref (bd 7), .int 0])), ((bd 4), .inr (4, [.int 0, .ref (bd 7), .int 0])), ((bd 5), .inr (4, [.int 0, .ref (bd 7), .int 0])), ((bd 6), .inr (4, [.int 0, .ref (bd 7), .int 0])), ((bd 2), .inr (4, [.int 1, .ref (bd 7), .int 0]))] H := hP
  have hD : va_D A [((bd 0), .inr (14, [.ref (bd 1), .ref (bd 2), .ref (bd 3), .ref (bd 4), .ref (bd 5), .ref (bd 6), .int 100, .int (-1), .int 0, .int th])), ((bd 1), .inr (4, [.int 0, .ref (bd 7), .int 0])), ((bd 3), .inr (4, [.int 0, .ref (bd 7), .int 0])), ((bd 4), .inr (4, [.int 0, .ref (bd 7), .int 0])), ((bd 5), .inr (4, [.int 0, .ref (bd 7), .int 0])), ((bd 6), .inr (4, [.int 0, .ref (bd 7), .int 0])), ((bd 2), .inr (4, [.int 1, .ref (bd 7), .int 0]))] := hD
  refine lv_iload_n hx hb dX9_clearStripes_19 rfl (lv_at hl 0 rfl) ?_
  have hP9 := hP.sub (ws' := [((bd 0), .inr (14, [.ref (bd 1), .ref (bd 2), .ref (bd 3), .ref (bd 4), .ref (bd 5), .ref (bd 6), .int 100, .int (-1), .int 0, .int th])), ((bd 1), .inr (4, [.int 0, .ref (bd 7), .int 0])), ((bd 2), .inr (4, [.int 1, .ref (bd 7), .int 0])), ((bd 3), .inr (4, [.int 0, .ref (bd 7), .int 0])), ((bd 4), .inr (4, [.int 0, .ref (bd 7), .int 0])), ((bd 5), .inr (4, [.int 0, .ref (bd 7), .int 0])), ((bd 6), .inr (4, [.int 0, .ref (bd 7), .int 0]))]) [0, 1, 6, 2, 3, 4, 5] rfl
  have hD9 := hD.sub (ws' := [((bd 0), .inr (14, [.ref (bd 1), .ref (bd 2), .ref (bd 3), .ref (bd 4), .ref (bd 5), .ref (bd 6), .int 100, .int (-1), .int 0, .int th])), ((bd 1), .inr (4, [.int 0, .ref (bd 7), .int 0])), ((bd 2), .inr (4, [.int 1, .ref (bd 7), .int 0])), ((bd 3), .inr (4, [.int 0, .ref (bd 7), .int 0])), ((bd 4), .inr (4, [.int 0, .ref (bd 7), .int 0])), ((bd 5), .inr (4, [.int 0, .ref (bd 7), .int 0])), ((bd 6), .inr (4, [.int 0, .ref (bd 7), .int 0]))]) [0, 1, 6, 2, 3, 4, 5] (by decide) rfl
  refine W.widen (k := 0) (n := 0) (Nat.le_of_ble_eq_true rfl) (Nat.le_of_ble_eq_true rfl) ?_
  exact W.iret (v := 0) hx hb hr (fun t ht hW => ⟨⟨0, (), rfl, rfl, by rw [ht]; exact hP9, hD9⟩, hS.F ht⟩) hS.2.2 dX9_clearStripes_20
theorem dX9_cut_0 : decode cX9_cut 0 = .ok (.iconst 0, 1) := by decide +kernel
theorem dX9_cut_1 : decode cX9_cut 1 = .ok (.istore_n 1, 1) := by decide +kernel
theorem dX9_cut_2 : decode cX9_cut 2 = .ok (.aload_n 0, 1) := by decide +kernel
theorem dX9_cut_3 : decode cX9_cut 3 = .ok (.getfield 22, 3) := by decide +kernel
theorem dX9_cut_6 : decode cX9_cut 6 = .ok (.invokeinterface 55 1, 5) := by decide +kernel
theorem zm_1319 : Cond.methodLink RX9 55 ⟨"java/util/List", "iterator", "()Ljava/util/Iterator;"⟩ ∈ WA := zmm (i := 1319) (by decide +kernel) (by decide +kernel)
theorem zm_1323 : Cond.selects RJx4a65c ⟨"java/util/List", "iterator", "()Ljava/util/Iterator;"⟩ yJx4a65c_iterator_32c93 ∈ WA := zmm (i := 1323) (by decide +kernel) (by decide +kernel)
theorem zm_1325 : Cond.instanceMethod yJx4a65c_iterator_32c93 ∈ WA := zmm (i := 1325) (by decide +kernel) (by decide +kernel)
theorem zm_1327 : Cond.code yJx4a65c_iterator_32c93 prog_35_method_55_code 1 (Option.some (FieldType.object "java/util/Iterator")) ∈ WA := zmm (i := 1327) (by decide +kernel) (by decide +kernel)
theorem dX9_cut_11 : decode cX9_cut 11 = .ok (.astore_n 2, 1) := by decide +kernel
theorem dX9_cut_12 : decode cX9_cut 12 = .ok (.aload_n 2, 1) := by decide +kernel
theorem dX9_cut_13 : decode cX9_cut 13 = .ok (.invokeinterface 59 1, 5) := by decide +kernel
theorem zm_1348 : Cond.methodLink RX9 59 ⟨"java/util/Iterator", "hasNext", "()Z"⟩ ∈ WA := zmm (i := 1348) (by decide +kernel) (by decide +kernel)
theorem zm_1352 : Cond.selects RJx35411 ⟨"java/util/Iterator", "hasNext", "()Z"⟩ yJx35411_hasNext_aae02 ∈ WA := zmm (i := 1352) (by decide +kernel) (by decide +kernel)
theorem zm_1354 : Cond.instanceMethod yJx35411_hasNext_aae02 ∈ WA := zmm (i := 1354) (by decide +kernel) (by decide +kernel)
theorem zm_1356 : Cond.code yJx35411_hasNext_aae02 prog_36_method_2_code 1 (Option.some FieldType.boolean) ∈ WA := zmm (i := 1356) (by decide +kernel) (by decide +kernel)
theorem dX9_cut_18 : decode cX9_cut 18 = .ok (.ifCond .eq 22, 3) := by decide +kernel
theorem dX9_cut_40 : decode cX9_cut 40 = .ok (.aload_n 0, 1) := by decide +kernel
theorem dX9_cut_41 : decode cX9_cut 41 = .ok (.getfield 22, 3) := by decide +kernel
theorem dX9_cut_44 : decode cX9_cut 44 = .ok (.invokeinterface 101 1, 5) := by decide +kernel
theorem dX9_cut_49 : decode cX9_cut 49 = .ok (.aload_n 0, 1) := by decide +kernel
theorem dX9_cut_50 : decode cX9_cut 50 = .ok (.getfield 25, 3) := by decide +kernel
theorem dX9_cut_53 : decode cX9_cut 53 = .ok (.invokeinterface 101 1, 5) := by decide +kernel
theorem dX9_cut_58 : decode cX9_cut 58 = .ok (.aload_n 0, 1) := by decide +kernel
theorem dX9_cut_59 : decode cX9_cut 59 = .ok (.dup, 1) := by decide +kernel
theorem dX9_cut_60 : decode cX9_cut 60 = .ok (.getfield 218, 3) := by decide +kernel
theorem dX9_cut_63 : decode cX9_cut 63 = .ok (.iload_n 1, 1) := by decide +kernel
theorem dX9_cut_64 : decode cX9_cut 64 = .ok (.iadd, 1) := by decide +kernel
theorem dX9_cut_65 : decode cX9_cut 65 = .ok (.putfield 218, 3) := by decide +kernel
theorem dX9_cut_68 : decode cX9_cut 68 = .ok (.iload_n 1, 1) := by decide +kernel
theorem dX9_cut_69 : decode cX9_cut 69 = .ok (.ireturn, 1) := by decide +kernel
set_option maxHeartbeats 4000000 in
set_option maxRecDepth 100000 in
theorem c_X9_cut (l : Launch) (D : va_G) (sa : Nat → Nat) (ea : Nat) (bd : Nat → Nat) (th : Int32) (sz : Nat) : Met l yX9_cut ((Cond.code yX9_cut prog_8_method_57_code 4 (Option.some FieldType.int)) :: WA) ({ frames := 3, cells := 1, slots := 4, locals := 53 }) (zW D sa ea [] (zM bd th) [.ref (bd 0)] sz) (va_Qi (fun (r : Int32) (_ : Unit) => r = 0) (fun _ t => va_P D vwCl [((bd 0), .inr (14, [.ref (bd 1), .ref (bd 2), .ref (bd 3), .ref (bd 4), .ref (bd 5), .ref (bd 6), .int 100, .int (-1), .int 0, .int th])), ((bd 1), .inr (4, [.int 0, .ref (bd 7), .int 0])), ((bd 2), .inr (4, [.int 0, .ref (bd 7), .int 0])), ((bd 3), .inr (4, [.int 0, .ref (bd 7), .int 0])), ((bd 4), .inr (4, [.int 1, .ref (bd 7), .int 0])), ((bd 5), .inr (4, [.int 1, .ref (bd 7), .int 0])), ((bd 6), .inr (4, [.int 0, .ref (bd 7), .int 0]))] t.heap ∧ va_D (va_A (zM bd th) sz) [((bd 0), .inr (14, [.ref (bd 1), .ref (bd 2), .ref (bd 3), .ref (bd 4), .ref (bd 5), .ref (bd 6), .int 100, .int (-1), .int 0, .int th])), ((bd 1), .inr (4, [.int 0, .ref (bd 7), .int 0])), ((bd 2), .inr (4, [.int 0, .ref (bd 7), .int 0])), ((bd 3), .inr (4, [.int 0, .ref (bd 7), .int 0])), ((bd 4), .inr (4, [.int 1, .ref (bd 7), .int 0])), ((bd 5), .inr (4, [.int 1, .ref (bd 7), .int 0])), ((bd 6), .inr (4, [.int 0, .ref (bd 7), .int 0]))]) (va_A (zM bd th) sz)) 1 4 (va_A (zM bd th) sz) := by
  refine Met.ofW (cc := prog_8_method_57_code) (maxL := 4) (ret := (Option.some FieldType.int)) (by decide) rfl ?_
  intro p e s m args below meth c s₁ B hml hv
  obtain ⟨rfl, hsz, hP, hK, hD0, hT, hE⟩ := hv
  have hx := B.exec
  have hb := B.bytes
  have hr := B.returns
  have hts := atoms_spec (ws := (Cond.code yX9_cut prog_8_method_57_code 4 (Option.some FieldType.int)) :: WA) B.pre
  have hw : ∀ w ∈ WA, w.before _ s = true := fun w h => hts w (List.mem_cons_of_mem _ h)
  have hown : s.vm.findClass RX9 = some m.cls := findClass_of_methodNamed B.named
  have hlocks := B.notSynchronized
  subst hsz
  have hD := hD0.self (sz := s.heap.size)
  generalize hAe : va_A (zM bd th) s.heap.size = A at hD hE ⊢
  have hA : ∀ q : Nat, s.heap.size ≤ q → A q := fun q h => by rw [← hAe]; exact Or.inr h
  have hS : va_S A s.heap s.heap [] := va_S.rf
  have hP : va_P D vwCl [((bd 0), .inr (14, [.ref (bd 1), .ref (bd 2), .ref (bd 3), .ref (bd 4), .ref (bd 5), .ref (bd 6), .int 100, .int (-1), .int 0, .int th])), ((bd 1), .inr (4, [.int 0, .ref (bd 7), .int 0])), ((bd 2), .inr (4, [.int 0, .ref (bd 7), .int 0])), ((bd 3), .inr (4, [.int 0, .ref (bd 7), .int 0])), ((bd 4), .inr (4, [.int 0, .ref (bd 7), .int 0])), ((bd 5), .inr (4, [.int 0, .ref (bd 7), .int 0])), ((bd 6), .inr (4, [.int 0, .ref (bd 7), .int 0]))] s.heap := hP
  have hD : va_D A [((bd 0), .inr (14, [.ref (bd 1), .ref (bd 2), .ref (bd 3), .ref (bd 4), .ref (bd 5), .ref (bd 6), .int 100, .int (-1), .int 0, .int th])), ((bd 1), .inr (4, [.int 0, .ref (bd 7), .int 0])), ((bd 2), .inr (4, [.int 0, .ref (bd 7), .int 0])), ((bd 3), .inr (4, [.int 0, .ref (bd 7), .int 0])), ((bd 4), .inr (4, [.int 0, .ref (bd 7), .int 0])), ((bd 5), .inr (4, [.int 0, .ref (bd 7), .int 0])), ((bd 6), .inr (4, [.int 0, .ref (bd 7), .int 0]))] := hD
  have hl := lv_entry [.ref (bd 0)] (n := 4) (Nat.le_of_ble_eq_true rfl)
  rw [lg_entry_eq]
  generalize (lg_sl [.ref (bd 0)] ++ List.replicate (4 - (lg_sl [.ref (bd 0)]).length) Slot.unset).toArray = ls at hl ⊢
  have hl : lv_has ls 4 [(0, .ref (bd 0))] := hl
  refine lv_iconst (v := 0) hx hb dX9_cut_0 (by decide) ?_
  refine lv_istore_n (lv' := [(1, .int 0), (0, .ref (bd 0))]) hx hb dX9_cut_1 rfl hl (by decide) rfl (fun ls hl => ?_)
  refine lv_aload_n hx hb dX9_cut_2 rfl (lv_at hl 1 rfl) ?_
  refine va_get (D := D) (ci := 14) (v := .ref (bd 4)) (C := RX9) (T := TX9) (N := 10) hx hb hw zi_RX9 hown hK hP 0 rfl rfl 3 (by decide) (hw _ zm_1275) (fun _ h9 => h9) rfl dX9_cut_3 ?_
  have hPc := hP.sub (ws' := [((bd 4), .inr (4, [.int 0, .ref (bd 7), .int 0]))]) [4] rfl
  have hDc := hD.sub (ws' := [((bd 4), .inr (4, [.int 0, .ref (bd 7), .int 0]))]) [4] (by decide) rfl
  have hFc := va_free (wc := [((bd 4), .inr (4, [.int 0, .ref (bd 7), .int 0]))]) hD hS hA [4] rfl
  refine va_callFr (va_runF (As := []) (rest := []) (hK.1 4 _ rfl).2 ⟨hx, hb, hml, hown, hw⟩ (c_Jx4a65c_iterator_32c93 l D sa ea (bd 4) 0 (bd 7) _) (va_cwF 0 hw (zg4 zm_1319 zm_1323 zm_1325 zm_51 zm_1327) rfl rfl rfl (hT.i 2 rfl) (by decide +kernel) ⟨Nat.le_of_ble_eq_true rfl, Nat.le_of_ble_eq_true rfl⟩) ⟨zW_blind, va_recv hK hPc (ci := 4) (q0 := 0) rfl rfl, zW_pre hPc hK hDc hT hE hS hFc⟩ rfl rfl hl.1 rfl (lv_room (Nat.le_of_ble_eq_true rfl)) dX9_cut_6 ⟨Nat.le_of_ble_eq_true rfl, Nat.le_of_ble_eq_true rfl⟩) hS (fun q _ h => hFc q h) hFc (fun u r_1 t H locs ht hvm hw1 hB hz1 hk1 hS => ?_)
  obtain ⟨hP1, hD1⟩ := hB
  rw [ht] at hP1
  obtain ⟨hP, hD⟩ := va_join (wr := [((bd 0), .inr (14, [.ref (bd 1), .ref (bd 2), .ref (bd 3), .ref (bd 4), .ref (bd 5), .ref (bd 6), .int 100, .int (-1), .int 0, .int th])), ((bd 1), .inr (4, [.int 0, .ref (bd 7), .int 0])), ((bd 2), .inr (4, [.int 0, .ref (bd 7), .int 0])), ((bd 3), .inr (4, [.int 0, .ref (bd 7), .int 0])), ((bd 5), .inr (4, [.int 0, .ref (bd 7), .int 0])), ((bd 6), .inr (4, [.int 0, .ref (bd 7), .int 0]))]) (w1 := [(r_1, .inr (3, [.int 0, .int (-1), .int 0, .ref (bd 4)])), ((bd 4), .inr (4, [.int 0, .ref (bd 7), .int 0]))]) hP hD [4] [0, 1, 2, 3, 5, 6] rfl rfl (by decide) (by decide) hk1 hFc hP1 hD1
  have hP : va_P D vwCl [((bd 0), .inr (14, [.ref (bd 1), .ref (bd 2), .ref (bd 3), .ref (bd 4), .ref (bd 5), .ref (bd 6), .int 100, .int (-1), .int 0, .int th])), ((bd 1), .inr (4, [.int 0, .ref (bd 7), .int 0])), ((bd 2), .inr (4, [.int 0, .ref (bd 7), .int 0])), ((bd 3), .inr (4, [.int 0, .ref (bd 7), .int 0])), ((bd 5), .inr (4, [.int 0, .ref (bd 7), .int 0])), ((bd 6), .inr (4, [.int 0, .ref (bd 7), .int 0])), (r_1, .inr (3, [.int 0, .int (-1), .int 0, .ref (bd 4)])), ((bd 4), .inr (4, [.int 0, .ref (bd 7), .int 0]))] H := hP
  have hD : va_D A [((bd 0), .inr (14, [.ref (bd 1), .ref (bd 2), .ref (bd 3), .ref (bd 4), .ref (bd 5), .ref (bd 6), .int 100, .int (-1), .int 0, .int th])), ((bd 1), .inr (4, [.int 0, .ref (bd 7), .int 0])), ((bd 2), .inr (4, [.int 0, .ref (bd 7), .int 0])), ((bd 3), .inr (4, [.int 0, .ref (bd 7), .int 0])), ((bd 5), .inr (4, [.int 0, .ref (bd 7), .int 0])), ((bd 6), .inr (4, [.int 0, .ref (bd 7), .int 0])), (r_1, .inr (3, [.int 0, .int (-1), .int 0, .ref (bd 4)])), ((bd 4), .inr (4, [.int 0, .ref (bd 7), .int 0]))] := hD
  refine lv_astore_n (lv' := [(2, .ref r_1), (1, .int 0), (0, .ref (bd 0))]) hx hb dX9_cut_11 rfl hl (by decide) rfl (fun ls hl => ?_)
  refine lv_aload_n hx hb dX9_cut_12 rfl (lv_at hl 0 rfl) ?_
  have hPc := hP.sub (ws' := [(r_1, .inr (3, [.int 0, .int (-1), .int 0, .ref (bd 4)])), ((bd 4), .inr (4, [.int 0, .ref (bd 7), .int 0]))]) [6, 7] rfl
  refine va_callFi (va_runF (As := []) (rest := []) (hK.1 3 _ rfl).2 ⟨hx, hb, hml, hown, hw⟩ (c_Jx35411_hasNext_aae02 l D sa r_1 (bd 4) 0 (bd 7) _) (va_cwF 0 hw (zg4 zm_1348 zm_1352 zm_1354 zm_60 zm_1356) rfl rfl rfl (hT.i 3 rfl) (by decide +kernel) ⟨Nat.le_of_ble_eq_true rfl, Nat.le_of_ble_eq_true rfl⟩) ⟨zJ_blind, va_recv hK hPc (ci := 3) (q0 := 0) rfl rfl, zJ_pre hPc hK hT⟩ rfl rfl hl.1 rfl (lv_room (Nat.le_of_ble_eq_true rfl)) dX9_cut_13 ⟨Nat.le_of_ble_eq_true rfl, Nat.le_of_ble_eq_true rfl⟩) hS zN_in (zN_fr hS hA) (fun r_2 u t H locs ht hvm hw1 hB hz1 hk1 hS => ?_)
  have hP := zN_keep hP hk1
  subst hw1
  refine lv_if_eq (tgt := 40) hx hb dX9_cut_18 (by decide) (fun _ => ?_) (fun c_3 => absurd (by decide) c_3)
  refine lv_aload_n hx hb dX9_cut_40 rfl (lv_at hl 2 rfl) ?_
  refine va_get (D := D) (ci := 14) (v := .ref (bd 4)) (C := RX9) (T := TX9) (N := 10) hx hb hw zi_RX9 hown hK hP 0 rfl rfl 3 (by decide) (hw _ zm_1275) (fun _ h9 => h9) rfl dX9_cut_41 ?_
  have hPc := hP.sub (ws' := [((bd 4), .inr (4, [.int 0, .ref (bd 7), .int 0]))]) [7] rfl
  have hDc := hD.sub (ws' := [((bd 4), .inr (4, [.int 0, .ref (bd 7), .int 0]))]) [7] (by decide) rfl
  have hFc := va_free (wc := [((bd 4), .inr (4, [.int 0, .ref (bd 7), .int 0]))]) hD hS hA [7] rfl
  refine va_callFv (va_runF (As := []) (rest := []) (hK.1 4 _ rfl).2 ⟨hx, hb, hml, hown, hw⟩ (c_Jx4a65c_clear_da8c8 l D sa ea (bd 4) (bd 7) _) (va_cwF 0 hw (zg4 zm_1448 zm_1451 zm_1453 zm_51 zm_1455) rfl rfl rfl (hT.i 4 rfl) (by decide +kernel) ⟨Nat.le_of_ble_eq_true rfl, Nat.le_of_ble_eq_true rfl⟩) ⟨zW_blind, va_recv hK hPc (ci := 4) (q0 := 0) rfl rfl, zW_pre hPc hK hDc hT hE hS hFc⟩ rfl rfl hl.1 rfl (lv_room (Nat.le_of_ble_eq_true rfl)) dX9_cut_44 ⟨Nat.le_of_ble_eq_true rfl, Nat.le_of_ble_eq_true rfl⟩) hS (fun q _ h => hFc q h) hFc (fun u t H locs ht hvm hw1 hB hz1 hk1 hS => ?_)
  obtain ⟨hP1, hD1⟩ := hB
  rw [ht] at hP1
  obtain ⟨hP, hD⟩ := va_join (wr := [((bd 0), .inr (14, [.ref (bd 1), .ref (bd 2), .ref (bd 3), .ref (bd 4), .ref (bd 5), .ref (bd 6), .int 100, .int (-1), .int 0, .int th])), ((bd 1), .inr (4, [.int 0, .ref (bd 7), .int 0])), ((bd 2), .inr (4, [.int 0, .ref (bd 7), .int 0])), ((bd 3), .inr (4, [.int 0, .ref (bd 7), .int 0])), ((bd 5), .inr (4, [.int 0, .ref (bd 7), .int 0])), ((bd 6), .inr (4, [.int 0, .ref (bd 7), .int 0])), (r_1, .inr (3, [.int 0, .int (-1), .int 0, .ref (bd 4)]))]) (w1 := [((bd 4), .inr (4, [.int 1, .ref (bd 7), .int 0]))]) hP hD [7] [0, 1, 2, 3, 4, 5, 6] rfl rfl (by decide) (by decide) hk1 hFc hP1 hD1
  have hP : va_P D vwCl [((bd 0), .inr (14, [.ref (bd 1), .ref (bd 2), .ref (bd 3), .ref (bd 4), .ref (bd 5), .ref (bd 6), .int 100, .int (-1), .int 0, .int th])), ((bd 1), .inr (4, [.int 0, .ref (bd 7), .int 0])), ((bd 2), .inr (4, [.int 0, .ref (bd 7), .int 0])), ((bd 3), .inr (4, [.int 0, .ref (bd 7), .int 0])), ((bd 5), .inr (4, [.int 0, .ref (bd 7), .int 0])), ((bd 6), .inr (4, [.int 0, .ref (bd 7), .int 0])), (r_1, .inr (3, [.int 0, .int (-1), .int 0, .ref (bd 4)])), ((bd 4), .inr (4, [.int 1, .ref (bd 7), .int 0]))] H := hP
  have hD : va_D A [((bd 0), .inr (14, [.ref (bd 1), .ref (bd 2), .ref (bd 3), .ref (bd 4), .ref (bd 5), .ref (bd 6), .int 100, .int (-1), .int 0, .int th])), ((bd 1), .inr (4, [.int 0, .ref (bd 7), .int 0])), ((bd 2), .inr (4, [.int 0, .ref (bd 7), .int 0])), ((bd 3), .inr (4, [.int 0, .ref (bd 7), .int 0])), ((bd 5), .inr (4, [.int 0, .ref (bd 7), .int 0])), ((bd 6), .inr (4, [.int 0, .ref (bd 7), .int 0])), (r_1, .inr (3, [.int 0, .int (-1), .int 0, .ref (bd 4)])), ((bd 4), .inr (4, [.int 1, .ref (bd 7), .int 0]))] := hD
  refine lv_aload_n hx hb dX9_cut_49 rfl (lv_at hl 2 rfl) ?_
  refine va_get (D := D) (ci := 14) (v := .ref (bd 5)) (C := RX9) (T := TX9) (N := 10) hx hb hw zi_RX9 hown hK hP 0 rfl rfl 4 (by decide) (hw _ zm_1276) (fun _ h9 => h9) rfl dX9_cut_50 ?_
  have hPc := hP.sub (ws' := [((bd 5), .inr (4, [.int 0, .ref (bd 7), .int 0]))]) [4] rfl
  have hDc := hD.sub (ws' := [((bd 5), .inr (4, [.int 0, .ref (bd 7), .int 0]))]) [4] (by decide) rfl
  have hFc := va_free (wc := [((bd 5), .inr (4, [.int 0, .ref (bd 7), .int 0]))]) hD hS hA [4] rfl
  refine va_callFv (va_runF (As := []) (rest := []) (hK.1 4 _ rfl).2 ⟨hx, hb, hml, hown, hw⟩ (c_Jx4a65c_clear_da8c8 l D sa ea (bd 5) (bd 7) _) (va_cwF 0 hw (zg4 zm_1448 zm_1451 zm_1453 zm_51 zm_1455) rfl rfl rfl (hT.i 4 rfl) (by decide +kernel) ⟨Nat.le_of_ble_eq_true rfl, Nat.le_of_ble_eq_true rfl⟩) ⟨zW_blind, va_recv hK hPc (ci := 4) (q0 := 0) rfl rfl, zW_pre hPc hK hDc hT hE hS hFc⟩ rfl rfl hl.1 rfl (lv_room (Nat.le_of_ble_eq_true rfl)) dX9_cut_53 ⟨Nat.le_of_ble_eq_true rfl, Nat.le_of_ble_eq_true rfl⟩) hS (fun q _ h => hFc q h) hFc (fun u t H locs ht hvm hw1 hB hz1 hk1 hS => ?_)
  obtain ⟨hP1, hD1⟩ := hB
  rw [ht] at hP1
  obtain ⟨hP, hD⟩ := va_join (wr := [((bd 0), .inr (14, [.ref (bd 1), .ref (bd 2), .ref (bd 3), .ref (bd 4), .ref (bd 5), .ref (bd 6), .int 100, .int (-1), .int 0, .int th])), ((bd 1), .inr (4, [.int 0, .ref (bd 7), .int 0])), ((bd 2), .inr (4, [.int 0, .ref (bd 7), .int 0])), ((bd 3), .inr (4, [.int 0, .ref (bd 7), .int 0])), ((bd 6), .inr (4, [.int 0, .ref (bd 7), .int 0])), (r_1, .inr (3, [.int 0, .int (-1), .int 0, .ref (bd 4)])), ((bd 4), .inr (4, [.int 1, .ref (bd 7), .int 0]))]) (w1 := [((bd 5), .inr (4, [.int 1, .ref (bd 7), .int 0]))]) hP hD [4] [0, 1, 2, 3, 5, 6, 7] rfl rfl (by decide) (by decide) hk1 hFc hP1 hD1
  have hP : va_P D vwCl [((bd 0), .inr (14, [.ref (bd 1), .ref (bd 2), .ref (bd 3), .ref (bd 4), .ref (bd 5), .ref (bd 6), .int 100, .int (-1), .int 0, .int th])), ((bd 1), .inr (4, [.int 0, .ref (bd 7), .int 0])), ((bd 2), .inr (4, [.int 0, .ref (bd 7), .int 0])), ((bd 3), .inr (4, [.int 0, .ref (bd 7), .int 0])), ((bd 6), .inr (4, [.int 0, .ref (bd 7), .int 0])), (r_1, .inr (3, [.int 0, .int (-1), .int 0, .ref (bd 4)])), ((bd 4), .inr (4, [.int 1, .ref (bd 7), .int 0])), ((bd 5), .inr (4, [.int 1, .ref (bd 7), .int 0]))] H := hP
  have hD : va_D A [((bd 0), .inr (14, [.ref (bd 1), .ref (bd 2), .ref (bd 3), .ref (bd 4), .ref (bd 5), .ref (bd 6), .int 100, .int (-1), .int 0, .int th])), ((bd 1), .inr (4, [.int 0, .ref (bd 7), .int 0])), ((bd 2), .inr (4, [.int 0, .ref (bd 7), .int 0])), ((bd 3), .inr (4, [.int 0, .ref (bd 7), .int 0])), ((bd 6), .inr (4, [.int 0, .ref (bd 7), .int 0])), (r_1, .inr (3, [.int 0, .int (-1), .int 0, .ref (bd 4)])), ((bd 4), .inr (4, [.int 1, .ref (bd 7), .int 0])), ((bd 5), .inr (4, [.int 1, .ref (bd 7), .int 0]))] := hD
  refine lv_aload_n hx hb dX9_cut_58 rfl (lv_at hl 2 rfl) ?_
  refine lv_dup hx hb dX9_cut_59 rfl ?_
  refine va_get (D := D) (ci := 14) (v := .int 0) (C := RX9) (T := TX9) (N := 10) hx hb hw zi_RX9 hown hK hP 0 rfl rfl 8 (by decide) (hw _ zm_1280) (fun _ h9 => h9) rfl dX9_cut_60 ?_
  refine lv_iload_n hx hb dX9_cut_63 rfl (lv_at hl 1 rfl) ?_
  refine lv_iadd hx hb dX9_cut_64 ?_
  refine lv_topi (fun f_6 ef_6 => ?_)
  obtain rfl : f_6 = 0 := ef_6.trans (by decide)
  refine va_put (D := D) (ci := 14) (v := .int 0) (ty := .int) (C := RX9) (T := TX9) (N := 10) hx hb hw zi_RX9 tyX9 tyX9_ok nmX9 hown hK hP hD hS 0 rfl rfl 8 (by decide) (hw _ zm_1280) (fun _ h9 => h9) rfl (by decide +kernel) rfl rfl (Nat.le_of_ble_eq_true rfl) dX9_cut_65 (fun H locs hP hD hS => ?_)
  have hP : va_P D vwCl [((bd 0), .inr (14, [.ref (bd 1), .ref (bd 2), .ref (bd 3), .ref (bd 4), .ref (bd 5), .ref (bd 6), .int 100, .int (-1), .int 0, .int th])), ((bd 1), .inr (4, [.int 0, .ref (bd 7), .int 0])), ((bd 2), .inr (4, [.int 0, .ref (bd 7), .int 0])), ((bd 3), .inr (4, [.int 0, .ref (bd 7), .int 0])), ((bd 6), .inr (4, [.int 0, .ref (bd 7), .int 0])), (r_1, .inr (3, [.int 0, .int (-1), .int 0, .ref (bd 4)])), ((bd 4), .inr (4, [.int 1, .ref (bd 7), .int 0])), ((bd 5), .inr (4, [.int 1, .ref (bd 7), .int 0]))] H := hP
  have hD : va_D A [((bd 0), .inr (14, [.ref (bd 1), .ref (bd 2), .ref (bd 3), .ref (bd 4), .ref (bd 5), .ref (bd 6), .int 100, .int (-1), .int 0, .int th])), ((bd 1), .inr (4, [.int 0, .ref (bd 7), .int 0])), ((bd 2), .inr (4, [.int 0, .ref (bd 7), .int 0])), ((bd 3), .inr (4, [.int 0, .ref (bd 7), .int 0])), ((bd 6), .inr (4, [.int 0, .ref (bd 7), .int 0])), (r_1, .inr (3, [.int 0, .int (-1), .int 0, .ref (bd 4)])), ((bd 4), .inr (4, [.int 1, .ref (bd 7), .int 0])), ((bd 5), .inr (4, [.int 1, .ref (bd 7), .int 0]))] := hD
  refine lv_iload_n hx hb dX9_cut_68 rfl (lv_at hl 1 rfl) ?_
  have hP9 := hP.sub (ws' := [((bd 0), .inr (14, [.ref (bd 1), .ref (bd 2), .ref (bd 3), .ref (bd 4), .ref (bd 5), .ref (bd 6), .int 100, .int (-1), .int 0, .int th])), ((bd 1), .inr (4, [.int 0, .ref (bd 7), .int 0])), ((bd 2), .inr (4, [.int 0, .ref (bd 7), .int 0])), ((bd 3), .inr (4, [.int 0, .ref (bd 7), .int 0])), ((bd 4), .inr (4, [.int 1, .ref (bd 7), .int 0])), ((bd 5), .inr (4, [.int 1, .ref (bd 7), .int 0])), ((bd 6), .inr (4, [.int 0, .ref (bd 7), .int 0]))]) [0, 1, 2, 3, 6, 7, 4] rfl
  have hD9 := hD.sub (ws' := [((bd 0), .inr (14, [.ref (bd 1), .ref (bd 2), .ref (bd 3), .ref (bd 4), .ref (bd 5), .ref (bd 6), .int 100, .int (-1), .int 0, .int th])), ((bd 1), .inr (4, [.int 0, .ref (bd 7), .int 0])), ((bd 2), .inr (4, [.int 0, .ref (bd 7), .int 0])), ((bd 3), .inr (4, [.int 0, .ref (bd 7), .int 0])), ((bd 4), .inr (4, [.int 1, .ref (bd 7), .int 0])), ((bd 5), .inr (4, [.int 1, .ref (bd 7), .int 0])), ((bd 6), .inr (4, [.int 0, .ref (bd 7), .int 0]))]) [0, 1, 2, 3, 6, 7, 4] (by decide) rfl
  refine W.widen (k := 1) (n := 4) (Nat.le_of_ble_eq_true rfl) (Nat.le_of_ble_eq_true rfl) ?_
  exact W.iret (v := 0) hx hb hr (fun t ht hW => ⟨⟨0, (), rfl, rfl, by rw [ht]; exact hP9, hD9⟩, hS.F ht⟩) hS.2.2 dX9_cut_69
theorem dX9_checksum_0 : decode cX9_checksum 0 = .ok (.ldc2_w 249, 3) := by decide +kernel
theorem zm_1837 : Cond.constantLong RX9 249 7 ∈ WA := zmm (i := 1837) (by decide +kernel) (by decide +kernel)
theorem dX9_checksum_3 : decode cX9_checksum 3 = .ok (.lstore_n 1, 1) := by decide +kernel
theorem dX9_checksum_4 : decode cX9_checksum 4 = .ok (.aload_n 0, 1) := by decide +kernel
theorem dX9_checksum_5 : decode cX9_checksum 5 = .ok (.getfield 19, 3) := by decide +kernel
theorem dX9_checksum_8 : decode cX9_checksum 8 = .ok (.invokeinterface 55 1, 5) := by decide +kernel
theorem dX9_checksum_13 : decode cX9_checksum 13 = .ok (.astore_n 3, 1) := by decide +kernel
theorem dX9_checksum_14 : decode cX9_checksum 14 = .ok (.aload_n 3, 1) := by decide +kernel
theorem dX9_checksum_15 : decode cX9_checksum 15 = .ok (.invokeinterface 59 1, 5) := by decide +kernel
theorem dX9_checksum_20 : decode cX9_checksum 20 = .ok (.ifCond .eq 72, 3) := by decide +kernel
theorem dX9_checksum_92 : decode cX9_checksum 92 = .ok (.ldc2_w 251, 3) := by decide +kernel
theorem zm_1838 : Cond.constantLong RX9 251 31 ∈ WA := zmm (i := 1838) (by decide +kernel) (by decide +kernel)
theorem dX9_checksum_95 : decode cX9_checksum 95 = .ok (.lload_n 1, 1) := by decide +kernel
theorem dX9_checksum_96 : decode cX9_checksum 96 = .ok (.lmul, 1) := by decide +kernel
theorem dX9_checksum_97 : decode cX9_checksum 97 = .ok (.aload_n 0, 1) := by decide +kernel
theorem dX9_checksum_98 : decode cX9_checksum 98 = .ok (.getfield 218, 3) := by decide +kernel
theorem dX9_checksum_101 : decode cX9_checksum 101 = .ok (.i2l, 1) := by decide +kernel
theorem dX9_checksum_102 : decode cX9_checksum 102 = .ok (.ladd, 1) := by decide +kernel
theorem dX9_checksum_103 : decode cX9_checksum 103 = .ok (.lreturn, 1) := by decide +kernel
set_option maxHeartbeats 4000000 in
set_option maxRecDepth 100000 in
theorem c_X9_checksum (l : Launch) (D : va_G) (sa : Nat → Nat) (ea : Nat) (bd : Nat → Nat) (th : Int32) (sz : Nat) : Met l yX9_checksum ((Cond.code yX9_checksum prog_8_method_69_code 6 (Option.some FieldType.long)) :: WA) ({ frames := 3, cells := 1, slots := 4, locals := 53 }) (zW D sa ea [] (zM bd th) [.ref (bd 0)] sz) (va_Ql (fun (r : Int64) (_ : Unit) => r = 217) (fun _ t => va_P D vwCl [((bd 0), .inr (14, [.ref (bd 1), .ref (bd 2), .ref (bd 3), .ref (bd 4), .ref (bd 5), .ref (bd 6), .int 100, .int (-1), .int 0, .int th])), ((bd 1), .inr (4, [.int 0, .ref (bd 7), .int 0])), ((bd 2), .inr (4, [.int 0, .ref (bd 7), .int 0])), ((bd 3), .inr (4, [.int 0, .ref (bd 7), .int 0])), ((bd 4), .inr (4, [.int 0, .ref (bd 7), .int 0])), ((bd 5), .inr (4, [.int 0, .ref (bd 7), .int 0])), ((bd 6), .inr (4, [.int 0, .ref (bd 7), .int 0]))] t.heap ∧ va_D (va_A (zM bd th) sz) [((bd 0), .inr (14, [.ref (bd 1), .ref (bd 2), .ref (bd 3), .ref (bd 4), .ref (bd 5), .ref (bd 6), .int 100, .int (-1), .int 0, .int th])), ((bd 1), .inr (4, [.int 0, .ref (bd 7), .int 0])), ((bd 2), .inr (4, [.int 0, .ref (bd 7), .int 0])), ((bd 3), .inr (4, [.int 0, .ref (bd 7), .int 0])), ((bd 4), .inr (4, [.int 0, .ref (bd 7), .int 0])), ((bd 5), .inr (4, [.int 0, .ref (bd 7), .int 0])), ((bd 6), .inr (4, [.int 0, .ref (bd 7), .int 0]))]) (va_A (zM bd th) sz)) 1 4 (va_A (zM bd th) sz) := by
  refine Met.ofW (cc := prog_8_method_69_code) (maxL := 6) (ret := (Option.some FieldType.long)) (by decide) rfl ?_
  intro p e s m args below meth c s₁ B hml hv
  obtain ⟨rfl, hsz, hP, hK, hD0, hT, hE⟩ := hv
  have hx := B.exec
  have hb := B.bytes
  have hr := B.returns
  have hts := atoms_spec (ws := (Cond.code yX9_checksum prog_8_method_69_code 6 (Option.some FieldType.long)) :: WA) B.pre
  have hw : ∀ w ∈ WA, w.before _ s = true := fun w h => hts w (List.mem_cons_of_mem _ h)
  have hown : s.vm.findClass RX9 = some m.cls := findClass_of_methodNamed B.named
  have hlocks := B.notSynchronized
  subst hsz
  have hD := hD0.self (sz := s.heap.size)
  generalize hAe : va_A (zM bd th) s.heap.size = A at hD hE ⊢
  have hA : ∀ q : Nat, s.heap.size ≤ q → A q := fun q h => by rw [← hAe]; exact Or.inr h
  have hS : va_S A s.heap s.heap [] := va_S.rf
  have hP : va_P D vwCl [((bd 0), .inr (14, [.ref (bd 1), .ref (bd 2), .ref (bd 3), .ref (bd 4), .ref (bd 5), .ref (bd 6), .int 100, .int (-1), .int 0, .int th])), ((bd 1), .inr (4, [.int 0, .ref (bd 7), .int 0])), ((bd 2), .inr (4, [.int 0, .ref (bd 7), .int 0])), ((bd 3), .inr (4, [.int 0, .ref (bd 7), .int 0])), ((bd 4), .inr (4, [.int 0, .ref (bd 7), .int 0])), ((bd 5), .inr (4, [.int 0, .ref (bd 7), .int 0])), ((bd 6), .inr (4, [.int 0, .ref (bd 7), .int 0]))] s.heap := hP
  have hD : va_D A [((bd 0), .inr (14, [.ref (bd 1), .ref (bd 2), .ref (bd 3), .ref (bd 4), .ref (bd 5), .ref (bd 6), .int 100, .int (-1), .int 0, .int th])), ((bd 1), .inr (4, [.int 0, .ref (bd 7), .int 0])), ((bd 2), .inr (4, [.int 0, .ref (bd 7), .int 0])), ((bd 3), .inr (4, [.int 0, .ref (bd 7), .int 0])), ((bd 4), .inr (4, [.int 0, .ref (bd 7), .int 0])), ((bd 5), .inr (4, [.int 0, .ref (bd 7), .int 0])), ((bd 6), .inr (4, [.int 0, .ref (bd 7), .int 0]))] := hD
  have hl := lv_entry [.ref (bd 0)] (n := 6) (Nat.le_of_ble_eq_true rfl)
  rw [lg_entry_eq]
  generalize (lg_sl [.ref (bd 0)] ++ List.replicate (6 - (lg_sl [.ref (bd 0)]).length) Slot.unset).toArray = ls at hl ⊢
  have hl : lv_has ls 6 [(0, .ref (bd 0))] := hl
  refine lv_ldc2 (v := 7) hx hb hown (hw _ zm_1837) dX9_checksum_0 ?_
  refine lv_lstore_n (lv' := [(1, .long 7), (0, .ref (bd 0))]) hx hb dX9_checksum_3 rfl hl (by decide) rfl (fun ls hl => ?_)
  refine lv_aload_n hx hb dX9_checksum_4 rfl (lv_at hl 1 rfl) ?_
  refine va_get (D := D) (ci := 14) (v := .ref (bd 3)) (C := RX9) (T := TX9) (N := 10) hx hb hw zi_RX9 hown hK hP 0 rfl rfl 2 (by decide) (hw _ zm_1274) (fun _ h9 => h9) rfl dX9_checksum_5 ?_
  have hPc := hP.sub (ws' := [((bd 3), .inr (4, [.int 0, .ref (bd 7), .int 0]))]) [3] rfl
  have hDc := hD.sub (ws' := [((bd 3), .inr (4, [.int 0, .ref (bd 7), .int 0]))]) [3] (by decide) rfl
  have hFc := va_free (wc := [((bd 3), .inr (4, [.int 0, .ref (bd 7), .int 0]))]) hD hS hA [3] rfl
  refine va_callFr (va_runF (As := []) (rest := []) (hK.1 4 _ rfl).2 ⟨hx, hb, hml, hown, hw⟩ (c_Jx4a65c_iterator_32c93 l D sa ea (bd 3) 0 (bd 7) _) (va_cwF 0 hw (zg4 zm_1319 zm_1323 zm_1325 zm_51 zm_1327) rfl rfl rfl (hT.i 2 rfl) (by decide +kernel) ⟨Nat.le_of_ble_eq_true rfl, Nat.le_of_ble_eq_true rfl⟩) ⟨zW_blind, va_recv hK hPc (ci := 4) (q0 := 0) rfl rfl, zW_pre hPc hK hDc hT hE hS hFc⟩ rfl rfl hl.1 rfl (lv_room (Nat.le_of_ble_eq_true rfl)) dX9_checksum_8 ⟨Nat.le_of_ble_eq_true rfl, Nat.le_of_ble_eq_true rfl⟩) hS (fun q _ h => hFc q h) hFc (fun u r_1 t H locs ht hvm hw1 hB hz1 hk1 hS => ?_)
  obtain ⟨hP1, hD1⟩ := hB
  rw [ht] at hP1
  obtain ⟨hP, hD⟩ := va_join (wr := [((bd 0), .inr (14, [.ref (bd 1), .ref (bd 2), .ref (bd 3), .ref (bd 4), .ref (bd 5), .ref (bd 6), .int 100, .int (-1), .int 0, .int th])), ((bd 1), .inr (4, [.int 0, .ref (bd 7), .int 0])), ((bd 2), .inr (4, [.int 0, .ref (bd 7), .int 0])), ((bd 4), .inr (4, [.int 0, .ref (bd 7), .int 0])), ((bd 5), .inr (4, [.int 0, .ref (bd 7), .int 0])), ((bd 6), .inr (4, [.int 0, .ref (bd 7), .int 0]))]) (w1 := [(r_1, .inr (3, [.int 0, .int (-1), .int 0, .ref (bd 3)])), ((bd 3), .inr (4, [.int 0, .ref (bd 7), .int 0]))]) hP hD [3] [0, 1, 2, 4, 5, 6] rfl rfl (by decide) (by decide) hk1 hFc hP1 hD1
  have hP : va_P D vwCl [((bd 0), .inr (14, [.ref (bd 1), .ref (bd 2), .ref (bd 3), .ref (bd 4), .ref (bd 5), .ref (bd 6), .int 100, .int (-1), .int 0, .int th])), ((bd 1), .inr (4, [.int 0, .ref (bd 7), .int 0])), ((bd 2), .inr (4, [.int 0, .ref (bd 7), .int 0])), ((bd 4), .inr (4, [.int 0, .ref (bd 7), .int 0])), ((bd 5), .inr (4, [.int 0, .ref (bd 7), .int 0])), ((bd 6), .inr (4, [.int 0, .ref (bd 7), .int 0])), (r_1, .inr (3, [.int 0, .int (-1), .int 0, .ref (bd 3)])), ((bd 3), .inr (4, [.int 0, .ref (bd 7), .int 0]))] H := hP
  have hD : va_D A [((bd 0), .inr (14, [.ref (bd 1), .ref (bd 2), .ref (bd 3), .ref (bd 4), .ref (bd 5), .ref (bd 6), .int 100, .int (-1), .int 0, .int th])), ((bd 1), .inr (4, [.int 0, .ref (bd 7), .int 0])), ((bd 2), .inr (4, [.int 0, .ref (bd 7), .int 0])), ((bd 4), .inr (4, [.int 0, .ref (bd 7), .int 0])), ((bd 5), .inr (4, [.int 0, .ref (bd 7), .int 0])), ((bd 6), .inr (4, [.int 0, .ref (bd 7), .int 0])), (r_1, .inr (3, [.int 0, .int (-1), .int 0, .ref (bd 3)])), ((bd 3), .inr (4, [.int 0, .ref (bd 7), .int 0]))] := hD
  refine lv_astore_n (lv' := [(3, .ref r_1), (1, .long 7), (0, .ref (bd 0))]) hx hb dX9_checksum_13 rfl hl (by decide) rfl (fun ls hl => ?_)
  refine lv_aload_n hx hb dX9_checksum_14 rfl (lv_at hl 0 rfl) ?_
  have hPc := hP.sub (ws' := [(r_1, .inr (3, [.int 0, .int (-1), .int 0, .ref (bd 3)])), ((bd 3), .inr (4, [.int 0, .ref (bd 7), .int 0]))]) [6, 7] rfl
  refine va_callFi (va_runF (As := []) (rest := []) (hK.1 3 _ rfl).2 ⟨hx, hb, hml, hown, hw⟩ (c_Jx35411_hasNext_aae02 l D sa r_1 (bd 3) 0 (bd 7) _) (va_cwF 0 hw (zg4 zm_1348 zm_1352 zm_1354 zm_60 zm_1356) rfl rfl rfl (hT.i 3 rfl) (by decide +kernel) ⟨Nat.le_of_ble_eq_true rfl, Nat.le_of_ble_eq_true rfl⟩) ⟨zJ_blind, va_recv hK hPc (ci := 3) (q0 := 0) rfl rfl, zJ_pre hPc hK hT⟩ rfl rfl hl.1 rfl (lv_room (Nat.le_of_ble_eq_true rfl)) dX9_checksum_15 ⟨Nat.le_of_ble_eq_true rfl, Nat.le_of_ble_eq_true rfl⟩) hS zN_in (zN_fr hS hA) (fun r_2 u t H locs ht hvm hw1 hB hz1 hk1 hS => ?_)
  have hP := zN_keep hP hk1
  subst hw1
  refine lv_if_eq (tgt := 92) hx hb dX9_checksum_20 (by decide) (fun _ => ?_) (fun c_3 => absurd (by decide) c_3)
  refine lv_ldc2 (v := 31) hx hb hown (hw _ zm_1838) dX9_checksum_92 ?_
  refine lv_lload_n hx hb dX9_checksum_95 rfl (lv_at hl 1 rfl) ?_
  refine lv_lmul hx hb dX9_checksum_96 ?_
  refine lv_topl (fun f_4 ef_4 => ?_)
  obtain rfl : f_4 = 217 := ef_4.trans (by decide)
  refine lv_aload_n hx hb dX9_checksum_97 rfl (lv_at hl 2 rfl) ?_
  refine va_get (D := D) (ci := 14) (v := .int 0) (C := RX9) (T := TX9) (N := 10) hx hb hw zi_RX9 hown hK hP 0 rfl rfl 8 (by decide) (hw _ zm_1280) (fun _ h9 => h9) rfl dX9_checksum_98 ?_
  refine lv_i2l (v := 0) hx hb dX9_checksum_101 (by decide) ?_
  refine lv_ladd hx hb dX9_checksum_102 ?_
  refine lv_topl (fun f_5 ef_5 => ?_)
  obtain rfl : f_5 = 217 := ef_5.trans (by decide)
  have hP9 := hP.sub (ws' := [((bd 0), .inr (14, [.ref (bd 1), .ref (bd 2), .ref (bd 3), .ref (bd 4), .ref (bd 5), .ref (bd 6), .int 100, .int (-1), .int 0, .int th])), ((bd 1), .inr (4, [.int 0, .ref (bd 7), .int 0])), ((bd 2), .inr (4, [.int 0, .ref (bd 7), .int 0])), ((bd 3), .inr (4, [.int 0, .ref (bd 7), .int 0])), ((bd 4), .inr (4, [.int 0, .ref (bd 7), .int 0])), ((bd 5), .inr (4, [.int 0, .ref (bd 7), .int 0])), ((bd 6), .inr (4, [.int 0, .ref (bd 7), .int 0]))]) [0, 1, 2, 7, 3, 4, 5] rfl
  have hD9 := hD.sub (ws' := [((bd 0), .inr (14, [.ref (bd 1), .ref (bd 2), .ref (bd 3), .ref (bd 4), .ref (bd 5), .ref (bd 6), .int 100, .int (-1), .int 0, .int th])), ((bd 1), .inr (4, [.int 0, .ref (bd 7), .int 0])), ((bd 2), .inr (4, [.int 0, .ref (bd 7), .int 0])), ((bd 3), .inr (4, [.int 0, .ref (bd 7), .int 0])), ((bd 4), .inr (4, [.int 0, .ref (bd 7), .int 0])), ((bd 5), .inr (4, [.int 0, .ref (bd 7), .int 0])), ((bd 6), .inr (4, [.int 0, .ref (bd 7), .int 0]))]) [0, 1, 2, 7, 3, 4, 5] (by decide) rfl
  refine W.widen (k := 1) (n := 4) (Nat.le_of_ble_eq_true rfl) (Nat.le_of_ble_eq_true rfl) ?_
  exact W.lret (v := 217) hx hb hr (fun t ht hW => ⟨⟨217, (), rfl, rfl, by rw [ht]; exact hP9, hD9⟩, hS.F ht⟩) hS.2.2 dX9_checksum_103
theorem dX9_contestedShare_0 : decode cX9_contestedShare 0 = .ok (.iconst 0, 1) := by decide +kernel
theorem dX9_contestedShare_1 : decode cX9_contestedShare 1 = .ok (.istore_n 1, 1) := by decide +kernel
theorem dX9_contestedShare_2 : decode cX9_contestedShare 2 = .ok (.iconst 0, 1) := by decide +kernel
theorem dX9_contestedShare_3 : decode cX9_contestedShare 3 = .ok (.istore_n 2, 1) := by decide +kernel
theorem dX9_contestedShare_4 : decode cX9_contestedShare 4 = .ok (.iconst 0, 1) := by decide +kernel
theorem dX9_contestedShare_5 : decode cX9_contestedShare 5 = .ok (.istore_n 3, 1) := by decide +kernel
theorem dX9_contestedShare_6 : decode cX9_contestedShare 6 = .ok (.iload_n 3, 1) := by decide +kernel
theorem dX9_contestedShare_7 : decode cX9_contestedShare 7 = .ok (.aload_n 0, 1) := by decide +kernel
theorem dX9_contestedShare_8 : decode cX9_contestedShare 8 = .ok (.getfield 19, 3) := by decide +kernel
theorem dX9_contestedShare_11 : decode cX9_contestedShare 11 = .ok (.invokeinterface 41 1, 5) := by decide +kernel
theorem dX9_contestedShare_16 : decode cX9_contestedShare 16 = .ok (.if_icmp .ge 39, 3) := by decide +kernel
theorem dX9_contestedShare_55 : decode cX9_contestedShare 55 = .ok (.aload_n 0, 1) := by decide +kernel
theorem dX9_contestedShare_56 : decode cX9_contestedShare 56 = .ok (.iload_n 1, 1) := by decide +kernel
theorem dX9_contestedShare_57 : decode cX9_contestedShare 57 = .ok (.ifCond .le 7, 3) := by decide +kernel
theorem dX9_contestedShare_64 : decode cX9_contestedShare 64 = .ok (.iconst 0, 1) := by decide +kernel
theorem dX9_contestedShare_65 : decode cX9_contestedShare 65 = .ok (.iconst 1, 1) := by decide +kernel
theorem dX9_contestedShare_66 : decode cX9_contestedShare 66 = .ok (.invokevirtual 51, 3) := by decide +kernel
theorem dX9_contestedShare_69 : decode cX9_contestedShare 69 = .ok (.ifCond .eq 7, 3) := by decide +kernel
theorem dX9_contestedShare_72 : decode cX9_contestedShare 72 = .ok (.fconst 0, 1) := by decide +kernel
theorem dX9_contestedShare_73 : decode cX9_contestedShare 73 = .ok (.goto 8, 3) := by decide +kernel
theorem dX9_contestedShare_81 : decode cX9_contestedShare 81 = .ok (.freturn, 1) := by decide +kernel
set_option maxHeartbeats 4000000 in
set_option maxRecDepth 100000 in
theorem c_X9_contestedShare (l : Launch) (D : va_G) (sa : Nat → Nat) (ea : Nat) (bd : Nat → Nat) (th : Int32) (sz : Nat) : Met l yX9_contestedShare ((Cond.code yX9_contestedShare prog_8_method_70_code 4 (Option.some FieldType.float)) :: WA) ({ frames := 1, cells := 0, slots := 0, locals := 22 }) (zW D sa ea [] (zM bd th) [.ref (bd 0)] sz) (va_Qf (fun (_ : UInt32) (_ : Unit) => True) (fun _ t => va_P D vwCl [((bd 0), .inr (14, [.ref (bd 1), .ref (bd 2), .ref (bd 3), .ref (bd 4), .ref (bd 5), .ref (bd 6), .int 100, .int (-1), .int 0, .int 1])), ((bd 1), .inr (4, [.int 0, .ref (bd 7), .int 0])), ((bd 2), .inr (4, [.int 0, .ref (bd 7), .int 0])), ((bd 3), .inr (4, [.int 0, .ref (bd 7), .int 0])), ((bd 4), .inr (4, [.int 0, .ref (bd 7), .int 0])), ((bd 5), .inr (4, [.int 0, .ref (bd 7), .int 0])), ((bd 6), .inr (4, [.int 0, .ref (bd 7), .int 0]))] t.heap ∧ va_D (va_A (zM bd th) sz) [((bd 0), .inr (14, [.ref (bd 1), .ref (bd 2), .ref (bd 3), .ref (bd 4), .ref (bd 5), .ref (bd 6), .int 100, .int (-1), .int 0, .int 1])), ((bd 1), .inr (4, [.int 0, .ref (bd 7), .int 0])), ((bd 2), .inr (4, [.int 0, .ref (bd 7), .int 0])), ((bd 3), .inr (4, [.int 0, .ref (bd 7), .int 0])), ((bd 4), .inr (4, [.int 0, .ref (bd 7), .int 0])), ((bd 5), .inr (4, [.int 0, .ref (bd 7), .int 0])), ((bd 6), .inr (4, [.int 0, .ref (bd 7), .int 0]))]) (va_A (zM bd th) sz)) 0 0 (va_A (zM bd th) sz) := by
  refine Met.ofW (cc := prog_8_method_70_code) (maxL := 4) (ret := (Option.some FieldType.float)) (by decide) rfl ?_
  intro p e s m args below meth c s₁ B hml hv
  obtain ⟨rfl, hsz, hP, hK, hD0, hT, hE⟩ := hv
  have hx := B.exec
  have hb := B.bytes
  have hr := B.returns
  have hts := atoms_spec (ws := (Cond.code yX9_contestedShare prog_8_method_70_code 4 (Option.some FieldType.float)) :: WA) B.pre
  have hw : ∀ w ∈ WA, w.before _ s = true := fun w h => hts w (List.mem_cons_of_mem _ h)
  have hown : s.vm.findClass RX9 = some m.cls := findClass_of_methodNamed B.named
  have hlocks := B.notSynchronized
  subst hsz
  have hD := hD0.self (sz := s.heap.size)
  generalize hAe : va_A (zM bd th) s.heap.size = A at hD hE ⊢
  have hA : ∀ q : Nat, s.heap.size ≤ q → A q := fun q h => by rw [← hAe]; exact Or.inr h
  have hS : va_S A s.heap s.heap [] := va_S.rf
  have hP : va_P D vwCl [((bd 0), .inr (14, [.ref (bd 1), .ref (bd 2), .ref (bd 3), .ref (bd 4), .ref (bd 5), .ref (bd 6), .int 100, .int (-1), .int 0, .int th])), ((bd 1), .inr (4, [.int 0, .ref (bd 7), .int 0])), ((bd 2), .inr (4, [.int 0, .ref (bd 7), .int 0])), ((bd 3), .inr (4, [.int 0, .ref (bd 7), .int 0])), ((bd 4), .inr (4, [.int 0, .ref (bd 7), .int 0])), ((bd 5), .inr (4, [.int 0, .ref (bd 7), .int 0])), ((bd 6), .inr (4, [.int 0, .ref (bd 7), .int 0]))] s.heap := hP
  have hD : va_D A [((bd 0), .inr (14, [.ref (bd 1), .ref (bd 2), .ref (bd 3), .ref (bd 4), .ref (bd 5), .ref (bd 6), .int 100, .int (-1), .int 0, .int th])), ((bd 1), .inr (4, [.int 0, .ref (bd 7), .int 0])), ((bd 2), .inr (4, [.int 0, .ref (bd 7), .int 0])), ((bd 3), .inr (4, [.int 0, .ref (bd 7), .int 0])), ((bd 4), .inr (4, [.int 0, .ref (bd 7), .int 0])), ((bd 5), .inr (4, [.int 0, .ref (bd 7), .int 0])), ((bd 6), .inr (4, [.int 0, .ref (bd 7), .int 0]))] := hD
  have hl := lv_entry [.ref (bd 0)] (n := 4) (Nat.le_of_ble_eq_true rfl)
  rw [lg_entry_eq]
  generalize (lg_sl [.ref (bd 0)] ++ List.replicate (4 - (lg_sl [.ref (bd 0)]).length) Slot.unset).toArray = ls at hl ⊢
  have hl : lv_has ls 4 [(0, .ref (bd 0))] := hl
  refine lv_iconst (v := 0) hx hb dX9_contestedShare_0 (by decide) ?_
  refine lv_istore_n (lv' := [(1, .int 0), (0, .ref (bd 0))]) hx hb dX9_contestedShare_1 rfl hl (by decide) rfl (fun ls hl => ?_)
  refine lv_iconst (v := 0) hx hb dX9_contestedShare_2 (by decide) ?_
  refine lv_istore_n (lv' := [(2, .int 0), (1, .int 0), (0, .ref (bd 0))]) hx hb dX9_contestedShare_3 rfl hl (by decide) rfl (fun ls hl => ?_)
  refine lv_iconst (v := 0) hx hb dX9_contestedShare_4 (by decide) ?_
  refine lv_istore_n (lv' := [(3, .int 0), (2, .int 0), (1, .int 0), (0, .ref (bd 0))]) hx hb dX9_contestedShare_5 rfl hl (by decide) rfl (fun ls hl => ?_)
  refine lv_iload_n hx hb dX9_contestedShare_6 rfl (lv_at hl 0 rfl) ?_
  refine lv_aload_n hx hb dX9_contestedShare_7 rfl (lv_at hl 3 rfl) ?_
  refine va_get (D := D) (ci := 14) (v := .ref (bd 3)) (C := RX9) (T := TX9) (N := 10) hx hb hw zi_RX9 hown hK hP 0 rfl rfl 2 (by decide) (hw _ zm_1274) (fun _ h9 => h9) rfl dX9_contestedShare_8 ?_
  have hPc := hP.sub (ws' := [((bd 3), .inr (4, [.int 0, .ref (bd 7), .int 0]))]) [3] rfl
  refine va_callFi (va_runF (As := []) (rest := [.int 0]) (hK.1 4 _ rfl).2 ⟨hx, hb, hml, hown, hw⟩ (c_Jx4a65c_size_8abf5 l D sa (bd 3) 0 (bd 7) _) (va_cwF 0 hw (zg4 zm_1383 zm_1386 zm_240 zm_51 zm_242) rfl rfl rfl (hT.i 0 rfl) (by decide +kernel) ⟨Nat.le_of_ble_eq_true rfl, Nat.le_of_ble_eq_true rfl⟩) ⟨zJ_blind, va_recv hK hPc (ci := 4) (q0 := 0) rfl rfl, zJ_pre hPc hK hT⟩ rfl rfl hl.1 rfl (lv_room (Nat.le_of_ble_eq_true rfl)) dX9_contestedShare_11 ⟨Nat.le_of_ble_eq_true rfl, Nat.le_of_ble_eq_true rfl⟩) hS zN_in (zN_fr hS hA) (fun r_1 u t H locs ht hvm hw1 hB hz1 hk1 hS => ?_)
  have hP := zN_keep hP hk1
  subst hw1
  refine lv_icmp_ge (tgt := 55) hx hb dX9_contestedShare_16 (by decide) (fun _ => ?_) (fun c_2 => absurd (by decide) c_2)
  refine lv_aload_n hx hb dX9_contestedShare_55 rfl (lv_at hl 3 rfl) ?_
  refine lv_iload_n hx hb dX9_contestedShare_56 rfl (lv_at hl 2 rfl) ?_
  refine lv_if_le (tgt := 64) hx hb dX9_contestedShare_57 (by decide) (fun _ => ?_) (fun c_3 => absurd (by decide) c_3)
  refine lv_iconst (v := 0) hx hb dX9_contestedShare_64 (by decide) ?_
  refine lv_iconst (v := 1) hx hb dX9_contestedShare_65 (by decide) ?_
  have hFc := va_free (wc := [((bd 0), .inr (14, [.ref (bd 1), .ref (bd 2), .ref (bd 3), .ref (bd 4), .ref (bd 5), .ref (bd 6), .int 100, .int (-1), .int 0, .int th])), ((bd 1), .inr (4, [.int 0, .ref (bd 7), .int 0])), ((bd 2), .inr (4, [.int 0, .ref (bd 7), .int 0])), ((bd 3), .inr (4, [.int 0, .ref (bd 7), .int 0])), ((bd 4), .inr (4, [.int 0, .ref (bd 7), .int 0])), ((bd 5), .inr (4, [.int 0, .ref (bd 7), .int 0])), ((bd 6), .inr (4, [.int 0, .ref (bd 7), .int 0]))]) hD hS hA [0, 1, 2, 3, 4, 5, 6] rfl
  refine va_calli (va_runV (As := [.int 0, .int 1]) (rest := []) ⟨hx, hb, hml, hown, hw⟩ (c_X9_no0 l D sa ea bd th _ 1) (cwV 2 hw (zg4 zm_1314 zm_1316 zm_26 zm_53 zm_1317) rfl rfl rfl (by decide +kernel) ⟨Nat.le_of_ble_eq_true rfl, Nat.le_of_ble_eq_true rfl⟩) ⟨zW_blind, va_recv hK hP (ci := 14) (q0 := 0) rfl rfl, zW_pre hP hK hD hT hE hS hFc⟩ rfl rfl hl.1 rfl (lv_room (Nat.le_of_ble_eq_true rfl)) dX9_contestedShare_66 ⟨Nat.le_of_ble_eq_true rfl, Nat.le_of_ble_eq_true rfl⟩) hS (fun q _ h => hFc q h) hFc (fun r_4 u t H locs ht hvm hw1 hB hz1 hk1 hS => ?_)
  subst hw1
  obtain ⟨hP1, hD1⟩ := hB
  rw [ht] at hP1
  obtain ⟨hP, hD⟩ := va_join (wr := []) (w1 := [((bd 0), .inr (14, [.ref (bd 1), .ref (bd 2), .ref (bd 3), .ref (bd 4), .ref (bd 5), .ref (bd 6), .int 100, .int (-1), .int 0, .int 1])), ((bd 1), .inr (4, [.int 0, .ref (bd 7), .int 0])), ((bd 2), .inr (4, [.int 0, .ref (bd 7), .int 0])), ((bd 3), .inr (4, [.int 0, .ref (bd 7), .int 0])), ((bd 4), .inr (4, [.int 0, .ref (bd 7), .int 0])), ((bd 5), .inr (4, [.int 0, .ref (bd 7), .int 0])), ((bd 6), .inr (4, [.int 0, .ref (bd 7), .int 0]))]) hP hD [0, 1, 2, 3, 4, 5, 6] [] rfl rfl (by decide) (by decide) hk1 hFc hP1 hD1
  have hP : va_P D vwCl [((bd 0), .inr (14, [.ref (bd 1), .ref (bd 2), .ref (bd 3), .ref (bd 4), .ref (bd 5), .ref (bd 6), .int 100, .int (-1), .int 0, .int 1])), ((bd 1), .inr (4, [.int 0, .ref (bd 7), .int 0])), ((bd 2), .inr (4, [.int 0, .ref (bd 7), .int 0])), ((bd 3), .inr (4, [.int 0, .ref (bd 7), .int 0])), ((bd 4), .inr (4, [.int 0, .ref (bd 7), .int 0])), ((bd 5), .inr (4, [.int 0, .ref (bd 7), .int 0])), ((bd 6), .inr (4, [.int 0, .ref (bd 7), .int 0]))] H := hP
  have hD : va_D A [((bd 0), .inr (14, [.ref (bd 1), .ref (bd 2), .ref (bd 3), .ref (bd 4), .ref (bd 5), .ref (bd 6), .int 100, .int (-1), .int 0, .int 1])), ((bd 1), .inr (4, [.int 0, .ref (bd 7), .int 0])), ((bd 2), .inr (4, [.int 0, .ref (bd 7), .int 0])), ((bd 3), .inr (4, [.int 0, .ref (bd 7), .int 0])), ((bd 4), .inr (4, [.int 0, .ref (bd 7), .int 0])), ((bd 5), .inr (4, [.int 0, .ref (bd 7), .int 0])), ((bd 6), .inr (4, [.int 0, .ref (bd 7), .int 0]))] := hD
  refine lv_if_eq (tgt := 76) hx hb dX9_contestedShare_69 (by decide) (fun c_5 => absurd c_5 (by decide)) (fun _ => ?_)
  refine lv_fconst0 hx hb dX9_contestedShare_72 ?_
  refine zl_topf (fun f_6 => ?_)
  refine lv_goto (tgt := 81) hx hb dX9_contestedShare_73 (by decide) ?_
  have hP9 := hP.sub (ws' := [((bd 0), .inr (14, [.ref (bd 1), .ref (bd 2), .ref (bd 3), .ref (bd 4), .ref (bd 5), .ref (bd 6), .int 100, .int (-1), .int 0, .int 1])), ((bd 1), .inr (4, [.int 0, .ref (bd 7), .int 0])), ((bd 2), .inr (4, [.int 0, .ref (bd 7), .int 0])), ((bd 3), .inr (4, [.int 0, .ref (bd 7), .int 0])), ((bd 4), .inr (4, [.int 0, .ref (bd 7), .int 0])), ((bd 5), .inr (4, [.int 0, .ref (bd 7), .int 0])), ((bd 6), .inr (4, [.int 0, .ref (bd 7), .int 0]))]) [0, 1, 2, 3, 4, 5, 6] rfl
  have hD9 := hD.sub (ws' := [((bd 0), .inr (14, [.ref (bd 1), .ref (bd 2), .ref (bd 3), .ref (bd 4), .ref (bd 5), .ref (bd 6), .int 100, .int (-1), .int 0, .int 1])), ((bd 1), .inr (4, [.int 0, .ref (bd 7), .int 0])), ((bd 2), .inr (4, [.int 0, .ref (bd 7), .int 0])), ((bd 3), .inr (4, [.int 0, .ref (bd 7), .int 0])), ((bd 4), .inr (4, [.int 0, .ref (bd 7), .int 0])), ((bd 5), .inr (4, [.int 0, .ref (bd 7), .int 0])), ((bd 6), .inr (4, [.int 0, .ref (bd 7), .int 0]))]) [0, 1, 2, 3, 4, 5, 6] (by decide) rfl
  refine W.widen (k := 0) (n := 0) (Nat.le_of_ble_eq_true rfl) (Nat.le_of_ble_eq_true rfl) ?_
  exact W.fret (v := f_6) hx hb hr (fun t ht hW => ⟨⟨f_6, (), rfl, trivial, by rw [ht]; exact hP9, hD9⟩, hS.F ht⟩) hS.2.2 dX9_contestedShare_81
theorem dX9_meanThreads_0 : decode cX9_meanThreads 0 = .ok (.iconst 0, 1) := by decide +kernel
theorem dX9_meanThreads_1 : decode cX9_meanThreads 1 = .ok (.istore_n 1, 1) := by decide +kernel
theorem dX9_meanThreads_2 : decode cX9_meanThreads 2 = .ok (.aload_n 0, 1) := by decide +kernel
theorem dX9_meanThreads_3 : decode cX9_meanThreads 3 = .ok (.getfield 19, 3) := by decide +kernel
theorem dX9_meanThreads_6 : decode cX9_meanThreads 6 = .ok (.invokeinterface 55 1, 5) := by decide +kernel
theorem dX9_meanThreads_11 : decode cX9_meanThreads 11 = .ok (.astore_n 2, 1) := by decide +kernel
theorem dX9_meanThreads_12 : decode cX9_meanThreads 12 = .ok (.aload_n 2, 1) := by decide +kernel
theorem dX9_meanThreads_13 : decode cX9_meanThreads 13 = .ok (.invokeinterface 59 1, 5) := by decide +kernel
theorem dX9_meanThreads_18 : decode cX9_meanThreads 18 = .ok (.ifCond .eq 23, 3) := by decide +kernel
theorem dX9_meanThreads_41 : decode cX9_meanThreads 41 = .ok (.aload_n 0, 1) := by decide +kernel
theorem dX9_meanThreads_42 : decode cX9_meanThreads 42 = .ok (.aload_n 0, 1) := by decide +kernel
theorem dX9_meanThreads_43 : decode cX9_meanThreads 43 = .ok (.getfield 19, 3) := by decide +kernel
theorem dX9_meanThreads_46 : decode cX9_meanThreads 46 = .ok (.invokeinterface 242 1, 5) := by decide +kernel
theorem dX9_meanThreads_51 : decode cX9_meanThreads 51 = .ok (.ifCond .ne 7, 3) := by decide +kernel
theorem dX9_meanThreads_58 : decode cX9_meanThreads 58 = .ok (.iconst 0, 1) := by decide +kernel
theorem dX9_meanThreads_59 : decode cX9_meanThreads 59 = .ok (.iconst 1, 1) := by decide +kernel
theorem dX9_meanThreads_60 : decode cX9_meanThreads 60 = .ok (.invokevirtual 51, 3) := by decide +kernel
theorem dX9_meanThreads_63 : decode cX9_meanThreads 63 = .ok (.ifCond .eq 7, 3) := by decide +kernel
theorem dX9_meanThreads_66 : decode cX9_meanThreads 66 = .ok (.dconst 0, 1) := by decide +kernel
theorem dX9_meanThreads_67 : decode cX9_meanThreads 67 = .ok (.goto 16, 3) := by decide +kernel
theorem dX9_meanThreads_83 : decode cX9_meanThreads 83 = .ok (.dreturn, 1) := by decide +kernel
set_option maxHeartbeats 4000000 in
set_option maxRecDepth 100000 in
theorem c_X9_meanThreads (l : Launch) (D : va_G) (sa : Nat → Nat) (ea : Nat) (bd : Nat → Nat) (th : Int32) (sz : Nat) : Met l yX9_meanThreads ((Cond.code yX9_meanThreads prog_8_method_71_code 4 (Option.some FieldType.double)) :: WA) ({ frames := 3, cells := 1, slots := 4, locals := 53 }) (zW D sa ea [] (zM bd th) [.ref (bd 0)] sz) (va_Qd (fun (_ : UInt64) (_ : Unit) => True) (fun _ t => va_P D vwCl [((bd 0), .inr (14, [.ref (bd 1), .ref (bd 2), .ref (bd 3), .ref (bd 4), .ref (bd 5), .ref (bd 6), .int 100, .int (-1), .int 0, .int 1])), ((bd 1), .inr (4, [.int 0, .ref (bd 7), .int 0])), ((bd 2), .inr (4, [.int 0, .ref (bd 7), .int 0])), ((bd 3), .inr (4, [.int 0, .ref (bd 7), .int 0])), ((bd 4), .inr (4, [.int 0, .ref (bd 7), .int 0])), ((bd 5), .inr (4, [.int 0, .ref (bd 7), .int 0])), ((bd 6), .inr (4, [.int 0, .ref (bd 7), .int 0]))] t.heap ∧ va_D (va_A (zM bd th) sz) [((bd 0), .inr (14, [.ref (bd 1), .ref (bd 2), .ref (bd 3), .ref (bd 4), .ref (bd 5), .ref (bd 6), .int 100, .int (-1), .int 0, .int 1])), ((bd 1), .inr (4, [.int 0, .ref (bd 7), .int 0])), ((bd 2), .inr (4, [.int 0, .ref (bd 7), .int 0])), ((bd 3), .inr (4, [.int 0, .ref (bd 7), .int 0])), ((bd 4), .inr (4, [.int 0, .ref (bd 7), .int 0])), ((bd 5), .inr (4, [.int 0, .ref (bd 7), .int 0])), ((bd 6), .inr (4, [.int 0, .ref (bd 7), .int 0]))]) (va_A (zM bd th) sz)) 1 4 (va_A (zM bd th) sz) := by
  refine Met.ofW (cc := prog_8_method_71_code) (maxL := 4) (ret := (Option.some FieldType.double)) (by decide) rfl ?_
  intro p e s m args below meth c s₁ B hml hv
  obtain ⟨rfl, hsz, hP, hK, hD0, hT, hE⟩ := hv
  have hx := B.exec
  have hb := B.bytes
  have hr := B.returns
  have hts := atoms_spec (ws := (Cond.code yX9_meanThreads prog_8_method_71_code 4 (Option.some FieldType.double)) :: WA) B.pre
  have hw : ∀ w ∈ WA, w.before _ s = true := fun w h => hts w (List.mem_cons_of_mem _ h)
  have hown : s.vm.findClass RX9 = some m.cls := findClass_of_methodNamed B.named
  have hlocks := B.notSynchronized
  subst hsz
  have hD := hD0.self (sz := s.heap.size)
  generalize hAe : va_A (zM bd th) s.heap.size = A at hD hE ⊢
  have hA : ∀ q : Nat, s.heap.size ≤ q → A q := fun q h => by rw [← hAe]; exact Or.inr h
  have hS : va_S A s.heap s.heap [] := va_S.rf
  have hP : va_P D vwCl [((bd 0), .inr (14, [.ref (bd 1), .ref (bd 2), .ref (bd 3), .ref (bd 4), .ref (bd 5), .ref (bd 6), .int 100, .int (-1), .int 0, .int th])), ((bd 1), .inr (4, [.int 0, .ref (bd 7), .int 0])), ((bd 2), .inr (4, [.int 0, .ref (bd 7), .int 0])), ((bd 3), .inr (4, [.int 0, .ref (bd 7), .int 0])), ((bd 4), .inr (4, [.int 0, .ref (bd 7), .int 0])), ((bd 5), .inr (4, [.int 0, .ref (bd 7), .int 0])), ((bd 6), .inr (4, [.int 0, .ref (bd 7), .int 0]))] s.heap := hP
  have hD : va_D A [((bd 0), .inr (14, [.ref (bd 1), .ref (bd 2), .ref (bd 3), .ref (bd 4), .ref (bd 5), .ref (bd 6), .int 100, .int (-1), .int 0, .int th])), ((bd 1), .inr (4, [.int 0, .ref (bd 7), .int 0])), ((bd 2), .inr (4, [.int 0, .ref (bd 7), .int 0])), ((bd 3), .inr (4, [.int 0, .ref (bd 7), .int 0])), ((bd 4), .inr (4, [.int 0, .ref (bd 7), .int 0])), ((bd 5), .inr (4, [.int 0, .ref (bd 7), .int 0])), ((bd 6), .inr (4, [.int 0, .ref (bd 7), .int 0]))] := hD
  have hl := lv_entry [.ref (bd 0)] (n := 4) (Nat.le_of_ble_eq_true rfl)
  rw [lg_entry_eq]
  generalize (lg_sl [.ref (bd 0)] ++ List.replicate (4 - (lg_sl [.ref (bd 0)]).length) Slot.unset).toArray = ls at hl ⊢
  have hl : lv_has ls 4 [(0, .ref (bd 0))] := hl
  refine lv_iconst (v := 0) hx hb dX9_meanThreads_0 (by decide) ?_
  refine lv_istore_n (lv' := [(1, .int 0), (0, .ref (bd 0))]) hx hb dX9_meanThreads_1 rfl hl (by decide) rfl (fun ls hl => ?_)
  refine lv_aload_n hx hb dX9_meanThreads_2 rfl (lv_at hl 1 rfl) ?_
  refine va_get (D := D) (ci := 14) (v := .ref (bd 3)) (C := RX9) (T := TX9) (N := 10) hx hb hw zi_RX9 hown hK hP 0 rfl rfl 2 (by decide) (hw _ zm_1274) (fun _ h9 => h9) rfl dX9_meanThreads_3 ?_
  have hPc := hP.sub (ws' := [((bd 3), .inr (4, [.int 0, .ref (bd 7), .int 0]))]) [3] rfl
  have hDc := hD.sub (ws' := [((bd 3), .inr (4, [.int 0, .ref (bd 7), .int 0]))]) [3] (by decide) rfl
  have hFc := va_free (wc := [((bd 3), .inr (4, [.int 0, .ref (bd 7), .int 0]))]) hD hS hA [3] rfl
  refine va_callFr (va_runF (As := []) (rest := []) (hK.1 4 _ rfl).2 ⟨hx, hb, hml, hown, hw⟩ (c_Jx4a65c_iterator_32c93 l D sa ea (bd 3) 0 (bd 7) _) (va_cwF 0 hw (zg4 zm_1319 zm_1323 zm_1325 zm_51 zm_1327) rfl rfl rfl (hT.i 2 rfl) (by decide +kernel) ⟨Nat.le_of_ble_eq_true rfl, Nat.le_of_ble_eq_true rfl⟩) ⟨zW_blind, va_recv hK hPc (ci := 4) (q0 := 0) rfl rfl, zW_pre hPc hK hDc hT hE hS hFc⟩ rfl rfl hl.1 rfl (lv_room (Nat.le_of_ble_eq_true rfl)) dX9_meanThreads_6 ⟨Nat.le_of_ble_eq_true rfl, Nat.le_of_ble_eq_true rfl⟩) hS (fun q _ h => hFc q h) hFc (fun u r_1 t H locs ht hvm hw1 hB hz1 hk1 hS => ?_)
  obtain ⟨hP1, hD1⟩ := hB
  rw [ht] at hP1
  obtain ⟨hP, hD⟩ := va_join (wr := [((bd 0), .inr (14, [.ref (bd 1), .ref (bd 2), .ref (bd 3), .ref (bd 4), .ref (bd 5), .ref (bd 6), .int 100, .int (-1), .int 0, .int th])), ((bd 1), .inr (4, [.int 0, .ref (bd 7), .int 0])), ((bd 2), .inr (4, [.int 0, .ref (bd 7), .int 0])), ((bd 4), .inr (4, [.int 0, .ref (bd 7), .int 0])), ((bd 5), .inr (4, [.int 0, .ref (bd 7), .int 0])), ((bd 6), .inr (4, [.int 0, .ref (bd 7), .int 0]))]) (w1 := [(r_1, .inr (3, [.int 0, .int (-1), .int 0, .ref (bd 3)])), ((bd 3), .inr (4, [.int 0, .ref (bd 7), .int 0]))]) hP hD [3] [0, 1, 2, 4, 5, 6] rfl rfl (by decide) (by decide) hk1 hFc hP1 hD1
  have hP : va_P D vwCl [((bd 0), .inr (14, [.ref (bd 1), .ref (bd 2), .ref (bd 3), .ref (bd 4), .ref (bd 5), .ref (bd 6), .int 100, .int (-1), .int 0, .int th])), ((bd 1), .inr (4, [.int 0, .ref (bd 7), .int 0])), ((bd 2), .inr (4, [.int 0, .ref (bd 7), .int 0])), ((bd 4), .inr (4, [.int 0, .ref (bd 7), .int 0])), ((bd 5), .inr (4, [.int 0, .ref (bd 7), .int 0])), ((bd 6), .inr (4, [.int 0, .ref (bd 7), .int 0])), (r_1, .inr (3, [.int 0, .int (-1), .int 0, .ref (bd 3)])), ((bd 3), .inr (4, [.int 0, .ref (bd 7), .int 0]))] H := hP
  have hD : va_D A [((bd 0), .inr (14, [.ref (bd 1), .ref (bd 2), .ref (bd 3), .ref (bd 4), .ref (bd 5), .ref (bd 6), .int 100, .int (-1), .int 0, .int th])), ((bd 1), .inr (4, [.int 0, .ref (bd 7), .int 0])), ((bd 2), .inr (4, [.int 0, .ref (bd 7), .int 0])), ((bd 4), .inr (4, [.int 0, .ref (bd 7), .int 0])), ((bd 5), .inr (4, [.int 0, .ref (bd 7), .int 0])), ((bd 6), .inr (4, [.int 0, .ref (bd 7), .int 0])), (r_1, .inr (3, [.int 0, .int (-1), .int 0, .ref (bd 3)])), ((bd 3), .inr (4, [.int 0, .ref (bd 7), .int 0]))] := hD
  refine lv_astore_n (lv' := [(2, .ref r_1), (1, .int 0), (0, .ref (bd 0))]) hx hb dX9_meanThreads_11 rfl hl (by decide) rfl (fun ls hl => ?_)
  refine lv_aload_n hx hb dX9_meanThreads_12 rfl (lv_at hl 0 rfl) ?_
  have hPc := hP.sub (ws' := [(r_1, .inr (3, [.int 0, .int (-1), .int 0, .ref (bd 3)])), ((bd 3), .inr (4, [.int 0, .ref (bd 7), .int 0]))]) [6, 7] rfl
  refine va_callFi (va_runF (As := []) (rest := []) (hK.1 3 _ rfl).2 ⟨hx, hb, hml, hown, hw⟩ (c_Jx35411_hasNext_aae02 l D sa r_1 (bd 3) 0 (bd 7) _) (va_cwF 0 hw (zg4 zm_1348 zm_1352 zm_1354 zm_60 zm_1356) rfl rfl rfl (hT.i 3 rfl) (by decide +kernel) ⟨Nat.le_of_ble_eq_true rfl, Nat.le_of_ble_eq_true rfl⟩) ⟨zJ_blind, va_recv hK hPc (ci := 3) (q0 := 0) rfl rfl, zJ_pre hPc hK hT⟩ rfl rfl hl.1 rfl (lv_room (Nat.le_of_ble_eq_true rfl)) dX9_meanThreads_13 ⟨Nat.le_of_ble_eq_true rfl, Nat.le_of_ble_eq_true rfl⟩) hS zN_in (zN_fr hS hA) (fun r_2 u t H locs ht hvm hw1 hB hz1 hk1 hS => ?_)
  have hP := zN_keep hP hk1
  subst hw1
  refine lv_if_eq (tgt := 41) hx hb dX9_meanThreads_18 (by decide) (fun _ => ?_) (fun c_3 => absurd (by decide) c_3)
  refine lv_aload_n hx hb dX9_meanThreads_41 rfl (lv_at hl 2 rfl) ?_
  refine lv_aload_n hx hb dX9_meanThreads_42 rfl (lv_at hl 2 rfl) ?_
  refine va_get (D := D) (ci := 14) (v := .ref (bd 3)) (C := RX9) (T := TX9) (N := 10) hx hb hw zi_RX9 hown hK hP 0 rfl rfl 2 (by decide) (hw _ zm_1274) (fun _ h9 => h9) rfl dX9_meanThreads_43 ?_
  have hPc := hP.sub (ws' := [((bd 3), .inr (4, [.int 0, .ref (bd 7), .int 0]))]) [7] rfl
  refine va_callFi (va_runF (As := []) (rest := [.ref (bd 0)]) (hK.1 4 _ rfl).2 ⟨hx, hb, hml, hown, hw⟩ (c_Jx4a65c_isEmpty_aae02 l D sa (bd 3) 0 (bd 7) _) (va_cwF 0 hw (zg4 zm_1819 zm_1822 zm_1260 zm_51 zm_1262) rfl rfl rfl (hT.i 1 rfl) (by decide +kernel) ⟨Nat.le_of_ble_eq_true rfl, Nat.le_of_ble_eq_true rfl⟩) ⟨zJ_blind, va_recv hK hPc (ci := 4) (q0 := 0) rfl rfl, zJ_pre hPc hK hT⟩ rfl rfl hl.1 rfl (lv_room (Nat.le_of_ble_eq_true rfl)) dX9_meanThreads_46 ⟨Nat.le_of_ble_eq_true rfl, Nat.le_of_ble_eq_true rfl⟩) hS zN_in (zN_fr hS hA) (fun r_4 u t H locs ht hvm hw1 hB hz1 hk1 hS => ?_)
  have hP := zN_keep hP hk1
  subst hw1
  refine lv_if_ne (tgt := 58) hx hb dX9_meanThreads_51 (by decide) (fun _ => ?_) (fun c_5 => absurd c_5 (by decide))
  refine lv_iconst (v := 0) hx hb dX9_meanThreads_58 (by decide) ?_
  refine lv_iconst (v := 1) hx hb dX9_meanThreads_59 (by decide) ?_
  have hPc := hP.sub (ws' := [((bd 0), .inr (14, [.ref (bd 1), .ref (bd 2), .ref (bd 3), .ref (bd 4), .ref (bd 5), .ref (bd 6), .int 100, .int (-1), .int 0, .int th])), ((bd 1), .inr (4, [.int 0, .ref (bd 7), .int 0])), ((bd 2), .inr (4, [.int 0, .ref (bd 7), .int 0])), ((bd 3), .inr (4, [.int 0, .ref (bd 7), .int 0])), ((bd 4), .inr (4, [.int 0, .ref (bd 7), .int 0])), ((bd 5), .inr (4, [.int 0, .ref (bd 7), .int 0])), ((bd 6), .inr (4, [.int 0, .ref (bd 7), .int 0]))]) [0, 1, 2, 7, 3, 4, 5] rfl
  have hDc := hD.sub (ws' := [((bd 0), .inr (14, [.ref (bd 1), .ref (bd 2), .ref (bd 3), .ref (bd 4), .ref (bd 5), .ref (bd 6), .int 100, .int (-1), .int 0, .int th])), ((bd 1), .inr (4, [.int 0, .ref (bd 7), .int 0])), ((bd 2), .inr (4, [.int 0, .ref (bd 7), .int 0])), ((bd 3), .inr (4, [.int 0, .ref (bd 7), .int 0])), ((bd 4), .inr (4, [.int 0, .ref (bd 7), .int 0])), ((bd 5), .inr (4, [.int 0, .ref (bd 7), .int 0])), ((bd 6), .inr (4, [.int 0, .ref (bd 7), .int 0]))]) [0, 1, 2, 7, 3, 4, 5] (by decide) rfl
  have hFc := va_free (wc := [((bd 0), .inr (14, [.ref (bd 1), .ref (bd 2), .ref (bd 3), .ref (bd 4), .ref (bd 5), .ref (bd 6), .int 100, .int (-1), .int 0, .int th])), ((bd 1), .inr (4, [.int 0, .ref (bd 7), .int 0])), ((bd 2), .inr (4, [.int 0, .ref (bd 7), .int 0])), ((bd 3), .inr (4, [.int 0, .ref (bd 7), .int 0])), ((bd 4), .inr (4, [.int 0, .ref (bd 7), .int 0])), ((bd 5), .inr (4, [.int 0, .ref (bd 7), .int 0])), ((bd 6), .inr (4, [.int 0, .ref (bd 7), .int 0]))]) hD hS hA [0, 1, 2, 7, 3, 4, 5] rfl
  refine va_calli (va_runV (As := [.int 0, .int 1]) (rest := []) ⟨hx, hb, hml, hown, hw⟩ (c_X9_no0 l D sa ea bd th _ 1) (cwV 2 hw (zg4 zm_1314 zm_1316 zm_26 zm_53 zm_1317) rfl rfl rfl (by decide +kernel) ⟨Nat.le_of_ble_eq_true rfl, Nat.le_of_ble_eq_true rfl⟩) ⟨zW_blind, va_recv hK hPc (ci := 14) (q0 := 0) rfl rfl, zW_pre hPc hK hDc hT hE hS hFc⟩ rfl rfl hl.1 rfl (lv_room (Nat.le_of_ble_eq_true rfl)) dX9_meanThreads_60 ⟨Nat.le_of_ble_eq_true rfl, Nat.le_of_ble_eq_true rfl⟩) hS (fun q _ h => hFc q h) hFc (fun r_6 u t H locs ht hvm hw1 hB hz1 hk1 hS => ?_)
  subst hw1
  obtain ⟨hP1, hD1⟩ := hB
  rw [ht] at hP1
  obtain ⟨hP, hD⟩ := va_join (wr := [(r_1, .inr (3, [.int 0, .int (-1), .int 0, .ref (bd 3)]))]) (w1 := [((bd 0), .inr (14, [.ref (bd 1), .ref (bd 2), .ref (bd 3), .ref (bd 4), .ref (bd 5), .ref (bd 6), .int 100, .int (-1), .int 0, .int 1])), ((bd 1), .inr (4, [.int 0, .ref (bd 7), .int 0])), ((bd 2), .inr (4, [.int 0, .ref (bd 7), .int 0])), ((bd 3), .inr (4, [.int 0, .ref (bd 7), .int 0])), ((bd 4), .inr (4, [.int 0, .ref (bd 7), .int 0])), ((bd 5), .inr (4, [.int 0, .ref (bd 7), .int 0])), ((bd 6), .inr (4, [.int 0, .ref (bd 7), .int 0]))]) hP hD [0, 1, 2, 7, 3, 4, 5] [6] rfl rfl (by decide) (by decide) hk1 hFc hP1 hD1
  have hP : va_P D vwCl [(r_1, .inr (3, [.int 0, .int (-1), .int 0, .ref (bd 3)])), ((bd 0), .inr (14, [.ref (bd 1), .ref (bd 2), .ref (bd 3), .ref (bd 4), .ref (bd 5), .ref (bd 6), .int 100, .int (-1), .int 0, .int 1])), ((bd 1), .inr (4, [.int 0, .ref (bd 7), .int 0])), ((bd 2), .inr (4, [.int 0, .ref (bd 7), .int 0])), ((bd 3), .inr (4, [.int 0, .ref (bd 7), .int 0])), ((bd 4), .inr (4, [.int 0, .ref (bd 7), .int 0])), ((bd 5), .inr (4, [.int 0, .ref (bd 7), .int 0])), ((bd 6), .inr (4, [.int 0, .ref (bd 7), .int 0]))] H := hP
  have hD : va_D A [(r_1, .inr (3, [.int 0, .int (-1), .int 0, .ref (bd 3)])), ((bd 0), .inr (14, [.ref (bd 1), .ref (bd 2), .ref (bd 3), .ref (bd 4), .ref (bd 5), .ref (bd 6), .int 100, .int (-1), .int 0, .int 1])), ((bd 1), .inr (4, [.int 0, .ref (bd 7), .int 0])), ((bd 2), .inr (4, [.int 0, .ref (bd 7), .int 0])), ((bd 3), .inr (4, [.int 0, .ref (bd 7), .int 0])), ((bd 4), .inr (4, [.int 0, .ref (bd 7), .int 0])), ((bd 5), .inr (4, [.int 0, .ref (bd 7), .int 0])), ((bd 6), .inr (4, [.int 0, .ref (bd 7), .int 0]))] := hD
  refine lv_if_eq (tgt := 70) hx hb dX9_meanThreads_63 (by decide) (fun c_7 => absurd c_7 (by decide)) (fun _ => ?_)
  refine lv_dconst0 hx hb dX9_meanThreads_66 ?_
  refine zl_topd (fun f_8 => ?_)
  refine lv_goto (tgt := 83) hx hb dX9_meanThreads_67 (by decide) ?_
  have hP9 := hP.sub (ws' := [((bd 0), .inr (14, [.ref (bd 1), .ref (bd 2), .ref (bd 3), .ref (bd 4), .ref (bd 5), .ref (bd 6), .int 100, .int (-1), .int 0, .int 1])), ((bd 1), .inr (4, [.int 0, .ref (bd 7), .int 0])), ((bd 2), .inr (4, [.int 0, .ref (bd 7), .int 0])), ((bd 3), .inr (4, [.int 0, .ref (bd 7), .int 0])), ((bd 4), .inr (4, [.int 0, .ref (bd 7), .int 0])), ((bd 5), .inr (4, [.int 0, .ref (bd 7), .int 0])), ((bd 6), .inr (4, [.int 0, .ref (bd 7), .int 0]))]) [1, 2, 3, 4, 5, 6, 7] rfl
  have hD9 := hD.sub (ws' := [((bd 0), .inr (14, [.ref (bd 1), .ref (bd 2), .ref (bd 3), .ref (bd 4), .ref (bd 5), .ref (bd 6), .int 100, .int (-1), .int 0, .int 1])), ((bd 1), .inr (4, [.int 0, .ref (bd 7), .int 0])), ((bd 2), .inr (4, [.int 0, .ref (bd 7), .int 0])), ((bd 3), .inr (4, [.int 0, .ref (bd 7), .int 0])), ((bd 4), .inr (4, [.int 0, .ref (bd 7), .int 0])), ((bd 5), .inr (4, [.int 0, .ref (bd 7), .int 0])), ((bd 6), .inr (4, [.int 0, .ref (bd 7), .int 0]))]) [1, 2, 3, 4, 5, 6, 7] (by decide) rfl
  refine W.widen (k := 1) (n := 4) (Nat.le_of_ble_eq_true rfl) (Nat.le_of_ble_eq_true rfl) ?_
  exact W.dret (v := f_8) hx hb hr (fun t ht hW => ⟨⟨f_8, (), rfl, trivial, by rw [ht]; exact hP9, hD9⟩, hS.F ht⟩) hS.2.2 dX9_meanThreads_83
theorem dX5_contestedShare_0 : decode cX5_contestedShare 0 = .ok (.aload_n 0, 1) := by decide +kernel
theorem dX5_contestedShare_1 : decode cX5_contestedShare 1 = .ok (.getfield 49, 3) := by decide +kernel
theorem zm_189 : Cond.fieldLink RX5 49 RX5 "registered" "I" ∈ WA := zmm (i := 189) (by decide +kernel) (by decide +kernel)
theorem dX5_contestedShare_4 : decode cX5_contestedShare 4 = .ok (.ifCond .ne 14, 3) := by decide +kernel
theorem dX5_contestedShare_7 : decode cX5_contestedShare 7 = .ok (.new 355, 3) := by decide +kernel
theorem zatg_RX5_359 : ∀ w ∈ (vx_atS RX5 359 "java/lang/ArithmeticException" zNm).filter goodWord, w ∈ WA := zmf (by decide +kernel)
theorem zatb_RX5_359 : ∀ w ∈ (vx_atS RX5 359 "java/lang/ArithmeticException" zNm).filter (fun w => !goodWord w), w ∈ ([.declares ⟨"java/lang/RuntimeException", "<init>", "(Ljava/lang/String;)V"⟩, .declares ⟨"java/lang/Exception", "<init>", "(Ljava/lang/String;)V"⟩, .declares ⟨"java/lang/Throwable", "<init>", "(Ljava/lang/String;)V"⟩, .castable "java/lang/ArithmeticException" "java/lang/ArithmeticException"] : List Cond) := by decide +kernel
theorem zato_RX5_359 : ∀ w ∈ Cond.classLink RX5 355 "java/lang/ArithmeticException" :: Cond.initialized "java/lang/ArithmeticException" :: (vx_atS RX5 359 "java/lang/ArithmeticException" zNm), vx_ot w = true := by decide +kernel
theorem zat_RX5_359 {args : Array Value} {s : State} {sa : Nat → Nat} (hw : ∀ w ∈ WA, w.before args s = true) (hT : ZT sa s) : ∀ w ∈ (vx_atS RX5 359 "java/lang/ArithmeticException" zNm), w.before args s = true := vx_hat (fun w h => hw w (zatg_RX5_359 w h)) zatb_RX5_359 (vx_c (hT.d 0 rfl) (vx_c (hT.d 1 rfl) (vx_c (hT.d 2 rfl) (vx_c (hT.c 5 rfl) vx_n))))
theorem zm_1249 : Cond.classLink RX5 355 "java/lang/ArithmeticException" ∈ WA := zmm (i := 1249) (by decide +kernel) (by decide +kernel)
theorem zm_78 : Cond.initialized "java/lang/ArithmeticException" ∈ WA := zmm (i := 78) (by decide +kernel) (by decide +kernel)
theorem dX5_contestedShare_10 : decode cX5_contestedShare 10 = .ok (.dup, 1) := by decide +kernel
theorem dX5_contestedShare_11 : decode cX5_contestedShare 11 = .ok (.ldc_w 357, 3) := by decide +kernel
theorem dX5_contestedShare_14 : decode cX5_contestedShare 14 = .ok (.invokespecial 359, 3) := by decide +kernel
theorem dX5_contestedShare_17 : decode cX5_contestedShare 17 = .ok (.athrow, 1) := by decide +kernel
set_option maxHeartbeats 4000000 in
set_option maxRecDepth 100000 in
theorem c_X5_contestedShare (l : Launch) (hst : l.stackTraces = false) (D : va_G) (sa : Nat → Nat) (ad : Nat → Nat) (sz : Nat) : vx_Met l yX5_contestedShare ((Cond.code yX5_contestedShare prog_1_method_48_code 4 (Option.some FieldType.float)) :: WA) ({ frames := 6, cells := 1, slots := 6, locals := 82 }) (zR D sa (zX ad) [.ref (ad 0)] sz) zF (zXC "java/lang/ArithmeticException" sz) 1 6 (zN sz) := by
  refine vx_ofW (cc := prog_1_method_48_code) (maxL := 4) (ret := (Option.some FieldType.float)) (by decide) rfl ?_
  intro p e s m args below meth c s₁ B hml hnt hv
  obtain ⟨rfl, hsz, hP, hK, hT, hZ⟩ := hv
  have hx := B.exec
  have hb := B.bytes
  have hr := B.returns
  have hts := atoms_spec (ws := (Cond.code yX5_contestedShare prog_1_method_48_code 4 (Option.some FieldType.float)) :: WA) B.pre
  have hw : ∀ w ∈ WA, w.before _ s = true := fun w h => hts w (List.mem_cons_of_mem _ h)
  have hown : s.vm.findClass RX5 = some m.cls := findClass_of_methodNamed B.named
  have hlocks := B.notSynchronized
  subst hsz
  have hA : ∀ q : Nat, s.heap.size ≤ q → zN s.heap.size q := fun _ h => h
  have hS : va_S (zN s.heap.size) s.heap s.heap [] := va_S.rf
  have hP : va_P D vwCl [((ad 0), .inr (10, [.ref (ad 1), .ref (ad 2), .ref (ad 3), .ref (ad 4), .ref (ad 5), .int (-1), .int 100, .int 0, .int 0])), ((ad 1), .inr (7, [.ref (ad 6), .ref (ad 7), .ref (ad 8), .int 0])), ((ad 2), .inr (8, [.ref (ad 9), .ref (ad 10), .int 0])), ((ad 3), .inr (4, [.int 0, .ref (ad 14), .int 0])), ((ad 4), .inr (4, [.int 0, .ref (ad 14), .int 0])), ((ad 5), .inr (6, [.ref (ad 11), .ref (ad 12), .ref (ad 13), .int 0, .int 0]))] s.heap := hP
  have hl := lv_entry [.ref (ad 0)] (n := 4) (Nat.le_of_ble_eq_true rfl)
  rw [lg_entry_eq]
  generalize (lg_sl [.ref (ad 0)] ++ List.replicate (4 - (lg_sl [.ref (ad 0)]).length) Slot.unset).toArray = ls at hl ⊢
  have hl : lv_has ls 4 [(0, .ref (ad 0))] := hl
  refine lv_aload_n hx hb dX5_contestedShare_0 rfl (lv_at hl 0 rfl) ?_
  refine va_get (D := D) (ci := 10) (v := .int 0) (C := RX5) (T := TX5) (N := 9) hx hb hw zi_RX5 hown hK hP 0 rfl rfl 7 (by decide) (hw _ zm_189) (fun _ h9 => h9) rfl dX5_contestedShare_1 ?_
  refine lv_if_ne (tgt := 18) hx hb dX5_contestedShare_4 (by decide) (fun c_1 => absurd (by decide) c_1) (fun _ => ?_)
  exact vx_throwSW (A := zN s.heap.size) (names := zNm) hx hb hst hown (by decide) (by decide) (hw _ zm_1249) (hw _ zm_78) (hT.s 29 rfl) (zat_RX5_359 hw hT) zato_RX5_359 hZ.1 hZ.2 hS (hl.1.trans hml.symm) dX5_contestedShare_7 dX5_contestedShare_10 dX5_contestedShare_11 dX5_contestedShare_14 dX5_contestedShare_17 (fun x hx9 => (hnt x hx9).elim) (Nat.le_of_ble_eq_true rfl) (Nat.le_of_ble_eq_true rfl) (Nat.le_of_ble_eq_true rfl) (Nat.le_of_ble_eq_true rfl) hlocks (fun t _ hz1 hk1 => ⟨(), trivial, rfl, Nat.le_trans hS.1 hz1, fun q hq hnq => (hk1 q (Nat.lt_of_lt_of_le hq hS.1)).trans (hS.2.1 q hq hnq)⟩) (fun z hz => hS.2.2 z hz) (Nat.le_of_ble_eq_true rfl) (Nat.le_of_ble_eq_true rfl)
theorem dL_contestedShare_0 : decode cL_contestedShare 0 = .ok (.aload_n 1, 1) := by decide +kernel
theorem dL_contestedShare_1 : decode cL_contestedShare 1 = .ok (.iconst 0, 1) := by decide +kernel
theorem dL_contestedShare_2 : decode cL_contestedShare 2 = .ok (.aload_n 0, 1) := by decide +kernel
theorem dL_contestedShare_3 : decode cL_contestedShare 3 = .ok (.invokevirtual 159, 3) := by decide +kernel
theorem zm_1245 : Cond.methodLink RL 159 yX5_contestedShare ∈ WA := zmm (i := 1245) (by decide +kernel) (by decide +kernel)
theorem zm_1246 : Cond.instanceMethod yX5_contestedShare ∈ WA := zmm (i := 1246) (by decide +kernel) (by decide +kernel)
theorem zm_1247 : Cond.selects RX5 yX5_contestedShare yX5_contestedShare ∈ WA := zmm (i := 1247) (by decide +kernel) (by decide +kernel)
theorem zm_1248 : Cond.code yX5_contestedShare prog_1_method_48_code 4 (Option.some FieldType.float) ∈ WA := zmm (i := 1248) (by decide +kernel) (by decide +kernel)
theorem zm_1231 : Cond.classLink RL 163 "java/lang/ArithmeticException" ∈ WA := zmm (i := 1231) (by decide +kernel) (by decide +kernel)
theorem dL_contestedShare_11 : decode cL_contestedShare 11 = .ok (.astore_n 2, 1) := by decide +kernel
theorem dL_contestedShare_12 : decode cL_contestedShare 12 = .ok (.iconst 1, 1) := by decide +kernel
theorem dL_contestedShare_13 : decode cL_contestedShare 13 = .ok (.ireturn, 1) := by decide +kernel
set_option maxHeartbeats 4000000 in
set_option maxRecDepth 100000 in
theorem c_L_contestedShare (l : Launch) (hst : l.stackTraces = false) (D : va_G) (sa : Nat → Nat) (ad : Nat → Nat) (sz : Nat) (oa : Nat) : vx_Met l yL_contestedShare ((Cond.codeWith yL_contestedShare method_45_code 3 (Option.some FieldType.int) [(0, 8, 11, 163)]) :: WA) ({ frames := 7, cells := 1, slots := 6, locals := 105 }) (zR D sa (zX ad) [.ref (ad 0), .ref oa] sz) (va_Qi (fun (r : Int32) (_ : Unit) => r = 1) (fun _ _ => True) (zN sz)) (zX0 sz) 1 6 (zN sz) := by
  refine vx_ofWH (cc := method_45_code) (maxL := 3) (ret := (Option.some FieldType.int)) (hh := [(0, 8, 11, 163)]) (by decide) rfl ?_
  intro p e s m args below meth c s₁ B hml hv
  obtain ⟨rfl, hsz, hP, hK, hT, hZ⟩ := hv
  have hx := B.exec
  have hb := B.bytes
  have hr := B.returns
  have hts := atoms_spec (ws := (Cond.codeWith yL_contestedShare method_45_code 3 (Option.some FieldType.int) [(0, 8, 11, 163)]) :: WA) B.pre
  have hw : ∀ w ∈ WA, w.before _ s = true := fun w h => hts w (List.mem_cons_of_mem _ h)
  have htab := vx_table (x := yL_contestedShare) B (hts _ List.mem_cons_self)
  have hown : s.vm.findClass RL = some m.cls := findClass_of_methodNamed B.named
  have hlocks := B.notSynchronized
  subst hsz
  have hA : ∀ q : Nat, s.heap.size ≤ q → zN s.heap.size q := fun _ h => h
  have hS : va_S (zN s.heap.size) s.heap s.heap [] := va_S.rf
  have hP : va_P D vwCl [((ad 0), .inr (10, [.ref (ad 1), .ref (ad 2), .ref (ad 3), .ref (ad 4), .ref (ad 5), .int (-1), .int 100, .int 0, .int 0])), ((ad 1), .inr (7, [.ref (ad 6), .ref (ad 7), .ref (ad 8), .int 0])), ((ad 2), .inr (8, [.ref (ad 9), .ref (ad 10), .int 0])), ((ad 3), .inr (4, [.int 0, .ref (ad 14), .int 0])), ((ad 4), .inr (4, [.int 0, .ref (ad 14), .int 0])), ((ad 5), .inr (6, [.ref (ad 11), .ref (ad 12), .ref (ad 13), .int 0, .int 0]))] s.heap := hP
  have hl := lv_entry [.ref (ad 0), .ref oa] (n := 3) (Nat.le_of_ble_eq_true rfl)
  rw [lg_entry_eq]
  generalize (lg_sl [.ref (ad 0), .ref oa] ++ List.replicate (3 - (lg_sl [.ref (ad 0), .ref oa]).length) Slot.unset).toArray = ls at hl ⊢
  have hl : lv_has ls 3 [(0, .ref (ad 0)), (1, .ref oa)] := hl
  refine lv_aload_n hx hb dL_contestedShare_0 rfl (lv_at hl 1 rfl) ?_
  refine lv_iconst (v := 0) hx hb dL_contestedShare_1 (by decide) ?_
  refine lv_aload_n hx hb dL_contestedShare_2 rfl (lv_at hl 0 rfl) ?_
  refine zx_call (vx_runV (As := []) (rest := [.int 0, .ref oa]) ⟨hx, hb, hml, hown, hw⟩ (c_X5_contestedShare l hst D sa ad _) (cwV 0 hw (zg4 zm_1245 zm_1246 zm_1247 zm_45 zm_1248) rfl rfl rfl (by decide +kernel) ⟨Nat.le_of_ble_eq_true rfl, Nat.le_of_ble_eq_true rfl⟩) ⟨zR_blind, va_recv hK hP (ci := 10) (q0 := 0) rfl rfl, zR_pre hP hK hT hZ hS hA⟩ rfl rfl hl.1 rfl (lv_room (Nat.le_of_ble_eq_true rfl)) dL_contestedShare_3 ⟨Nat.le_of_ble_eq_true rfl, Nat.le_of_ble_eq_true rfl⟩) hS (zN_fr hS hA) zN_in (fun E ce q9 u t H locs ht hvm hu hE hz1 hk1 hS hce hcv hcl => ?_)
  subst hE
  refine vx_catch hown [] ⟨0, 8, 11, 163⟩ (tableOf []) htab (fun z hz => absurd hz List.not_mem_nil) (by decide) (by decide) (hw _ zm_1231) (hT.c 5 rfl) hce hcv hcl ?_
  refine lv_astore_n (lv' := [(2, .ref q9), (0, .ref (ad 0)), (1, .ref oa)]) hx hb dL_contestedShare_11 rfl hl (by decide) rfl (fun ls hl => ?_)
  refine lv_iconst (v := 1) hx hb dL_contestedShare_12 (by decide) ?_
  refine vx_ret ?_
  exact W.iret (v := 1) hx hb hr (fun t ht hW => ⟨⟨1, (), rfl, rfl, trivial⟩, hS.F ht⟩) hS.2.2 dL_contestedShare_13
theorem dX5_meanThreads_0 : decode cX5_meanThreads 0 = .ok (.aload_n 0, 1) := by decide +kernel
theorem dX5_meanThreads_1 : decode cX5_meanThreads 1 = .ok (.getfield 28, 3) := by decide +kernel
theorem dX5_meanThreads_4 : decode cX5_meanThreads 4 = .ok (.invokevirtual 360, 3) := by decide +kernel
theorem zm_1259 : Cond.methodLink RX5 360 yJx4a65c_isEmpty_aae02 ∈ WA := zmm (i := 1259) (by decide +kernel) (by decide +kernel)
theorem zm_1261 : Cond.selects RJx4a65c yJx4a65c_isEmpty_aae02 yJx4a65c_isEmpty_aae02 ∈ WA := zmm (i := 1261) (by decide +kernel) (by decide +kernel)
theorem dX5_meanThreads_7 : decode cX5_meanThreads 7 = .ok (.ifCond .eq 14, 3) := by decide +kernel
theorem dX5_meanThreads_10 : decode cX5_meanThreads 10 = .ok (.new 355, 3) := by decide +kernel
theorem dX5_meanThreads_13 : decode cX5_meanThreads 13 = .ok (.dup, 1) := by decide +kernel
theorem dX5_meanThreads_14 : decode cX5_meanThreads 14 = .ok (.ldc_w 363, 3) := by decide +kernel
theorem dX5_meanThreads_17 : decode cX5_meanThreads 17 = .ok (.invokespecial 359, 3) := by decide +kernel
theorem dX5_meanThreads_20 : decode cX5_meanThreads 20 = .ok (.athrow, 1) := by decide +kernel
set_option maxHeartbeats 4000000 in
set_option maxRecDepth 100000 in
theorem c_X5_meanThreads (l : Launch) (hst : l.stackTraces = false) (D : va_G) (sa : Nat → Nat) (ad : Nat → Nat) (sz : Nat) : vx_Met l yX5_meanThreads ((Cond.code yX5_meanThreads prog_1_method_49_code 3 (Option.some FieldType.double)) :: WA) ({ frames := 6, cells := 1, slots := 6, locals := 82 }) (zR D sa (zX ad) [.ref (ad 0)] sz) zF (zXC "java/lang/ArithmeticException" sz) 1 6 (zN sz) := by
  refine vx_ofW (cc := prog_1_method_49_code) (maxL := 3) (ret := (Option.some FieldType.double)) (by decide) rfl ?_
  intro p e s m args below meth c s₁ B hml hnt hv
  obtain ⟨rfl, hsz, hP, hK, hT, hZ⟩ := hv
  have hx := B.exec
  have hb := B.bytes
  have hr := B.returns
  have hts := atoms_spec (ws := (Cond.code yX5_meanThreads prog_1_method_49_code 3 (Option.some FieldType.double)) :: WA) B.pre
  have hw : ∀ w ∈ WA, w.before _ s = true := fun w h => hts w (List.mem_cons_of_mem _ h)
  have hown : s.vm.findClass RX5 = some m.cls := findClass_of_methodNamed B.named
  have hlocks := B.notSynchronized
  subst hsz
  have hA : ∀ q : Nat, s.heap.size ≤ q → zN s.heap.size q := fun _ h => h
  have hS : va_S (zN s.heap.size) s.heap s.heap [] := va_S.rf
  have hP : va_P D vwCl [((ad 0), .inr (10, [.ref (ad 1), .ref (ad 2), .ref (ad 3), .ref (ad 4), .ref (ad 5), .int (-1), .int 100, .int 0, .int 0])), ((ad 1), .inr (7, [.ref (ad 6), .ref (ad 7), .ref (ad 8), .int 0])), ((ad 2), .inr (8, [.ref (ad 9), .ref (ad 10), .int 0])), ((ad 3), .inr (4, [.int 0, .ref (ad 14), .int 0])), ((ad 4), .inr (4, [.int 0, .ref (ad 14), .int 0])), ((ad 5), .inr (6, [.ref (ad 11), .ref (ad 12), .ref (ad 13), .int 0, .int 0]))] s.heap := hP
  have hl := lv_entry [.ref (ad 0)] (n := 3) (Nat.le_of_ble_eq_true rfl)
  rw [lg_entry_eq]
  generalize (lg_sl [.ref (ad 0)] ++ List.replicate (3 - (lg_sl [.ref (ad 0)]).length) Slot.unset).toArray = ls at hl ⊢
  have hl : lv_has ls 3 [(0, .ref (ad 0))] := hl
  refine lv_aload_n hx hb dX5_meanThreads_0 rfl (lv_at hl 0 rfl) ?_
  refine va_get (D := D) (ci := 10) (v := .ref (ad 3)) (C := RX5) (T := TX5) (N := 9) hx hb hw zi_RX5 hown hK hP 0 rfl rfl 2 (by decide) (hw _ zm_184) (fun _ h9 => h9) rfl dX5_meanThreads_1 ?_
  have hPc := hP.sub (ws' := [((ad 3), .inr (4, [.int 0, .ref (ad 14), .int 0]))]) [3] rfl
  refine va_calli (va_runV (As := []) (rest := []) ⟨hx, hb, hml, hown, hw⟩ (c_Jx4a65c_isEmpty_aae02 l D sa (ad 3) 0 (ad 14) _) (cwV 0 hw (zg4 zm_1259 zm_1260 zm_1261 zm_51 zm_1262) rfl rfl rfl (by decide +kernel) ⟨Nat.le_of_ble_eq_true rfl, Nat.le_of_ble_eq_true rfl⟩) ⟨zJ_blind, va_recv hK hPc (ci := 4) (q0 := 0) rfl rfl, zJ_pre hPc hK hT⟩ rfl rfl hl.1 rfl (lv_room (Nat.le_of_ble_eq_true rfl)) dX5_meanThreads_4 ⟨Nat.le_of_ble_eq_true rfl, Nat.le_of_ble_eq_true rfl⟩) hS zN_in (zN_fr hS hA) (fun r_1 u t H locs ht hvm hw1 hB hz1 hk1 hS => ?_)
  have hP := zN_keep hP hk1
  subst hw1
  refine lv_if_eq (tgt := 21) hx hb dX5_meanThreads_7 (by decide) (fun c_2 => absurd c_2 (by decide)) (fun _ => ?_)
  exact vx_throwSW (A := zN s.heap.size) (names := zNm) hx hb hst hown (by decide) (by decide) (hw _ zm_1249) (hw _ zm_78) (hT.s 30 rfl) (zat_RX5_359 hw hT) zato_RX5_359 hZ.1 hZ.2 hS (hl.1.trans hml.symm) dX5_meanThreads_10 dX5_meanThreads_13 dX5_meanThreads_14 dX5_meanThreads_17 dX5_meanThreads_20 (fun x hx9 => (hnt x hx9).elim) (Nat.le_of_ble_eq_true rfl) (Nat.le_of_ble_eq_true rfl) (Nat.le_of_ble_eq_true rfl) (Nat.le_of_ble_eq_true rfl) hlocks (fun t _ hz1 hk1 => ⟨(), trivial, rfl, Nat.le_trans hS.1 hz1, fun q hq hnq => (hk1 q (Nat.lt_of_lt_of_le hq hS.1)).trans (hS.2.1 q hq hnq)⟩) (fun z hz => hS.2.2 z hz) (Nat.le_of_ble_eq_true rfl) (Nat.le_of_ble_eq_true rfl)
theorem dL_meanThreads_0 : decode cL_meanThreads 0 = .ok (.aload_n 1, 1) := by decide +kernel
theorem dL_meanThreads_1 : decode cL_meanThreads 1 = .ok (.iconst 0, 1) := by decide +kernel
theorem dL_meanThreads_2 : decode cL_meanThreads 2 = .ok (.aload_n 0, 1) := by decide +kernel
theorem dL_meanThreads_3 : decode cL_meanThreads 3 = .ok (.invokevirtual 165, 3) := by decide +kernel
theorem zm_1255 : Cond.methodLink RL 165 yX5_meanThreads ∈ WA := zmm (i := 1255) (by decide +kernel) (by decide +kernel)
theorem zm_1256 : Cond.instanceMethod yX5_meanThreads ∈ WA := zmm (i := 1256) (by decide +kernel) (by decide +kernel)
theorem zm_1257 : Cond.selects RX5 yX5_meanThreads yX5_meanThreads ∈ WA := zmm (i := 1257) (by decide +kernel) (by decide +kernel)
theorem zm_1258 : Cond.code yX5_meanThreads prog_1_method_49_code 3 (Option.some FieldType.double) ∈ WA := zmm (i := 1258) (by decide +kernel) (by decide +kernel)
theorem dL_meanThreads_10 : decode cL_meanThreads 10 = .ok (.astore_n 2, 1) := by decide +kernel
theorem dL_meanThreads_11 : decode cL_meanThreads 11 = .ok (.iconst 1, 1) := by decide +kernel
theorem dL_meanThreads_12 : decode cL_meanThreads 12 = .ok (.ireturn, 1) := by decide +kernel
set_option maxHeartbeats 4000000 in
set_option maxRecDepth 100000 in
theorem c_L_meanThreads (l : Launch) (hst : l.stackTraces = false) (D : va_G) (sa : Nat → Nat) (ad : Nat → Nat) (sz : Nat) (oa : Nat) : vx_Met l yL_meanThreads ((Cond.codeWith yL_meanThreads method_46_code 3 (Option.some FieldType.int) [(0, 7, 10, 163)]) :: WA) ({ frames := 7, cells := 1, slots := 6, locals := 104 }) (zR D sa (zX ad) [.ref (ad 0), .ref oa] sz) (va_Qi (fun (r : Int32) (_ : Unit) => r = 1) (fun _ _ => True) (zN sz)) (zX0 sz) 1 6 (zN sz) := by
  refine vx_ofWH (cc := method_46_code) (maxL := 3) (ret := (Option.some FieldType.int)) (hh := [(0, 7, 10, 163)]) (by decide) rfl ?_
  intro p e s m args below meth c s₁ B hml hv
  obtain ⟨rfl, hsz, hP, hK, hT, hZ⟩ := hv
  have hx := B.exec
  have hb := B.bytes
  have hr := B.returns
  have hts := atoms_spec (ws := (Cond.codeWith yL_meanThreads method_46_code 3 (Option.some FieldType.int) [(0, 7, 10, 163)]) :: WA) B.pre
  have hw : ∀ w ∈ WA, w.before _ s = true := fun w h => hts w (List.mem_cons_of_mem _ h)
  have htab := vx_table (x := yL_meanThreads) B (hts _ List.mem_cons_self)
  have hown : s.vm.findClass RL = some m.cls := findClass_of_methodNamed B.named
  have hlocks := B.notSynchronized
  subst hsz
  have hA : ∀ q : Nat, s.heap.size ≤ q → zN s.heap.size q := fun _ h => h
  have hS : va_S (zN s.heap.size) s.heap s.heap [] := va_S.rf
  have hP : va_P D vwCl [((ad 0), .inr (10, [.ref (ad 1), .ref (ad 2), .ref (ad 3), .ref (ad 4), .ref (ad 5), .int (-1), .int 100, .int 0, .int 0])), ((ad 1), .inr (7, [.ref (ad 6), .ref (ad 7), .ref (ad 8), .int 0])), ((ad 2), .inr (8, [.ref (ad 9), .ref (ad 10), .int 0])), ((ad 3), .inr (4, [.int 0, .ref (ad 14), .int 0])), ((ad 4), .inr (4, [.int 0, .ref (ad 14), .int 0])), ((ad 5), .inr (6, [.ref (ad 11), .ref (ad 12), .ref (ad 13), .int 0, .int 0]))] s.heap := hP
  have hl := lv_entry [.ref (ad 0), .ref oa] (n := 3) (Nat.le_of_ble_eq_true rfl)
  rw [lg_entry_eq]
  generalize (lg_sl [.ref (ad 0), .ref oa] ++ List.replicate (3 - (lg_sl [.ref (ad 0), .ref oa]).length) Slot.unset).toArray = ls at hl ⊢
  have hl : lv_has ls 3 [(0, .ref (ad 0)), (1, .ref oa)] := hl
  refine lv_aload_n hx hb dL_meanThreads_0 rfl (lv_at hl 1 rfl) ?_
  refine lv_iconst (v := 0) hx hb dL_meanThreads_1 (by decide) ?_
  refine lv_aload_n hx hb dL_meanThreads_2 rfl (lv_at hl 0 rfl) ?_
  refine zx_call (vx_runV (As := []) (rest := [.int 0, .ref oa]) ⟨hx, hb, hml, hown, hw⟩ (c_X5_meanThreads l hst D sa ad _) (cwV 0 hw (zg4 zm_1255 zm_1256 zm_1257 zm_45 zm_1258) rfl rfl rfl (by decide +kernel) ⟨Nat.le_of_ble_eq_true rfl, Nat.le_of_ble_eq_true rfl⟩) ⟨zR_blind, va_recv hK hP (ci := 10) (q0 := 0) rfl rfl, zR_pre hP hK hT hZ hS hA⟩ rfl rfl hl.1 rfl (lv_room (Nat.le_of_ble_eq_true rfl)) dL_meanThreads_3 ⟨Nat.le_of_ble_eq_true rfl, Nat.le_of_ble_eq_true rfl⟩) hS (zN_fr hS hA) zN_in (fun E ce q9 u t H locs ht hvm hu hE hz1 hk1 hS hce hcv hcl => ?_)
  subst hE
  refine vx_catch hown [] ⟨0, 7, 10, 163⟩ (tableOf []) htab (fun z hz => absurd hz List.not_mem_nil) (by decide) (by decide) (hw _ zm_1231) (hT.c 5 rfl) hce hcv hcl ?_
  refine lv_astore_n (lv' := [(2, .ref q9), (0, .ref (ad 0)), (1, .ref oa)]) hx hb dL_meanThreads_10 rfl hl (by decide) rfl (fun ls hl => ?_)
  refine lv_iconst (v := 1) hx hb dL_meanThreads_11 (by decide) ?_
  refine vx_ret ?_
  exact W.iret (v := 1) hx hb hr (fun t ht hW => ⟨⟨1, (), rfl, rfl, trivial⟩, hS.F ht⟩) hS.2.2 dL_meanThreads_12
