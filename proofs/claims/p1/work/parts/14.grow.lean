/-- the empty array that new lists share; what an array of objects takes -/
def ZQ (ea : Nat) (A : Nat → Prop) (U : State) (H : Heap) : Prop := (∃ cell : Cell, H[ea]? = some cell ∧ U.isArrayOf cell (.object "java/lang/Object") ∧ cell.slots.size = 0 ∧ ¬ A ea) ∧ va_Nw (.castable "[I" "java/lang/Object") U ∧ va_AO "java/lang/Object" U
theorem ZQ.pass {ea : Nat} {A A1 : Nat → Prop} {s U : State} {H : Heap} {locs : List Loc} (hS : va_S A s.heap H locs) (h : ZQ ea A s s.heap) (hA1 : ∀ q, A1 q → A q) (hU : U.heap = H) (hW : s.WarmedH U.vm) : ZQ ea A1 U U.heap := by
  rw [hU]
  obtain ⟨⟨cell, h1, h2, h3, h4⟩, h5, h6⟩ := h
  exact ⟨⟨cell, by rw [hS.2.1 ea (Array.getElem?_eq_some_iff.mp h1).1 h4]; exact h1, State.isArrayOf_alike hW.alike h2, h3, fun z => h4 (hA1 _ z)⟩, va_Nw.warmC hW h5, va_AO.moved hW.alike h6⟩
def zG (D : va_G) (sa : Nat → Nat) (ea : Nat) (tys : List (ClassId × FieldType)) (W : va_W) (av : List Value) (sz : Nat) : Array Value → State → Prop := va_Pc av (fun U => U.heap.size = sz ∧ va_P D vwCl W U.heap ∧ va_K D vwCl tys U ∧ va_D (fun _ => True) W ∧ ZT sa U ∧ ZE ea (va_A W sz) U U.heap ∧ ZQ ea (va_A W sz) U U.heap)
theorem zG_blind {D : va_G} {sa : Nat → Nat} {ea : Nat} {tys : List (ClassId × FieldType)} {W : va_W} {av : List Value} {sz : Nat} : FrameBlind (zG D sa ea tys W av sz) := fun a U g mk q => by
  obtain ⟨q0, q1, qP, qK, qD, qT, qE, ⟨cell, h1, h2, h3, h4⟩, h5, h6⟩ := q
  exact ⟨q0, q1, qP, va_K.moved (u := U) (U := U.calling g mk a) (Vm.Alike.refl U.vm) qK, qD, ZT.same (u := U) (U := U.calling g mk a) rfl (Vm.Alike.refl U.vm) qT, va_Z.moved (u := U) (U := U.calling g mk a) (Vm.Alike.refl U.vm) qE, ⟨cell, h1, State.isArrayOf_alike (Vm.Alike.refl U.vm) h2, h3, h4⟩, va_Nw.same rfl rfl h5, va_AO.moved (u := U) (U := U.calling g mk a) (Vm.Alike.refl U.vm) h6⟩
theorem zG_pre {D : va_G} {sa : Nat → Nat} {ea : Nat} {tys : List (ClassId × FieldType)} {W : va_W} {av : List Value} {s : State} {A A2 : Nat → Prop} {H : Heap} {locs : List Loc} (hP : va_P D vwCl W H) (hK : va_K D vwCl tys s) (hD : va_D A2 W) (hT : ZT sa s) (hE : ZE ea A s s.heap) (hQ : ZQ ea A s s.heap) (hS : va_S A s.heap H locs) (hF : ∀ q, va_A W H.size q → A q) : ∀ U : State, U.heap = H → s.WarmedH U.vm → zG D sa ea tys W av H.size av.toArray U :=
  fun U hU hW => ⟨rfl, by rw [hU], by rw [hU]; exact hP, va_K.moved hW.alike hK, hD.weaken (fun _ _ _ _ => trivial), hT.warm hW, ZE_pass hS hE hF hU hW, ZQ.pass hS hQ hF hU hW⟩
theorem zx_elen {p : Program} {l : Launch} {e : Env} {R : Room} {s : State} {m : MethodId} {args : Array Value} {below : List Frame} {meth : Method} {c : Code} {H : Heap} {locs : List Loc} {cells slots : Nat} {Q : State → Prop} {pc : Nat} {ls : Array Slot} {rest : List Value} {cc : ByteArray} {ea : Nat} {A : Nat → Prop} (hexec : p.tables.exec = Jvm.exec) (hb : c.code = cc) (hQ : ZQ ea A s s.heap) (hS : va_S A s.heap H locs) (hdg : decode cc pc = .ok (.arraylength, 1))
    (kk : W p l e R s m args below meth c H locs cells slots Q (F0 m (pc + 1) ls (.int 0 :: rest))) : W p l e R s m args below meth c H locs cells slots Q (F0 m pc ls (.ref ea :: rest)) := by
  obtain ⟨⟨cell, h1, h2, h3, h4⟩, -, -⟩ := hQ
  exact W.alen (n := 0) hexec hb (by rw [hS.2.1 ea (Array.getElem?_eq_some_iff.mp h1).1 h4]; exact h1) h2 (by rw [h3]; rfl) rfl rfl hdg kk
theorem zAny {s : State} {H : Heap} {D : va_G} {tys : List (ClassId × FieldType)} {ws : va_W} {a n : Nat} {cI : ClassId} {f : Nat → Int32} (hK : va_K D vwCl tys s) (hP : va_P D vwCl ws H) (q0 t0 : Nat) (ha : ws[q0]? = some (a, .inl (cI, n, .inl f))) (ht : tys[t0]? = some (cI, .int)) (hc : va_Nw (.castable "[I" "java/lang/Object") s) : va_Any "java/lang/Object" s H a := by
  have hcell : H[a]? = some (vp_cell cI (n, .inl f)) := hP q0 _ ha
  obtain ⟨c3, c4, hc3, hc4, hasg⟩ := Cond.castable_spec (va_Nw.use (A := #[]) rfl hc)
  have hfc : s.vm.findClass "[I" = some cI := (hK.2 t0 _ ht).2
  obtain ⟨kC, hkC, -⟩ := Vm.findClass_spec hfc
  cases Option.some.inj (hc3.symm.trans hfc)
  exact ⟨_, hcell, rfl, ⟨kC, hkC⟩, fun comp hcomp => by cases Option.some.inj (hc4.symm.trans hcomp); exact hasg⟩
theorem dJx4a65c_grow_92f84_0 : decode cJx4a65c_grow_92f84 0 = .ok (.aload_n 0, 1) := by decide +kernel
theorem dJx4a65c_grow_92f84_1 : decode cJx4a65c_grow_92f84 1 = .ok (.getfield 9, 3) := by decide +kernel
theorem dJx4a65c_grow_92f84_4 : decode cJx4a65c_grow_92f84 4 = .ok (.arraylength, 1) := by decide +kernel
theorem dJx4a65c_grow_92f84_5 : decode cJx4a65c_grow_92f84 5 = .ok (.istore_n 2, 1) := by decide +kernel
theorem dJx4a65c_grow_92f84_6 : decode cJx4a65c_grow_92f84 6 = .ok (.iload_n 2, 1) := by decide +kernel
theorem dJx4a65c_grow_92f84_7 : decode cJx4a65c_grow_92f84 7 = .ok (.ifCond .gt 13, 3) := by decide +kernel
theorem dJx4a65c_grow_92f84_10 : decode cJx4a65c_grow_92f84 10 = .ok (.aload_n 0, 1) := by decide +kernel
theorem dJx4a65c_grow_92f84_11 : decode cJx4a65c_grow_92f84 11 = .ok (.getfield 9, 3) := by decide +kernel
theorem dJx4a65c_grow_92f84_14 : decode cJx4a65c_grow_92f84 14 = .ok (.getstatic 39, 3) := by decide +kernel
theorem dJx4a65c_grow_92f84_17 : decode cJx4a65c_grow_92f84 17 = .ok (.if_acmp .eq 28, 3) := by decide +kernel
theorem dJx4a65c_grow_92f84_45 : decode cJx4a65c_grow_92f84 45 = .ok (.aload_n 0, 1) := by decide +kernel
theorem dJx4a65c_grow_92f84_46 : decode cJx4a65c_grow_92f84 46 = .ok (.bipush 10, 2) := by decide +kernel
theorem dJx4a65c_grow_92f84_48 : decode cJx4a65c_grow_92f84 48 = .ok (.iload_n 1, 1) := by decide +kernel
theorem dJx4a65c_grow_92f84_49 : decode cJx4a65c_grow_92f84 49 = .ok (.invokestatic 79, 3) := by decide +kernel
theorem zm_742 : Cond.methodLink RJx4a65c 79 yJ9_max_7cf53 ∈ WA := zmm (i := 742) (by decide +kernel) (by decide +kernel)
theorem dJx4a65c_grow_92f84_52 : decode cJx4a65c_grow_92f84 52 = .ok (.anewarray 7, 3) := by decide +kernel
theorem zm_743 : Cond.classLink RJx4a65c 7 "java/lang/Object" ∈ WA := zmm (i := 743) (by decide +kernel) (by decide +kernel)
theorem dJx4a65c_grow_92f84_55 : decode cJx4a65c_grow_92f84 55 = .ok (.dup_x1, 1) := by decide +kernel
theorem dJx4a65c_grow_92f84_56 : decode cJx4a65c_grow_92f84 56 = .ok (.putfield 9, 3) := by decide +kernel
theorem dJx4a65c_grow_92f84_59 : decode cJx4a65c_grow_92f84 59 = .ok (.areturn, 1) := by decide +kernel
set_option maxHeartbeats 4000000 in
set_option maxRecDepth 100000 in
theorem c_Jx4a65c_grow_92f84 (l : Launch) (D : va_G) (sa : Nat → Nat) (ea : Nat) (h : Nat) (x1 : Nat) (sz : Nat) (he : ea = x1) : Met l yJx4a65c_grow_92f84 ((Cond.code yJx4a65c_grow_92f84 prog_35_method_6_code 4 (Option.some (FieldType.array (FieldType.object "java/lang/Object")))) :: WA) ({ frames := 1, cells := 1, slots := 10, locals := 14 }) (zG D sa ea [] [(h, .inr (4, [.int 1, .ref x1, .int 0]))] [.ref h, .int 1] sz) (va_Qr (fun _ : ClassId => True) (fun u a t => va_P D vwCl [(h, .inr (4, [.int 1, .ref a, .int 0])), (a, .inl (u, 10, .inr (.inr (.inr (.inr (fun _ => none))))))] t.heap ∧ va_K D vwCl [(u, .object "java/lang/Object")] t ∧ va_D (va_A [(h, .inr (4, [.int 1, .ref x1, .int 0]))] sz) [(h, .inr (4, [.int 1, .ref a, .int 0])), (a, .inl (u, 10, .inr (.inr (.inr (.inr (fun _ => none))))))]) (va_A [(h, .inr (4, [.int 1, .ref x1, .int 0]))] sz)) 1 10 (va_A [(h, .inr (4, [.int 1, .ref x1, .int 0]))] sz) := by
  subst he
  refine Met.ofW (cc := prog_35_method_6_code) (maxL := 4) (ret := (Option.some (FieldType.array (FieldType.object "java/lang/Object")))) (by decide) rfl ?_
  intro p e s m args below meth c s₁ B hml hv
  obtain ⟨rfl, hsz, hP, hK, hD0, hT, hE, hQ⟩ := hv
  have hx := B.exec
  have hb := B.bytes
  have hr := B.returns
  have hts := atoms_spec (ws := (Cond.code yJx4a65c_grow_92f84 prog_35_method_6_code 4 (Option.some (FieldType.array (FieldType.object "java/lang/Object")))) :: WA) B.pre
  have hw : ∀ w ∈ WA, w.before _ s = true := fun w h => hts w (List.mem_cons_of_mem _ h)
  have hown : s.vm.findClass RJx4a65c = some m.cls := findClass_of_methodNamed B.named
  have hlocks := B.notSynchronized
  subst hsz
  have hD := hD0.self (sz := s.heap.size)
  generalize hAe : va_A [(h, .inr (4, [.int 1, .ref ea, .int 0]))] s.heap.size = A at hD hE hQ ⊢
  have hA : ∀ q : Nat, s.heap.size ≤ q → A q := fun q h => by rw [← hAe]; exact Or.inr h
  have hS : va_S A s.heap s.heap [] := va_S.rf
  have hP : va_P D vwCl [(h, .inr (4, [.int 1, .ref ea, .int 0]))] s.heap := hP
  have hD : va_D A [(h, .inr (4, [.int 1, .ref ea, .int 0]))] := hD
  have hl := lv_entry [.ref h, .int 1] (n := 4) (Nat.le_of_ble_eq_true rfl)
  rw [lg_entry_eq]
  generalize (lg_sl [.ref h, .int 1] ++ List.replicate (4 - (lg_sl [.ref h, .int 1]).length) Slot.unset).toArray = ls at hl ⊢
  have hl : lv_has ls 4 [(0, .ref h), (1, .int 1)] := hl
  refine lv_aload_n hx hb dJx4a65c_grow_92f84_0 rfl (lv_at hl 0 rfl) ?_
  refine va_get (D := D) (ci := 4) (v := .ref ea) (C := RJx4a65c) (T := TJx4a65c) (N := 3) hx hb hw zi_RJx4a65c hown hK hP 0 rfl rfl 1 (by decide) (hw _ zm_144) (fun _ h9 => h9) rfl dJx4a65c_grow_92f84_1 ?_
  refine zx_elen hx hb hQ hS dJx4a65c_grow_92f84_4 ?_
  refine lv_istore_n (lv' := [(2, .int 0), (0, .ref h), (1, .int 1)]) hx hb dJx4a65c_grow_92f84_5 rfl hl (by decide) rfl (fun ls hl => ?_)
  refine lv_iload_n hx hb dJx4a65c_grow_92f84_6 rfl (lv_at hl 0 rfl) ?_
  refine lv_if_gt (tgt := 20) hx hb dJx4a65c_grow_92f84_7 (by decide) (fun c_1 => absurd c_1 (by decide)) (fun _ => ?_)
  refine lv_aload_n hx hb dJx4a65c_grow_92f84_10 rfl (lv_at hl 1 rfl) ?_
  refine va_get (D := D) (ci := 4) (v := .ref ea) (C := RJx4a65c) (T := TJx4a65c) (N := 3) hx hb hw zi_RJx4a65c hown hK hP 0 rfl rfl 1 (by decide) (hw _ zm_144) (fun _ h9 => h9) rfl dJx4a65c_grow_92f84_11 ?_
  refine va_gets hx hb hE hS hown (hw _ zm_142) (fun _ h9 => h9) dJx4a65c_grow_92f84_14 ?_
  refine lv_acmp_eq (rx := some ea) (ry := some ea) (tgt := 45) hx hb dJx4a65c_grow_92f84_17 (by decide) (fun _ => ?_) (fun c_2 => absurd rfl c_2)
  refine lv_aload_n hx hb dJx4a65c_grow_92f84_45 rfl (lv_at hl 1 rfl) ?_
  refine lv_bipush (v := 10) hx hb dJx4a65c_grow_92f84_46 (by decide) ?_
  refine lv_iload_n hx hb dJx4a65c_grow_92f84_48 rfl (lv_at hl 2 rfl) ?_
  refine va_mmax hx hb (hml.trans hl.1.symm) hown (hw _ zm_742) (hw _ zm_115) (hw _ zm_48) (hw _ zm_116) (Nat.le_of_ble_eq_true rfl) (Nat.le_of_ble_eq_true rfl) (Nat.le_of_ble_eq_true rfl) (Nat.le_of_ble_eq_true rfl) dJx4a65c_grow_92f84_49 ?_
  refine lv_topi (fun f_3 ef_3 => ?_)
  obtain rfl : f_3 = 10 := ef_3.trans (by decide)
  refine va_newq (N' := 10) hx hb hown (hw _ zm_743) hQ.2.2 hK hP hD hS hA (n := 10) (by decide) (by decide) (by decide) (Nat.le_of_ble_eq_true rfl) (Nat.le_of_ble_eq_true rfl) dJx4a65c_grow_92f84_52 (fun q_4 k_5 H hK hP hD hS => ?_)
  have hP : va_P D vwCl [(h, .inr (4, [.int 1, .ref ea, .int 0])), (q_4, .inl (k_5, 10, .inr (.inr (.inr (.inr (fun _ => none))))))] H := hP
  have hD : va_D A [(h, .inr (4, [.int 1, .ref ea, .int 0])), (q_4, .inl (k_5, 10, .inr (.inr (.inr (.inr (fun _ => none))))))] := hD
  have hK : va_K D vwCl [(k_5, .object "java/lang/Object")] s := hK
  refine lv_dup_x1 hx hb dJx4a65c_grow_92f84_55 rfl rfl ?_
  refine va_put (D := D) (ci := 4) (v := .ref q_4) (ty := .array (.object "java/lang/Object")) (C := RJx4a65c) (T := TJx4a65c) (N := 3) hx hb hw zi_RJx4a65c tyJx4a65c tyJx4a65c_ok nmJx4a65c hown hK hP hD hS 0 rfl rfl 1 (by decide) (hw _ zm_144) (fun _ h9 => h9) rfl (by decide +kernel) rfl rfl (Nat.le_of_ble_eq_true rfl) dJx4a65c_grow_92f84_56 (fun H locs hP hD hS => ?_)
  have hP : va_P D vwCl [(h, .inr (4, [.int 1, .ref q_4, .int 0])), (q_4, .inl (k_5, 10, .inr (.inr (.inr (.inr (fun _ => none))))))] H := hP
  have hD : va_D A [(h, .inr (4, [.int 1, .ref q_4, .int 0])), (q_4, .inl (k_5, 10, .inr (.inr (.inr (.inr (fun _ => none))))))] := hD
  have hK : va_K D vwCl [(k_5, .object "java/lang/Object")] s := hK
  have hP9 := hP.sub (ws' := [(h, .inr (4, [.int 1, .ref q_4, .int 0])), (q_4, .inl (k_5, 10, .inr (.inr (.inr (.inr (fun _ => none))))))]) [0, 1] rfl
  have hD9 := hD.sub (ws' := [(h, .inr (4, [.int 1, .ref q_4, .int 0])), (q_4, .inl (k_5, 10, .inr (.inr (.inr (.inr (fun _ => none))))))]) [0, 1] (by decide) rfl
  have hK9 := hK.sub (tys' := [(k_5, .object "java/lang/Object")]) [0] rfl
  refine W.widen (k := 1) (n := 10) (Nat.le_of_ble_eq_true rfl) (Nat.le_of_ble_eq_true rfl) ?_
  exact W.aret (v := .ref q_4) hx hb hr (by first | exact Or.inl ⟨_, rfl⟩ | exact Or.inr ⟨_, rfl⟩) (Or.inr ⟨_, rfl⟩) (fun t ht hW => ⟨⟨k_5, q_4, rfl, trivial, by rw [ht]; exact hP9, va_K.moved hW.alike hK9, hD9⟩, hS.F ht⟩) hS.2.2 dJx4a65c_grow_92f84_59
theorem dJx4a65c_grow_d5877_0 : decode cJx4a65c_grow_d5877 0 = .ok (.aload_n 0, 1) := by decide +kernel
theorem dJx4a65c_grow_d5877_1 : decode cJx4a65c_grow_d5877 1 = .ok (.aload_n 0, 1) := by decide +kernel
theorem dJx4a65c_grow_d5877_2 : decode cJx4a65c_grow_d5877 2 = .ok (.getfield 48, 3) := by decide +kernel
theorem dJx4a65c_grow_d5877_5 : decode cJx4a65c_grow_d5877 5 = .ok (.iconst 1, 1) := by decide +kernel
theorem dJx4a65c_grow_d5877_6 : decode cJx4a65c_grow_d5877 6 = .ok (.iadd, 1) := by decide +kernel
theorem dJx4a65c_grow_d5877_7 : decode cJx4a65c_grow_d5877 7 = .ok (.invokevirtual 69, 3) := by decide +kernel
theorem zm_693 : Cond.methodLink RJx4a65c 69 yJx4a65c_grow_92f84 ∈ WA := zmm (i := 693) (by decide +kernel) (by decide +kernel)
theorem zm_695 : Cond.instanceMethod yJx4a65c_grow_92f84 ∈ WA := zmm (i := 695) (by decide +kernel) (by decide +kernel)
theorem zm_14 : Cond.selects RJx4a65c yJx4a65c_grow_92f84 yJx4a65c_grow_92f84 ∈ WA := zmm (i := 14) (by decide +kernel) (by decide +kernel)
theorem zm_696 : Cond.code yJx4a65c_grow_92f84 prog_35_method_6_code 4 (Option.some (FieldType.array (FieldType.object "java/lang/Object"))) ∈ WA := zmm (i := 696) (by decide +kernel) (by decide +kernel)
theorem dJx4a65c_grow_d5877_10 : decode cJx4a65c_grow_d5877 10 = .ok (.areturn, 1) := by decide +kernel
set_option maxHeartbeats 4000000 in
set_option maxRecDepth 100000 in
theorem c_Jx4a65c_grow_d5877 (l : Launch) (D : va_G) (sa : Nat → Nat) (ea : Nat) (h : Nat) (x1 : Nat) (sz : Nat) (he : ea = x1) : Met l yJx4a65c_grow_d5877 ((Cond.code yJx4a65c_grow_d5877 prog_35_method_7_code 1 (Option.some (FieldType.array (FieldType.object "java/lang/Object")))) :: WA) ({ frames := 2, cells := 1, slots := 10, locals := 37 }) (zG D sa ea [] [(h, .inr (4, [.int 1, .ref x1, .int 0]))] [.ref h] sz) (va_Qr (fun _ : ClassId => True) (fun u a t => va_P D vwCl [(h, .inr (4, [.int 1, .ref a, .int 0])), (a, .inl (u, 10, .inr (.inr (.inr (.inr (fun _ => none))))))] t.heap ∧ va_K D vwCl [(u, .object "java/lang/Object")] t ∧ va_D (va_A [(h, .inr (4, [.int 1, .ref x1, .int 0]))] sz) [(h, .inr (4, [.int 1, .ref a, .int 0])), (a, .inl (u, 10, .inr (.inr (.inr (.inr (fun _ => none))))))]) (va_A [(h, .inr (4, [.int 1, .ref x1, .int 0]))] sz)) 1 10 (va_A [(h, .inr (4, [.int 1, .ref x1, .int 0]))] sz) := by
  subst he
  refine Met.ofW (cc := prog_35_method_7_code) (maxL := 1) (ret := (Option.some (FieldType.array (FieldType.object "java/lang/Object")))) (by decide) rfl ?_
  intro p e s m args below meth c s₁ B hml hv
  obtain ⟨rfl, hsz, hP, hK, hD0, hT, hE, hQ⟩ := hv
  have hx := B.exec
  have hb := B.bytes
  have hr := B.returns
  have hts := atoms_spec (ws := (Cond.code yJx4a65c_grow_d5877 prog_35_method_7_code 1 (Option.some (FieldType.array (FieldType.object "java/lang/Object")))) :: WA) B.pre
  have hw : ∀ w ∈ WA, w.before _ s = true := fun w h => hts w (List.mem_cons_of_mem _ h)
  have hown : s.vm.findClass RJx4a65c = some m.cls := findClass_of_methodNamed B.named
  have hlocks := B.notSynchronized
  subst hsz
  have hD := hD0.self (sz := s.heap.size)
  generalize hAe : va_A [(h, .inr (4, [.int 1, .ref ea, .int 0]))] s.heap.size = A at hD hE hQ ⊢
  have hA : ∀ q : Nat, s.heap.size ≤ q → A q := fun q h => by rw [← hAe]; exact Or.inr h
  have hS : va_S A s.heap s.heap [] := va_S.rf
  have hP : va_P D vwCl [(h, .inr (4, [.int 1, .ref ea, .int 0]))] s.heap := hP
  have hD : va_D A [(h, .inr (4, [.int 1, .ref ea, .int 0]))] := hD
  have hl := lv_entry [.ref h] (n := 1) (Nat.le_of_ble_eq_true rfl)
  rw [lg_entry_eq]
  generalize (lg_sl [.ref h] ++ List.replicate (1 - (lg_sl [.ref h]).length) Slot.unset).toArray = ls at hl ⊢
  have hl : lv_has ls 1 [(0, .ref h)] := hl
  refine lv_aload_n hx hb dJx4a65c_grow_d5877_0 rfl (lv_at hl 0 rfl) ?_
  refine lv_aload_n hx hb dJx4a65c_grow_d5877_1 rfl (lv_at hl 0 rfl) ?_
  refine va_get (D := D) (ci := 4) (v := .int 0) (C := RJx4a65c) (T := TJx4a65c) (N := 3) hx hb hw zi_RJx4a65c hown hK hP 0 rfl rfl 2 (by decide) (hw _ zm_147) (fun _ h9 => h9) rfl dJx4a65c_grow_d5877_2 ?_
  refine lv_iconst (v := 1) hx hb dJx4a65c_grow_d5877_5 (by decide) ?_
  refine lv_iadd hx hb dJx4a65c_grow_d5877_6 ?_
  refine lv_topi (fun f_1 ef_1 => ?_)
  obtain rfl : f_1 = 1 := ef_1.trans (by decide)
  have hFc := va_free (wc := [(h, .inr (4, [.int 1, .ref ea, .int 0]))]) hD hS hA [0] rfl
  refine va_callr (va_runV (As := [.int 1]) (rest := []) ⟨hx, hb, hml, hown, hw⟩ (c_Jx4a65c_grow_92f84 l D sa ea h ea _ rfl) (cwV 1 hw (zg4 zm_693 zm_695 zm_14 zm_51 zm_696) rfl rfl rfl (by decide +kernel) ⟨Nat.le_of_ble_eq_true rfl, Nat.le_of_ble_eq_true rfl⟩) ⟨zG_blind, va_recv hK hP (ci := 4) (q0 := 0) rfl rfl, zG_pre hP hK hD hT hE hQ hS hFc⟩ rfl rfl hl.1 rfl (lv_room (Nat.le_of_ble_eq_true rfl)) dJx4a65c_grow_d5877_7 ⟨Nat.le_of_ble_eq_true rfl, Nat.le_of_ble_eq_true rfl⟩) hS (fun q _ h => hFc q h) hFc (fun u r_2 t H locs ht hvm hw1 hB hz1 hk1 hS => ?_)
  obtain ⟨u_3, eu_3⟩ : ∃ z, z = u := ⟨_, rfl⟩
  subst eu_3
  obtain ⟨hP1, hK1, hD1⟩ := hB
  have hK1 := va_K.moved hvm.symm hK1
  rw [ht] at hP1
  obtain ⟨hP, hD⟩ := va_join (wr := []) (w1 := [(h, .inr (4, [.int 1, .ref r_2, .int 0])), (r_2, .inl (u_3, 10, .inr (.inr (.inr (.inr (fun _ => none))))))]) hP hD [0] [] rfl rfl (by decide) (by decide) hk1 hFc hP1 hD1
  have hK := (hK.sub (tys' := []) [] rfl).app hK1
  have hP : va_P D vwCl [(h, .inr (4, [.int 1, .ref r_2, .int 0])), (r_2, .inl (u_3, 10, .inr (.inr (.inr (.inr (fun _ => none))))))] H := hP
  have hD : va_D A [(h, .inr (4, [.int 1, .ref r_2, .int 0])), (r_2, .inl (u_3, 10, .inr (.inr (.inr (.inr (fun _ => none))))))] := hD
  have hK : va_K D vwCl [(u_3, .object "java/lang/Object")] s := hK
  have hP9 := hP.sub (ws' := [(h, .inr (4, [.int 1, .ref r_2, .int 0])), (r_2, .inl (u_3, 10, .inr (.inr (.inr (.inr (fun _ => none))))))]) [0, 1] rfl
  have hD9 := hD.sub (ws' := [(h, .inr (4, [.int 1, .ref r_2, .int 0])), (r_2, .inl (u_3, 10, .inr (.inr (.inr (.inr (fun _ => none))))))]) [0, 1] (by decide) rfl
  have hK9 := hK.sub (tys' := [(u_3, .object "java/lang/Object")]) [0] rfl
  refine W.widen (k := 1) (n := 10) (Nat.le_of_ble_eq_true rfl) (Nat.le_of_ble_eq_true rfl) ?_
  exact W.aret (v := .ref r_2) hx hb hr (by first | exact Or.inl ⟨_, rfl⟩ | exact Or.inr ⟨_, rfl⟩) (Or.inr ⟨_, rfl⟩) (fun t ht hW => ⟨⟨u_3, r_2, rfl, trivial, by rw [ht]; exact hP9, va_K.moved hW.alike hK9, hD9⟩, hS.F ht⟩) hS.2.2 dJx4a65c_grow_d5877_10
theorem dJx4a65c_add_72be8_0 : decode cJx4a65c_add_72be8 0 = .ok (.iload_n 3, 1) := by decide +kernel
theorem dJx4a65c_add_72be8_1 : decode cJx4a65c_add_72be8 1 = .ok (.aload_n 2, 1) := by decide +kernel
theorem dJx4a65c_add_72be8_2 : decode cJx4a65c_add_72be8 2 = .ok (.arraylength, 1) := by decide +kernel
theorem dJx4a65c_add_72be8_3 : decode cJx4a65c_add_72be8 3 = .ok (.if_icmp .ne 8, 3) := by decide +kernel
theorem dJx4a65c_add_72be8_6 : decode cJx4a65c_add_72be8 6 = .ok (.aload_n 0, 1) := by decide +kernel
theorem dJx4a65c_add_72be8_7 : decode cJx4a65c_add_72be8 7 = .ok (.invokevirtual 129, 3) := by decide +kernel
theorem zm_689 : Cond.methodLink RJx4a65c 129 yJx4a65c_grow_d5877 ∈ WA := zmm (i := 689) (by decide +kernel) (by decide +kernel)
theorem zm_691 : Cond.instanceMethod yJx4a65c_grow_d5877 ∈ WA := zmm (i := 691) (by decide +kernel) (by decide +kernel)
theorem zm_13 : Cond.selects RJx4a65c yJx4a65c_grow_d5877 yJx4a65c_grow_d5877 ∈ WA := zmm (i := 13) (by decide +kernel) (by decide +kernel)
theorem zm_692 : Cond.code yJx4a65c_grow_d5877 prog_35_method_7_code 1 (Option.some (FieldType.array (FieldType.object "java/lang/Object"))) ∈ WA := zmm (i := 692) (by decide +kernel) (by decide +kernel)
theorem dJx4a65c_add_72be8_10 : decode cJx4a65c_add_72be8 10 = .ok (.astore_n 2, 1) := by decide +kernel
theorem dJx4a65c_add_72be8_11 : decode cJx4a65c_add_72be8 11 = .ok (.aload_n 2, 1) := by decide +kernel
theorem dJx4a65c_add_72be8_12 : decode cJx4a65c_add_72be8 12 = .ok (.iload_n 3, 1) := by decide +kernel
theorem dJx4a65c_add_72be8_13 : decode cJx4a65c_add_72be8 13 = .ok (.aload_n 1, 1) := by decide +kernel
theorem dJx4a65c_add_72be8_14 : decode cJx4a65c_add_72be8 14 = .ok (.aastore, 1) := by decide +kernel
theorem dJx4a65c_add_72be8_15 : decode cJx4a65c_add_72be8 15 = .ok (.aload_n 0, 1) := by decide +kernel
theorem dJx4a65c_add_72be8_16 : decode cJx4a65c_add_72be8 16 = .ok (.iload_n 3, 1) := by decide +kernel
theorem dJx4a65c_add_72be8_17 : decode cJx4a65c_add_72be8 17 = .ok (.iconst 1, 1) := by decide +kernel
theorem dJx4a65c_add_72be8_18 : decode cJx4a65c_add_72be8 18 = .ok (.iadd, 1) := by decide +kernel
theorem dJx4a65c_add_72be8_19 : decode cJx4a65c_add_72be8 19 = .ok (.putfield 48, 3) := by decide +kernel
theorem dJx4a65c_add_72be8_22 : decode cJx4a65c_add_72be8 22 = .ok (.return_, 1) := by decide +kernel
set_option maxHeartbeats 4000000 in
set_option maxRecDepth 100000 in
theorem c_Jx4a65c_add_72be8 (l : Launch) (D : va_G) (sa : Nat → Nat) (ea : Nat) (h el : Nat) (cI : ClassId) (fE : Nat → Int32) (x1 : Nat) (sz : Nat) (he : ea = x1) : Met l yJx4a65c_add_72be8 ((Cond.code yJx4a65c_add_72be8 prog_35_method_24_code 4 (Option.none : Option FieldType)) :: WA) ({ frames := 3, cells := 1, slots := 10, locals := 57 }) (zG D sa ea [(cI, .int)] [(h, .inr (4, [.int 1, .ref x1, .int 0])), (el, .inl (cI, 4, .inl fE))] [.ref h, .ref el, .ref x1, .int 0] sz) (va_Qv (fun _ : Nat => True) (fun u t => va_P D vwCl [(h, .inr (4, [.int 1, .ref u, .int 1]))] t.heap ∧ va_D (va_A [(h, .inr (4, [.int 1, .ref x1, .int 0])), (el, .inl (cI, 4, .inl fE))] sz) [(h, .inr (4, [.int 1, .ref u, .int 1]))]) (va_A [(h, .inr (4, [.int 1, .ref x1, .int 0])), (el, .inl (cI, 4, .inl fE))] sz)) 1 10 (va_A [(h, .inr (4, [.int 1, .ref x1, .int 0])), (el, .inl (cI, 4, .inl fE))] sz) := by
  subst he
  refine Met.ofW (cc := prog_35_method_24_code) (maxL := 4) (ret := (Option.none : Option FieldType)) (by decide) rfl ?_
  intro p e s m args below meth c s₁ B hml hv
  obtain ⟨rfl, hsz, hP, hK, hD0, hT, hE, hQ⟩ := hv
  have hx := B.exec
  have hb := B.bytes
  have hr := B.returns
  have hts := atoms_spec (ws := (Cond.code yJx4a65c_add_72be8 prog_35_method_24_code 4 (Option.none : Option FieldType)) :: WA) B.pre
  have hw : ∀ w ∈ WA, w.before _ s = true := fun w h => hts w (List.mem_cons_of_mem _ h)
  have hown : s.vm.findClass RJx4a65c = some m.cls := findClass_of_methodNamed B.named
  have hlocks := B.notSynchronized
  subst hsz
  have hD := hD0.self (sz := s.heap.size)
  generalize hAe : va_A [(h, .inr (4, [.int 1, .ref ea, .int 0])), (el, .inl (cI, 4, .inl fE))] s.heap.size = A at hD hE hQ ⊢
  have hA : ∀ q : Nat, s.heap.size ≤ q → A q := fun q h => by rw [← hAe]; exact Or.inr h
  have hS : va_S A s.heap s.heap [] := va_S.rf
  have hP : va_P D vwCl [(h, .inr (4, [.int 1, .ref ea, .int 0])), (el, .inl (cI, 4, .inl fE))] s.heap := hP
  have hD : va_D A [(h, .inr (4, [.int 1, .ref ea, .int 0])), (el, .inl (cI, 4, .inl fE))] := hD
  have hl := lv_entry [.ref h, .ref el, .ref ea, .int 0] (n := 4) (Nat.le_of_ble_eq_true rfl)
  rw [lg_entry_eq]
  generalize (lg_sl [.ref h, .ref el, .ref ea, .int 0] ++ List.replicate (4 - (lg_sl [.ref h, .ref el, .ref ea, .int 0]).length) Slot.unset).toArray = ls at hl ⊢
  have hl : lv_has ls 4 [(0, .ref h), (1, .ref el), (2, .ref ea), (3, .int 0)] := hl
  refine lv_iload_n hx hb dJx4a65c_add_72be8_0 rfl (lv_at hl 3 rfl) ?_
  refine lv_aload_n hx hb dJx4a65c_add_72be8_1 rfl (lv_at hl 2 rfl) ?_
  refine zx_elen hx hb hQ hS dJx4a65c_add_72be8_2 ?_
  refine lv_icmp_ne (tgt := 11) hx hb dJx4a65c_add_72be8_3 (by decide) (fun c_1 => absurd (by decide) c_1) (fun _ => ?_)
  refine lv_aload_n hx hb dJx4a65c_add_72be8_6 rfl (lv_at hl 0 rfl) ?_
  have hPc := hP.sub (ws' := [(h, .inr (4, [.int 1, .ref ea, .int 0]))]) [0] rfl
  have hDc := hD.sub (ws' := [(h, .inr (4, [.int 1, .ref ea, .int 0]))]) [0] (by decide) rfl
  have hFc := va_free (wc := [(h, .inr (4, [.int 1, .ref ea, .int 0]))]) hD hS hA [0] rfl
  refine va_callr (va_runV (As := []) (rest := []) ⟨hx, hb, hml, hown, hw⟩ (c_Jx4a65c_grow_d5877 l D sa ea h ea _ rfl) (cwV 0 hw (zg4 zm_689 zm_691 zm_13 zm_51 zm_692) rfl rfl rfl (by decide +kernel) ⟨Nat.le_of_ble_eq_true rfl, Nat.le_of_ble_eq_true rfl⟩) ⟨zG_blind, va_recv hK hPc (ci := 4) (q0 := 0) rfl rfl, zG_pre hPc (hK.sub (tys' := []) [] rfl) hDc hT hE hQ hS hFc⟩ rfl rfl hl.1 rfl (lv_room (Nat.le_of_ble_eq_true rfl)) dJx4a65c_add_72be8_7 ⟨Nat.le_of_ble_eq_true rfl, Nat.le_of_ble_eq_true rfl⟩) hS (fun q _ h => hFc q h) hFc (fun u r_2 t H locs ht hvm hw1 hB hz1 hk1 hS => ?_)
  obtain ⟨u_3, eu_3⟩ : ∃ z, z = u := ⟨_, rfl⟩
  subst eu_3
  obtain ⟨hP1, hK1, hD1⟩ := hB
  have hK1 := va_K.moved hvm.symm hK1
  rw [ht] at hP1
  obtain ⟨hP, hD⟩ := va_join (wr := [(el, .inl (cI, 4, .inl fE))]) (w1 := [(h, .inr (4, [.int 1, .ref r_2, .int 0])), (r_2, .inl (u_3, 10, .inr (.inr (.inr (.inr (fun _ => none))))))]) hP hD [0] [1] rfl rfl (by decide) (by decide) hk1 hFc hP1 hD1
  have hK := (hK.sub (tys' := [(cI, .int)]) [0] rfl).app hK1
  have hP : va_P D vwCl [(el, .inl (cI, 4, .inl fE)), (h, .inr (4, [.int 1, .ref r_2, .int 0])), (r_2, .inl (u_3, 10, .inr (.inr (.inr (.inr (fun _ => none))))))] H := hP
  have hD : va_D A [(el, .inl (cI, 4, .inl fE)), (h, .inr (4, [.int 1, .ref r_2, .int 0])), (r_2, .inl (u_3, 10, .inr (.inr (.inr (.inr (fun _ => none))))))] := hD
  have hK : va_K D vwCl [(cI, .int), (u_3, .object "java/lang/Object")] s := hK
  refine lv_astore_n (lv' := [(2, .ref r_2), (0, .ref h), (1, .ref el), (3, .int 0)]) hx hb dJx4a65c_add_72be8_10 rfl hl (by decide) rfl (fun ls hl => ?_)
  refine lv_aload_n hx hb dJx4a65c_add_72be8_11 rfl (lv_at hl 0 rfl) ?_
  refine lv_iload_n hx hb dJx4a65c_add_72be8_12 rfl (lv_at hl 3 rfl) ?_
  refine lv_aload_n hx hb dJx4a65c_add_72be8_13 rfl (lv_at hl 2 rfl) ?_
  refine va_astqM (E := "java/lang/Object") hx hb hK hP hD hS 2 1 rfl rfl (zAny hK hP 0 0 rfl rfl hQ.2.1) (by unfold vp_in; decide) dJx4a65c_add_72be8_14 (fun H locs hP hD hS => ?_)
  have hP : va_P D vwCl [(el, .inl (cI, 4, .inl fE)), (h, .inr (4, [.int 1, .ref r_2, .int 0])), (r_2, .inl (u_3, 10, .inr (.inr (.inr (.inr (va_up (fun _ => none) (Int32.toNatClampNeg 0) (some el)))))))] H := hP
  have hD : va_D A [(el, .inl (cI, 4, .inl fE)), (h, .inr (4, [.int 1, .ref r_2, .int 0])), (r_2, .inl (u_3, 10, .inr (.inr (.inr (.inr (va_up (fun _ => none) (Int32.toNatClampNeg 0) (some el)))))))] := hD
  have hK : va_K D vwCl [(cI, .int), (u_3, .object "java/lang/Object")] s := hK
  refine lv_aload_n hx hb dJx4a65c_add_72be8_15 rfl (lv_at hl 1 rfl) ?_
  refine lv_iload_n hx hb dJx4a65c_add_72be8_16 rfl (lv_at hl 3 rfl) ?_
  refine lv_iconst (v := 1) hx hb dJx4a65c_add_72be8_17 (by decide) ?_
  refine lv_iadd hx hb dJx4a65c_add_72be8_18 ?_
  refine lv_topi (fun f_4 ef_4 => ?_)
  obtain rfl : f_4 = 1 := ef_4.trans (by decide)
  refine va_put (D := D) (ci := 4) (v := .int 1) (ty := .int) (C := RJx4a65c) (T := TJx4a65c) (N := 3) hx hb hw zi_RJx4a65c tyJx4a65c tyJx4a65c_ok nmJx4a65c hown hK hP hD hS 1 rfl rfl 2 (by decide) (hw _ zm_147) (fun _ h9 => h9) rfl (by decide +kernel) rfl rfl (Nat.le_of_ble_eq_true rfl) dJx4a65c_add_72be8_19 (fun H locs hP hD hS => ?_)
  have hP : va_P D vwCl [(el, .inl (cI, 4, .inl fE)), (h, .inr (4, [.int 1, .ref r_2, .int 1])), (r_2, .inl (u_3, 10, .inr (.inr (.inr (.inr (va_up (fun _ => none) (Int32.toNatClampNeg 0) (some el)))))))] H := hP
  have hD : va_D A [(el, .inl (cI, 4, .inl fE)), (h, .inr (4, [.int 1, .ref r_2, .int 1])), (r_2, .inl (u_3, 10, .inr (.inr (.inr (.inr (va_up (fun _ => none) (Int32.toNatClampNeg 0) (some el)))))))] := hD
  have hK : va_K D vwCl [(cI, .int), (u_3, .object "java/lang/Object")] s := hK
  have hP9 := hP.sub (ws' := [(h, .inr (4, [.int 1, .ref r_2, .int 1]))]) [1] rfl
  have hD9 := hD.sub (ws' := [(h, .inr (4, [.int 1, .ref r_2, .int 1]))]) [1] (by decide) rfl
  refine W.widen (k := 1) (n := 10) (Nat.le_of_ble_eq_true rfl) (Nat.le_of_ble_eq_true rfl) ?_
  exact W.vret hx hb hr (fun t ht hW => ⟨⟨r_2, rfl, trivial, by rw [ht]; exact hP9, hD9⟩, hS.F ht⟩) hS.2.2 dJx4a65c_add_72be8_22
theorem dJx4a65c_add_9ea2d_0 : decode cJx4a65c_add_9ea2d 0 = .ok (.aload_n 0, 1) := by decide +kernel
theorem dJx4a65c_add_9ea2d_1 : decode cJx4a65c_add_9ea2d 1 = .ok (.dup, 1) := by decide +kernel
theorem dJx4a65c_add_9ea2d_2 : decode cJx4a65c_add_9ea2d 2 = .ok (.getfield 63, 3) := by decide +kernel
theorem dJx4a65c_add_9ea2d_5 : decode cJx4a65c_add_9ea2d 5 = .ok (.iconst 1, 1) := by decide +kernel
theorem dJx4a65c_add_9ea2d_6 : decode cJx4a65c_add_9ea2d 6 = .ok (.iadd, 1) := by decide +kernel
theorem dJx4a65c_add_9ea2d_7 : decode cJx4a65c_add_9ea2d 7 = .ok (.putfield 63, 3) := by decide +kernel
theorem dJx4a65c_add_9ea2d_10 : decode cJx4a65c_add_9ea2d 10 = .ok (.aload_n 0, 1) := by decide +kernel
theorem dJx4a65c_add_9ea2d_11 : decode cJx4a65c_add_9ea2d 11 = .ok (.aload_n 1, 1) := by decide +kernel
theorem dJx4a65c_add_9ea2d_12 : decode cJx4a65c_add_9ea2d 12 = .ok (.aload_n 0, 1) := by decide +kernel
theorem dJx4a65c_add_9ea2d_13 : decode cJx4a65c_add_9ea2d 13 = .ok (.getfield 9, 3) := by decide +kernel
theorem dJx4a65c_add_9ea2d_16 : decode cJx4a65c_add_9ea2d 16 = .ok (.aload_n 0, 1) := by decide +kernel
theorem dJx4a65c_add_9ea2d_17 : decode cJx4a65c_add_9ea2d 17 = .ok (.getfield 48, 3) := by decide +kernel
theorem dJx4a65c_add_9ea2d_20 : decode cJx4a65c_add_9ea2d 20 = .ok (.invokevirtual 131, 3) := by decide +kernel
theorem zm_685 : Cond.methodLink RJx4a65c 131 yJx4a65c_add_72be8 ∈ WA := zmm (i := 685) (by decide +kernel) (by decide +kernel)
theorem zm_687 : Cond.instanceMethod yJx4a65c_add_72be8 ∈ WA := zmm (i := 687) (by decide +kernel) (by decide +kernel)
theorem zm_12 : Cond.selects RJx4a65c yJx4a65c_add_72be8 yJx4a65c_add_72be8 ∈ WA := zmm (i := 12) (by decide +kernel) (by decide +kernel)
theorem zm_688 : Cond.code yJx4a65c_add_72be8 prog_35_method_24_code 4 (Option.none : Option FieldType) ∈ WA := zmm (i := 688) (by decide +kernel) (by decide +kernel)
theorem dJx4a65c_add_9ea2d_23 : decode cJx4a65c_add_9ea2d 23 = .ok (.iconst 1, 1) := by decide +kernel
theorem dJx4a65c_add_9ea2d_24 : decode cJx4a65c_add_9ea2d 24 = .ok (.ireturn, 1) := by decide +kernel
set_option maxHeartbeats 4000000 in
set_option maxRecDepth 100000 in
theorem c_Jx4a65c_add_9ea2d (l : Launch) (D : va_G) (sa : Nat → Nat) (ea : Nat) (h el : Nat) (cI : ClassId) (fE : Nat → Int32) (x1 : Nat) (sz : Nat) (he : ea = x1) : Met l yJx4a65c_add_9ea2d ((Cond.code yJx4a65c_add_9ea2d prog_35_method_25_code 2 (Option.some FieldType.boolean)) :: WA) ({ frames := 4, cells := 1, slots := 10, locals := 80 }) (zG D sa ea [(cI, .int)] [(h, .inr (4, [.int 0, .ref x1, .int 0])), (el, .inl (cI, 4, .inl fE))] [.ref h, .ref el] sz) (va_Qi (fun (r : Int32) (_ : Nat) => r = 1) (fun u t => va_P D vwCl [(h, .inr (4, [.int 1, .ref u, .int 1]))] t.heap ∧ va_D (va_A [(h, .inr (4, [.int 0, .ref x1, .int 0])), (el, .inl (cI, 4, .inl fE))] sz) [(h, .inr (4, [.int 1, .ref u, .int 1]))]) (va_A [(h, .inr (4, [.int 0, .ref x1, .int 0])), (el, .inl (cI, 4, .inl fE))] sz)) 1 10 (va_A [(h, .inr (4, [.int 0, .ref x1, .int 0])), (el, .inl (cI, 4, .inl fE))] sz) := by
  subst he
  refine Met.ofW (cc := prog_35_method_25_code) (maxL := 2) (ret := (Option.some FieldType.boolean)) (by decide) rfl ?_
  intro p e s m args below meth c s₁ B hml hv
  obtain ⟨rfl, hsz, hP, hK, hD0, hT, hE, hQ⟩ := hv
  have hx := B.exec
  have hb := B.bytes
  have hr := B.returns
  have hts := atoms_spec (ws := (Cond.code yJx4a65c_add_9ea2d prog_35_method_25_code 2 (Option.some FieldType.boolean)) :: WA) B.pre
  have hw : ∀ w ∈ WA, w.before _ s = true := fun w h => hts w (List.mem_cons_of_mem _ h)
  have hown : s.vm.findClass RJx4a65c = some m.cls := findClass_of_methodNamed B.named
  have hlocks := B.notSynchronized
  subst hsz
  have hD := hD0.self (sz := s.heap.size)
  generalize hAe : va_A [(h, .inr (4, [.int 0, .ref ea, .int 0])), (el, .inl (cI, 4, .inl fE))] s.heap.size = A at hD hE hQ ⊢
  have hA : ∀ q : Nat, s.heap.size ≤ q → A q := fun q h => by rw [← hAe]; exact Or.inr h
  have hS : va_S A s.heap s.heap [] := va_S.rf
  have hP : va_P D vwCl [(h, .inr (4, [.int 0, .ref ea, .int 0])), (el, .inl (cI, 4, .inl fE))] s.heap := hP
  have hD : va_D A [(h, .inr (4, [.int 0, .ref ea, .int 0])), (el, .inl (cI, 4, .inl fE))] := hD
  have hl := lv_entry [.ref h, .ref el] (n := 2) (Nat.le_of_ble_eq_true rfl)
  rw [lg_entry_eq]
  generalize (lg_sl [.ref h, .ref el] ++ List.replicate (2 - (lg_sl [.ref h, .ref el]).length) Slot.unset).toArray = ls at hl ⊢
  have hl : lv_has ls 2 [(0, .ref h), (1, .ref el)] := hl
  refine lv_aload_n hx hb dJx4a65c_add_9ea2d_0 rfl (lv_at hl 0 rfl) ?_
  refine lv_dup hx hb dJx4a65c_add_9ea2d_1 rfl ?_
  refine va_get (D := D) (ci := 4) (v := .int 0) (C := RJx4a65c) (T := TJx4a65c) (N := 3) hx hb hw zi_RJx4a65c hown hK hP 0 rfl rfl 0 (by decide) (hw _ zm_151) (u_same (hw _ zm_150)) rfl dJx4a65c_add_9ea2d_2 ?_
  refine lv_iconst (v := 1) hx hb dJx4a65c_add_9ea2d_5 (by decide) ?_
  refine lv_iadd hx hb dJx4a65c_add_9ea2d_6 ?_
  refine lv_topi (fun f_1 ef_1 => ?_)
  obtain rfl : f_1 = 1 := ef_1.trans (by decide)
  refine va_put (D := D) (ci := 4) (v := .int 1) (ty := .int) (C := RJx4a65c) (T := TJx4a65c) (N := 3) hx hb hw zi_RJx4a65c tyJx4a65c tyJx4a65c_ok nmJx4a65c hown hK hP hD hS 0 rfl rfl 0 (by decide) (hw _ zm_151) (u_same (hw _ zm_150)) rfl (by decide +kernel) rfl rfl (Nat.le_of_ble_eq_true rfl) dJx4a65c_add_9ea2d_7 (fun H locs hP hD hS => ?_)
  have hP : va_P D vwCl [(h, .inr (4, [.int 1, .ref ea, .int 0])), (el, .inl (cI, 4, .inl fE))] H := hP
  have hD : va_D A [(h, .inr (4, [.int 1, .ref ea, .int 0])), (el, .inl (cI, 4, .inl fE))] := hD
  have hK : va_K D vwCl [(cI, .int)] s := hK
  refine lv_aload_n hx hb dJx4a65c_add_9ea2d_10 rfl (lv_at hl 0 rfl) ?_
  refine lv_aload_n hx hb dJx4a65c_add_9ea2d_11 rfl (lv_at hl 1 rfl) ?_
  refine lv_aload_n hx hb dJx4a65c_add_9ea2d_12 rfl (lv_at hl 0 rfl) ?_
  refine va_get (D := D) (ci := 4) (v := .ref ea) (C := RJx4a65c) (T := TJx4a65c) (N := 3) hx hb hw zi_RJx4a65c hown hK hP 0 rfl rfl 1 (by decide) (hw _ zm_144) (fun _ h9 => h9) rfl dJx4a65c_add_9ea2d_13 ?_
  refine lv_aload_n hx hb dJx4a65c_add_9ea2d_16 rfl (lv_at hl 0 rfl) ?_
  refine va_get (D := D) (ci := 4) (v := .int 0) (C := RJx4a65c) (T := TJx4a65c) (N := 3) hx hb hw zi_RJx4a65c hown hK hP 0 rfl rfl 2 (by decide) (hw _ zm_147) (fun _ h9 => h9) rfl dJx4a65c_add_9ea2d_17 ?_
  have hFc := va_free (wc := [(h, .inr (4, [.int 1, .ref ea, .int 0])), (el, .inl (cI, 4, .inl fE))]) hD hS hA [0, 1] rfl
  refine va_callv (va_runV (As := [.ref el, .ref ea, .int 0]) (rest := []) ⟨hx, hb, hml, hown, hw⟩ (c_Jx4a65c_add_72be8 l D sa ea h el cI fE ea _ rfl) (cwV 3 hw (zg4 zm_685 zm_687 zm_12 zm_51 zm_688) rfl rfl rfl (by decide +kernel) ⟨Nat.le_of_ble_eq_true rfl, Nat.le_of_ble_eq_true rfl⟩) ⟨zG_blind, va_recv hK hP (ci := 4) (q0 := 0) rfl rfl, zG_pre hP hK hD hT hE hQ hS hFc⟩ rfl rfl hl.1 rfl (lv_room (Nat.le_of_ble_eq_true rfl)) dJx4a65c_add_9ea2d_20 ⟨Nat.le_of_ble_eq_true rfl, Nat.le_of_ble_eq_true rfl⟩) hS (fun q _ h => hFc q h) hFc (fun u t H locs ht hvm hw1 hB hz1 hk1 hS => ?_)
  obtain ⟨u_3, eu_3⟩ : ∃ z, z = u := ⟨_, rfl⟩
  subst eu_3
  obtain ⟨hP1, hD1⟩ := hB
  rw [ht] at hP1
  obtain ⟨hP, hD⟩ := va_join (wr := []) (w1 := [(h, .inr (4, [.int 1, .ref u_3, .int 1]))]) hP hD [0, 1] [] rfl rfl (by decide) (by decide) hk1 hFc hP1 hD1
  have hP : va_P D vwCl [(h, .inr (4, [.int 1, .ref u_3, .int 1]))] H := hP
  have hD : va_D A [(h, .inr (4, [.int 1, .ref u_3, .int 1]))] := hD
  have hK : va_K D vwCl [(cI, .int)] s := hK
  refine lv_iconst (v := 1) hx hb dJx4a65c_add_9ea2d_23 (by decide) ?_
  have hP9 := hP.sub (ws' := [(h, .inr (4, [.int 1, .ref u_3, .int 1]))]) [0] rfl
  have hD9 := hD.sub (ws' := [(h, .inr (4, [.int 1, .ref u_3, .int 1]))]) [0] (by decide) rfl
  refine W.widen (k := 1) (n := 10) (Nat.le_of_ble_eq_true rfl) (Nat.le_of_ble_eq_true rfl) ?_
  exact W.zret (v := 1) hx hb hr (by decide) (fun t ht hW => ⟨⟨1, u_3, rfl, rfl, by rw [ht]; exact hP9, hD9⟩, hS.F ht⟩) hS.2.2 dJx4a65c_add_9ea2d_24
theorem dX5_addShade_0 : decode cX5_addShade 0 = .ok (.iload_n 1, 1) := by decide +kernel
theorem dX5_addShade_1 : decode cX5_addShade 1 = .ok (.bipush 65, 2) := by decide +kernel
theorem dX5_addShade_3 : decode cX5_addShade 3 = .ok (.if_icmp .lt 9, 3) := by decide +kernel
theorem dX5_addShade_12 : decode cX5_addShade 12 = .ok (.new 55, 3) := by decide +kernel
theorem dX5_addShade_15 : decode cX5_addShade 15 = .ok (.dup, 1) := by decide +kernel
theorem dX5_addShade_16 : decode cX5_addShade 16 = .ok (.ldc 57, 2) := by decide +kernel
theorem dX5_addShade_18 : decode cX5_addShade 18 = .ok (.invokespecial 59, 3) := by decide +kernel
theorem dX5_addShade_21 : decode cX5_addShade 21 = .ok (.athrow, 1) := by decide +kernel
theorem dX5_addShade_6 : decode cX5_addShade 6 = .ok (.iload_n 1, 1) := by decide +kernel
theorem dX5_addShade_7 : decode cX5_addShade 7 = .ok (.bipush 90, 2) := by decide +kernel
theorem dX5_addShade_9 : decode cX5_addShade 9 = .ok (.if_icmp .le 13, 3) := by decide +kernel
set_option maxHeartbeats 4000000 in
set_option maxRecDepth 100000 in
theorem c_X5_addShade0 (l : Launch) (hst : l.stackTraces = false) (D : va_G) (sa : Nat → Nat) (ad : Nat → Nat) (sz : Nat) (p0 : Int32) (p1 : Int32) (p2 : Int32) (p3 : Int32) (hy0 : z_in p0 65 90 = 0) : vx_Met l yX5_addShade ((Cond.code yX5_addShade prog_1_method_2_code 5 (Option.some FieldType.int)) :: WA) ({ frames := 6, cells := 1, slots := 6, locals := 82 }) (zR D sa (zX ad) [.ref (ad 0), .int p0, .int p1, .int p2, .int p3] sz) zF (zXC "java/lang/IllegalArgumentException" sz) 1 6 (zN sz) := by
  refine vx_ofW (cc := prog_1_method_2_code) (maxL := 5) (ret := (Option.some FieldType.int)) (by decide) rfl ?_
  intro p e s m args below meth c s₁ B hml hnt hv
  obtain ⟨rfl, hsz, hP, hK, hT, hZ⟩ := hv
  have hx := B.exec
  have hb := B.bytes
  have hr := B.returns
  have hts := atoms_spec (ws := (Cond.code yX5_addShade prog_1_method_2_code 5 (Option.some FieldType.int)) :: WA) B.pre
  have hw : ∀ w ∈ WA, w.before _ s = true := fun w h => hts w (List.mem_cons_of_mem _ h)
  have hown : s.vm.findClass RX5 = some m.cls := findClass_of_methodNamed B.named
  have hlocks := B.notSynchronized
  subst hsz
  have hA : ∀ q : Nat, s.heap.size ≤ q → zN s.heap.size q := fun _ h => h
  have hS : va_S (zN s.heap.size) s.heap s.heap [] := va_S.rf
  have hP : va_P D vwCl [((ad 0), .inr (10, [.ref (ad 1), .ref (ad 2), .ref (ad 3), .ref (ad 4), .ref (ad 5), .int (-1), .int 100, .int 0, .int 0])), ((ad 1), .inr (7, [.ref (ad 6), .ref (ad 7), .ref (ad 8), .int 0])), ((ad 2), .inr (8, [.ref (ad 9), .ref (ad 10), .int 0])), ((ad 3), .inr (4, [.int 0, .ref (ad 14), .int 0])), ((ad 4), .inr (4, [.int 0, .ref (ad 14), .int 0])), ((ad 5), .inr (6, [.ref (ad 11), .ref (ad 12), .ref (ad 13), .int 0, .int 0]))] s.heap := hP
  have hl := lv_entry [.ref (ad 0), .int p0, .int p1, .int p2, .int p3] (n := 5) (Nat.le_of_ble_eq_true rfl)
  rw [lg_entry_eq]
  generalize (lg_sl [.ref (ad 0), .int p0, .int p1, .int p2, .int p3] ++ List.replicate (5 - (lg_sl [.ref (ad 0), .int p0, .int p1, .int p2, .int p3]).length) Slot.unset).toArray = ls at hl ⊢
  have hl : lv_has ls 5 [(0, .ref (ad 0)), (1, .int p0), (2, .int p1), (3, .int p2), (4, .int p3)] := hl
  refine lv_iload_n hx hb dX5_addShade_0 rfl (lv_at hl 1 rfl) ?_
  refine lv_bipush (v := 65) hx hb dX5_addShade_1 (by decide) ?_
  refine lv_icmp_lt (tgt := 12) hx hb dX5_addShade_3 (by decide) (fun c_1 => ?_) (fun c_1 => ?_)
  · exact vx_throwS (A := zN s.heap.size) (names := zNm) hx hb hst hown (by decide) (by decide) (hw _ zm_342) (hw _ zm_57) (hT.s 0 rfl) (zat_RX5_59 hw hT) zato_RX5_59 hZ.1 hZ.2 hS (hl.1.trans hml.symm) dX5_addShade_12 dX5_addShade_15 dX5_addShade_16 dX5_addShade_18 dX5_addShade_21 (fun x hx9 => (hnt x hx9).elim) (Nat.le_of_ble_eq_true rfl) (Nat.le_of_ble_eq_true rfl) (Nat.le_of_ble_eq_true rfl) (Nat.le_of_ble_eq_true rfl) hlocks (fun t _ hz1 hk1 => ⟨(), trivial, rfl, Nat.le_trans hS.1 hz1, fun q hq hnq => (hk1 q (Nat.lt_of_lt_of_le hq hS.1)).trans (hS.2.1 q hq hnq)⟩) (fun z hz => hS.2.2 z hz) (Nat.le_of_ble_eq_true rfl) (Nat.le_of_ble_eq_true rfl)
  · refine lv_iload_n hx hb dX5_addShade_6 rfl (lv_at hl 1 rfl) ?_
    refine lv_bipush (v := 90) hx hb dX5_addShade_7 (by decide) ?_
    refine lv_icmp_le (tgt := 22) hx hb dX5_addShade_9 (by decide) (fun c_2 => absurd c_2 (zl_nle (z_0b hy0 c_1))) (fun _ => ?_)
    exact vx_throwS (A := zN s.heap.size) (names := zNm) hx hb hst hown (by decide) (by decide) (hw _ zm_342) (hw _ zm_57) (hT.s 0 rfl) (zat_RX5_59 hw hT) zato_RX5_59 hZ.1 hZ.2 hS (hl.1.trans hml.symm) dX5_addShade_12 dX5_addShade_15 dX5_addShade_16 dX5_addShade_18 dX5_addShade_21 (fun x hx9 => (hnt x hx9).elim) (Nat.le_of_ble_eq_true rfl) (Nat.le_of_ble_eq_true rfl) (Nat.le_of_ble_eq_true rfl) (Nat.le_of_ble_eq_true rfl) hlocks (fun t _ hz1 hk1 => ⟨(), trivial, rfl, Nat.le_trans hS.1 hz1, fun q hq hnq => (hk1 q (Nat.lt_of_lt_of_le hq hS.1)).trans (hS.2.1 q hq hnq)⟩) (fun z hz => hS.2.2 z hz) (Nat.le_of_ble_eq_true rfl) (Nat.le_of_ble_eq_true rfl)
theorem dL_addShade_0 : decode cL_addShade 0 = .ok (.aload 5, 2) := by decide +kernel
theorem dL_addShade_2 : decode cL_addShade 2 = .ok (.iconst 0, 1) := by decide +kernel
theorem dL_addShade_3 : decode cL_addShade 3 = .ok (.aload_n 0, 1) := by decide +kernel
theorem dL_addShade_4 : decode cL_addShade 4 = .ok (.iload_n 1, 1) := by decide +kernel
theorem dL_addShade_5 : decode cL_addShade 5 = .ok (.iload_n 2, 1) := by decide +kernel
theorem dL_addShade_6 : decode cL_addShade 6 = .ok (.iload_n 3, 1) := by decide +kernel
theorem dL_addShade_7 : decode cL_addShade 7 = .ok (.iload 4, 2) := by decide +kernel
theorem dL_addShade_9 : decode cL_addShade 9 = .ok (.invokevirtual 7, 3) := by decide +kernel
theorem zm_338 : Cond.methodLink RL 7 yX5_addShade ∈ WA := zmm (i := 338) (by decide +kernel) (by decide +kernel)
theorem zm_339 : Cond.instanceMethod yX5_addShade ∈ WA := zmm (i := 339) (by decide +kernel) (by decide +kernel)
theorem zm_340 : Cond.selects RX5 yX5_addShade yX5_addShade ∈ WA := zmm (i := 340) (by decide +kernel) (by decide +kernel)
theorem zm_341 : Cond.code yX5_addShade prog_1_method_2_code 5 (Option.some FieldType.int) ∈ WA := zmm (i := 341) (by decide +kernel) (by decide +kernel)
theorem dL_addShade_17 : decode cL_addShade 17 = .ok (.astore 6, 2) := by decide +kernel
theorem dL_addShade_19 : decode cL_addShade 19 = .ok (.iconst 1, 1) := by decide +kernel
theorem dL_addShade_20 : decode cL_addShade 20 = .ok (.ireturn, 1) := by decide +kernel
set_option maxHeartbeats 4000000 in
set_option maxRecDepth 100000 in
theorem c_L_addShade0 (l : Launch) (hst : l.stackTraces = false) (D : va_G) (sa : Nat → Nat) (ad : Nat → Nat) (sz : Nat) (p0 : Int32) (p1 : Int32) (p2 : Int32) (p3 : Int32) (oa : Nat) (hy0 : z_in p0 65 90 = 0) : vx_Met l yL_addShade ((Cond.codeWith yL_addShade method_3_code 7 (Option.some FieldType.int) [(0, 14, 17, 13), (0, 14, 21, 15), (0, 14, 25, 17)]) :: WA) ({ frames := 7, cells := 1, slots := 6, locals := 106 }) (zR D sa (zX ad) [.ref (ad 0), .int p0, .int p1, .int p2, .int p3, .ref oa] sz) (va_Qi (fun (r : Int32) (_ : Unit) => r = 1) (fun _ _ => True) (zN sz)) (zX0 sz) 1 6 (zN sz) := by
  refine vx_ofWH (cc := method_3_code) (maxL := 7) (ret := (Option.some FieldType.int)) (hh := [(0, 14, 17, 13), (0, 14, 21, 15), (0, 14, 25, 17)]) (by decide) rfl ?_
  intro p e s m args below meth c s₁ B hml hv
  obtain ⟨rfl, hsz, hP, hK, hT, hZ⟩ := hv
  have hx := B.exec
  have hb := B.bytes
  have hr := B.returns
  have hts := atoms_spec (ws := (Cond.codeWith yL_addShade method_3_code 7 (Option.some FieldType.int) [(0, 14, 17, 13), (0, 14, 21, 15), (0, 14, 25, 17)]) :: WA) B.pre
  have hw : ∀ w ∈ WA, w.before _ s = true := fun w h => hts w (List.mem_cons_of_mem _ h)
  have htab := vx_table (x := yL_addShade) B (hts _ List.mem_cons_self)
  have hown : s.vm.findClass RL = some m.cls := findClass_of_methodNamed B.named
  have hlocks := B.notSynchronized
  subst hsz
  have hA : ∀ q : Nat, s.heap.size ≤ q → zN s.heap.size q := fun _ h => h
  have hS : va_S (zN s.heap.size) s.heap s.heap [] := va_S.rf
  have hP : va_P D vwCl [((ad 0), .inr (10, [.ref (ad 1), .ref (ad 2), .ref (ad 3), .ref (ad 4), .ref (ad 5), .int (-1), .int 100, .int 0, .int 0])), ((ad 1), .inr (7, [.ref (ad 6), .ref (ad 7), .ref (ad 8), .int 0])), ((ad 2), .inr (8, [.ref (ad 9), .ref (ad 10), .int 0])), ((ad 3), .inr (4, [.int 0, .ref (ad 14), .int 0])), ((ad 4), .inr (4, [.int 0, .ref (ad 14), .int 0])), ((ad 5), .inr (6, [.ref (ad 11), .ref (ad 12), .ref (ad 13), .int 0, .int 0]))] s.heap := hP
  have hl := lv_entry [.ref (ad 0), .int p0, .int p1, .int p2, .int p3, .ref oa] (n := 7) (Nat.le_of_ble_eq_true rfl)
  rw [lg_entry_eq]
  generalize (lg_sl [.ref (ad 0), .int p0, .int p1, .int p2, .int p3, .ref oa] ++ List.replicate (7 - (lg_sl [.ref (ad 0), .int p0, .int p1, .int p2, .int p3, .ref oa]).length) Slot.unset).toArray = ls at hl ⊢
  have hl : lv_has ls 7 [(0, .ref (ad 0)), (1, .int p0), (2, .int p1), (3, .int p2), (4, .int p3), (5, .ref oa)] := hl
  refine lv_aload hx hb dL_addShade_0 (lv_at hl 5 rfl) ?_
  refine lv_iconst (v := 0) hx hb dL_addShade_2 (by decide) ?_
  refine lv_aload_n hx hb dL_addShade_3 rfl (lv_at hl 0 rfl) ?_
  refine lv_iload_n hx hb dL_addShade_4 rfl (lv_at hl 1 rfl) ?_
  refine lv_iload_n hx hb dL_addShade_5 rfl (lv_at hl 2 rfl) ?_
  refine lv_iload_n hx hb dL_addShade_6 rfl (lv_at hl 3 rfl) ?_
  refine lv_iload hx hb dL_addShade_7 (lv_at hl 4 rfl) ?_
  refine zx_call (vx_runV (As := [.int p0, .int p1, .int p2, .int p3]) (rest := [.int 0, .ref oa]) ⟨hx, hb, hml, hown, hw⟩ (c_X5_addShade0 l hst D sa ad _ p0 p1 p2 p3 hy0) (cwV 4 hw (zg4 zm_338 zm_339 zm_340 zm_45 zm_341) rfl rfl rfl (by decide +kernel) ⟨Nat.le_of_ble_eq_true rfl, Nat.le_of_ble_eq_true rfl⟩) ⟨zR_blind, va_recv hK hP (ci := 10) (q0 := 0) rfl rfl, zR_pre hP hK hT hZ hS hA⟩ rfl rfl hl.1 rfl (lv_room (Nat.le_of_ble_eq_true rfl)) dL_addShade_9 ⟨Nat.le_of_ble_eq_true rfl, Nat.le_of_ble_eq_true rfl⟩) hS (zN_fr hS hA) zN_in (fun E ce q9 u t H locs ht hvm hu hE hz1 hk1 hS hce hcv hcl => ?_)
  subst hE
  refine vx_catch hown [] ⟨0, 14, 17, 13⟩ (tableOf [(0, 14, 21, 15), (0, 14, 25, 17)]) htab (fun z hz => absurd hz List.not_mem_nil) (by decide) (by decide) (hw _ zm_335) (hT.c 0 rfl) hce hcv hcl ?_
  refine lv_astore (lv' := [(6, .ref q9), (0, .ref (ad 0)), (1, .int p0), (2, .int p1), (3, .int p2), (4, .int p3), (5, .ref oa)]) hx hb dL_addShade_17 hl (by decide) rfl (fun ls hl => ?_)
  refine lv_iconst (v := 1) hx hb dL_addShade_19 (by decide) ?_
  refine vx_ret ?_
  exact W.iret (v := 1) hx hb hr (fun t ht hW => ⟨⟨1, (), rfl, rfl, trivial⟩, hS.F ht⟩) hS.2.2 dL_addShade_20
theorem dX9_addShade_0 : decode cX9_addShade 0 = .ok (.aload_n 0, 1) := by decide +kernel
theorem dX9_addShade_1 : decode cX9_addShade 1 = .ok (.iload_n 1, 1) := by decide +kernel
theorem dX9_addShade_2 : decode cX9_addShade 2 = .ok (.bipush 65, 2) := by decide +kernel
theorem dX9_addShade_4 : decode cX9_addShade 4 = .ok (.bipush 90, 2) := by decide +kernel
theorem dX9_addShade_6 : decode cX9_addShade 6 = .ok (.invokestatic 47, 3) := by decide +kernel
theorem dX9_addShade_9 : decode cX9_addShade 9 = .ok (.ifCond .eq 38, 3) := by decide +kernel
theorem dX9_addShade_47 : decode cX9_addShade 47 = .ok (.iconst 0, 1) := by decide +kernel
theorem dX9_addShade_48 : decode cX9_addShade 48 = .ok (.iconst 1, 1) := by decide +kernel
theorem dX9_addShade_49 : decode cX9_addShade 49 = .ok (.invokevirtual 51, 3) := by decide +kernel
theorem dX9_addShade_52 : decode cX9_addShade 52 = .ok (.ifCond .eq 5, 3) := by decide +kernel
theorem dX9_addShade_55 : decode cX9_addShade 55 = .ok (.iconst 0, 1) := by decide +kernel
theorem dX9_addShade_56 : decode cX9_addShade 56 = .ok (.ireturn, 1) := by decide +kernel
set_option maxHeartbeats 4000000 in
set_option maxRecDepth 100000 in
theorem c_X9_addShade0 (l : Launch) (D : va_G) (sa : Nat → Nat) (ea : Nat) (bd : Nat → Nat) (th : Int32) (sz : Nat) (p0 : Int32) (p1 : Int32) (p2 : Int32) (p3 : Int32) (hy0 : z_in p0 65 90 = 0) : Met l yX9_addShade ((Cond.code yX9_addShade prog_8_method_7_code 8 (Option.some FieldType.int)) :: WA) ({ frames := 1, cells := 0, slots := 0, locals := 22 }) (zW D sa ea [] (zM bd th) [.ref (bd 0), .int p0, .int p1, .int p2, .int p3] sz) (va_Qi (fun (r : Int32) (_ : Unit) => r = 0) (fun _ t => va_P D vwCl [((bd 0), .inr (14, [.ref (bd 1), .ref (bd 2), .ref (bd 3), .ref (bd 4), .ref (bd 5), .ref (bd 6), .int 100, .int (-1), .int 0, .int 1])), ((bd 1), .inr (4, [.int 0, .ref (bd 7), .int 0])), ((bd 2), .inr (4, [.int 0, .ref (bd 7), .int 0])), ((bd 3), .inr (4, [.int 0, .ref (bd 7), .int 0])), ((bd 4), .inr (4, [.int 0, .ref (bd 7), .int 0])), ((bd 5), .inr (4, [.int 0, .ref (bd 7), .int 0])), ((bd 6), .inr (4, [.int 0, .ref (bd 7), .int 0]))] t.heap ∧ va_D (va_A (zM bd th) sz) [((bd 0), .inr (14, [.ref (bd 1), .ref (bd 2), .ref (bd 3), .ref (bd 4), .ref (bd 5), .ref (bd 6), .int 100, .int (-1), .int 0, .int 1])), ((bd 1), .inr (4, [.int 0, .ref (bd 7), .int 0])), ((bd 2), .inr (4, [.int 0, .ref (bd 7), .int 0])), ((bd 3), .inr (4, [.int 0, .ref (bd 7), .int 0])), ((bd 4), .inr (4, [.int 0, .ref (bd 7), .int 0])), ((bd 5), .inr (4, [.int 0, .ref (bd 7), .int 0])), ((bd 6), .inr (4, [.int 0, .ref (bd 7), .int 0]))]) (va_A (zM bd th) sz)) 0 0 (va_A (zM bd th) sz) := by
  refine Met.ofW (cc := prog_8_method_7_code) (maxL := 8) (ret := (Option.some FieldType.int)) (by decide) rfl ?_
  intro p e s m args below meth c s₁ B hml hv
  obtain ⟨rfl, hsz, hP, hK, hD0, hT, hE⟩ := hv
  have hx := B.exec
  have hb := B.bytes
  have hr := B.returns
  have hts := atoms_spec (ws := (Cond.code yX9_addShade prog_8_method_7_code 8 (Option.some FieldType.int)) :: WA) B.pre
  have hw : ∀ w ∈ WA, w.before _ s = true := fun w h => hts w (List.mem_cons_of_mem _ h)
  have hown : s.vm.findClass RX9 = some m.cls := findClass_of_methodNamed B.named
  have hlocks := B.notSynchronized
  subst hsz
  have hD := hD0.self (sz := s.heap.size)
  generalize hAe : va_A (zM bd th) s.heap.size = A at hD hE ⊢
  have hA : ∀ q : Nat, s.heap.size ≤ q → A q := fun q h => by rw [← hAe]; exact Or.inr h
  have hS : va_S A s.heap s.heap [] := va_S.rf
  have hP : va_P D vwCl [((bd 0), .inr (14, [.ref (bd 1), .ref (bd 2), .ref (bd 3), .ref (bd 4), .ref (bd 5), .ref (bd 6), .int 100, .int (-1), .int 0, .int th])), ((bd 1), .inr (4, [.int 0, .ref (bd 7), .int 0])), ((bd 2), .inr (4, [.int 0, .ref (bd 7), .int 0])), ((bd 3), .inr (4, [.int 0, .ref (bd 7), .int 0])), ((bd 4), .inr (4, [.int 0, .ref (bd 7), .int 0])), ((bd 5), .inr (4, [.int 0, .ref (bd 7), .int 0])), ((bd 6), .inr (4, [.int 0, .ref (bd 7), .int 0]))] s.heap := hP
  have hD : va_D A [((bd 0), .inr (14, [.ref (bd 1), .ref (bd 2), .ref (bd 3), .ref (bd 4), .ref (bd 5), .ref (bd 6), .int 100, .int (-1), .int 0, .int th])), ((bd 1), .inr (4, [.int 0, .ref (bd 7), .int 0])), ((bd 2), .inr (4, [.int 0, .ref (bd 7), .int 0])), ((bd 3), .inr (4, [.int 0, .ref (bd 7), .int 0])), ((bd 4), .inr (4, [.int 0, .ref (bd 7), .int 0])), ((bd 5), .inr (4, [.int 0, .ref (bd 7), .int 0])), ((bd 6), .inr (4, [.int 0, .ref (bd 7), .int 0]))] := hD
  have hl := lv_entry [.ref (bd 0), .int p0, .int p1, .int p2, .int p3] (n := 8) (Nat.le_of_ble_eq_true rfl)
  rw [lg_entry_eq]
  generalize (lg_sl [.ref (bd 0), .int p0, .int p1, .int p2, .int p3] ++ List.replicate (8 - (lg_sl [.ref (bd 0), .int p0, .int p1, .int p2, .int p3]).length) Slot.unset).toArray = ls at hl ⊢
  have hl : lv_has ls 8 [(0, .ref (bd 0)), (1, .int p0), (2, .int p1), (3, .int p2), (4, .int p3)] := hl
  refine lv_aload_n hx hb dX9_addShade_0 rfl (lv_at hl 0 rfl) ?_
  refine lv_iload_n hx hb dX9_addShade_1 rfl (lv_at hl 1 rfl) ?_
  refine lv_bipush (v := 65) hx hb dX9_addShade_2 (by decide) ?_
  refine lv_bipush (v := 90) hx hb dX9_addShade_4 (by decide) ?_
  have hPc := hP.sub (ws' := []) [] rfl
  refine va_calli (va_runS (As := [.int p0, .int 65, .int 90]) (rest := [.ref (bd 0)]) ⟨hx, hb, hml, hown, hw⟩ (c_X9_isIn l D sa _ p0 65 90) (va_cwS 3 hw (zg3 zm_1311 zm_1312 zm_53 zm_1313) rfl rfl rfl (by decide +kernel) ⟨Nat.le_of_ble_eq_true rfl, Nat.le_of_ble_eq_true rfl⟩) ⟨zJ_blind, zJ_pre hPc hK hT⟩ rfl rfl hl.1 rfl (lv_room (Nat.le_of_ble_eq_true rfl)) dX9_addShade_6 ⟨Nat.le_of_ble_eq_true rfl, Nat.le_of_ble_eq_true rfl⟩) hS zN_in (zN_fr hS hA) (fun r_1 u t H locs ht hvm hw1 hB hz1 hk1 hS => ?_)
  have hP := zN_keep hP hk1
  rw [hy0] at hw1
  subst hw1
  refine lv_if_eq (tgt := 47) hx hb dX9_addShade_9 (by decide) (fun _ => ?_) (fun c_2 => absurd (by decide) c_2)
  refine lv_iconst (v := 0) hx hb dX9_addShade_47 (by decide) ?_
  refine lv_iconst (v := 1) hx hb dX9_addShade_48 (by decide) ?_
  have hFc := va_free (wc := [((bd 0), .inr (14, [.ref (bd 1), .ref (bd 2), .ref (bd 3), .ref (bd 4), .ref (bd 5), .ref (bd 6), .int 100, .int (-1), .int 0, .int th])), ((bd 1), .inr (4, [.int 0, .ref (bd 7), .int 0])), ((bd 2), .inr (4, [.int 0, .ref (bd 7), .int 0])), ((bd 3), .inr (4, [.int 0, .ref (bd 7), .int 0])), ((bd 4), .inr (4, [.int 0, .ref (bd 7), .int 0])), ((bd 5), .inr (4, [.int 0, .ref (bd 7), .int 0])), ((bd 6), .inr (4, [.int 0, .ref (bd 7), .int 0]))]) hD hS hA [0, 1, 2, 3, 4, 5, 6] rfl
  refine va_calli (va_runV (As := [.int 0, .int 1]) (rest := []) ⟨hx, hb, hml, hown, hw⟩ (c_X9_no0 l D sa ea bd th _ 1) (cwV 2 hw (zg4 zm_1314 zm_1316 zm_26 zm_53 zm_1317) rfl rfl rfl (by decide +kernel) ⟨Nat.le_of_ble_eq_true rfl, Nat.le_of_ble_eq_true rfl⟩) ⟨zW_blind, va_recv hK hP (ci := 14) (q0 := 0) rfl rfl, zW_pre hP hK hD hT hE hS hFc⟩ rfl rfl hl.1 rfl (lv_room (Nat.le_of_ble_eq_true rfl)) dX9_addShade_49 ⟨Nat.le_of_ble_eq_true rfl, Nat.le_of_ble_eq_true rfl⟩) hS (fun q _ h => hFc q h) hFc (fun r_3 u t H locs ht hvm hw1 hB hz1 hk1 hS => ?_)
  subst hw1
  obtain ⟨hP1, hD1⟩ := hB
  rw [ht] at hP1
  obtain ⟨hP, hD⟩ := va_join (wr := []) (w1 := [((bd 0), .inr (14, [.ref (bd 1), .ref (bd 2), .ref (bd 3), .ref (bd 4), .ref (bd 5), .ref (bd 6), .int 100, .int (-1), .int 0, .int 1])), ((bd 1), .inr (4, [.int 0, .ref (bd 7), .int 0])), ((bd 2), .inr (4, [.int 0, .ref (bd 7), .int 0])), ((bd 3), .inr (4, [.int 0, .ref (bd 7), .int 0])), ((bd 4), .inr (4, [.int 0, .ref (bd 7), .int 0])), ((bd 5), .inr (4, [.int 0, .ref (bd 7), .int 0])), ((bd 6), .inr (4, [.int 0, .ref (bd 7), .int 0]))]) hP hD [0, 1, 2, 3, 4, 5, 6] [] rfl rfl (by decide) (by decide) hk1 hFc hP1 hD1
  have hP : va_P D vwCl [((bd 0), .inr (14, [.ref (bd 1), .ref (bd 2), .ref (bd 3), .ref (bd 4), .ref (bd 5), .ref (bd 6), .int 100, .int (-1), .int 0, .int 1])), ((bd 1), .inr (4, [.int 0, .ref (bd 7), .int 0])), ((bd 2), .inr (4, [.int 0, .ref (bd 7), .int 0])), ((bd 3), .inr (4, [.int 0, .ref (bd 7), .int 0])), ((bd 4), .inr (4, [.int 0, .ref (bd 7), .int 0])), ((bd 5), .inr (4, [.int 0, .ref (bd 7), .int 0])), ((bd 6), .inr (4, [.int 0, .ref (bd 7), .int 0]))] H := hP
  have hD : va_D A [((bd 0), .inr (14, [.ref (bd 1), .ref (bd 2), .ref (bd 3), .ref (bd 4), .ref (bd 5), .ref (bd 6), .int 100, .int (-1), .int 0, .int 1])), ((bd 1), .inr (4, [.int 0, .ref (bd 7), .int 0])), ((bd 2), .inr (4, [.int 0, .ref (bd 7), .int 0])), ((bd 3), .inr (4, [.int 0, .ref (bd 7), .int 0])), ((bd 4), .inr (4, [.int 0, .ref (bd 7), .int 0])), ((bd 5), .inr (4, [.int 0, .ref (bd 7), .int 0])), ((bd 6), .inr (4, [.int 0, .ref (bd 7), .int 0]))] := hD
  refine lv_if_eq (tgt := 57) hx hb dX9_addShade_52 (by decide) (fun c_4 => absurd c_4 (by decide)) (fun _ => ?_)
  refine lv_iconst (v := 0) hx hb dX9_addShade_55 (by decide) ?_
  have hP9 := hP.sub (ws' := [((bd 0), .inr (14, [.ref (bd 1), .ref (bd 2), .ref (bd 3), .ref (bd 4), .ref (bd 5), .ref (bd 6), .int 100, .int (-1), .int 0, .int 1])), ((bd 1), .inr (4, [.int 0, .ref (bd 7), .int 0])), ((bd 2), .inr (4, [.int 0, .ref (bd 7), .int 0])), ((bd 3), .inr (4, [.int 0, .ref (bd 7), .int 0])), ((bd 4), .inr (4, [.int 0, .ref (bd 7), .int 0])), ((bd 5), .inr (4, [.int 0, .ref (bd 7), .int 0])), ((bd 6), .inr (4, [.int 0, .ref (bd 7), .int 0]))]) [0, 1, 2, 3, 4, 5, 6] rfl
  have hD9 := hD.sub (ws' := [((bd 0), .inr (14, [.ref (bd 1), .ref (bd 2), .ref (bd 3), .ref (bd 4), .ref (bd 5), .ref (bd 6), .int 100, .int (-1), .int 0, .int 1])), ((bd 1), .inr (4, [.int 0, .ref (bd 7), .int 0])), ((bd 2), .inr (4, [.int 0, .ref (bd 7), .int 0])), ((bd 3), .inr (4, [.int 0, .ref (bd 7), .int 0])), ((bd 4), .inr (4, [.int 0, .ref (bd 7), .int 0])), ((bd 5), .inr (4, [.int 0, .ref (bd 7), .int 0])), ((bd 6), .inr (4, [.int 0, .ref (bd 7), .int 0]))]) [0, 1, 2, 3, 4, 5, 6] (by decide) rfl
  refine W.widen (k := 0) (n := 0) (Nat.le_of_ble_eq_true rfl) (Nat.le_of_ble_eq_true rfl) ?_
  exact W.iret (v := 0) hx hb hr (fun t ht hW => ⟨⟨0, (), rfl, rfl, by rw [ht]; exact hP9, hD9⟩, hS.F ht⟩) hS.2.2 dX9_addShade_56
theorem dX5_addShade_22 : decode cX5_addShade 22 = .ok (.iload_n 2, 1) := by decide +kernel
theorem dX5_addShade_23 : decode cX5_addShade 23 = .ok (.iconst 0, 1) := by decide +kernel
theorem dX5_addShade_24 : decode cX5_addShade 24 = .ok (.bipush 31, 2) := by decide +kernel
theorem dX5_addShade_26 : decode cX5_addShade 26 = .ok (.invokestatic 62, 3) := by decide +kernel
set_option maxHeartbeats 4000000 in
set_option maxRecDepth 100000 in
theorem c_X5_addShade1 (l : Launch) (hst : l.stackTraces = false) (D : va_G) (sa : Nat → Nat) (ad : Nat → Nat) (sz : Nat) (p0 : Int32) (p1 : Int32) (p2 : Int32) (p3 : Int32) (hy0 : z_in p0 65 90 = 1) (hy1 : z_in p1 0 31 = 0) : vx_Met l yX5_addShade ((Cond.code yX5_addShade prog_1_method_2_code 5 (Option.some FieldType.int)) :: WA) ({ frames := 7, cells := 1, slots := 6, locals := 104 }) (zR D sa (zX ad) [.ref (ad 0), .int p0, .int p1, .int p2, .int p3] sz) zF (zXC "java/lang/IllegalArgumentException" sz) 1 6 (zN sz) := by
  refine vx_ofW (cc := prog_1_method_2_code) (maxL := 5) (ret := (Option.some FieldType.int)) (by decide) rfl ?_
  intro p e s m args below meth c s₁ B hml hnt hv
  obtain ⟨rfl, hsz, hP, hK, hT, hZ⟩ := hv
  have hx := B.exec
  have hb := B.bytes
  have hr := B.returns
  have hts := atoms_spec (ws := (Cond.code yX5_addShade prog_1_method_2_code 5 (Option.some FieldType.int)) :: WA) B.pre
  have hw : ∀ w ∈ WA, w.before _ s = true := fun w h => hts w (List.mem_cons_of_mem _ h)
  have hown : s.vm.findClass RX5 = some m.cls := findClass_of_methodNamed B.named
  have hlocks := B.notSynchronized
  subst hsz
  have hA : ∀ q : Nat, s.heap.size ≤ q → zN s.heap.size q := fun _ h => h
  have hS : va_S (zN s.heap.size) s.heap s.heap [] := va_S.rf
  have hP : va_P D vwCl [((ad 0), .inr (10, [.ref (ad 1), .ref (ad 2), .ref (ad 3), .ref (ad 4), .ref (ad 5), .int (-1), .int 100, .int 0, .int 0])), ((ad 1), .inr (7, [.ref (ad 6), .ref (ad 7), .ref (ad 8), .int 0])), ((ad 2), .inr (8, [.ref (ad 9), .ref (ad 10), .int 0])), ((ad 3), .inr (4, [.int 0, .ref (ad 14), .int 0])), ((ad 4), .inr (4, [.int 0, .ref (ad 14), .int 0])), ((ad 5), .inr (6, [.ref (ad 11), .ref (ad 12), .ref (ad 13), .int 0, .int 0]))] s.heap := hP
  have hl := lv_entry [.ref (ad 0), .int p0, .int p1, .int p2, .int p3] (n := 5) (Nat.le_of_ble_eq_true rfl)
  rw [lg_entry_eq]
  generalize (lg_sl [.ref (ad 0), .int p0, .int p1, .int p2, .int p3] ++ List.replicate (5 - (lg_sl [.ref (ad 0), .int p0, .int p1, .int p2, .int p3]).length) Slot.unset).toArray = ls at hl ⊢
  have hl : lv_has ls 5 [(0, .ref (ad 0)), (1, .int p0), (2, .int p1), (3, .int p2), (4, .int p3)] := hl
  refine lv_iload_n hx hb dX5_addShade_0 rfl (lv_at hl 1 rfl) ?_
  refine lv_bipush (v := 65) hx hb dX5_addShade_1 (by decide) ?_
  refine lv_icmp_lt (tgt := 12) hx hb dX5_addShade_3 (by decide) (fun c_1 => absurd c_1 (z_1a hy0)) (fun _ => ?_)
  refine lv_iload_n hx hb dX5_addShade_6 rfl (lv_at hl 1 rfl) ?_
  refine lv_bipush (v := 90) hx hb dX5_addShade_7 (by decide) ?_
  refine lv_icmp_le (tgt := 22) hx hb dX5_addShade_9 (by decide) (fun _ => ?_) (fun c_2 => absurd (zl_le (z_1b hy0)) c_2)
  refine lv_iload_n hx hb dX5_addShade_22 rfl (lv_at hl 2 rfl) ?_
  refine lv_iconst (v := 0) hx hb dX5_addShade_23 (by decide) ?_
  refine lv_bipush (v := 31) hx hb dX5_addShade_24 (by decide) ?_
  have hPc := hP.sub (ws' := []) [] rfl
  refine zx_call (vx_runS (As := [.int p1, .int 0, .int 31]) (rest := []) ⟨hx, hb, hml, hown, hw⟩ (c_X5_requireWithin0 l hst D sa _ p1 0 31 hy1) (va_cwS 3 hw (zg3 zm_414 zm_415 zm_45 zm_416) rfl rfl rfl (by decide +kernel) ⟨Nat.le_of_ble_eq_true rfl, Nat.le_of_ble_eq_true rfl⟩) ⟨zR_blind, zR_pre hPc hK hT hZ hS hA⟩ rfl rfl hl.1 rfl (lv_room (Nat.le_of_ble_eq_true rfl)) dX5_addShade_26 ⟨Nat.le_of_ble_eq_true rfl, Nat.le_of_ble_eq_true rfl⟩) hS (zN_fr hS hA) zN_in (fun E ce q9 u t H locs ht hvm hu hE hz1 hk1 hS hce hcv hcl => ?_)
  exact vx_out (fun x hx9 => (hnt x hx9).elim) hlocks hce hcv hcl (fun t ht _ => ⟨(), trivial, hE, hS.F ht⟩) (fun z hz => hS.2.2 z hz) (Nat.le_of_ble_eq_true rfl) (Nat.le_of_ble_eq_true rfl)
set_option maxHeartbeats 4000000 in
set_option maxRecDepth 100000 in
theorem c_L_addShade1 (l : Launch) (hst : l.stackTraces = false) (D : va_G) (sa : Nat → Nat) (ad : Nat → Nat) (sz : Nat) (p0 : Int32) (p1 : Int32) (p2 : Int32) (p3 : Int32) (oa : Nat) (hy0 : z_in p0 65 90 = 1) (hy1 : z_in p1 0 31 = 0) : vx_Met l yL_addShade ((Cond.codeWith yL_addShade method_3_code 7 (Option.some FieldType.int) [(0, 14, 17, 13), (0, 14, 21, 15), (0, 14, 25, 17)]) :: WA) ({ frames := 8, cells := 1, slots := 6, locals := 128 }) (zR D sa (zX ad) [.ref (ad 0), .int p0, .int p1, .int p2, .int p3, .ref oa] sz) (va_Qi (fun (r : Int32) (_ : Unit) => r = 1) (fun _ _ => True) (zN sz)) (zX0 sz) 1 6 (zN sz) := by
  refine vx_ofWH (cc := method_3_code) (maxL := 7) (ret := (Option.some FieldType.int)) (hh := [(0, 14, 17, 13), (0, 14, 21, 15), (0, 14, 25, 17)]) (by decide) rfl ?_
  intro p e s m args below meth c s₁ B hml hv
  obtain ⟨rfl, hsz, hP, hK, hT, hZ⟩ := hv
  have hx := B.exec
  have hb := B.bytes
  have hr := B.returns
  have hts := atoms_spec (ws := (Cond.codeWith yL_addShade method_3_code 7 (Option.some FieldType.int) [(0, 14, 17, 13), (0, 14, 21, 15), (0, 14, 25, 17)]) :: WA) B.pre
  have hw : ∀ w ∈ WA, w.before _ s = true := fun w h => hts w (List.mem_cons_of_mem _ h)
  have htab := vx_table (x := yL_addShade) B (hts _ List.mem_cons_self)
  have hown : s.vm.findClass RL = some m.cls := findClass_of_methodNamed B.named
  have hlocks := B.notSynchronized
  subst hsz
  have hA : ∀ q : Nat, s.heap.size ≤ q → zN s.heap.size q := fun _ h => h
  have hS : va_S (zN s.heap.size) s.heap s.heap [] := va_S.rf
  have hP : va_P D vwCl [((ad 0), .inr (10, [.ref (ad 1), .ref (ad 2), .ref (ad 3), .ref (ad 4), .ref (ad 5), .int (-1), .int 100, .int 0, .int 0])), ((ad 1), .inr (7, [.ref (ad 6), .ref (ad 7), .ref (ad 8), .int 0])), ((ad 2), .inr (8, [.ref (ad 9), .ref (ad 10), .int 0])), ((ad 3), .inr (4, [.int 0, .ref (ad 14), .int 0])), ((ad 4), .inr (4, [.int 0, .ref (ad 14), .int 0])), ((ad 5), .inr (6, [.ref (ad 11), .ref (ad 12), .ref (ad 13), .int 0, .int 0]))] s.heap := hP
  have hl := lv_entry [.ref (ad 0), .int p0, .int p1, .int p2, .int p3, .ref oa] (n := 7) (Nat.le_of_ble_eq_true rfl)
  rw [lg_entry_eq]
  generalize (lg_sl [.ref (ad 0), .int p0, .int p1, .int p2, .int p3, .ref oa] ++ List.replicate (7 - (lg_sl [.ref (ad 0), .int p0, .int p1, .int p2, .int p3, .ref oa]).length) Slot.unset).toArray = ls at hl ⊢
  have hl : lv_has ls 7 [(0, .ref (ad 0)), (1, .int p0), (2, .int p1), (3, .int p2), (4, .int p3), (5, .ref oa)] := hl
  refine lv_aload hx hb dL_addShade_0 (lv_at hl 5 rfl) ?_
  refine lv_iconst (v := 0) hx hb dL_addShade_2 (by decide) ?_
  refine lv_aload_n hx hb dL_addShade_3 rfl (lv_at hl 0 rfl) ?_
  refine lv_iload_n hx hb dL_addShade_4 rfl (lv_at hl 1 rfl) ?_
  refine lv_iload_n hx hb dL_addShade_5 rfl (lv_at hl 2 rfl) ?_
  refine lv_iload_n hx hb dL_addShade_6 rfl (lv_at hl 3 rfl) ?_
  refine lv_iload hx hb dL_addShade_7 (lv_at hl 4 rfl) ?_
  refine zx_call (vx_runV (As := [.int p0, .int p1, .int p2, .int p3]) (rest := [.int 0, .ref oa]) ⟨hx, hb, hml, hown, hw⟩ (c_X5_addShade1 l hst D sa ad _ p0 p1 p2 p3 hy0 hy1) (cwV 4 hw (zg4 zm_338 zm_339 zm_340 zm_45 zm_341) rfl rfl rfl (by decide +kernel) ⟨Nat.le_of_ble_eq_true rfl, Nat.le_of_ble_eq_true rfl⟩) ⟨zR_blind, va_recv hK hP (ci := 10) (q0 := 0) rfl rfl, zR_pre hP hK hT hZ hS hA⟩ rfl rfl hl.1 rfl (lv_room (Nat.le_of_ble_eq_true rfl)) dL_addShade_9 ⟨Nat.le_of_ble_eq_true rfl, Nat.le_of_ble_eq_true rfl⟩) hS (zN_fr hS hA) zN_in (fun E ce q9 u t H locs ht hvm hu hE hz1 hk1 hS hce hcv hcl => ?_)
  subst hE
  refine vx_catch hown [] ⟨0, 14, 17, 13⟩ (tableOf [(0, 14, 21, 15), (0, 14, 25, 17)]) htab (fun z hz => absurd hz List.not_mem_nil) (by decide) (by decide) (hw _ zm_335) (hT.c 0 rfl) hce hcv hcl ?_
  refine lv_astore (lv' := [(6, .ref q9), (0, .ref (ad 0)), (1, .int p0), (2, .int p1), (3, .int p2), (4, .int p3), (5, .ref oa)]) hx hb dL_addShade_17 hl (by decide) rfl (fun ls hl => ?_)
  refine lv_iconst (v := 1) hx hb dL_addShade_19 (by decide) ?_
  refine vx_ret ?_
  exact W.iret (v := 1) hx hb hr (fun t ht hW => ⟨⟨1, (), rfl, rfl, trivial⟩, hS.F ht⟩) hS.2.2 dL_addShade_20
theorem dX9_addShade_12 : decode cX9_addShade 12 = .ok (.iload_n 2, 1) := by decide +kernel
theorem dX9_addShade_13 : decode cX9_addShade 13 = .ok (.iconst 0, 1) := by decide +kernel
theorem dX9_addShade_14 : decode cX9_addShade 14 = .ok (.bipush 31, 2) := by decide +kernel
theorem dX9_addShade_16 : decode cX9_addShade 16 = .ok (.invokestatic 47, 3) := by decide +kernel
theorem dX9_addShade_19 : decode cX9_addShade 19 = .ok (.ifCond .eq 28, 3) := by decide +kernel
set_option maxHeartbeats 4000000 in
set_option maxRecDepth 100000 in
theorem c_X9_addShade1 (l : Launch) (D : va_G) (sa : Nat → Nat) (ea : Nat) (bd : Nat → Nat) (th : Int32) (sz : Nat) (p0 : Int32) (p1 : Int32) (p2 : Int32) (p3 : Int32) (hy0 : z_in p0 65 90 = 1) (hy1 : z_in p1 0 31 = 0) : Met l yX9_addShade ((Cond.code yX9_addShade prog_8_method_7_code 8 (Option.some FieldType.int)) :: WA) ({ frames := 1, cells := 0, slots := 0, locals := 22 }) (zW D sa ea [] (zM bd th) [.ref (bd 0), .int p0, .int p1, .int p2, .int p3] sz) (va_Qi (fun (r : Int32) (_ : Unit) => r = 0) (fun _ t => va_P D vwCl [((bd 0), .inr (14, [.ref (bd 1), .ref (bd 2), .ref (bd 3), .ref (bd 4), .ref (bd 5), .ref (bd 6), .int 100, .int (-1), .int 0, .int 1])), ((bd 1), .inr (4, [.int 0, .ref (bd 7), .int 0])), ((bd 2), .inr (4, [.int 0, .ref (bd 7), .int 0])), ((bd 3), .inr (4, [.int 0, .ref (bd 7), .int 0])), ((bd 4), .inr (4, [.int 0, .ref (bd 7), .int 0])), ((bd 5), .inr (4, [.int 0, .ref (bd 7), .int 0])), ((bd 6), .inr (4, [.int 0, .ref (bd 7), .int 0]))] t.heap ∧ va_D (va_A (zM bd th) sz) [((bd 0), .inr (14, [.ref (bd 1), .ref (bd 2), .ref (bd 3), .ref (bd 4), .ref (bd 5), .ref (bd 6), .int 100, .int (-1), .int 0, .int 1])), ((bd 1), .inr (4, [.int 0, .ref (bd 7), .int 0])), ((bd 2), .inr (4, [.int 0, .ref (bd 7), .int 0])), ((bd 3), .inr (4, [.int 0, .ref (bd 7), .int 0])), ((bd 4), .inr (4, [.int 0, .ref (bd 7), .int 0])), ((bd 5), .inr (4, [.int 0, .ref (bd 7), .int 0])), ((bd 6), .inr (4, [.int 0, .ref (bd 7), .int 0]))]) (va_A (zM bd th) sz)) 0 0 (va_A (zM bd th) sz) := by
  refine Met.ofW (cc := prog_8_method_7_code) (maxL := 8) (ret := (Option.some FieldType.int)) (by decide) rfl ?_
  intro p e s m args below meth c s₁ B hml hv
  obtain ⟨rfl, hsz, hP, hK, hD0, hT, hE⟩ := hv
  have hx := B.exec
  have hb := B.bytes
  have hr := B.returns
  have hts := atoms_spec (ws := (Cond.code yX9_addShade prog_8_method_7_code 8 (Option.some FieldType.int)) :: WA) B.pre
  have hw : ∀ w ∈ WA, w.before _ s = true := fun w h => hts w (List.mem_cons_of_mem _ h)
  have hown : s.vm.findClass RX9 = some m.cls := findClass_of_methodNamed B.named
  have hlocks := B.notSynchronized
  subst hsz
  have hD := hD0.self (sz := s.heap.size)
  generalize hAe : va_A (zM bd th) s.heap.size = A at hD hE ⊢
  have hA : ∀ q : Nat, s.heap.size ≤ q → A q := fun q h => by rw [← hAe]; exact Or.inr h
  have hS : va_S A s.heap s.heap [] := va_S.rf
  have hP : va_P D vwCl [((bd 0), .inr (14, [.ref (bd 1), .ref (bd 2), .ref (bd 3), .ref (bd 4), .ref (bd 5), .ref (bd 6), .int 100, .int (-1), .int 0, .int th])), ((bd 1), .inr (4, [.int 0, .ref (bd 7), .int 0])), ((bd 2), .inr (4, [.int 0, .ref (bd 7), .int 0])), ((bd 3), .inr (4, [.int 0, .ref (bd 7), .int 0])), ((bd 4), .inr (4, [.int 0, .ref (bd 7), .int 0])), ((bd 5), .inr (4, [.int 0, .ref (bd 7), .int 0])), ((bd 6), .inr (4, [.int 0, .ref (bd 7), .int 0]))] s.heap := hP
  have hD : va_D A [((bd 0), .inr (14, [.ref (bd 1), .ref (bd 2), .ref (bd 3), .ref (bd 4), .ref (bd 5), .ref (bd 6), .int 100, .int (-1), .int 0, .int th])), ((bd 1), .inr (4, [.int 0, .ref (bd 7), .int 0])), ((bd 2), .inr (4, [.int 0, .ref (bd 7), .int 0])), ((bd 3), .inr (4, [.int 0, .ref (bd 7), .int 0])), ((bd 4), .inr (4, [.int 0, .ref (bd 7), .int 0])), ((bd 5), .inr (4, [.int 0, .ref (bd 7), .int 0])), ((bd 6), .inr (4, [.int 0, .ref (bd 7), .int 0]))] := hD
  have hl := lv_entry [.ref (bd 0), .int p0, .int p1, .int p2, .int p3] (n := 8) (Nat.le_of_ble_eq_true rfl)
  rw [lg_entry_eq]
  generalize (lg_sl [.ref (bd 0), .int p0, .int p1, .int p2, .int p3] ++ List.replicate (8 - (lg_sl [.ref (bd 0), .int p0, .int p1, .int p2, .int p3]).length) Slot.unset).toArray = ls at hl ⊢
  have hl : lv_has ls 8 [(0, .ref (bd 0)), (1, .int p0), (2, .int p1), (3, .int p2), (4, .int p3)] := hl
  refine lv_aload_n hx hb dX9_addShade_0 rfl (lv_at hl 0 rfl) ?_
  refine lv_iload_n hx hb dX9_addShade_1 rfl (lv_at hl 1 rfl) ?_
  refine lv_bipush (v := 65) hx hb dX9_addShade_2 (by decide) ?_
  refine lv_bipush (v := 90) hx hb dX9_addShade_4 (by decide) ?_
  have hPc := hP.sub (ws' := []) [] rfl
  refine va_calli (va_runS (As := [.int p0, .int 65, .int 90]) (rest := [.ref (bd 0)]) ⟨hx, hb, hml, hown, hw⟩ (c_X9_isIn l D sa _ p0 65 90) (va_cwS 3 hw (zg3 zm_1311 zm_1312 zm_53 zm_1313) rfl rfl rfl (by decide +kernel) ⟨Nat.le_of_ble_eq_true rfl, Nat.le_of_ble_eq_true rfl⟩) ⟨zJ_blind, zJ_pre hPc hK hT⟩ rfl rfl hl.1 rfl (lv_room (Nat.le_of_ble_eq_true rfl)) dX9_addShade_6 ⟨Nat.le_of_ble_eq_true rfl, Nat.le_of_ble_eq_true rfl⟩) hS zN_in (zN_fr hS hA) (fun r_1 u t H locs ht hvm hw1 hB hz1 hk1 hS => ?_)
  have hP := zN_keep hP hk1
  rw [hy0] at hw1
  subst hw1
  refine lv_if_eq (tgt := 47) hx hb dX9_addShade_9 (by decide) (fun c_2 => absurd c_2 (by decide)) (fun _ => ?_)
  refine lv_iload_n hx hb dX9_addShade_12 rfl (lv_at hl 2 rfl) ?_
  refine lv_iconst (v := 0) hx hb dX9_addShade_13 (by decide) ?_
  refine lv_bipush (v := 31) hx hb dX9_addShade_14 (by decide) ?_
  have hPc := hP.sub (ws' := []) [] rfl
  refine va_calli (va_runS (As := [.int p1, .int 0, .int 31]) (rest := [.ref (bd 0)]) ⟨hx, hb, hml, hown, hw⟩ (c_X9_isIn l D sa _ p1 0 31) (va_cwS 3 hw (zg3 zm_1311 zm_1312 zm_53 zm_1313) rfl rfl rfl (by decide +kernel) ⟨Nat.le_of_ble_eq_true rfl, Nat.le_of_ble_eq_true rfl⟩) ⟨zJ_blind, zJ_pre hPc hK hT⟩ rfl rfl hl.1 rfl (lv_room (Nat.le_of_ble_eq_true rfl)) dX9_addShade_16 ⟨Nat.le_of_ble_eq_true rfl, Nat.le_of_ble_eq_true rfl⟩) hS zN_in (zN_fr hS hA) (fun r_3 u t H locs ht hvm hw1 hB hz1 hk1 hS => ?_)
  have hP := zN_keep hP hk1
  rw [hy1] at hw1
  subst hw1
  refine lv_if_eq (tgt := 47) hx hb dX9_addShade_19 (by decide) (fun _ => ?_) (fun c_4 => absurd (by decide) c_4)
  refine lv_iconst (v := 0) hx hb dX9_addShade_47 (by decide) ?_
  refine lv_iconst (v := 1) hx hb dX9_addShade_48 (by decide) ?_
  have hFc := va_free (wc := [((bd 0), .inr (14, [.ref (bd 1), .ref (bd 2), .ref (bd 3), .ref (bd 4), .ref (bd 5), .ref (bd 6), .int 100, .int (-1), .int 0, .int th])), ((bd 1), .inr (4, [.int 0, .ref (bd 7), .int 0])), ((bd 2), .inr (4, [.int 0, .ref (bd 7), .int 0])), ((bd 3), .inr (4, [.int 0, .ref (bd 7), .int 0])), ((bd 4), .inr (4, [.int 0, .ref (bd 7), .int 0])), ((bd 5), .inr (4, [.int 0, .ref (bd 7), .int 0])), ((bd 6), .inr (4, [.int 0, .ref (bd 7), .int 0]))]) hD hS hA [0, 1, 2, 3, 4, 5, 6] rfl
  refine va_calli (va_runV (As := [.int 0, .int 1]) (rest := []) ⟨hx, hb, hml, hown, hw⟩ (c_X9_no0 l D sa ea bd th _ 1) (cwV 2 hw (zg4 zm_1314 zm_1316 zm_26 zm_53 zm_1317) rfl rfl rfl (by decide +kernel) ⟨Nat.le_of_ble_eq_true rfl, Nat.le_of_ble_eq_true rfl⟩) ⟨zW_blind, va_recv hK hP (ci := 14) (q0 := 0) rfl rfl, zW_pre hP hK hD hT hE hS hFc⟩ rfl rfl hl.1 rfl (lv_room (Nat.le_of_ble_eq_true rfl)) dX9_addShade_49 ⟨Nat.le_of_ble_eq_true rfl, Nat.le_of_ble_eq_true rfl⟩) hS (fun q _ h => hFc q h) hFc (fun r_5 u t H locs ht hvm hw1 hB hz1 hk1 hS => ?_)
  subst hw1
  obtain ⟨hP1, hD1⟩ := hB
  rw [ht] at hP1
  obtain ⟨hP, hD⟩ := va_join (wr := []) (w1 := [((bd 0), .inr (14, [.ref (bd 1), .ref (bd 2), .ref (bd 3), .ref (bd 4), .ref (bd 5), .ref (bd 6), .int 100, .int (-1), .int 0, .int 1])), ((bd 1), .inr (4, [.int 0, .ref (bd 7), .int 0])), ((bd 2), .inr (4, [.int 0, .ref (bd 7), .int 0])), ((bd 3), .inr (4, [.int 0, .ref (bd 7), .int 0])), ((bd 4), .inr (4, [.int 0, .ref (bd 7), .int 0])), ((bd 5), .inr (4, [.int 0, .ref (bd 7), .int 0])), ((bd 6), .inr (4, [.int 0, .ref (bd 7), .int 0]))]) hP hD [0, 1, 2, 3, 4, 5, 6] [] rfl rfl (by decide) (by decide) hk1 hFc hP1 hD1
  have hP : va_P D vwCl [((bd 0), .inr (14, [.ref (bd 1), .ref (bd 2), .ref (bd 3), .ref (bd 4), .ref (bd 5), .ref (bd 6), .int 100, .int (-1), .int 0, .int 1])), ((bd 1), .inr (4, [.int 0, .ref (bd 7), .int 0])), ((bd 2), .inr (4, [.int 0, .ref (bd 7), .int 0])), ((bd 3), .inr (4, [.int 0, .ref (bd 7), .int 0])), ((bd 4), .inr (4, [.int 0, .ref (bd 7), .int 0])), ((bd 5), .inr (4, [.int 0, .ref (bd 7), .int 0])), ((bd 6), .inr (4, [.int 0, .ref (bd 7), .int 0]))] H := hP
  have hD : va_D A [((bd 0), .inr (14, [.ref (bd 1), .ref (bd 2), .ref (bd 3), .ref (bd 4), .ref (bd 5), .ref (bd 6), .int 100, .int (-1), .int 0, .int 1])), ((bd 1), .inr (4, [.int 0, .ref (bd 7), .int 0])), ((bd 2), .inr (4, [.int 0, .ref (bd 7), .int 0])), ((bd 3), .inr (4, [.int 0, .ref (bd 7), .int 0])), ((bd 4), .inr (4, [.int 0, .ref (bd 7), .int 0])), ((bd 5), .inr (4, [.int 0, .ref (bd 7), .int 0])), ((bd 6), .inr (4, [.int 0, .ref (bd 7), .int 0]))] := hD
  refine lv_if_eq (tgt := 57) hx hb dX9_addShade_52 (by decide) (fun c_6 => absurd c_6 (by decide)) (fun _ => ?_)
  refine lv_iconst (v := 0) hx hb dX9_addShade_55 (by decide) ?_
  have hP9 := hP.sub (ws' := [((bd 0), .inr (14, [.ref (bd 1), .ref (bd 2), .ref (bd 3), .ref (bd 4), .ref (bd 5), .ref (bd 6), .int 100, .int (-1), .int 0, .int 1])), ((bd 1), .inr (4, [.int 0, .ref (bd 7), .int 0])), ((bd 2), .inr (4, [.int 0, .ref (bd 7), .int 0])), ((bd 3), .inr (4, [.int 0, .ref (bd 7), .int 0])), ((bd 4), .inr (4, [.int 0, .ref (bd 7), .int 0])), ((bd 5), .inr (4, [.int 0, .ref (bd 7), .int 0])), ((bd 6), .inr (4, [.int 0, .ref (bd 7), .int 0]))]) [0, 1, 2, 3, 4, 5, 6] rfl
  have hD9 := hD.sub (ws' := [((bd 0), .inr (14, [.ref (bd 1), .ref (bd 2), .ref (bd 3), .ref (bd 4), .ref (bd 5), .ref (bd 6), .int 100, .int (-1), .int 0, .int 1])), ((bd 1), .inr (4, [.int 0, .ref (bd 7), .int 0])), ((bd 2), .inr (4, [.int 0, .ref (bd 7), .int 0])), ((bd 3), .inr (4, [.int 0, .ref (bd 7), .int 0])), ((bd 4), .inr (4, [.int 0, .ref (bd 7), .int 0])), ((bd 5), .inr (4, [.int 0, .ref (bd 7), .int 0])), ((bd 6), .inr (4, [.int 0, .ref (bd 7), .int 0]))]) [0, 1, 2, 3, 4, 5, 6] (by decide) rfl
  refine W.widen (k := 0) (n := 0) (Nat.le_of_ble_eq_true rfl) (Nat.le_of_ble_eq_true rfl) ?_
  exact W.iret (v := 0) hx hb hr (fun t ht hW => ⟨⟨0, (), rfl, rfl, by rw [ht]; exact hP9, hD9⟩, hS.F ht⟩) hS.2.2 dX9_addShade_56
theorem dX5_addShade_29 : decode cX5_addShade 29 = .ok (.iload_n 3, 1) := by decide +kernel
theorem dX5_addShade_30 : decode cX5_addShade 30 = .ok (.iconst 0, 1) := by decide +kernel
theorem dX5_addShade_31 : decode cX5_addShade 31 = .ok (.bipush 31, 2) := by decide +kernel
theorem dX5_addShade_33 : decode cX5_addShade 33 = .ok (.invokestatic 62, 3) := by decide +kernel
set_option maxHeartbeats 4000000 in
set_option maxRecDepth 100000 in
theorem c_X5_addShade2 (l : Launch) (hst : l.stackTraces = false) (D : va_G) (sa : Nat → Nat) (ad : Nat → Nat) (sz : Nat) (p0 : Int32) (p1 : Int32) (p2 : Int32) (p3 : Int32) (hy0 : z_in p0 65 90 = 1) (hy1 : z_in p1 0 31 = 1) (hy2 : z_in p2 0 31 = 0) : vx_Met l yX5_addShade ((Cond.code yX5_addShade prog_1_method_2_code 5 (Option.some FieldType.int)) :: WA) ({ frames := 7, cells := 1, slots := 6, locals := 104 }) (zR D sa (zX ad) [.ref (ad 0), .int p0, .int p1, .int p2, .int p3] sz) zF (zXC "java/lang/IllegalArgumentException" sz) 1 6 (zN sz) := by
  refine vx_ofW (cc := prog_1_method_2_code) (maxL := 5) (ret := (Option.some FieldType.int)) (by decide) rfl ?_
  intro p e s m args below meth c s₁ B hml hnt hv
  obtain ⟨rfl, hsz, hP, hK, hT, hZ⟩ := hv
  have hx := B.exec
  have hb := B.bytes
  have hr := B.returns
  have hts := atoms_spec (ws := (Cond.code yX5_addShade prog_1_method_2_code 5 (Option.some FieldType.int)) :: WA) B.pre
  have hw : ∀ w ∈ WA, w.before _ s = true := fun w h => hts w (List.mem_cons_of_mem _ h)
  have hown : s.vm.findClass RX5 = some m.cls := findClass_of_methodNamed B.named
  have hlocks := B.notSynchronized
  subst hsz
  have hA : ∀ q : Nat, s.heap.size ≤ q → zN s.heap.size q := fun _ h => h
  have hS : va_S (zN s.heap.size) s.heap s.heap [] := va_S.rf
  have hP : va_P D vwCl [((ad 0), .inr (10, [.ref (ad 1), .ref (ad 2), .ref (ad 3), .ref (ad 4), .ref (ad 5), .int (-1), .int 100, .int 0, .int 0])), ((ad 1), .inr (7, [.ref (ad 6), .ref (ad 7), .ref (ad 8), .int 0])), ((ad 2), .inr (8, [.ref (ad 9), .ref (ad 10), .int 0])), ((ad 3), .inr (4, [.int 0, .ref (ad 14), .int 0])), ((ad 4), .inr (4, [.int 0, .ref (ad 14), .int 0])), ((ad 5), .inr (6, [.ref (ad 11), .ref (ad 12), .ref (ad 13), .int 0, .int 0]))] s.heap := hP
  have hl := lv_entry [.ref (ad 0), .int p0, .int p1, .int p2, .int p3] (n := 5) (Nat.le_of_ble_eq_true rfl)
  rw [lg_entry_eq]
  generalize (lg_sl [.ref (ad 0), .int p0, .int p1, .int p2, .int p3] ++ List.replicate (5 - (lg_sl [.ref (ad 0), .int p0, .int p1, .int p2, .int p3]).length) Slot.unset).toArray = ls at hl ⊢
  have hl : lv_has ls 5 [(0, .ref (ad 0)), (1, .int p0), (2, .int p1), (3, .int p2), (4, .int p3)] := hl
  refine lv_iload_n hx hb dX5_addShade_0 rfl (lv_at hl 1 rfl) ?_
  refine lv_bipush (v := 65) hx hb dX5_addShade_1 (by decide) ?_
  refine lv_icmp_lt (tgt := 12) hx hb dX5_addShade_3 (by decide) (fun c_1 => absurd c_1 (z_1a hy0)) (fun _ => ?_)
  refine lv_iload_n hx hb dX5_addShade_6 rfl (lv_at hl 1 rfl) ?_
  refine lv_bipush (v := 90) hx hb dX5_addShade_7 (by decide) ?_
  refine lv_icmp_le (tgt := 22) hx hb dX5_addShade_9 (by decide) (fun _ => ?_) (fun c_2 => absurd (zl_le (z_1b hy0)) c_2)
  refine lv_iload_n hx hb dX5_addShade_22 rfl (lv_at hl 2 rfl) ?_
  refine lv_iconst (v := 0) hx hb dX5_addShade_23 (by decide) ?_
  refine lv_bipush (v := 31) hx hb dX5_addShade_24 (by decide) ?_
  have hPc := hP.sub (ws' := []) [] rfl
  refine va_callv (va_runS (As := [.int p1, .int 0, .int 31]) (rest := []) ⟨hx, hb, hml, hown, hw⟩ (c_X5_requireWithin1 l D sa _ p1 0 31 hy1) (va_cwS 3 hw (zg3 zm_414 zm_415 zm_45 zm_416) rfl rfl rfl (by decide +kernel) ⟨Nat.le_of_ble_eq_true rfl, Nat.le_of_ble_eq_true rfl⟩) ⟨zJ_blind, zJ_pre hPc hK hT⟩ rfl rfl hl.1 rfl (lv_room (Nat.le_of_ble_eq_true rfl)) dX5_addShade_26 ⟨Nat.le_of_ble_eq_true rfl, Nat.le_of_ble_eq_true rfl⟩) hS zN_in (zN_fr hS hA) (fun u t H locs ht hvm hw1 hB hz1 hk1 hS => ?_)
  have hP := zN_keep hP hk1
  refine lv_iload_n hx hb dX5_addShade_29 rfl (lv_at hl 3 rfl) ?_
  refine lv_iconst (v := 0) hx hb dX5_addShade_30 (by decide) ?_
  refine lv_bipush (v := 31) hx hb dX5_addShade_31 (by decide) ?_
  have hPc := hP.sub (ws' := []) [] rfl
  refine zx_call (vx_runS (As := [.int p2, .int 0, .int 31]) (rest := []) ⟨hx, hb, hml, hown, hw⟩ (c_X5_requireWithin0 l hst D sa _ p2 0 31 hy2) (va_cwS 3 hw (zg3 zm_414 zm_415 zm_45 zm_416) rfl rfl rfl (by decide +kernel) ⟨Nat.le_of_ble_eq_true rfl, Nat.le_of_ble_eq_true rfl⟩) ⟨zR_blind, zR_pre hPc hK hT hZ hS hA⟩ rfl rfl hl.1 rfl (lv_room (Nat.le_of_ble_eq_true rfl)) dX5_addShade_33 ⟨Nat.le_of_ble_eq_true rfl, Nat.le_of_ble_eq_true rfl⟩) hS (zN_fr hS hA) zN_in (fun E ce q9 u t H locs ht hvm hu hE hz1 hk1 hS hce hcv hcl => ?_)
  exact vx_out (fun x hx9 => (hnt x hx9).elim) hlocks hce hcv hcl (fun t ht _ => ⟨(), trivial, hE, hS.F ht⟩) (fun z hz => hS.2.2 z hz) (Nat.le_of_ble_eq_true rfl) (Nat.le_of_ble_eq_true rfl)
set_option maxHeartbeats 4000000 in
set_option maxRecDepth 100000 in
theorem c_L_addShade2 (l : Launch) (hst : l.stackTraces = false) (D : va_G) (sa : Nat → Nat) (ad : Nat → Nat) (sz : Nat) (p0 : Int32) (p1 : Int32) (p2 : Int32) (p3 : Int32) (oa : Nat) (hy0 : z_in p0 65 90 = 1) (hy1 : z_in p1 0 31 = 1) (hy2 : z_in p2 0 31 = 0) : vx_Met l yL_addShade ((Cond.codeWith yL_addShade method_3_code 7 (Option.some FieldType.int) [(0, 14, 17, 13), (0, 14, 21, 15), (0, 14, 25, 17)]) :: WA) ({ frames := 8, cells := 1, slots := 6, locals := 128 }) (zR D sa (zX ad) [.ref (ad 0), .int p0, .int p1, .int p2, .int p3, .ref oa] sz) (va_Qi (fun (r : Int32) (_ : Unit) => r = 1) (fun _ _ => True) (zN sz)) (zX0 sz) 1 6 (zN sz) := by
  refine vx_ofWH (cc := method_3_code) (maxL := 7) (ret := (Option.some FieldType.int)) (hh := [(0, 14, 17, 13), (0, 14, 21, 15), (0, 14, 25, 17)]) (by decide) rfl ?_
  intro p e s m args below meth c s₁ B hml hv
  obtain ⟨rfl, hsz, hP, hK, hT, hZ⟩ := hv
  have hx := B.exec
  have hb := B.bytes
  have hr := B.returns
  have hts := atoms_spec (ws := (Cond.codeWith yL_addShade method_3_code 7 (Option.some FieldType.int) [(0, 14, 17, 13), (0, 14, 21, 15), (0, 14, 25, 17)]) :: WA) B.pre
  have hw : ∀ w ∈ WA, w.before _ s = true := fun w h => hts w (List.mem_cons_of_mem _ h)
  have htab := vx_table (x := yL_addShade) B (hts _ List.mem_cons_self)
  have hown : s.vm.findClass RL = some m.cls := findClass_of_methodNamed B.named
  have hlocks := B.notSynchronized
  subst hsz
  have hA : ∀ q : Nat, s.heap.size ≤ q → zN s.heap.size q := fun _ h => h
  have hS : va_S (zN s.heap.size) s.heap s.heap [] := va_S.rf
  have hP : va_P D vwCl [((ad 0), .inr (10, [.ref (ad 1), .ref (ad 2), .ref (ad 3), .ref (ad 4), .ref (ad 5), .int (-1), .int 100, .int 0, .int 0])), ((ad 1), .inr (7, [.ref (ad 6), .ref (ad 7), .ref (ad 8), .int 0])), ((ad 2), .inr (8, [.ref (ad 9), .ref (ad 10), .int 0])), ((ad 3), .inr (4, [.int 0, .ref (ad 14), .int 0])), ((ad 4), .inr (4, [.int 0, .ref (ad 14), .int 0])), ((ad 5), .inr (6, [.ref (ad 11), .ref (ad 12), .ref (ad 13), .int 0, .int 0]))] s.heap := hP
  have hl := lv_entry [.ref (ad 0), .int p0, .int p1, .int p2, .int p3, .ref oa] (n := 7) (Nat.le_of_ble_eq_true rfl)
  rw [lg_entry_eq]
  generalize (lg_sl [.ref (ad 0), .int p0, .int p1, .int p2, .int p3, .ref oa] ++ List.replicate (7 - (lg_sl [.ref (ad 0), .int p0, .int p1, .int p2, .int p3, .ref oa]).length) Slot.unset).toArray = ls at hl ⊢
  have hl : lv_has ls 7 [(0, .ref (ad 0)), (1, .int p0), (2, .int p1), (3, .int p2), (4, .int p3), (5, .ref oa)] := hl
  refine lv_aload hx hb dL_addShade_0 (lv_at hl 5 rfl) ?_
  refine lv_iconst (v := 0) hx hb dL_addShade_2 (by decide) ?_
  refine lv_aload_n hx hb dL_addShade_3 rfl (lv_at hl 0 rfl) ?_
  refine lv_iload_n hx hb dL_addShade_4 rfl (lv_at hl 1 rfl) ?_
  refine lv_iload_n hx hb dL_addShade_5 rfl (lv_at hl 2 rfl) ?_
  refine lv_iload_n hx hb dL_addShade_6 rfl (lv_at hl 3 rfl) ?_
  refine lv_iload hx hb dL_addShade_7 (lv_at hl 4 rfl) ?_
  refine zx_call (vx_runV (As := [.int p0, .int p1, .int p2, .int p3]) (rest := [.int 0, .ref oa]) ⟨hx, hb, hml, hown, hw⟩ (c_X5_addShade2 l hst D sa ad _ p0 p1 p2 p3 hy0 hy1 hy2) (cwV 4 hw (zg4 zm_338 zm_339 zm_340 zm_45 zm_341) rfl rfl rfl (by decide +kernel) ⟨Nat.le_of_ble_eq_true rfl, Nat.le_of_ble_eq_true rfl⟩) ⟨zR_blind, va_recv hK hP (ci := 10) (q0 := 0) rfl rfl, zR_pre hP hK hT hZ hS hA⟩ rfl rfl hl.1 rfl (lv_room (Nat.le_of_ble_eq_true rfl)) dL_addShade_9 ⟨Nat.le_of_ble_eq_true rfl, Nat.le_of_ble_eq_true rfl⟩) hS (zN_fr hS hA) zN_in (fun E ce q9 u t H locs ht hvm hu hE hz1 hk1 hS hce hcv hcl => ?_)
  subst hE
  refine vx_catch hown [] ⟨0, 14, 17, 13⟩ (tableOf [(0, 14, 21, 15), (0, 14, 25, 17)]) htab (fun z hz => absurd hz List.not_mem_nil) (by decide) (by decide) (hw _ zm_335) (hT.c 0 rfl) hce hcv hcl ?_
  refine lv_astore (lv' := [(6, .ref q9), (0, .ref (ad 0)), (1, .int p0), (2, .int p1), (3, .int p2), (4, .int p3), (5, .ref oa)]) hx hb dL_addShade_17 hl (by decide) rfl (fun ls hl => ?_)
  refine lv_iconst (v := 1) hx hb dL_addShade_19 (by decide) ?_
  refine vx_ret ?_
  exact W.iret (v := 1) hx hb hr (fun t ht hW => ⟨⟨1, (), rfl, rfl, trivial⟩, hS.F ht⟩) hS.2.2 dL_addShade_20
theorem dX9_addShade_22 : decode cX9_addShade 22 = .ok (.iload_n 3, 1) := by decide +kernel
theorem dX9_addShade_23 : decode cX9_addShade 23 = .ok (.iconst 0, 1) := by decide +kernel
theorem dX9_addShade_24 : decode cX9_addShade 24 = .ok (.bipush 31, 2) := by decide +kernel
theorem dX9_addShade_26 : decode cX9_addShade 26 = .ok (.invokestatic 47, 3) := by decide +kernel
theorem dX9_addShade_29 : decode cX9_addShade 29 = .ok (.ifCond .eq 18, 3) := by decide +kernel
set_option maxHeartbeats 4000000 in
set_option maxRecDepth 100000 in
theorem c_X9_addShade2 (l : Launch) (D : va_G) (sa : Nat → Nat) (ea : Nat) (bd : Nat → Nat) (th : Int32) (sz : Nat) (p0 : Int32) (p1 : Int32) (p2 : Int32) (p3 : Int32) (hy0 : z_in p0 65 90 = 1) (hy1 : z_in p1 0 31 = 1) (hy2 : z_in p2 0 31 = 0) : Met l yX9_addShade ((Cond.code yX9_addShade prog_8_method_7_code 8 (Option.some FieldType.int)) :: WA) ({ frames := 1, cells := 0, slots := 0, locals := 22 }) (zW D sa ea [] (zM bd th) [.ref (bd 0), .int p0, .int p1, .int p2, .int p3] sz) (va_Qi (fun (r : Int32) (_ : Unit) => r = 0) (fun _ t => va_P D vwCl [((bd 0), .inr (14, [.ref (bd 1), .ref (bd 2), .ref (bd 3), .ref (bd 4), .ref (bd 5), .ref (bd 6), .int 100, .int (-1), .int 0, .int 1])), ((bd 1), .inr (4, [.int 0, .ref (bd 7), .int 0])), ((bd 2), .inr (4, [.int 0, .ref (bd 7), .int 0])), ((bd 3), .inr (4, [.int 0, .ref (bd 7), .int 0])), ((bd 4), .inr (4, [.int 0, .ref (bd 7), .int 0])), ((bd 5), .inr (4, [.int 0, .ref (bd 7), .int 0])), ((bd 6), .inr (4, [.int 0, .ref (bd 7), .int 0]))] t.heap ∧ va_D (va_A (zM bd th) sz) [((bd 0), .inr (14, [.ref (bd 1), .ref (bd 2), .ref (bd 3), .ref (bd 4), .ref (bd 5), .ref (bd 6), .int 100, .int (-1), .int 0, .int 1])), ((bd 1), .inr (4, [.int 0, .ref (bd 7), .int 0])), ((bd 2), .inr (4, [.int 0, .ref (bd 7), .int 0])), ((bd 3), .inr (4, [.int 0, .ref (bd 7), .int 0])), ((bd 4), .inr (4, [.int 0, .ref (bd 7), .int 0])), ((bd 5), .inr (4, [.int 0, .ref (bd 7), .int 0])), ((bd 6), .inr (4, [.int 0, .ref (bd 7), .int 0]))]) (va_A (zM bd th) sz)) 0 0 (va_A (zM bd th) sz) := by
  refine Met.ofW (cc := prog_8_method_7_code) (maxL := 8) (ret := (Option.some FieldType.int)) (by decide) rfl ?_
  intro p e s m args below meth c s₁ B hml hv
  obtain ⟨rfl, hsz, hP, hK, hD0, hT, hE⟩ := hv
  have hx := B.exec
  have hb := B.bytes
  have hr := B.returns
  have hts := atoms_spec (ws := (Cond.code yX9_addShade prog_8_method_7_code 8 (Option.some FieldType.int)) :: WA) B.pre
  have hw : ∀ w ∈ WA, w.before _ s = true := fun w h => hts w (List.mem_cons_of_mem _ h)
  have hown : s.vm.findClass RX9 = some m.cls := findClass_of_methodNamed B.named
  have hlocks := B.notSynchronized
  subst hsz
  have hD := hD0.self (sz := s.heap.size)
  generalize hAe : va_A (zM bd th) s.heap.size = A at hD hE ⊢
  have hA : ∀ q : Nat, s.heap.size ≤ q → A q := fun q h => by rw [← hAe]; exact Or.inr h
  have hS : va_S A s.heap s.heap [] := va_S.rf
  have hP : va_P D vwCl [((bd 0), .inr (14, [.ref (bd 1), .ref (bd 2), .ref (bd 3), .ref (bd 4), .ref (bd 5), .ref (bd 6), .int 100, .int (-1), .int 0, .int th])), ((bd 1), .inr (4, [.int 0, .ref (bd 7), .int 0])), ((bd 2), .inr (4, [.int 0, .ref (bd 7), .int 0])), ((bd 3), .inr (4, [.int 0, .ref (bd 7), .int 0])), ((bd 4), .inr (4, [.int 0, .ref (bd 7), .int 0])), ((bd 5), .inr (4, [.int 0, .ref (bd 7), .int 0])), ((bd 6), .inr (4, [.int 0, .ref (bd 7), .int 0]))] s.heap := hP
  have hD : va_D A [((bd 0), .inr (14, [.ref (bd 1), .ref (bd 2), .ref (bd 3), .ref (bd 4), .ref (bd 5), .ref (bd 6), .int 100, .int (-1), .int 0, .int th])), ((bd 1), .inr (4, [.int 0, .ref (bd 7), .int 0])), ((bd 2), .inr (4, [.int 0, .ref (bd 7), .int 0])), ((bd 3), .inr (4, [.int 0, .ref (bd 7), .int 0])), ((bd 4), .inr (4, [.int 0, .ref (bd 7), .int 0])), ((bd 5), .inr (4, [.int 0, .ref (bd 7), .int 0])), ((bd 6), .inr (4, [.int 0, .ref (bd 7), .int 0]))] := hD
  have hl := lv_entry [.ref (bd 0), .int p0, .int p1, .int p2, .int p3] (n := 8) (Nat.le_of_ble_eq_true rfl)
  rw [lg_entry_eq]
  generalize (lg_sl [.ref (bd 0), .int p0, .int p1, .int p2, .int p3] ++ List.replicate (8 - (lg_sl [.ref (bd 0), .int p0, .int p1, .int p2, .int p3]).length) Slot.unset).toArray = ls at hl ⊢
  have hl : lv_has ls 8 [(0, .ref (bd 0)), (1, .int p0), (2, .int p1), (3, .int p2), (4, .int p3)] := hl
  refine lv_aload_n hx hb dX9_addShade_0 rfl (lv_at hl 0 rfl) ?_
  refine lv_iload_n hx hb dX9_addShade_1 rfl (lv_at hl 1 rfl) ?_
  refine lv_bipush (v := 65) hx hb dX9_addShade_2 (by decide) ?_
  refine lv_bipush (v := 90) hx hb dX9_addShade_4 (by decide) ?_
  have hPc := hP.sub (ws' := []) [] rfl
  refine va_calli (va_runS (As := [.int p0, .int 65, .int 90]) (rest := [.ref (bd 0)]) ⟨hx, hb, hml, hown, hw⟩ (c_X9_isIn l D sa _ p0 65 90) (va_cwS 3 hw (zg3 zm_1311 zm_1312 zm_53 zm_1313) rfl rfl rfl (by decide +kernel) ⟨Nat.le_of_ble_eq_true rfl, Nat.le_of_ble_eq_true rfl⟩) ⟨zJ_blind, zJ_pre hPc hK hT⟩ rfl rfl hl.1 rfl (lv_room (Nat.le_of_ble_eq_true rfl)) dX9_addShade_6 ⟨Nat.le_of_ble_eq_true rfl, Nat.le_of_ble_eq_true rfl⟩) hS zN_in (zN_fr hS hA) (fun r_1 u t H locs ht hvm hw1 hB hz1 hk1 hS => ?_)
  have hP := zN_keep hP hk1
  rw [hy0] at hw1
  subst hw1
  refine lv_if_eq (tgt := 47) hx hb dX9_addShade_9 (by decide) (fun c_2 => absurd c_2 (by decide)) (fun _ => ?_)
  refine lv_iload_n hx hb dX9_addShade_12 rfl (lv_at hl 2 rfl) ?_
  refine lv_iconst (v := 0) hx hb dX9_addShade_13 (by decide) ?_
  refine lv_bipush (v := 31) hx hb dX9_addShade_14 (by decide) ?_
  have hPc := hP.sub (ws' := []) [] rfl
  refine va_calli (va_runS (As := [.int p1, .int 0, .int 31]) (rest := [.ref (bd 0)]) ⟨hx, hb, hml, hown, hw⟩ (c_X9_isIn l D sa _ p1 0 31) (va_cwS 3 hw (zg3 zm_1311 zm_1312 zm_53 zm_1313) rfl rfl rfl (by decide +kernel) ⟨Nat.le_of_ble_eq_true rfl, Nat.le_of_ble_eq_true rfl⟩) ⟨zJ_blind, zJ_pre hPc hK hT⟩ rfl rfl hl.1 rfl (lv_room (Nat.le_of_ble_eq_true rfl)) dX9_addShade_16 ⟨Nat.le_of_ble_eq_true rfl, Nat.le_of_ble_eq_true rfl⟩) hS zN_in (zN_fr hS hA) (fun r_3 u t H locs ht hvm hw1 hB hz1 hk1 hS => ?_)
  have hP := zN_keep hP hk1
  rw [hy1] at hw1
  subst hw1
  refine lv_if_eq (tgt := 47) hx hb dX9_addShade_19 (by decide) (fun c_4 => absurd c_4 (by decide)) (fun _ => ?_)
  refine lv_iload_n hx hb dX9_addShade_22 rfl (lv_at hl 3 rfl) ?_
  refine lv_iconst (v := 0) hx hb dX9_addShade_23 (by decide) ?_
  refine lv_bipush (v := 31) hx hb dX9_addShade_24 (by decide) ?_
  have hPc := hP.sub (ws' := []) [] rfl
  refine va_calli (va_runS (As := [.int p2, .int 0, .int 31]) (rest := [.ref (bd 0)]) ⟨hx, hb, hml, hown, hw⟩ (c_X9_isIn l D sa _ p2 0 31) (va_cwS 3 hw (zg3 zm_1311 zm_1312 zm_53 zm_1313) rfl rfl rfl (by decide +kernel) ⟨Nat.le_of_ble_eq_true rfl, Nat.le_of_ble_eq_true rfl⟩) ⟨zJ_blind, zJ_pre hPc hK hT⟩ rfl rfl hl.1 rfl (lv_room (Nat.le_of_ble_eq_true rfl)) dX9_addShade_26 ⟨Nat.le_of_ble_eq_true rfl, Nat.le_of_ble_eq_true rfl⟩) hS zN_in (zN_fr hS hA) (fun r_5 u t H locs ht hvm hw1 hB hz1 hk1 hS => ?_)
  have hP := zN_keep hP hk1
  rw [hy2] at hw1
  subst hw1
  refine lv_if_eq (tgt := 47) hx hb dX9_addShade_29 (by decide) (fun _ => ?_) (fun c_6 => absurd (by decide) c_6)
  refine lv_iconst (v := 0) hx hb dX9_addShade_47 (by decide) ?_
  refine lv_iconst (v := 1) hx hb dX9_addShade_48 (by decide) ?_
  have hFc := va_free (wc := [((bd 0), .inr (14, [.ref (bd 1), .ref (bd 2), .ref (bd 3), .ref (bd 4), .ref (bd 5), .ref (bd 6), .int 100, .int (-1), .int 0, .int th])), ((bd 1), .inr (4, [.int 0, .ref (bd 7), .int 0])), ((bd 2), .inr (4, [.int 0, .ref (bd 7), .int 0])), ((bd 3), .inr (4, [.int 0, .ref (bd 7), .int 0])), ((bd 4), .inr (4, [.int 0, .ref (bd 7), .int 0])), ((bd 5), .inr (4, [.int 0, .ref (bd 7), .int 0])), ((bd 6), .inr (4, [.int 0, .ref (bd 7), .int 0]))]) hD hS hA [0, 1, 2, 3, 4, 5, 6] rfl
  refine va_calli (va_runV (As := [.int 0, .int 1]) (rest := []) ⟨hx, hb, hml, hown, hw⟩ (c_X9_no0 l D sa ea bd th _ 1) (cwV 2 hw (zg4 zm_1314 zm_1316 zm_26 zm_53 zm_1317) rfl rfl rfl (by decide +kernel) ⟨Nat.le_of_ble_eq_true rfl, Nat.le_of_ble_eq_true rfl⟩) ⟨zW_blind, va_recv hK hP (ci := 14) (q0 := 0) rfl rfl, zW_pre hP hK hD hT hE hS hFc⟩ rfl rfl hl.1 rfl (lv_room (Nat.le_of_ble_eq_true rfl)) dX9_addShade_49 ⟨Nat.le_of_ble_eq_true rfl, Nat.le_of_ble_eq_true rfl⟩) hS (fun q _ h => hFc q h) hFc (fun r_7 u t H locs ht hvm hw1 hB hz1 hk1 hS => ?_)
  subst hw1
  obtain ⟨hP1, hD1⟩ := hB
  rw [ht] at hP1
  obtain ⟨hP, hD⟩ := va_join (wr := []) (w1 := [((bd 0), .inr (14, [.ref (bd 1), .ref (bd 2), .ref (bd 3), .ref (bd 4), .ref (bd 5), .ref (bd 6), .int 100, .int (-1), .int 0, .int 1])), ((bd 1), .inr (4, [.int 0, .ref (bd 7), .int 0])), ((bd 2), .inr (4, [.int 0, .ref (bd 7), .int 0])), ((bd 3), .inr (4, [.int 0, .ref (bd 7), .int 0])), ((bd 4), .inr (4, [.int 0, .ref (bd 7), .int 0])), ((bd 5), .inr (4, [.int 0, .ref (bd 7), .int 0])), ((bd 6), .inr (4, [.int 0, .ref (bd 7), .int 0]))]) hP hD [0, 1, 2, 3, 4, 5, 6] [] rfl rfl (by decide) (by decide) hk1 hFc hP1 hD1
  have hP : va_P D vwCl [((bd 0), .inr (14, [.ref (bd 1), .ref (bd 2), .ref (bd 3), .ref (bd 4), .ref (bd 5), .ref (bd 6), .int 100, .int (-1), .int 0, .int 1])), ((bd 1), .inr (4, [.int 0, .ref (bd 7), .int 0])), ((bd 2), .inr (4, [.int 0, .ref (bd 7), .int 0])), ((bd 3), .inr (4, [.int 0, .ref (bd 7), .int 0])), ((bd 4), .inr (4, [.int 0, .ref (bd 7), .int 0])), ((bd 5), .inr (4, [.int 0, .ref (bd 7), .int 0])), ((bd 6), .inr (4, [.int 0, .ref (bd 7), .int 0]))] H := hP
  have hD : va_D A [((bd 0), .inr (14, [.ref (bd 1), .ref (bd 2), .ref (bd 3), .ref (bd 4), .ref (bd 5), .ref (bd 6), .int 100, .int (-1), .int 0, .int 1])), ((bd 1), .inr (4, [.int 0, .ref (bd 7), .int 0])), ((bd 2), .inr (4, [.int 0, .ref (bd 7), .int 0])), ((bd 3), .inr (4, [.int 0, .ref (bd 7), .int 0])), ((bd 4), .inr (4, [.int 0, .ref (bd 7), .int 0])), ((bd 5), .inr (4, [.int 0, .ref (bd 7), .int 0])), ((bd 6), .inr (4, [.int 0, .ref (bd 7), .int 0]))] := hD
  refine lv_if_eq (tgt := 57) hx hb dX9_addShade_52 (by decide) (fun c_8 => absurd c_8 (by decide)) (fun _ => ?_)
  refine lv_iconst (v := 0) hx hb dX9_addShade_55 (by decide) ?_
  have hP9 := hP.sub (ws' := [((bd 0), .inr (14, [.ref (bd 1), .ref (bd 2), .ref (bd 3), .ref (bd 4), .ref (bd 5), .ref (bd 6), .int 100, .int (-1), .int 0, .int 1])), ((bd 1), .inr (4, [.int 0, .ref (bd 7), .int 0])), ((bd 2), .inr (4, [.int 0, .ref (bd 7), .int 0])), ((bd 3), .inr (4, [.int 0, .ref (bd 7), .int 0])), ((bd 4), .inr (4, [.int 0, .ref (bd 7), .int 0])), ((bd 5), .inr (4, [.int 0, .ref (bd 7), .int 0])), ((bd 6), .inr (4, [.int 0, .ref (bd 7), .int 0]))]) [0, 1, 2, 3, 4, 5, 6] rfl
  have hD9 := hD.sub (ws' := [((bd 0), .inr (14, [.ref (bd 1), .ref (bd 2), .ref (bd 3), .ref (bd 4), .ref (bd 5), .ref (bd 6), .int 100, .int (-1), .int 0, .int 1])), ((bd 1), .inr (4, [.int 0, .ref (bd 7), .int 0])), ((bd 2), .inr (4, [.int 0, .ref (bd 7), .int 0])), ((bd 3), .inr (4, [.int 0, .ref (bd 7), .int 0])), ((bd 4), .inr (4, [.int 0, .ref (bd 7), .int 0])), ((bd 5), .inr (4, [.int 0, .ref (bd 7), .int 0])), ((bd 6), .inr (4, [.int 0, .ref (bd 7), .int 0]))]) [0, 1, 2, 3, 4, 5, 6] (by decide) rfl
  refine W.widen (k := 0) (n := 0) (Nat.le_of_ble_eq_true rfl) (Nat.le_of_ble_eq_true rfl) ?_
  exact W.iret (v := 0) hx hb hr (fun t ht hW => ⟨⟨0, (), rfl, rfl, by rw [ht]; exact hP9, hD9⟩, hS.F ht⟩) hS.2.2 dX9_addShade_56
theorem dX5_addShade_36 : decode cX5_addShade 36 = .ok (.iload 4, 2) := by decide +kernel
theorem dX5_addShade_38 : decode cX5_addShade 38 = .ok (.iconst 0, 1) := by decide +kernel
theorem dX5_addShade_39 : decode cX5_addShade 39 = .ok (.bipush 31, 2) := by decide +kernel
theorem dX5_addShade_41 : decode cX5_addShade 41 = .ok (.invokestatic 62, 3) := by decide +kernel
set_option maxHeartbeats 4000000 in
set_option maxRecDepth 100000 in
theorem c_X5_addShade3 (l : Launch) (hst : l.stackTraces = false) (D : va_G) (sa : Nat → Nat) (ad : Nat → Nat) (sz : Nat) (p0 : Int32) (p1 : Int32) (p2 : Int32) (p3 : Int32) (hy0 : z_in p0 65 90 = 1) (hy1 : z_in p1 0 31 = 1) (hy2 : z_in p2 0 31 = 1) (hy3 : z_in p3 0 31 = 0) : vx_Met l yX5_addShade ((Cond.code yX5_addShade prog_1_method_2_code 5 (Option.some FieldType.int)) :: WA) ({ frames := 7, cells := 1, slots := 6, locals := 104 }) (zR D sa (zX ad) [.ref (ad 0), .int p0, .int p1, .int p2, .int p3] sz) zF (zXC "java/lang/IllegalArgumentException" sz) 1 6 (zN sz) := by
  refine vx_ofW (cc := prog_1_method_2_code) (maxL := 5) (ret := (Option.some FieldType.int)) (by decide) rfl ?_
  intro p e s m args below meth c s₁ B hml hnt hv
  obtain ⟨rfl, hsz, hP, hK, hT, hZ⟩ := hv
  have hx := B.exec
  have hb := B.bytes
  have hr := B.returns
  have hts := atoms_spec (ws := (Cond.code yX5_addShade prog_1_method_2_code 5 (Option.some FieldType.int)) :: WA) B.pre
  have hw : ∀ w ∈ WA, w.before _ s = true := fun w h => hts w (List.mem_cons_of_mem _ h)
  have hown : s.vm.findClass RX5 = some m.cls := findClass_of_methodNamed B.named
  have hlocks := B.notSynchronized
  subst hsz
  have hA : ∀ q : Nat, s.heap.size ≤ q → zN s.heap.size q := fun _ h => h
  have hS : va_S (zN s.heap.size) s.heap s.heap [] := va_S.rf
  have hP : va_P D vwCl [((ad 0), .inr (10, [.ref (ad 1), .ref (ad 2), .ref (ad 3), .ref (ad 4), .ref (ad 5), .int (-1), .int 100, .int 0, .int 0])), ((ad 1), .inr (7, [.ref (ad 6), .ref (ad 7), .ref (ad 8), .int 0])), ((ad 2), .inr (8, [.ref (ad 9), .ref (ad 10), .int 0])), ((ad 3), .inr (4, [.int 0, .ref (ad 14), .int 0])), ((ad 4), .inr (4, [.int 0, .ref (ad 14), .int 0])), ((ad 5), .inr (6, [.ref (ad 11), .ref (ad 12), .ref (ad 13), .int 0, .int 0]))] s.heap := hP
  have hl := lv_entry [.ref (ad 0), .int p0, .int p1, .int p2, .int p3] (n := 5) (Nat.le_of_ble_eq_true rfl)
  rw [lg_entry_eq]
  generalize (lg_sl [.ref (ad 0), .int p0, .int p1, .int p2, .int p3] ++ List.replicate (5 - (lg_sl [.ref (ad 0), .int p0, .int p1, .int p2, .int p3]).length) Slot.unset).toArray = ls at hl ⊢
  have hl : lv_has ls 5 [(0, .ref (ad 0)), (1, .int p0), (2, .int p1), (3, .int p2), (4, .int p3)] := hl
  refine lv_iload_n hx hb dX5_addShade_0 rfl (lv_at hl 1 rfl) ?_
  refine lv_bipush (v := 65) hx hb dX5_addShade_1 (by decide) ?_
  refine lv_icmp_lt (tgt := 12) hx hb dX5_addShade_3 (by decide) (fun c_1 => absurd c_1 (z_1a hy0)) (fun _ => ?_)
  refine lv_iload_n hx hb dX5_addShade_6 rfl (lv_at hl 1 rfl) ?_
  refine lv_bipush (v := 90) hx hb dX5_addShade_7 (by decide) ?_
  refine lv_icmp_le (tgt := 22) hx hb dX5_addShade_9 (by decide) (fun _ => ?_) (fun c_2 => absurd (zl_le (z_1b hy0)) c_2)
  refine lv_iload_n hx hb dX5_addShade_22 rfl (lv_at hl 2 rfl) ?_
  refine lv_iconst (v := 0) hx hb dX5_addShade_23 (by decide) ?_
  refine lv_bipush (v := 31) hx hb dX5_addShade_24 (by decide) ?_
  have hPc := hP.sub (ws' := []) [] rfl
  refine va_callv (va_runS (As := [.int p1, .int 0, .int 31]) (rest := []) ⟨hx, hb, hml, hown, hw⟩ (c_X5_requireWithin1 l D sa _ p1 0 31 hy1) (va_cwS 3 hw (zg3 zm_414 zm_415 zm_45 zm_416) rfl rfl rfl (by decide +kernel) ⟨Nat.le_of_ble_eq_true rfl, Nat.le_of_ble_eq_true rfl⟩) ⟨zJ_blind, zJ_pre hPc hK hT⟩ rfl rfl hl.1 rfl (lv_room (Nat.le_of_ble_eq_true rfl)) dX5_addShade_26 ⟨Nat.le_of_ble_eq_true rfl, Nat.le_of_ble_eq_true rfl⟩) hS zN_in (zN_fr hS hA) (fun u t H locs ht hvm hw1 hB hz1 hk1 hS => ?_)
  have hP := zN_keep hP hk1
  refine lv_iload_n hx hb dX5_addShade_29 rfl (lv_at hl 3 rfl) ?_
  refine lv_iconst (v := 0) hx hb dX5_addShade_30 (by decide) ?_
  refine lv_bipush (v := 31) hx hb dX5_addShade_31 (by decide) ?_
  have hPc := hP.sub (ws' := []) [] rfl
  refine va_callv (va_runS (As := [.int p2, .int 0, .int 31]) (rest := []) ⟨hx, hb, hml, hown, hw⟩ (c_X5_requireWithin1 l D sa _ p2 0 31 hy2) (va_cwS 3 hw (zg3 zm_414 zm_415 zm_45 zm_416) rfl rfl rfl (by decide +kernel) ⟨Nat.le_of_ble_eq_true rfl, Nat.le_of_ble_eq_true rfl⟩) ⟨zJ_blind, zJ_pre hPc hK hT⟩ rfl rfl hl.1 rfl (lv_room (Nat.le_of_ble_eq_true rfl)) dX5_addShade_33 ⟨Nat.le_of_ble_eq_true rfl, Nat.le_of_ble_eq_true rfl⟩) hS zN_in (zN_fr hS hA) (fun u t H locs ht hvm hw1 hB hz1 hk1 hS => ?_)
  have hP := zN_keep hP hk1
  refine lv_iload hx hb dX5_addShade_36 (lv_at hl 4 rfl) ?_
  refine lv_iconst (v := 0) hx hb dX5_addShade_38 (by decide) ?_
  refine lv_bipush (v := 31) hx hb dX5_addShade_39 (by decide) ?_
  have hPc := hP.sub (ws' := []) [] rfl
  refine zx_call (vx_runS (As := [.int p3, .int 0, .int 31]) (rest := []) ⟨hx, hb, hml, hown, hw⟩ (c_X5_requireWithin0 l hst D sa _ p3 0 31 hy3) (va_cwS 3 hw (zg3 zm_414 zm_415 zm_45 zm_416) rfl rfl rfl (by decide +kernel) ⟨Nat.le_of_ble_eq_true rfl, Nat.le_of_ble_eq_true rfl⟩) ⟨zR_blind, zR_pre hPc hK hT hZ hS hA⟩ rfl rfl hl.1 rfl (lv_room (Nat.le_of_ble_eq_true rfl)) dX5_addShade_41 ⟨Nat.le_of_ble_eq_true rfl, Nat.le_of_ble_eq_true rfl⟩) hS (zN_fr hS hA) zN_in (fun E ce q9 u t H locs ht hvm hu hE hz1 hk1 hS hce hcv hcl => ?_)
  exact vx_out (fun x hx9 => (hnt x hx9).elim) hlocks hce hcv hcl (fun t ht _ => ⟨(), trivial, hE, hS.F ht⟩) (fun z hz => hS.2.2 z hz) (Nat.le_of_ble_eq_true rfl) (Nat.le_of_ble_eq_true rfl)
set_option maxHeartbeats 4000000 in
set_option maxRecDepth 100000 in
theorem c_L_addShade3 (l : Launch) (hst : l.stackTraces = false) (D : va_G) (sa : Nat → Nat) (ad : Nat → Nat) (sz : Nat) (p0 : Int32) (p1 : Int32) (p2 : Int32) (p3 : Int32) (oa : Nat) (hy0 : z_in p0 65 90 = 1) (hy1 : z_in p1 0 31 = 1) (hy2 : z_in p2 0 31 = 1) (hy3 : z_in p3 0 31 = 0) : vx_Met l yL_addShade ((Cond.codeWith yL_addShade method_3_code 7 (Option.some FieldType.int) [(0, 14, 17, 13), (0, 14, 21, 15), (0, 14, 25, 17)]) :: WA) ({ frames := 8, cells := 1, slots := 6, locals := 128 }) (zR D sa (zX ad) [.ref (ad 0), .int p0, .int p1, .int p2, .int p3, .ref oa] sz) (va_Qi (fun (r : Int32) (_ : Unit) => r = 1) (fun _ _ => True) (zN sz)) (zX0 sz) 1 6 (zN sz) := by
  refine vx_ofWH (cc := method_3_code) (maxL := 7) (ret := (Option.some FieldType.int)) (hh := [(0, 14, 17, 13), (0, 14, 21, 15), (0, 14, 25, 17)]) (by decide) rfl ?_
  intro p e s m args below meth c s₁ B hml hv
  obtain ⟨rfl, hsz, hP, hK, hT, hZ⟩ := hv
  have hx := B.exec
  have hb := B.bytes
  have hr := B.returns
  have hts := atoms_spec (ws := (Cond.codeWith yL_addShade method_3_code 7 (Option.some FieldType.int) [(0, 14, 17, 13), (0, 14, 21, 15), (0, 14, 25, 17)]) :: WA) B.pre
  have hw : ∀ w ∈ WA, w.before _ s = true := fun w h => hts w (List.mem_cons_of_mem _ h)
  have htab := vx_table (x := yL_addShade) B (hts _ List.mem_cons_self)
  have hown : s.vm.findClass RL = some m.cls := findClass_of_methodNamed B.named
  have hlocks := B.notSynchronized
  subst hsz
  have hA : ∀ q : Nat, s.heap.size ≤ q → zN s.heap.size q := fun _ h => h
  have hS : va_S (zN s.heap.size) s.heap s.heap [] := va_S.rf
  have hP : va_P D vwCl [((ad 0), .inr (10, [.ref (ad 1), .ref (ad 2), .ref (ad 3), .ref (ad 4), .ref (ad 5), .int (-1), .int 100, .int 0, .int 0])), ((ad 1), .inr (7, [.ref (ad 6), .ref (ad 7), .ref (ad 8), .int 0])), ((ad 2), .inr (8, [.ref (ad 9), .ref (ad 10), .int 0])), ((ad 3), .inr (4, [.int 0, .ref (ad 14), .int 0])), ((ad 4), .inr (4, [.int 0, .ref (ad 14), .int 0])), ((ad 5), .inr (6, [.ref (ad 11), .ref (ad 12), .ref (ad 13), .int 0, .int 0]))] s.heap := hP
  have hl := lv_entry [.ref (ad 0), .int p0, .int p1, .int p2, .int p3, .ref oa] (n := 7) (Nat.le_of_ble_eq_true rfl)
  rw [lg_entry_eq]
  generalize (lg_sl [.ref (ad 0), .int p0, .int p1, .int p2, .int p3, .ref oa] ++ List.replicate (7 - (lg_sl [.ref (ad 0), .int p0, .int p1, .int p2, .int p3, .ref oa]).length) Slot.unset).toArray = ls at hl ⊢
  have hl : lv_has ls 7 [(0, .ref (ad 0)), (1, .int p0), (2, .int p1), (3, .int p2), (4, .int p3), (5, .ref oa)] := hl
  refine lv_aload hx hb dL_addShade_0 (lv_at hl 5 rfl) ?_
  refine lv_iconst (v := 0) hx hb dL_addShade_2 (by decide) ?_
  refine lv_aload_n hx hb dL_addShade_3 rfl (lv_at hl 0 rfl) ?_
  refine lv_iload_n hx hb dL_addShade_4 rfl (lv_at hl 1 rfl) ?_
  refine lv_iload_n hx hb dL_addShade_5 rfl (lv_at hl 2 rfl) ?_
  refine lv_iload_n hx hb dL_addShade_6 rfl (lv_at hl 3 rfl) ?_
  refine lv_iload hx hb dL_addShade_7 (lv_at hl 4 rfl) ?_
  refine zx_call (vx_runV (As := [.int p0, .int p1, .int p2, .int p3]) (rest := [.int 0, .ref oa]) ⟨hx, hb, hml, hown, hw⟩ (c_X5_addShade3 l hst D sa ad _ p0 p1 p2 p3 hy0 hy1 hy2 hy3) (cwV 4 hw (zg4 zm_338 zm_339 zm_340 zm_45 zm_341) rfl rfl rfl (by decide +kernel) ⟨Nat.le_of_ble_eq_true rfl, Nat.le_of_ble_eq_true rfl⟩) ⟨zR_blind, va_recv hK hP (ci := 10) (q0 := 0) rfl rfl, zR_pre hP hK hT hZ hS hA⟩ rfl rfl hl.1 rfl (lv_room (Nat.le_of_ble_eq_true rfl)) dL_addShade_9 ⟨Nat.le_of_ble_eq_true rfl, Nat.le_of_ble_eq_true rfl⟩) hS (zN_fr hS hA) zN_in (fun E ce q9 u t H locs ht hvm hu hE hz1 hk1 hS hce hcv hcl => ?_)
  subst hE
  refine vx_catch hown [] ⟨0, 14, 17, 13⟩ (tableOf [(0, 14, 21, 15), (0, 14, 25, 17)]) htab (fun z hz => absurd hz List.not_mem_nil) (by decide) (by decide) (hw _ zm_335) (hT.c 0 rfl) hce hcv hcl ?_
  refine lv_astore (lv' := [(6, .ref q9), (0, .ref (ad 0)), (1, .int p0), (2, .int p1), (3, .int p2), (4, .int p3), (5, .ref oa)]) hx hb dL_addShade_17 hl (by decide) rfl (fun ls hl => ?_)
  refine lv_iconst (v := 1) hx hb dL_addShade_19 (by decide) ?_
  refine vx_ret ?_
  exact W.iret (v := 1) hx hb hr (fun t ht hW => ⟨⟨1, (), rfl, rfl, trivial⟩, hS.F ht⟩) hS.2.2 dL_addShade_20
theorem dX9_addShade_32 : decode cX9_addShade 32 = .ok (.iload 4, 2) := by decide +kernel
theorem dX9_addShade_34 : decode cX9_addShade 34 = .ok (.iconst 0, 1) := by decide +kernel
theorem dX9_addShade_35 : decode cX9_addShade 35 = .ok (.bipush 31, 2) := by decide +kernel
theorem dX9_addShade_37 : decode cX9_addShade 37 = .ok (.invokestatic 47, 3) := by decide +kernel
theorem dX9_addShade_40 : decode cX9_addShade 40 = .ok (.ifCond .eq 7, 3) := by decide +kernel
set_option maxHeartbeats 4000000 in
set_option maxRecDepth 100000 in
theorem c_X9_addShade3 (l : Launch) (D : va_G) (sa : Nat → Nat) (ea : Nat) (bd : Nat → Nat) (th : Int32) (sz : Nat) (p0 : Int32) (p1 : Int32) (p2 : Int32) (p3 : Int32) (hy0 : z_in p0 65 90 = 1) (hy1 : z_in p1 0 31 = 1) (hy2 : z_in p2 0 31 = 1) (hy3 : z_in p3 0 31 = 0) : Met l yX9_addShade ((Cond.code yX9_addShade prog_8_method_7_code 8 (Option.some FieldType.int)) :: WA) ({ frames := 1, cells := 0, slots := 0, locals := 22 }) (zW D sa ea [] (zM bd th) [.ref (bd 0), .int p0, .int p1, .int p2, .int p3] sz) (va_Qi (fun (r : Int32) (_ : Unit) => r = 0) (fun _ t => va_P D vwCl [((bd 0), .inr (14, [.ref (bd 1), .ref (bd 2), .ref (bd 3), .ref (bd 4), .ref (bd 5), .ref (bd 6), .int 100, .int (-1), .int 0, .int 1])), ((bd 1), .inr (4, [.int 0, .ref (bd 7), .int 0])), ((bd 2), .inr (4, [.int 0, .ref (bd 7), .int 0])), ((bd 3), .inr (4, [.int 0, .ref (bd 7), .int 0])), ((bd 4), .inr (4, [.int 0, .ref (bd 7), .int 0])), ((bd 5), .inr (4, [.int 0, .ref (bd 7), .int 0])), ((bd 6), .inr (4, [.int 0, .ref (bd 7), .int 0]))] t.heap ∧ va_D (va_A (zM bd th) sz) [((bd 0), .inr (14, [.ref (bd 1), .ref (bd 2), .ref (bd 3), .ref (bd 4), .ref (bd 5), .ref (bd 6), .int 100, .int (-1), .int 0, .int 1])), ((bd 1), .inr (4, [.int 0, .ref (bd 7), .int 0])), ((bd 2), .inr (4, [.int 0, .ref (bd 7), .int 0])), ((bd 3), .inr (4, [.int 0, .ref (bd 7), .int 0])), ((bd 4), .inr (4, [.int 0, .ref (bd 7), .int 0])), ((bd 5), .inr (4, [.int 0, .ref (bd 7), .int 0])), ((bd 6), .inr (4, [.int 0, .ref (bd 7), .int 0]))]) (va_A (zM bd th) sz)) 0 0 (va_A (zM bd th) sz) := by
  refine Met.ofW (cc := prog_8_method_7_code) (maxL := 8) (ret := (Option.some FieldType.int)) (by decide) rfl ?_
  intro p e s m args below meth c s₁ B hml hv
  obtain ⟨rfl, hsz, hP, hK, hD0, hT, hE⟩ := hv
  have hx := B.exec
  have hb := B.bytes
  have hr := B.returns
  have hts := atoms_spec (ws := (Cond.code yX9_addShade prog_8_method_7_code 8 (Option.some FieldType.int)) :: WA) B.pre
  have hw : ∀ w ∈ WA, w.before _ s = true := fun w h => hts w (List.mem_cons_of_mem _ h)
  have hown : s.vm.findClass RX9 = some m.cls := findClass_of_methodNamed B.named
  have hlocks := B.notSynchronized
  subst hsz
  have hD := hD0.self (sz := s.heap.size)
  generalize hAe : va_A (zM bd th) s.heap.size = A at hD hE ⊢
  have hA : ∀ q : Nat, s.heap.size ≤ q → A q := fun q h => by rw [← hAe]; exact Or.inr h
  have hS : va_S A s.heap s.heap [] := va_S.rf
  have hP : va_P D vwCl [((bd 0), .inr (14, [.ref (bd 1), .ref (bd 2), .ref (bd 3), .ref (bd 4), .ref (bd 5), .ref (bd 6), .int 100, .int (-1), .int 0, .int th])), ((bd 1), .inr (4, [.int 0, .ref (bd 7), .int 0])), ((bd 2), .inr (4, [.int 0, .ref (bd 7), .int 0])), ((bd 3), .inr (4, [.int 0, .ref (bd 7), .int 0])), ((bd 4), .inr (4, [.int 0, .ref (bd 7), .int 0])), ((bd 5), .inr (4, [.int 0, .ref (bd 7), .int 0])), ((bd 6), .inr (4, [.int 0, .ref (bd 7), .int 0]))] s.heap := hP
  have hD : va_D A [((bd 0), .inr (14, [.ref (bd 1), .ref (bd 2), .ref (bd 3), .ref (bd 4), .ref (bd 5), .ref (bd 6), .int 100, .int (-1), .int 0, .int th])), ((bd 1), .inr (4, [.int 0, .ref (bd 7), .int 0])), ((bd 2), .inr (4, [.int 0, .ref (bd 7), .int 0])), ((bd 3), .inr (4, [.int 0, .ref (bd 7), .int 0])), ((bd 4), .inr (4, [.int 0, .ref (bd 7), .int 0])), ((bd 5), .inr (4, [.int 0, .ref (bd 7), .int 0])), ((bd 6), .inr (4, [.int 0, .ref (bd 7), .int 0]))] := hD
  have hl := lv_entry [.ref (bd 0), .int p0, .int p1, .int p2, .int p3] (n := 8) (Nat.le_of_ble_eq_true rfl)
  rw [lg_entry_eq]
  generalize (lg_sl [.ref (bd 0), .int p0, .int p1, .int p2, .int p3] ++ List.replicate (8 - (lg_sl [.ref (bd 0), .int p0, .int p1, .int p2, .int p3]).length) Slot.unset).toArray = ls at hl ⊢
  have hl : lv_has ls 8 [(0, .ref (bd 0)), (1, .int p0), (2, .int p1), (3, .int p2), (4, .int p3)] := hl
  refine lv_aload_n hx hb dX9_addShade_0 rfl (lv_at hl 0 rfl) ?_
  refine lv_iload_n hx hb dX9_addShade_1 rfl (lv_at hl 1 rfl) ?_
  refine lv_bipush (v := 65) hx hb dX9_addShade_2 (by decide) ?_
  refine lv_bipush (v := 90) hx hb dX9_addShade_4 (by decide) ?_
  have hPc := hP.sub (ws' := []) [] rfl
  refine va_calli (va_runS (As := [.int p0, .int 65, .int 90]) (rest := [.ref (bd 0)]) ⟨hx, hb, hml, hown, hw⟩ (c_X9_isIn l D sa _ p0 65 90) (va_cwS 3 hw (zg3 zm_1311 zm_1312 zm_53 zm_1313) rfl rfl rfl (by decide +kernel) ⟨Nat.le_of_ble_eq_true rfl, Nat.le_of_ble_eq_true rfl⟩) ⟨zJ_blind, zJ_pre hPc hK hT⟩ rfl rfl hl.1 rfl (lv_room (Nat.le_of_ble_eq_true rfl)) dX9_addShade_6 ⟨Nat.le_of_ble_eq_true rfl, Nat.le_of_ble_eq_true rfl⟩) hS zN_in (zN_fr hS hA) (fun r_1 u t H locs ht hvm hw1 hB hz1 hk1 hS => ?_)
  have hP := zN_keep hP hk1
  rw [hy0] at hw1
  subst hw1
  refine lv_if_eq (tgt := 47) hx hb dX9_addShade_9 (by decide) (fun c_2 => absurd c_2 (by decide)) (fun _ => ?_)
  refine lv_iload_n hx hb dX9_addShade_12 rfl (lv_at hl 2 rfl) ?_
  refine lv_iconst (v := 0) hx hb dX9_addShade_13 (by decide) ?_
  refine lv_bipush (v := 31) hx hb dX9_addShade_14 (by decide) ?_
  have hPc := hP.sub (ws' := []) [] rfl
  refine va_calli (va_runS (As := [.int p1, .int 0, .int 31]) (rest := [.ref (bd 0)]) ⟨hx, hb, hml, hown, hw⟩ (c_X9_isIn l D sa _ p1 0 31) (va_cwS 3 hw (zg3 zm_1311 zm_1312 zm_53 zm_1313) rfl rfl rfl (by decide +kernel) ⟨Nat.le_of_ble_eq_true rfl, Nat.le_of_ble_eq_true rfl⟩) ⟨zJ_blind, zJ_pre hPc hK hT⟩ rfl rfl hl.1 rfl (lv_room (Nat.le_of_ble_eq_true rfl)) dX9_addShade_16 ⟨Nat.le_of_ble_eq_true rfl, Nat.le_of_ble_eq_true rfl⟩) hS zN_in (zN_fr hS hA) (fun r_3 u t H locs ht hvm hw1 hB hz1 hk1 hS => ?_)
  have hP := zN_keep hP hk1
  rw [hy1] at hw1
  subst hw1
  refine lv_if_eq (tgt := 47) hx hb dX9_addShade_19 (by decide) (fun c_4 => absurd c_4 (by decide)) (fun _ => ?_)
  refine lv_iload_n hx hb dX9_addShade_22 rfl (lv_at hl 3 rfl) ?_
  refine lv_iconst (v := 0) hx hb dX9_addShade_23 (by decide) ?_
  refine lv_bipush (v := 31) hx hb dX9_addShade_24 (by decide) ?_
  have hPc := hP.sub (ws' := []) [] rfl
  refine va_calli (va_runS (As := [.int p2, .int 0, .int 31]) (rest := [.ref (bd 0)]) ⟨hx, hb, hml, hown, hw⟩ (c_X9_isIn l D sa _ p2 0 31) (va_cwS 3 hw (zg3 zm_1311 zm_1312 zm_53 zm_1313) rfl rfl rfl (by decide +kernel) ⟨Nat.le_of_ble_eq_true rfl, Nat.le_of_ble_eq_true rfl⟩) ⟨zJ_blind, zJ_pre hPc hK hT⟩ rfl rfl hl.1 rfl (lv_room (Nat.le_of_ble_eq_true rfl)) dX9_addShade_26 ⟨Nat.le_of_ble_eq_true rfl, Nat.le_of_ble_eq_true rfl⟩) hS zN_in (zN_fr hS hA) (fun r_5 u t H locs ht hvm hw1 hB hz1 hk1 hS => ?_)
  have hP := zN_keep hP hk1
  rw [hy2] at hw1
  subst hw1
  refine lv_if_eq (tgt := 47) hx hb dX9_addShade_29 (by decide) (fun c_6 => absurd c_6 (by decide)) (fun _ => ?_)
  refine lv_iload hx hb dX9_addShade_32 (lv_at hl 4 rfl) ?_
  refine lv_iconst (v := 0) hx hb dX9_addShade_34 (by decide) ?_
  refine lv_bipush (v := 31) hx hb dX9_addShade_35 (by decide) ?_
  have hPc := hP.sub (ws' := []) [] rfl
  refine va_calli (va_runS (As := [.int p3, .int 0, .int 31]) (rest := [.ref (bd 0)]) ⟨hx, hb, hml, hown, hw⟩ (c_X9_isIn l D sa _ p3 0 31) (va_cwS 3 hw (zg3 zm_1311 zm_1312 zm_53 zm_1313) rfl rfl rfl (by decide +kernel) ⟨Nat.le_of_ble_eq_true rfl, Nat.le_of_ble_eq_true rfl⟩) ⟨zJ_blind, zJ_pre hPc hK hT⟩ rfl rfl hl.1 rfl (lv_room (Nat.le_of_ble_eq_true rfl)) dX9_addShade_37 ⟨Nat.le_of_ble_eq_true rfl, Nat.le_of_ble_eq_true rfl⟩) hS zN_in (zN_fr hS hA) (fun r_7 u t H locs ht hvm hw1 hB hz1 hk1 hS => ?_)
  have hP := zN_keep hP hk1
  rw [hy3] at hw1
  subst hw1
  refine lv_if_eq (tgt := 47) hx hb dX9_addShade_40 (by decide) (fun _ => ?_) (fun c_8 => absurd (by decide) c_8)
  refine lv_iconst (v := 0) hx hb dX9_addShade_47 (by decide) ?_
  refine lv_iconst (v := 1) hx hb dX9_addShade_48 (by decide) ?_
  have hFc := va_free (wc := [((bd 0), .inr (14, [.ref (bd 1), .ref (bd 2), .ref (bd 3), .ref (bd 4), .ref (bd 5), .ref (bd 6), .int 100, .int (-1), .int 0, .int th])), ((bd 1), .inr (4, [.int 0, .ref (bd 7), .int 0])), ((bd 2), .inr (4, [.int 0, .ref (bd 7), .int 0])), ((bd 3), .inr (4, [.int 0, .ref (bd 7), .int 0])), ((bd 4), .inr (4, [.int 0, .ref (bd 7), .int 0])), ((bd 5), .inr (4, [.int 0, .ref (bd 7), .int 0])), ((bd 6), .inr (4, [.int 0, .ref (bd 7), .int 0]))]) hD hS hA [0, 1, 2, 3, 4, 5, 6] rfl
  refine va_calli (va_runV (As := [.int 0, .int 1]) (rest := []) ⟨hx, hb, hml, hown, hw⟩ (c_X9_no0 l D sa ea bd th _ 1) (cwV 2 hw (zg4 zm_1314 zm_1316 zm_26 zm_53 zm_1317) rfl rfl rfl (by decide +kernel) ⟨Nat.le_of_ble_eq_true rfl, Nat.le_of_ble_eq_true rfl⟩) ⟨zW_blind, va_recv hK hP (ci := 14) (q0 := 0) rfl rfl, zW_pre hP hK hD hT hE hS hFc⟩ rfl rfl hl.1 rfl (lv_room (Nat.le_of_ble_eq_true rfl)) dX9_addShade_49 ⟨Nat.le_of_ble_eq_true rfl, Nat.le_of_ble_eq_true rfl⟩) hS (fun q _ h => hFc q h) hFc (fun r_9 u t H locs ht hvm hw1 hB hz1 hk1 hS => ?_)
  subst hw1
  obtain ⟨hP1, hD1⟩ := hB
  rw [ht] at hP1
  obtain ⟨hP, hD⟩ := va_join (wr := []) (w1 := [((bd 0), .inr (14, [.ref (bd 1), .ref (bd 2), .ref (bd 3), .ref (bd 4), .ref (bd 5), .ref (bd 6), .int 100, .int (-1), .int 0, .int 1])), ((bd 1), .inr (4, [.int 0, .ref (bd 7), .int 0])), ((bd 2), .inr (4, [.int 0, .ref (bd 7), .int 0])), ((bd 3), .inr (4, [.int 0, .ref (bd 7), .int 0])), ((bd 4), .inr (4, [.int 0, .ref (bd 7), .int 0])), ((bd 5), .inr (4, [.int 0, .ref (bd 7), .int 0])), ((bd 6), .inr (4, [.int 0, .ref (bd 7), .int 0]))]) hP hD [0, 1, 2, 3, 4, 5, 6] [] rfl rfl (by decide) (by decide) hk1 hFc hP1 hD1
  have hP : va_P D vwCl [((bd 0), .inr (14, [.ref (bd 1), .ref (bd 2), .ref (bd 3), .ref (bd 4), .ref (bd 5), .ref (bd 6), .int 100, .int (-1), .int 0, .int 1])), ((bd 1), .inr (4, [.int 0, .ref (bd 7), .int 0])), ((bd 2), .inr (4, [.int 0, .ref (bd 7), .int 0])), ((bd 3), .inr (4, [.int 0, .ref (bd 7), .int 0])), ((bd 4), .inr (4, [.int 0, .ref (bd 7), .int 0])), ((bd 5), .inr (4, [.int 0, .ref (bd 7), .int 0])), ((bd 6), .inr (4, [.int 0, .ref (bd 7), .int 0]))] H := hP
  have hD : va_D A [((bd 0), .inr (14, [.ref (bd 1), .ref (bd 2), .ref (bd 3), .ref (bd 4), .ref (bd 5), .ref (bd 6), .int 100, .int (-1), .int 0, .int 1])), ((bd 1), .inr (4, [.int 0, .ref (bd 7), .int 0])), ((bd 2), .inr (4, [.int 0, .ref (bd 7), .int 0])), ((bd 3), .inr (4, [.int 0, .ref (bd 7), .int 0])), ((bd 4), .inr (4, [.int 0, .ref (bd 7), .int 0])), ((bd 5), .inr (4, [.int 0, .ref (bd 7), .int 0])), ((bd 6), .inr (4, [.int 0, .ref (bd 7), .int 0]))] := hD
  refine lv_if_eq (tgt := 57) hx hb dX9_addShade_52 (by decide) (fun c_10 => absurd c_10 (by decide)) (fun _ => ?_)
  refine lv_iconst (v := 0) hx hb dX9_addShade_55 (by decide) ?_
  have hP9 := hP.sub (ws' := [((bd 0), .inr (14, [.ref (bd 1), .ref (bd 2), .ref (bd 3), .ref (bd 4), .ref (bd 5), .ref (bd 6), .int 100, .int (-1), .int 0, .int 1])), ((bd 1), .inr (4, [.int 0, .ref (bd 7), .int 0])), ((bd 2), .inr (4, [.int 0, .ref (bd 7), .int 0])), ((bd 3), .inr (4, [.int 0, .ref (bd 7), .int 0])), ((bd 4), .inr (4, [.int 0, .ref (bd 7), .int 0])), ((bd 5), .inr (4, [.int 0, .ref (bd 7), .int 0])), ((bd 6), .inr (4, [.int 0, .ref (bd 7), .int 0]))]) [0, 1, 2, 3, 4, 5, 6] rfl
  have hD9 := hD.sub (ws' := [((bd 0), .inr (14, [.ref (bd 1), .ref (bd 2), .ref (bd 3), .ref (bd 4), .ref (bd 5), .ref (bd 6), .int 100, .int (-1), .int 0, .int 1])), ((bd 1), .inr (4, [.int 0, .ref (bd 7), .int 0])), ((bd 2), .inr (4, [.int 0, .ref (bd 7), .int 0])), ((bd 3), .inr (4, [.int 0, .ref (bd 7), .int 0])), ((bd 4), .inr (4, [.int 0, .ref (bd 7), .int 0])), ((bd 5), .inr (4, [.int 0, .ref (bd 7), .int 0])), ((bd 6), .inr (4, [.int 0, .ref (bd 7), .int 0]))]) [0, 1, 2, 3, 4, 5, 6] (by decide) rfl
  refine W.widen (k := 0) (n := 0) (Nat.le_of_ble_eq_true rfl) (Nat.le_of_ble_eq_true rfl) ?_
  exact W.iret (v := 0) hx hb hr (fun t ht hW => ⟨⟨0, (), rfl, rfl, by rw [ht]; exact hP9, hD9⟩, hS.F ht⟩) hS.2.2 dX9_addShade_56
set_option maxHeartbeats 4000000 in
set_option maxRecDepth 100000 in
theorem c_Jx4a65c_size1 (l : Launch) (D : va_G) (sa : Nat → Nat) (h : Nat) (x0 : Int32) (x1 : Nat) (sz : Nat) : Met l yJx4a65c_size_8abf5 ((Cond.code yJx4a65c_size_8abf5 prog_35_method_8_code 1 (Option.some FieldType.int)) :: WA) ({ frames := 0, cells := 0, slots := 0, locals := 0 }) (zJ D sa [(h, .inr (4, [.int x0, .ref x1, .int 1]))] [.ref h] sz) (va_Qi (fun (r : Int32) (_ : Unit) => r = 1) (fun _ _ => True) (zN sz)) 0 0 (zN sz) := by
  refine Met.ofW (cc := prog_35_method_8_code) (maxL := 1) (ret := (Option.some FieldType.int)) (by decide) rfl ?_
  intro p e s m args below meth c s₁ B hml hv
  obtain ⟨rfl, hsz, hP, hK, hT⟩ := hv
  have hx := B.exec
  have hb := B.bytes
  have hr := B.returns
  have hts := atoms_spec (ws := (Cond.code yJx4a65c_size_8abf5 prog_35_method_8_code 1 (Option.some FieldType.int)) :: WA) B.pre
  have hw : ∀ w ∈ WA, w.before _ s = true := fun w h => hts w (List.mem_cons_of_mem _ h)
  have hown : s.vm.findClass RJx4a65c = some m.cls := findClass_of_methodNamed B.named
  have hlocks := B.notSynchronized
  subst hsz
  have hA : ∀ q : Nat, s.heap.size ≤ q → zN s.heap.size q := fun _ h => h
  have hS : va_S (zN s.heap.size) s.heap s.heap [] := va_S.rf
  have hP : va_P D vwCl [(h, .inr (4, [.int x0, .ref x1, .int 1]))] s.heap := hP
  have hl := lv_entry [.ref h] (n := 1) (Nat.le_of_ble_eq_true rfl)
  rw [lg_entry_eq]
  generalize (lg_sl [.ref h] ++ List.replicate (1 - (lg_sl [.ref h]).length) Slot.unset).toArray = ls at hl ⊢
  have hl : lv_has ls 1 [(0, .ref h)] := hl
  refine lv_aload_n hx hb dJx4a65c_size_8abf5_0 rfl (lv_at hl 0 rfl) ?_
  refine va_get (D := D) (ci := 4) (v := .int 1) (C := RJx4a65c) (T := TJx4a65c) (N := 3) hx hb hw zi_RJx4a65c hown hK hP 0 rfl rfl 2 (by decide) (hw _ zm_147) (fun _ h9 => h9) rfl dJx4a65c_size_8abf5_1 ?_
  exact W.iret (v := 1) hx hb hr (fun t ht hW => ⟨⟨1, (), rfl, rfl, trivial⟩, hS.F ht⟩) hS.2.2 dJx4a65c_size_8abf5_4
theorem dX9_addShade_43 : decode cX9_addShade 43 = .ok (.iconst 1, 1) := by decide +kernel
theorem dX9_addShade_44 : decode cX9_addShade 44 = .ok (.goto 4, 3) := by decide +kernel
theorem dX9_addShade_57 : decode cX9_addShade 57 = .ok (.iconst 1, 1) := by decide +kernel
theorem dX9_addShade_58 : decode cX9_addShade 58 = .ok (.istore 5, 2) := by decide +kernel
theorem dX9_addShade_60 : decode cX9_addShade 60 = .ok (.aload_n 0, 1) := by decide +kernel
theorem dX9_addShade_61 : decode cX9_addShade 61 = .ok (.getfield 10, 3) := by decide +kernel
theorem dX9_addShade_64 : decode cX9_addShade 64 = .ok (.invokeinterface 55 1, 5) := by decide +kernel
theorem dX9_addShade_69 : decode cX9_addShade 69 = .ok (.astore 6, 2) := by decide +kernel
theorem dX9_addShade_71 : decode cX9_addShade 71 = .ok (.aload 6, 2) := by decide +kernel
theorem dX9_addShade_73 : decode cX9_addShade 73 = .ok (.invokeinterface 59 1, 5) := by decide +kernel
theorem dX9_addShade_78 : decode cX9_addShade 78 = .ok (.ifCond .eq 36, 3) := by decide +kernel
theorem dX9_addShade_114 : decode cX9_addShade 114 = .ok (.aload_n 0, 1) := by decide +kernel
theorem dX9_addShade_115 : decode cX9_addShade 115 = .ok (.iload 5, 2) := by decide +kernel
theorem dX9_addShade_117 : decode cX9_addShade 117 = .ok (.iconst 2, 1) := by decide +kernel
theorem dX9_addShade_118 : decode cX9_addShade 118 = .ok (.invokevirtual 51, 3) := by decide +kernel
theorem dX9_addShade_121 : decode cX9_addShade 121 = .ok (.ifCond .ne 30, 3) := by decide +kernel
theorem dX9_addShade_124 : decode cX9_addShade 124 = .ok (.aload_n 0, 1) := by decide +kernel
theorem dX9_addShade_125 : decode cX9_addShade 125 = .ok (.aload_n 0, 1) := by decide +kernel
theorem dX9_addShade_126 : decode cX9_addShade 126 = .ok (.getfield 10, 3) := by decide +kernel
theorem dX9_addShade_129 : decode cX9_addShade 129 = .ok (.invokeinterface 41 1, 5) := by decide +kernel
theorem dX9_addShade_134 : decode cX9_addShade 134 = .ok (.bipush 12, 2) := by decide +kernel
theorem dX9_addShade_136 : decode cX9_addShade 136 = .ok (.if_icmp .ge 7, 3) := by decide +kernel
theorem dX9_addShade_139 : decode cX9_addShade 139 = .ok (.iconst 1, 1) := by decide +kernel
theorem dX9_addShade_140 : decode cX9_addShade 140 = .ok (.goto 4, 3) := by decide +kernel
theorem dX9_addShade_144 : decode cX9_addShade 144 = .ok (.iconst 3, 1) := by decide +kernel
theorem dX9_addShade_145 : decode cX9_addShade 145 = .ok (.invokevirtual 51, 3) := by decide +kernel
theorem dX9_addShade_148 : decode cX9_addShade 148 = .ok (.ifCond .eq 5, 3) := by decide +kernel
theorem dX9_addShade_153 : decode cX9_addShade 153 = .ok (.aload_n 0, 1) := by decide +kernel
theorem dX9_addShade_154 : decode cX9_addShade 154 = .ok (.getfield 10, 3) := by decide +kernel
theorem dX9_addShade_157 : decode cX9_addShade 157 = .ok (.iconst 4, 1) := by decide +kernel
theorem dX9_addShade_158 : decode cX9_addShade 158 = .ok (.newarray .int, 2) := by decide +kernel
theorem dX9_addShade_160 : decode cX9_addShade 160 = .ok (.dup, 1) := by decide +kernel
theorem dX9_addShade_161 : decode cX9_addShade 161 = .ok (.iconst 0, 1) := by decide +kernel
theorem dX9_addShade_162 : decode cX9_addShade 162 = .ok (.iload_n 2, 1) := by decide +kernel
theorem dX9_addShade_163 : decode cX9_addShade 163 = .ok (.iastore, 1) := by decide +kernel
theorem dX9_addShade_164 : decode cX9_addShade 164 = .ok (.dup, 1) := by decide +kernel
theorem dX9_addShade_165 : decode cX9_addShade 165 = .ok (.iconst 1, 1) := by decide +kernel
theorem dX9_addShade_166 : decode cX9_addShade 166 = .ok (.iload_n 3, 1) := by decide +kernel
theorem dX9_addShade_167 : decode cX9_addShade 167 = .ok (.iastore, 1) := by decide +kernel
theorem dX9_addShade_168 : decode cX9_addShade 168 = .ok (.dup, 1) := by decide +kernel
theorem dX9_addShade_169 : decode cX9_addShade 169 = .ok (.iconst 2, 1) := by decide +kernel
theorem dX9_addShade_170 : decode cX9_addShade 170 = .ok (.iload 4, 2) := by decide +kernel
theorem dX9_addShade_172 : decode cX9_addShade 172 = .ok (.iastore, 1) := by decide +kernel
theorem dX9_addShade_173 : decode cX9_addShade 173 = .ok (.dup, 1) := by decide +kernel
theorem dX9_addShade_174 : decode cX9_addShade 174 = .ok (.iconst 3, 1) := by decide +kernel
theorem dX9_addShade_175 : decode cX9_addShade 175 = .ok (.iload_n 1, 1) := by decide +kernel
theorem dX9_addShade_176 : decode cX9_addShade 176 = .ok (.iastore, 1) := by decide +kernel
theorem dX9_addShade_177 : decode cX9_addShade 177 = .ok (.invokeinterface 71 2, 5) := by decide +kernel
theorem zm_1390 : Cond.methodLink RX9 71 ⟨"java/util/List", "add", "(Ljava/lang/Object;)Z"⟩ ∈ WA := zmm (i := 1390) (by decide +kernel) (by decide +kernel)
theorem zm_1393 : Cond.selects RJx4a65c ⟨"java/util/List", "add", "(Ljava/lang/Object;)Z"⟩ yJx4a65c_add_9ea2d ∈ WA := zmm (i := 1393) (by decide +kernel) (by decide +kernel)
theorem zm_682 : Cond.instanceMethod yJx4a65c_add_9ea2d ∈ WA := zmm (i := 682) (by decide +kernel) (by decide +kernel)
theorem zm_684 : Cond.code yJx4a65c_add_9ea2d prog_35_method_25_code 2 (Option.some FieldType.boolean) ∈ WA := zmm (i := 684) (by decide +kernel) (by decide +kernel)
theorem dX9_addShade_182 : decode cX9_addShade 182 = .ok (.pop, 1) := by decide +kernel
theorem dX9_addShade_183 : decode cX9_addShade 183 = .ok (.aload_n 0, 1) := by decide +kernel
theorem dX9_addShade_184 : decode cX9_addShade 184 = .ok (.getfield 10, 3) := by decide +kernel
theorem dX9_addShade_187 : decode cX9_addShade 187 = .ok (.invokeinterface 41 1, 5) := by decide +kernel
theorem dX9_addShade_192 : decode cX9_addShade 192 = .ok (.iconst 1, 1) := by decide +kernel
theorem dX9_addShade_193 : decode cX9_addShade 193 = .ok (.isub, 1) := by decide +kernel
theorem dX9_addShade_194 : decode cX9_addShade 194 = .ok (.ireturn, 1) := by decide +kernel
set_option maxHeartbeats 4000000 in
set_option maxRecDepth 100000 in
theorem c_X9_addShade4 (l : Launch) (D : va_G) (sa : Nat → Nat) (ea : Nat) (bd : Nat → Nat) (th : Int32) (sz : Nat) (p0 : Int32) (p1 : Int32) (p2 : Int32) (p3 : Int32) (hy0 : z_in p0 65 90 = 1) (hy1 : z_in p1 0 31 = 1) (hy2 : z_in p2 0 31 = 1) (hy3 : z_in p3 0 31 = 1) (he : ea = bd 7) : Met l yX9_addShade ((Cond.code yX9_addShade prog_8_method_7_code 8 (Option.some FieldType.int)) :: WA) ({ frames := 5, cells := 3, slots := 18, locals := 101 }) (zG D sa ea [] (zM bd th) [.ref (bd 0), .int p0, .int p1, .int p2, .int p3] sz) (va_Qi (fun (r : Int32) (_ : Unit) => r = 0) (fun _ t => va_P D vwCl [((bd 0), .inr (14, [.ref (bd 1), .ref (bd 2), .ref (bd 3), .ref (bd 4), .ref (bd 5), .ref (bd 6), .int 100, .int (-1), .int 0, .int 0]))] t.heap ∧ va_D (va_A (zM bd th) sz) [((bd 0), .inr (14, [.ref (bd 1), .ref (bd 2), .ref (bd 3), .ref (bd 4), .ref (bd 5), .ref (bd 6), .int 100, .int (-1), .int 0, .int 0]))]) (va_A (zM bd th) sz)) 3 18 (va_A (zM bd th) sz) := by
  refine Met.ofW (cc := prog_8_method_7_code) (maxL := 8) (ret := (Option.some FieldType.int)) (by decide) rfl ?_
  intro p e s m args below meth c s₁ B hml hv
  obtain ⟨rfl, hsz, hP, hK, hD0, hT, hE, hQ⟩ := hv
  have hx := B.exec
  have hb := B.bytes
  have hr := B.returns
  have hts := atoms_spec (ws := (Cond.code yX9_addShade prog_8_method_7_code 8 (Option.some FieldType.int)) :: WA) B.pre
  have hw : ∀ w ∈ WA, w.before _ s = true := fun w h => hts w (List.mem_cons_of_mem _ h)
  have hown : s.vm.findClass RX9 = some m.cls := findClass_of_methodNamed B.named
  have hlocks := B.notSynchronized
  subst hsz
  have hD := hD0.self (sz := s.heap.size)
  generalize hAe : va_A (zM bd th) s.heap.size = A at hD hE hQ ⊢
  have hA : ∀ q : Nat, s.heap.size ≤ q → A q := fun q h => by rw [← hAe]; exact Or.inr h
  have hS : va_S A s.heap s.heap [] := va_S.rf
  have hP : va_P D vwCl [((bd 0), .inr (14, [.ref (bd 1), .ref (bd 2), .ref (bd 3), .ref (bd 4), .ref (bd 5), .ref (bd 6), .int 100, .int (-1), .int 0, .int th])), ((bd 1), .inr (4, [.int 0, .ref (bd 7), .int 0])), ((bd 2), .inr (4, [.int 0, .ref (bd 7), .int 0])), ((bd 3), .inr (4, [.int 0, .ref (bd 7), .int 0])), ((bd 4), .inr (4, [.int 0, .ref (bd 7), .int 0])), ((bd 5), .inr (4, [.int 0, .ref (bd 7), .int 0])), ((bd 6), .inr (4, [.int 0, .ref (bd 7), .int 0]))] s.heap := hP
  have hD : va_D A [((bd 0), .inr (14, [.ref (bd 1), .ref (bd 2), .ref (bd 3), .ref (bd 4), .ref (bd 5), .ref (bd 6), .int 100, .int (-1), .int 0, .int th])), ((bd 1), .inr (4, [.int 0, .ref (bd 7), .int 0])), ((bd 2), .inr (4, [.int 0, .ref (bd 7), .int 0])), ((bd 3), .inr (4, [.int 0, .ref (bd 7), .int 0])), ((bd 4), .inr (4, [.int 0, .ref (bd 7), .int 0])), ((bd 5), .inr (4, [.int 0, .ref (bd 7), .int 0])), ((bd 6), .inr (4, [.int 0, .ref (bd 7), .int 0]))] := hD
  have hl := lv_entry [.ref (bd 0), .int p0, .int p1, .int p2, .int p3] (n := 8) (Nat.le_of_ble_eq_true rfl)
  rw [lg_entry_eq]
  generalize (lg_sl [.ref (bd 0), .int p0, .int p1, .int p2, .int p3] ++ List.replicate (8 - (lg_sl [.ref (bd 0), .int p0, .int p1, .int p2, .int p3]).length) Slot.unset).toArray = ls at hl ⊢
  have hl : lv_has ls 8 [(0, .ref (bd 0)), (1, .int p0), (2, .int p1), (3, .int p2), (4, .int p3)] := hl
  refine lv_aload_n hx hb dX9_addShade_0 rfl (lv_at hl 0 rfl) ?_
  refine lv_iload_n hx hb dX9_addShade_1 rfl (lv_at hl 1 rfl) ?_
  refine lv_bipush (v := 65) hx hb dX9_addShade_2 (by decide) ?_
  refine lv_bipush (v := 90) hx hb dX9_addShade_4 (by decide) ?_
  have hPc := hP.sub (ws' := []) [] rfl
  refine va_calli (va_runS (As := [.int p0, .int 65, .int 90]) (rest := [.ref (bd 0)]) ⟨hx, hb, hml, hown, hw⟩ (c_X9_isIn l D sa _ p0 65 90) (va_cwS 3 hw (zg3 zm_1311 zm_1312 zm_53 zm_1313) rfl rfl rfl (by decide +kernel) ⟨Nat.le_of_ble_eq_true rfl, Nat.le_of_ble_eq_true rfl⟩) ⟨zJ_blind, zJ_pre hPc hK hT⟩ rfl rfl hl.1 rfl (lv_room (Nat.le_of_ble_eq_true rfl)) dX9_addShade_6 ⟨Nat.le_of_ble_eq_true rfl, Nat.le_of_ble_eq_true rfl⟩) hS zN_in (zN_fr hS hA) (fun r_1 u t H locs ht hvm hw1 hB hz1 hk1 hS => ?_)
  have hP := zN_keep hP hk1
  rw [hy0] at hw1
  subst hw1
  refine lv_if_eq (tgt := 47) hx hb dX9_addShade_9 (by decide) (fun c_2 => absurd c_2 (by decide)) (fun _ => ?_)
  refine lv_iload_n hx hb dX9_addShade_12 rfl (lv_at hl 2 rfl) ?_
  refine lv_iconst (v := 0) hx hb dX9_addShade_13 (by decide) ?_
  refine lv_bipush (v := 31) hx hb dX9_addShade_14 (by decide) ?_
  have hPc := hP.sub (ws' := []) [] rfl
  refine va_calli (va_runS (As := [.int p1, .int 0, .int 31]) (rest := [.ref (bd 0)]) ⟨hx, hb, hml, hown, hw⟩ (c_X9_isIn l D sa _ p1 0 31) (va_cwS 3 hw (zg3 zm_1311 zm_1312 zm_53 zm_1313) rfl rfl rfl (by decide +kernel) ⟨Nat.le_of_ble_eq_true rfl, Nat.le_of_ble_eq_true rfl⟩) ⟨zJ_blind, zJ_pre hPc hK hT⟩ rfl rfl hl.1 rfl (lv_room (Nat.le_of_ble_eq_true rfl)) dX9_addShade_16 ⟨Nat.le_of_ble_eq_true rfl, Nat.le_of_ble_eq_true rfl⟩) hS zN_in (zN_fr hS hA) (fun r_3 u t H locs ht hvm hw1 hB hz1 hk1 hS => ?_)
  have hP := zN_keep hP hk1
  rw [hy1] at hw1
  subst hw1
  refine lv_if_eq (tgt := 47) hx hb dX9_addShade_19 (by decide) (fun c_4 => absurd c_4 (by decide)) (fun _ => ?_)
  refine lv_iload_n hx hb dX9_addShade_22 rfl (lv_at hl 3 rfl) ?_
  refine lv_iconst (v := 0) hx hb dX9_addShade_23 (by decide) ?_
  refine lv_bipush (v := 31) hx hb dX9_addShade_24 (by decide) ?_
  have hPc := hP.sub (ws' := []) [] rfl
  refine va_calli (va_runS (As := [.int p2, .int 0, .int 31]) (rest := [.ref (bd 0)]) ⟨hx, hb, hml, hown, hw⟩ (c_X9_isIn l D sa _ p2 0 31) (va_cwS 3 hw (zg3 zm_1311 zm_1312 zm_53 zm_1313) rfl rfl rfl (by decide +kernel) ⟨Nat.le_of_ble_eq_true rfl, Nat.le_of_ble_eq_true rfl⟩) ⟨zJ_blind, zJ_pre hPc hK hT⟩ rfl rfl hl.1 rfl (lv_room (Nat.le_of_ble_eq_true rfl)) dX9_addShade_26 ⟨Nat.le_of_ble_eq_true rfl, Nat.le_of_ble_eq_true rfl⟩) hS zN_in (zN_fr hS hA) (fun r_5 u t H locs ht hvm hw1 hB hz1 hk1 hS => ?_)
  have hP := zN_keep hP hk1
  rw [hy2] at hw1
  subst hw1
  refine lv_if_eq (tgt := 47) hx hb dX9_addShade_29 (by decide) (fun c_6 => absurd c_6 (by decide)) (fun _ => ?_)
  refine lv_iload hx hb dX9_addShade_32 (lv_at hl 4 rfl) ?_
  refine lv_iconst (v := 0) hx hb dX9_addShade_34 (by decide) ?_
  refine lv_bipush (v := 31) hx hb dX9_addShade_35 (by decide) ?_
  have hPc := hP.sub (ws' := []) [] rfl
  refine va_calli (va_runS (As := [.int p3, .int 0, .int 31]) (rest := [.ref (bd 0)]) ⟨hx, hb, hml, hown, hw⟩ (c_X9_isIn l D sa _ p3 0 31) (va_cwS 3 hw (zg3 zm_1311 zm_1312 zm_53 zm_1313) rfl rfl rfl (by decide +kernel) ⟨Nat.le_of_ble_eq_true rfl, Nat.le_of_ble_eq_true rfl⟩) ⟨zJ_blind, zJ_pre hPc hK hT⟩ rfl rfl hl.1 rfl (lv_room (Nat.le_of_ble_eq_true rfl)) dX9_addShade_37 ⟨Nat.le_of_ble_eq_true rfl, Nat.le_of_ble_eq_true rfl⟩) hS zN_in (zN_fr hS hA) (fun r_7 u t H locs ht hvm hw1 hB hz1 hk1 hS => ?_)
  have hP := zN_keep hP hk1
  rw [hy3] at hw1
  subst hw1
  refine lv_if_eq (tgt := 47) hx hb dX9_addShade_40 (by decide) (fun c_8 => absurd c_8 (by decide)) (fun _ => ?_)
  refine lv_iconst (v := 1) hx hb dX9_addShade_43 (by decide) ?_
  refine lv_goto (tgt := 48) hx hb dX9_addShade_44 (by decide) ?_
  refine lv_iconst (v := 1) hx hb dX9_addShade_48 (by decide) ?_
  have hFc := va_free (wc := [((bd 0), .inr (14, [.ref (bd 1), .ref (bd 2), .ref (bd 3), .ref (bd 4), .ref (bd 5), .ref (bd 6), .int 100, .int (-1), .int 0, .int th])), ((bd 1), .inr (4, [.int 0, .ref (bd 7), .int 0])), ((bd 2), .inr (4, [.int 0, .ref (bd 7), .int 0])), ((bd 3), .inr (4, [.int 0, .ref (bd 7), .int 0])), ((bd 4), .inr (4, [.int 0, .ref (bd 7), .int 0])), ((bd 5), .inr (4, [.int 0, .ref (bd 7), .int 0])), ((bd 6), .inr (4, [.int 0, .ref (bd 7), .int 0]))]) hD hS hA [0, 1, 2, 3, 4, 5, 6] rfl
  refine va_calli (va_runV (As := [.int 1, .int 1]) (rest := []) ⟨hx, hb, hml, hown, hw⟩ (c_X9_no1 l D sa ea bd th _ 1) (cwV 2 hw (zg4 zm_1314 zm_1316 zm_26 zm_53 zm_1317) rfl rfl rfl (by decide +kernel) ⟨Nat.le_of_ble_eq_true rfl, Nat.le_of_ble_eq_true rfl⟩) ⟨zW_blind, va_recv hK hP (ci := 14) (q0 := 0) rfl rfl, zW_pre hP hK hD hT hE hS hFc⟩ rfl rfl hl.1 rfl (lv_room (Nat.le_of_ble_eq_true rfl)) dX9_addShade_49 ⟨Nat.le_of_ble_eq_true rfl, Nat.le_of_ble_eq_true rfl⟩) hS (fun q _ h => hFc q h) hFc (fun r_9 u t H locs ht hvm hw1 hB hz1 hk1 hS => ?_)
  subst hw1
  obtain ⟨hP1, hD1⟩ := hB
  rw [ht] at hP1
  obtain ⟨hP, hD⟩ := va_join (wr := []) (w1 := [((bd 0), .inr (14, [.ref (bd 1), .ref (bd 2), .ref (bd 3), .ref (bd 4), .ref (bd 5), .ref (bd 6), .int 100, .int (-1), .int 0, .int 0])), ((bd 1), .inr (4, [.int 0, .ref (bd 7), .int 0])), ((bd 2), .inr (4, [.int 0, .ref (bd 7), .int 0])), ((bd 3), .inr (4, [.int 0, .ref (bd 7), .int 0])), ((bd 4), .inr (4, [.int 0, .ref (bd 7), .int 0])), ((bd 5), .inr (4, [.int 0, .ref (bd 7), .int 0])), ((bd 6), .inr (4, [.int 0, .ref (bd 7), .int 0]))]) hP hD [0, 1, 2, 3, 4, 5, 6] [] rfl rfl (by decide) (by decide) hk1 hFc hP1 hD1
  have hP : va_P D vwCl [((bd 0), .inr (14, [.ref (bd 1), .ref (bd 2), .ref (bd 3), .ref (bd 4), .ref (bd 5), .ref (bd 6), .int 100, .int (-1), .int 0, .int 0])), ((bd 1), .inr (4, [.int 0, .ref (bd 7), .int 0])), ((bd 2), .inr (4, [.int 0, .ref (bd 7), .int 0])), ((bd 3), .inr (4, [.int 0, .ref (bd 7), .int 0])), ((bd 4), .inr (4, [.int 0, .ref (bd 7), .int 0])), ((bd 5), .inr (4, [.int 0, .ref (bd 7), .int 0])), ((bd 6), .inr (4, [.int 0, .ref (bd 7), .int 0]))] H := hP
  have hD : va_D A [((bd 0), .inr (14, [.ref (bd 1), .ref (bd 2), .ref (bd 3), .ref (bd 4), .ref (bd 5), .ref (bd 6), .int 100, .int (-1), .int 0, .int 0])), ((bd 1), .inr (4, [.int 0, .ref (bd 7), .int 0])), ((bd 2), .inr (4, [.int 0, .ref (bd 7), .int 0])), ((bd 3), .inr (4, [.int 0, .ref (bd 7), .int 0])), ((bd 4), .inr (4, [.int 0, .ref (bd 7), .int 0])), ((bd 5), .inr (4, [.int 0, .ref (bd 7), .int 0])), ((bd 6), .inr (4, [.int 0, .ref (bd 7), .int 0]))] := hD
  refine lv_if_eq (tgt := 57) hx hb dX9_addShade_52 (by decide) (fun _ => ?_) (fun c_10 => absurd (by decide) c_10)
  refine lv_iconst (v := 1) hx hb dX9_addShade_57 (by decide) ?_
  refine lv_istore (lv' := [(5, .int 1), (0, .ref (bd 0)), (1, .int p0), (2, .int p1), (3, .int p2), (4, .int p3)]) hx hb dX9_addShade_58 hl (by decide) rfl (fun ls hl => ?_)
  refine lv_aload_n hx hb dX9_addShade_60 rfl (lv_at hl 1 rfl) ?_
  refine va_get (D := D) (ci := 14) (v := .ref (bd 1)) (C := RX9) (T := TX9) (N := 10) hx hb hw zi_RX9 hown hK hP 0 rfl rfl 0 (by decide) (hw _ zm_1272) (fun _ h9 => h9) rfl dX9_addShade_61 ?_
  have hPc := hP.sub (ws' := [((bd 1), .inr (4, [.int 0, .ref (bd 7), .int 0]))]) [1] rfl
  have hDc := hD.sub (ws' := [((bd 1), .inr (4, [.int 0, .ref (bd 7), .int 0]))]) [1] (by decide) rfl
  have hFc := va_free (wc := [((bd 1), .inr (4, [.int 0, .ref (bd 7), .int 0]))]) hD hS hA [1] rfl
  refine va_callFr (va_runF (As := []) (rest := []) (hK.1 4 _ rfl).2 ⟨hx, hb, hml, hown, hw⟩ (c_Jx4a65c_iterator_32c93 l D sa ea (bd 1) 0 (bd 7) _) (va_cwF 0 hw (zg4 zm_1319 zm_1323 zm_1325 zm_51 zm_1327) rfl rfl rfl (hT.i 2 rfl) (by decide +kernel) ⟨Nat.le_of_ble_eq_true rfl, Nat.le_of_ble_eq_true rfl⟩) ⟨zW_blind, va_recv hK hPc (ci := 4) (q0 := 0) rfl rfl, zW_pre hPc hK hDc hT hE hS hFc⟩ rfl rfl hl.1 rfl (lv_room (Nat.le_of_ble_eq_true rfl)) dX9_addShade_64 ⟨Nat.le_of_ble_eq_true rfl, Nat.le_of_ble_eq_true rfl⟩) hS (fun q _ h => hFc q h) hFc (fun u r_11 t H locs ht hvm hw1 hB hz1 hk1 hS => ?_)
  obtain ⟨hP1, hD1⟩ := hB
  rw [ht] at hP1
  obtain ⟨hP, hD⟩ := va_join (wr := [((bd 0), .inr (14, [.ref (bd 1), .ref (bd 2), .ref (bd 3), .ref (bd 4), .ref (bd 5), .ref (bd 6), .int 100, .int (-1), .int 0, .int 0])), ((bd 2), .inr (4, [.int 0, .ref (bd 7), .int 0])), ((bd 3), .inr (4, [.int 0, .ref (bd 7), .int 0])), ((bd 4), .inr (4, [.int 0, .ref (bd 7), .int 0])), ((bd 5), .inr (4, [.int 0, .ref (bd 7), .int 0])), ((bd 6), .inr (4, [.int 0, .ref (bd 7), .int 0]))]) (w1 := [(r_11, .inr (3, [.int 0, .int (-1), .int 0, .ref (bd 1)])), ((bd 1), .inr (4, [.int 0, .ref (bd 7), .int 0]))]) hP hD [1] [0, 2, 3, 4, 5, 6] rfl rfl (by decide) (by decide) hk1 hFc hP1 hD1
  have hP : va_P D vwCl [((bd 0), .inr (14, [.ref (bd 1), .ref (bd 2), .ref (bd 3), .ref (bd 4), .ref (bd 5), .ref (bd 6), .int 100, .int (-1), .int 0, .int 0])), ((bd 2), .inr (4, [.int 0, .ref (bd 7), .int 0])), ((bd 3), .inr (4, [.int 0, .ref (bd 7), .int 0])), ((bd 4), .inr (4, [.int 0, .ref (bd 7), .int 0])), ((bd 5), .inr (4, [.int 0, .ref (bd 7), .int 0])), ((bd 6), .inr (4, [.int 0, .ref (bd 7), .int 0])), (r_11, .inr (3, [.int 0, .int (-1), .int 0, .ref (bd 1)])), ((bd 1), .inr (4, [.int 0, .ref (bd 7), .int 0]))] H := hP
  have hD : va_D A [((bd 0), .inr (14, [.ref (bd 1), .ref (bd 2), .ref (bd 3), .ref (bd 4), .ref (bd 5), .ref (bd 6), .int 100, .int (-1), .int 0, .int 0])), ((bd 2), .inr (4, [.int 0, .ref (bd 7), .int 0])), ((bd 3), .inr (4, [.int 0, .ref (bd 7), .int 0])), ((bd 4), .inr (4, [.int 0, .ref (bd 7), .int 0])), ((bd 5), .inr (4, [.int 0, .ref (bd 7), .int 0])), ((bd 6), .inr (4, [.int 0, .ref (bd 7), .int 0])), (r_11, .inr (3, [.int 0, .int (-1), .int 0, .ref (bd 1)])), ((bd 1), .inr (4, [.int 0, .ref (bd 7), .int 0]))] := hD
  refine lv_astore (lv' := [(6, .ref r_11), (5, .int 1), (0, .ref (bd 0)), (1, .int p0), (2, .int p1), (3, .int p2), (4, .int p3)]) hx hb dX9_addShade_69 hl (by decide) rfl (fun ls hl => ?_)
  refine lv_aload hx hb dX9_addShade_71 (lv_at hl 0 rfl) ?_
  have hPc := hP.sub (ws' := [(r_11, .inr (3, [.int 0, .int (-1), .int 0, .ref (bd 1)])), ((bd 1), .inr (4, [.int 0, .ref (bd 7), .int 0]))]) [6, 7] rfl
  refine va_callFi (va_runF (As := []) (rest := []) (hK.1 3 _ rfl).2 ⟨hx, hb, hml, hown, hw⟩ (c_Jx35411_hasNext_aae02 l D sa r_11 (bd 1) 0 (bd 7) _) (va_cwF 0 hw (zg4 zm_1348 zm_1352 zm_1354 zm_60 zm_1356) rfl rfl rfl (hT.i 3 rfl) (by decide +kernel) ⟨Nat.le_of_ble_eq_true rfl, Nat.le_of_ble_eq_true rfl⟩) ⟨zJ_blind, va_recv hK hPc (ci := 3) (q0 := 0) rfl rfl, zJ_pre hPc hK hT⟩ rfl rfl hl.1 rfl (lv_room (Nat.le_of_ble_eq_true rfl)) dX9_addShade_73 ⟨Nat.le_of_ble_eq_true rfl, Nat.le_of_ble_eq_true rfl⟩) hS zN_in (zN_fr hS hA) (fun r_12 u t H locs ht hvm hw1 hB hz1 hk1 hS => ?_)
  have hP := zN_keep hP hk1
  subst hw1
  refine lv_if_eq (tgt := 114) hx hb dX9_addShade_78 (by decide) (fun _ => ?_) (fun c_13 => absurd (by decide) c_13)
  refine lv_aload_n hx hb dX9_addShade_114 rfl (lv_at hl 2 rfl) ?_
  refine lv_iload hx hb dX9_addShade_115 (lv_at hl 1 rfl) ?_
  refine lv_iconst (v := 2) hx hb dX9_addShade_117 (by decide) ?_
  have hPc := hP.sub (ws' := [((bd 0), .inr (14, [.ref (bd 1), .ref (bd 2), .ref (bd 3), .ref (bd 4), .ref (bd 5), .ref (bd 6), .int 100, .int (-1), .int 0, .int 0])), ((bd 1), .inr (4, [.int 0, .ref (bd 7), .int 0])), ((bd 2), .inr (4, [.int 0, .ref (bd 7), .int 0])), ((bd 3), .inr (4, [.int 0, .ref (bd 7), .int 0])), ((bd 4), .inr (4, [.int 0, .ref (bd 7), .int 0])), ((bd 5), .inr (4, [.int 0, .ref (bd 7), .int 0])), ((bd 6), .inr (4, [.int 0, .ref (bd 7), .int 0]))]) [0, 7, 1, 2, 3, 4, 5] rfl
  have hDc := hD.sub (ws' := [((bd 0), .inr (14, [.ref (bd 1), .ref (bd 2), .ref (bd 3), .ref (bd 4), .ref (bd 5), .ref (bd 6), .int 100, .int (-1), .int 0, .int 0])), ((bd 1), .inr (4, [.int 0, .ref (bd 7), .int 0])), ((bd 2), .inr (4, [.int 0, .ref (bd 7), .int 0])), ((bd 3), .inr (4, [.int 0, .ref (bd 7), .int 0])), ((bd 4), .inr (4, [.int 0, .ref (bd 7), .int 0])), ((bd 5), .inr (4, [.int 0, .ref (bd 7), .int 0])), ((bd 6), .inr (4, [.int 0, .ref (bd 7), .int 0]))]) [0, 7, 1, 2, 3, 4, 5] (by decide) rfl
  have hFc := va_free (wc := [((bd 0), .inr (14, [.ref (bd 1), .ref (bd 2), .ref (bd 3), .ref (bd 4), .ref (bd 5), .ref (bd 6), .int 100, .int (-1), .int 0, .int 0])), ((bd 1), .inr (4, [.int 0, .ref (bd 7), .int 0])), ((bd 2), .inr (4, [.int 0, .ref (bd 7), .int 0])), ((bd 3), .inr (4, [.int 0, .ref (bd 7), .int 0])), ((bd 4), .inr (4, [.int 0, .ref (bd 7), .int 0])), ((bd 5), .inr (4, [.int 0, .ref (bd 7), .int 0])), ((bd 6), .inr (4, [.int 0, .ref (bd 7), .int 0]))]) hD hS hA [0, 7, 1, 2, 3, 4, 5] rfl
  refine va_calli (va_runV (As := [.int 1, .int 2]) (rest := []) ⟨hx, hb, hml, hown, hw⟩ (c_X9_no1 l D sa ea bd 0 _ 2) (cwV 2 hw (zg4 zm_1314 zm_1316 zm_26 zm_53 zm_1317) rfl rfl rfl (by decide +kernel) ⟨Nat.le_of_ble_eq_true rfl, Nat.le_of_ble_eq_true rfl⟩) ⟨zW_blind, va_recv hK hPc (ci := 14) (q0 := 0) rfl rfl, zW_pre hPc hK hDc hT hE hS hFc⟩ rfl rfl hl.1 rfl (lv_room (Nat.le_of_ble_eq_true rfl)) dX9_addShade_118 ⟨Nat.le_of_ble_eq_true rfl, Nat.le_of_ble_eq_true rfl⟩) hS (fun q _ h => hFc q h) hFc (fun r_14 u t H locs ht hvm hw1 hB hz1 hk1 hS => ?_)
  subst hw1
  obtain ⟨hP1, hD1⟩ := hB
  rw [ht] at hP1
  obtain ⟨hP, hD⟩ := va_join (wr := [(r_11, .inr (3, [.int 0, .int (-1), .int 0, .ref (bd 1)]))]) (w1 := [((bd 0), .inr (14, [.ref (bd 1), .ref (bd 2), .ref (bd 3), .ref (bd 4), .ref (bd 5), .ref (bd 6), .int 100, .int (-1), .int 0, .int 0])), ((bd 1), .inr (4, [.int 0, .ref (bd 7), .int 0])), ((bd 2), .inr (4, [.int 0, .ref (bd 7), .int 0])), ((bd 3), .inr (4, [.int 0, .ref (bd 7), .int 0])), ((bd 4), .inr (4, [.int 0, .ref (bd 7), .int 0])), ((bd 5), .inr (4, [.int 0, .ref (bd 7), .int 0])), ((bd 6), .inr (4, [.int 0, .ref (bd 7), .int 0]))]) hP hD [0, 7, 1, 2, 3, 4, 5] [6] rfl rfl (by decide) (by decide) hk1 hFc hP1 hD1
  have hP : va_P D vwCl [(r_11, .inr (3, [.int 0, .int (-1), .int 0, .ref (bd 1)])), ((bd 0), .inr (14, [.ref (bd 1), .ref (bd 2), .ref (bd 3), .ref (bd 4), .ref (bd 5), .ref (bd 6), .int 100, .int (-1), .int 0, .int 0])), ((bd 1), .inr (4, [.int 0, .ref (bd 7), .int 0])), ((bd 2), .inr (4, [.int 0, .ref (bd 7), .int 0])), ((bd 3), .inr (4, [.int 0, .ref (bd 7), .int 0])), ((bd 4), .inr (4, [.int 0, .ref (bd 7), .int 0])), ((bd 5), .inr (4, [.int 0, .ref (bd 7), .int 0])), ((bd 6), .inr (4, [.int 0, .ref (bd 7), .int 0]))] H := hP
  have hD : va_D A [(r_11, .inr (3, [.int 0, .int (-1), .int 0, .ref (bd 1)])), ((bd 0), .inr (14, [.ref (bd 1), .ref (bd 2), .ref (bd 3), .ref (bd 4), .ref (bd 5), .ref (bd 6), .int 100, .int (-1), .int 0, .int 0])), ((bd 1), .inr (4, [.int 0, .ref (bd 7), .int 0])), ((bd 2), .inr (4, [.int 0, .ref (bd 7), .int 0])), ((bd 3), .inr (4, [.int 0, .ref (bd 7), .int 0])), ((bd 4), .inr (4, [.int 0, .ref (bd 7), .int 0])), ((bd 5), .inr (4, [.int 0, .ref (bd 7), .int 0])), ((bd 6), .inr (4, [.int 0, .ref (bd 7), .int 0]))] := hD
  refine lv_if_ne (tgt := 151) hx hb dX9_addShade_121 (by decide) (fun c_15 => absurd (by decide) c_15) (fun _ => ?_)
  refine lv_aload_n hx hb dX9_addShade_124 rfl (lv_at hl 2 rfl) ?_
  refine lv_aload_n hx hb dX9_addShade_125 rfl (lv_at hl 2 rfl) ?_
  refine va_get (D := D) (ci := 14) (v := .ref (bd 1)) (C := RX9) (T := TX9) (N := 10) hx hb hw zi_RX9 hown hK hP 1 rfl rfl 0 (by decide) (hw _ zm_1272) (fun _ h9 => h9) rfl dX9_addShade_126 ?_
  have hPc := hP.sub (ws' := [((bd 1), .inr (4, [.int 0, .ref (bd 7), .int 0]))]) [2] rfl
  refine va_callFi (va_runF (As := []) (rest := [.ref (bd 0)]) (hK.1 4 _ rfl).2 ⟨hx, hb, hml, hown, hw⟩ (c_Jx4a65c_size_8abf5 l D sa (bd 1) 0 (bd 7) _) (va_cwF 0 hw (zg4 zm_1383 zm_1386 zm_240 zm_51 zm_242) rfl rfl rfl (hT.i 0 rfl) (by decide +kernel) ⟨Nat.le_of_ble_eq_true rfl, Nat.le_of_ble_eq_true rfl⟩) ⟨zJ_blind, va_recv hK hPc (ci := 4) (q0 := 0) rfl rfl, zJ_pre hPc hK hT⟩ rfl rfl hl.1 rfl (lv_room (Nat.le_of_ble_eq_true rfl)) dX9_addShade_129 ⟨Nat.le_of_ble_eq_true rfl, Nat.le_of_ble_eq_true rfl⟩) hS zN_in (zN_fr hS hA) (fun r_16 u t H locs ht hvm hw1 hB hz1 hk1 hS => ?_)
  have hP := zN_keep hP hk1
  subst hw1
  refine lv_bipush (v := 12) hx hb dX9_addShade_134 (by decide) ?_
  refine lv_icmp_ge (tgt := 143) hx hb dX9_addShade_136 (by decide) (fun c_17 => absurd c_17 (by decide)) (fun _ => ?_)
  refine lv_iconst (v := 1) hx hb dX9_addShade_139 (by decide) ?_
  refine lv_goto (tgt := 144) hx hb dX9_addShade_140 (by decide) ?_
  refine lv_iconst (v := 3) hx hb dX9_addShade_144 (by decide) ?_
  have hPc := hP.sub (ws' := [((bd 0), .inr (14, [.ref (bd 1), .ref (bd 2), .ref (bd 3), .ref (bd 4), .ref (bd 5), .ref (bd 6), .int 100, .int (-1), .int 0, .int 0])), ((bd 1), .inr (4, [.int 0, .ref (bd 7), .int 0])), ((bd 2), .inr (4, [.int 0, .ref (bd 7), .int 0])), ((bd 3), .inr (4, [.int 0, .ref (bd 7), .int 0])), ((bd 4), .inr (4, [.int 0, .ref (bd 7), .int 0])), ((bd 5), .inr (4, [.int 0, .ref (bd 7), .int 0])), ((bd 6), .inr (4, [.int 0, .ref (bd 7), .int 0]))]) [1, 2, 3, 4, 5, 6, 7] rfl
  have hDc := hD.sub (ws' := [((bd 0), .inr (14, [.ref (bd 1), .ref (bd 2), .ref (bd 3), .ref (bd 4), .ref (bd 5), .ref (bd 6), .int 100, .int (-1), .int 0, .int 0])), ((bd 1), .inr (4, [.int 0, .ref (bd 7), .int 0])), ((bd 2), .inr (4, [.int 0, .ref (bd 7), .int 0])), ((bd 3), .inr (4, [.int 0, .ref (bd 7), .int 0])), ((bd 4), .inr (4, [.int 0, .ref (bd 7), .int 0])), ((bd 5), .inr (4, [.int 0, .ref (bd 7), .int 0])), ((bd 6), .inr (4, [.int 0, .ref (bd 7), .int 0]))]) [1, 2, 3, 4, 5, 6, 7] (by decide) rfl
  have hFc := va_free (wc := [((bd 0), .inr (14, [.ref (bd 1), .ref (bd 2), .ref (bd 3), .ref (bd 4), .ref (bd 5), .ref (bd 6), .int 100, .int (-1), .int 0, .int 0])), ((bd 1), .inr (4, [.int 0, .ref (bd 7), .int 0])), ((bd 2), .inr (4, [.int 0, .ref (bd 7), .int 0])), ((bd 3), .inr (4, [.int 0, .ref (bd 7), .int 0])), ((bd 4), .inr (4, [.int 0, .ref (bd 7), .int 0])), ((bd 5), .inr (4, [.int 0, .ref (bd 7), .int 0])), ((bd 6), .inr (4, [.int 0, .ref (bd 7), .int 0]))]) hD hS hA [1, 2, 3, 4, 5, 6, 7] rfl
  refine va_calli (va_runV (As := [.int 1, .int 3]) (rest := []) ⟨hx, hb, hml, hown, hw⟩ (c_X9_no1 l D sa ea bd 0 _ 3) (cwV 2 hw (zg4 zm_1314 zm_1316 zm_26 zm_53 zm_1317) rfl rfl rfl (by decide +kernel) ⟨Nat.le_of_ble_eq_true rfl, Nat.le_of_ble_eq_true rfl⟩) ⟨zW_blind, va_recv hK hPc (ci := 14) (q0 := 0) rfl rfl, zW_pre hPc hK hDc hT hE hS hFc⟩ rfl rfl hl.1 rfl (lv_room (Nat.le_of_ble_eq_true rfl)) dX9_addShade_145 ⟨Nat.le_of_ble_eq_true rfl, Nat.le_of_ble_eq_true rfl⟩) hS (fun q _ h => hFc q h) hFc (fun r_18 u t H locs ht hvm hw1 hB hz1 hk1 hS => ?_)
  subst hw1
  obtain ⟨hP1, hD1⟩ := hB
  rw [ht] at hP1
  obtain ⟨hP, hD⟩ := va_join (wr := [(r_11, .inr (3, [.int 0, .int (-1), .int 0, .ref (bd 1)]))]) (w1 := [((bd 0), .inr (14, [.ref (bd 1), .ref (bd 2), .ref (bd 3), .ref (bd 4), .ref (bd 5), .ref (bd 6), .int 100, .int (-1), .int 0, .int 0])), ((bd 1), .inr (4, [.int 0, .ref (bd 7), .int 0])), ((bd 2), .inr (4, [.int 0, .ref (bd 7), .int 0])), ((bd 3), .inr (4, [.int 0, .ref (bd 7), .int 0])), ((bd 4), .inr (4, [.int 0, .ref (bd 7), .int 0])), ((bd 5), .inr (4, [.int 0, .ref (bd 7), .int 0])), ((bd 6), .inr (4, [.int 0, .ref (bd 7), .int 0]))]) hP hD [1, 2, 3, 4, 5, 6, 7] [0] rfl rfl (by decide) (by decide) hk1 hFc hP1 hD1
  have hP : va_P D vwCl [(r_11, .inr (3, [.int 0, .int (-1), .int 0, .ref (bd 1)])), ((bd 0), .inr (14, [.ref (bd 1), .ref (bd 2), .ref (bd 3), .ref (bd 4), .ref (bd 5), .ref (bd 6), .int 100, .int (-1), .int 0, .int 0])), ((bd 1), .inr (4, [.int 0, .ref (bd 7), .int 0])), ((bd 2), .inr (4, [.int 0, .ref (bd 7), .int 0])), ((bd 3), .inr (4, [.int 0, .ref (bd 7), .int 0])), ((bd 4), .inr (4, [.int 0, .ref (bd 7), .int 0])), ((bd 5), .inr (4, [.int 0, .ref (bd 7), .int 0])), ((bd 6), .inr (4, [.int 0, .ref (bd 7), .int 0]))] H := hP
  have hD : va_D A [(r_11, .inr (3, [.int 0, .int (-1), .int 0, .ref (bd 1)])), ((bd 0), .inr (14, [.ref (bd 1), .ref (bd 2), .ref (bd 3), .ref (bd 4), .ref (bd 5), .ref (bd 6), .int 100, .int (-1), .int 0, .int 0])), ((bd 1), .inr (4, [.int 0, .ref (bd 7), .int 0])), ((bd 2), .inr (4, [.int 0, .ref (bd 7), .int 0])), ((bd 3), .inr (4, [.int 0, .ref (bd 7), .int 0])), ((bd 4), .inr (4, [.int 0, .ref (bd 7), .int 0])), ((bd 5), .inr (4, [.int 0, .ref (bd 7), .int 0])), ((bd 6), .inr (4, [.int 0, .ref (bd 7), .int 0]))] := hD
  refine lv_if_eq (tgt := 153) hx hb dX9_addShade_148 (by decide) (fun _ => ?_) (fun c_19 => absurd (by decide) c_19)
  refine lv_aload_n hx hb dX9_addShade_153 rfl (lv_at hl 2 rfl) ?_
  refine va_get (D := D) (ci := 14) (v := .ref (bd 1)) (C := RX9) (T := TX9) (N := 10) hx hb hw zi_RX9 hown hK hP 1 rfl rfl 0 (by decide) (hw _ zm_1272) (fun _ h9 => h9) rfl dX9_addShade_154 ?_
  refine lv_iconst (v := 4) hx hb dX9_addShade_157 (by decide) ?_
  refine va_newa (atype := .int) (a0 := (4, .inl (fun _ => 0))) hx hb (hw _ zm_107) rfl hK hP hD hS hA (fun _ => rfl) (by decide) rfl (Nat.le_of_ble_eq_true rfl) (Nat.le_of_ble_eq_true rfl) (Nat.le_of_ble_eq_true rfl) dX9_addShade_158 (fun q_20 k_21 H hK hP hD hS => ?_)
  have hP : va_P D vwCl [(r_11, .inr (3, [.int 0, .int (-1), .int 0, .ref (bd 1)])), ((bd 0), .inr (14, [.ref (bd 1), .ref (bd 2), .ref (bd 3), .ref (bd 4), .ref (bd 5), .ref (bd 6), .int 100, .int (-1), .int 0, .int 0])), ((bd 1), .inr (4, [.int 0, .ref (bd 7), .int 0])), ((bd 2), .inr (4, [.int 0, .ref (bd 7), .int 0])), ((bd 3), .inr (4, [.int 0, .ref (bd 7), .int 0])), ((bd 4), .inr (4, [.int 0, .ref (bd 7), .int 0])), ((bd 5), .inr (4, [.int 0, .ref (bd 7), .int 0])), ((bd 6), .inr (4, [.int 0, .ref (bd 7), .int 0])), (q_20, .inl (k_21, 4, .inl (fun _ => 0)))] H := hP
  have hD : va_D A [(r_11, .inr (3, [.int 0, .int (-1), .int 0, .ref (bd 1)])), ((bd 0), .inr (14, [.ref (bd 1), .ref (bd 2), .ref (bd 3), .ref (bd 4), .ref (bd 5), .ref (bd 6), .int 100, .int (-1), .int 0, .int 0])), ((bd 1), .inr (4, [.int 0, .ref (bd 7), .int 0])), ((bd 2), .inr (4, [.int 0, .ref (bd 7), .int 0])), ((bd 3), .inr (4, [.int 0, .ref (bd 7), .int 0])), ((bd 4), .inr (4, [.int 0, .ref (bd 7), .int 0])), ((bd 5), .inr (4, [.int 0, .ref (bd 7), .int 0])), ((bd 6), .inr (4, [.int 0, .ref (bd 7), .int 0])), (q_20, .inl (k_21, 4, .inl (fun _ => 0)))] := hD
  have hK : va_K D vwCl [(k_21, .int)] s := hK
  refine lv_dup hx hb dX9_addShade_160 rfl ?_
  refine lv_iconst (v := 0) hx hb dX9_addShade_161 (by decide) ?_
  refine lv_iload_n hx hb dX9_addShade_162 rfl (lv_at hl 4 rfl) ?_
  refine va_iast hx hb hK hP hD hS 8 0 rfl rfl (by unfold vp_in; decide) dX9_addShade_163 (fun H locs hP hD hS => ?_)
  have hP : va_P D vwCl [(r_11, .inr (3, [.int 0, .int (-1), .int 0, .ref (bd 1)])), ((bd 0), .inr (14, [.ref (bd 1), .ref (bd 2), .ref (bd 3), .ref (bd 4), .ref (bd 5), .ref (bd 6), .int 100, .int (-1), .int 0, .int 0])), ((bd 1), .inr (4, [.int 0, .ref (bd 7), .int 0])), ((bd 2), .inr (4, [.int 0, .ref (bd 7), .int 0])), ((bd 3), .inr (4, [.int 0, .ref (bd 7), .int 0])), ((bd 4), .inr (4, [.int 0, .ref (bd 7), .int 0])), ((bd 5), .inr (4, [.int 0, .ref (bd 7), .int 0])), ((bd 6), .inr (4, [.int 0, .ref (bd 7), .int 0])), (q_20, .inl (k_21, 4, .inl (upd (fun _ => 0) (Int32.toNatClampNeg 0) p1)))] H := hP
  have hD : va_D A [(r_11, .inr (3, [.int 0, .int (-1), .int 0, .ref (bd 1)])), ((bd 0), .inr (14, [.ref (bd 1), .ref (bd 2), .ref (bd 3), .ref (bd 4), .ref (bd 5), .ref (bd 6), .int 100, .int (-1), .int 0, .int 0])), ((bd 1), .inr (4, [.int 0, .ref (bd 7), .int 0])), ((bd 2), .inr (4, [.int 0, .ref (bd 7), .int 0])), ((bd 3), .inr (4, [.int 0, .ref (bd 7), .int 0])), ((bd 4), .inr (4, [.int 0, .ref (bd 7), .int 0])), ((bd 5), .inr (4, [.int 0, .ref (bd 7), .int 0])), ((bd 6), .inr (4, [.int 0, .ref (bd 7), .int 0])), (q_20, .inl (k_21, 4, .inl (upd (fun _ => 0) (Int32.toNatClampNeg 0) p1)))] := hD
  have hK : va_K D vwCl [(k_21, .int)] s := hK
  refine lv_dup hx hb dX9_addShade_164 rfl ?_
  refine lv_iconst (v := 1) hx hb dX9_addShade_165 (by decide) ?_
  refine lv_iload_n hx hb dX9_addShade_166 rfl (lv_at hl 5 rfl) ?_
  refine va_iast hx hb hK hP hD hS 8 0 rfl rfl (by unfold vp_in; decide) dX9_addShade_167 (fun H locs hP hD hS => ?_)
  have hP : va_P D vwCl [(r_11, .inr (3, [.int 0, .int (-1), .int 0, .ref (bd 1)])), ((bd 0), .inr (14, [.ref (bd 1), .ref (bd 2), .ref (bd 3), .ref (bd 4), .ref (bd 5), .ref (bd 6), .int 100, .int (-1), .int 0, .int 0])), ((bd 1), .inr (4, [.int 0, .ref (bd 7), .int 0])), ((bd 2), .inr (4, [.int 0, .ref (bd 7), .int 0])), ((bd 3), .inr (4, [.int 0, .ref (bd 7), .int 0])), ((bd 4), .inr (4, [.int 0, .ref (bd 7), .int 0])), ((bd 5), .inr (4, [.int 0, .ref (bd 7), .int 0])), ((bd 6), .inr (4, [.int 0, .ref (bd 7), .int 0])), (q_20, .inl (k_21, 4, .inl (upd (upd (fun _ => 0) (Int32.toNatClampNeg 0) p1) (Int32.toNatClampNeg 1) p2)))] H := hP
  have hD : va_D A [(r_11, .inr (3, [.int 0, .int (-1), .int 0, .ref (bd 1)])), ((bd 0), .inr (14, [.ref (bd 1), .ref (bd 2), .ref (bd 3), .ref (bd 4), .ref (bd 5), .ref (bd 6), .int 100, .int (-1), .int 0, .int 0])), ((bd 1), .inr (4, [.int 0, .ref (bd 7), .int 0])), ((bd 2), .inr (4, [.int 0, .ref (bd 7), .int 0])), ((bd 3), .inr (4, [.int 0, .ref (bd 7), .int 0])), ((bd 4), .inr (4, [.int 0, .ref (bd 7), .int 0])), ((bd 5), .inr (4, [.int 0, .ref (bd 7), .int 0])), ((bd 6), .inr (4, [.int 0, .ref (bd 7), .int 0])), (q_20, .inl (k_21, 4, .inl (upd (upd (fun _ => 0) (Int32.toNatClampNeg 0) p1) (Int32.toNatClampNeg 1) p2)))] := hD
  have hK : va_K D vwCl [(k_21, .int)] s := hK
  refine lv_dup hx hb dX9_addShade_168 rfl ?_
  refine lv_iconst (v := 2) hx hb dX9_addShade_169 (by decide) ?_
  refine lv_iload hx hb dX9_addShade_170 (lv_at hl 6 rfl) ?_
  refine va_iast hx hb hK hP hD hS 8 0 rfl rfl (by unfold vp_in; decide) dX9_addShade_172 (fun H locs hP hD hS => ?_)
  have hP : va_P D vwCl [(r_11, .inr (3, [.int 0, .int (-1), .int 0, .ref (bd 1)])), ((bd 0), .inr (14, [.ref (bd 1), .ref (bd 2), .ref (bd 3), .ref (bd 4), .ref (bd 5), .ref (bd 6), .int 100, .int (-1), .int 0, .int 0])), ((bd 1), .inr (4, [.int 0, .ref (bd 7), .int 0])), ((bd 2), .inr (4, [.int 0, .ref (bd 7), .int 0])), ((bd 3), .inr (4, [.int 0, .ref (bd 7), .int 0])), ((bd 4), .inr (4, [.int 0, .ref (bd 7), .int 0])), ((bd 5), .inr (4, [.int 0, .ref (bd 7), .int 0])), ((bd 6), .inr (4, [.int 0, .ref (bd 7), .int 0])), (q_20, .inl (k_21, 4, .inl (upd (upd (upd (fun _ => 0) (Int32.toNatClampNeg 0) p1) (Int32.toNatClampNeg 1) p2) (Int32.toNatClampNeg 2) p3)))] H := hP
  have hD : va_D A [(r_11, .inr (3, [.int 0, .int (-1), .int 0, .ref (bd 1)])), ((bd 0), .inr (14, [.ref (bd 1), .ref (bd 2), .ref (bd 3), .ref (bd 4), .ref (bd 5), .ref (bd 6), .int 100, .int (-1), .int 0, .int 0])), ((bd 1), .inr (4, [.int 0, .ref (bd 7), .int 0])), ((bd 2), .inr (4, [.int 0, .ref (bd 7), .int 0])), ((bd 3), .inr (4, [.int 0, .ref (bd 7), .int 0])), ((bd 4), .inr (4, [.int 0, .ref (bd 7), .int 0])), ((bd 5), .inr (4, [.int 0, .ref (bd 7), .int 0])), ((bd 6), .inr (4, [.int 0, .ref (bd 7), .int 0])), (q_20, .inl (k_21, 4, .inl (upd (upd (upd (fun _ => 0) (Int32.toNatClampNeg 0) p1) (Int32.toNatClampNeg 1) p2) (Int32.toNatClampNeg 2) p3)))] := hD
  have hK : va_K D vwCl [(k_21, .int)] s := hK
  refine lv_dup hx hb dX9_addShade_173 rfl ?_
  refine lv_iconst (v := 3) hx hb dX9_addShade_174 (by decide) ?_
  refine lv_iload_n hx hb dX9_addShade_175 rfl (lv_at hl 3 rfl) ?_
  refine va_iast hx hb hK hP hD hS 8 0 rfl rfl (by unfold vp_in; decide) dX9_addShade_176 (fun H locs hP hD hS => ?_)
  have hP : va_P D vwCl [(r_11, .inr (3, [.int 0, .int (-1), .int 0, .ref (bd 1)])), ((bd 0), .inr (14, [.ref (bd 1), .ref (bd 2), .ref (bd 3), .ref (bd 4), .ref (bd 5), .ref (bd 6), .int 100, .int (-1), .int 0, .int 0])), ((bd 1), .inr (4, [.int 0, .ref (bd 7), .int 0])), ((bd 2), .inr (4, [.int 0, .ref (bd 7), .int 0])), ((bd 3), .inr (4, [.int 0, .ref (bd 7), .int 0])), ((bd 4), .inr (4, [.int 0, .ref (bd 7), .int 0])), ((bd 5), .inr (4, [.int 0, .ref (bd 7), .int 0])), ((bd 6), .inr (4, [.int 0, .ref (bd 7), .int 0])), (q_20, .inl (k_21, 4, .inl (upd (upd (upd (upd (fun _ => 0) (Int32.toNatClampNeg 0) p1) (Int32.toNatClampNeg 1) p2) (Int32.toNatClampNeg 2) p3) (Int32.toNatClampNeg 3) p0)))] H := hP
  have hD : va_D A [(r_11, .inr (3, [.int 0, .int (-1), .int 0, .ref (bd 1)])), ((bd 0), .inr (14, [.ref (bd 1), .ref (bd 2), .ref (bd 3), .ref (bd 4), .ref (bd 5), .ref (bd 6), .int 100, .int (-1), .int 0, .int 0])), ((bd 1), .inr (4, [.int 0, .ref (bd 7), .int 0])), ((bd 2), .inr (4, [.int 0, .ref (bd 7), .int 0])), ((bd 3), .inr (4, [.int 0, .ref (bd 7), .int 0])), ((bd 4), .inr (4, [.int 0, .ref (bd 7), .int 0])), ((bd 5), .inr (4, [.int 0, .ref (bd 7), .int 0])), ((bd 6), .inr (4, [.int 0, .ref (bd 7), .int 0])), (q_20, .inl (k_21, 4, .inl (upd (upd (upd (upd (fun _ => 0) (Int32.toNatClampNeg 0) p1) (Int32.toNatClampNeg 1) p2) (Int32.toNatClampNeg 2) p3) (Int32.toNatClampNeg 3) p0)))] := hD
  have hK : va_K D vwCl [(k_21, .int)] s := hK
  have hPc := hP.sub (ws' := [((bd 1), .inr (4, [.int 0, .ref (bd 7), .int 0])), (q_20, .inl (k_21, 4, .inl (upd (upd (upd (upd (fun _ => 0) (Int32.toNatClampNeg 0) p1) (Int32.toNatClampNeg 1) p2) (Int32.toNatClampNeg 2) p3) (Int32.toNatClampNeg 3) p0)))]) [2, 8] rfl
  have hDc := hD.sub (ws' := [((bd 1), .inr (4, [.int 0, .ref (bd 7), .int 0])), (q_20, .inl (k_21, 4, .inl (upd (upd (upd (upd (fun _ => 0) (Int32.toNatClampNeg 0) p1) (Int32.toNatClampNeg 1) p2) (Int32.toNatClampNeg 2) p3) (Int32.toNatClampNeg 3) p0)))]) [2, 8] (by decide) rfl
  have hFc := va_free (wc := [((bd 1), .inr (4, [.int 0, .ref (bd 7), .int 0])), (q_20, .inl (k_21, 4, .inl (upd (upd (upd (upd (fun _ => 0) (Int32.toNatClampNeg 0) p1) (Int32.toNatClampNeg 1) p2) (Int32.toNatClampNeg 2) p3) (Int32.toNatClampNeg 3) p0)))]) hD hS hA [2, 8] rfl
  refine va_callFi (va_runF (As := [.ref q_20]) (rest := []) (hK.1 4 _ rfl).2 ⟨hx, hb, hml, hown, hw⟩ (c_Jx4a65c_add_9ea2d l D sa ea (bd 1) q_20 k_21 (upd (upd (upd (upd (fun _ => 0) (Int32.toNatClampNeg 0) p1) (Int32.toNatClampNeg 1) p2) (Int32.toNatClampNeg 2) p3) (Int32.toNatClampNeg 3) p0) (bd 7) _ he) (va_cwF 1 hw (zg4 zm_1390 zm_1393 zm_682 zm_51 zm_684) rfl rfl rfl (hT.i 5 rfl) (by decide +kernel) ⟨Nat.le_of_ble_eq_true rfl, Nat.le_of_ble_eq_true rfl⟩) ⟨zG_blind, va_recv hK hPc (ci := 4) (q0 := 0) rfl rfl, zG_pre hPc hK hDc hT hE hQ hS hFc⟩ rfl rfl hl.1 rfl (lv_room (Nat.le_of_ble_eq_true rfl)) dX9_addShade_177 ⟨Nat.le_of_ble_eq_true rfl, Nat.le_of_ble_eq_true rfl⟩) hS (fun q _ h => hFc q h) hFc (fun r_22 u t H locs ht hvm hw1 hB hz1 hk1 hS => ?_)
  subst hw1
  obtain ⟨u_23, eu_23⟩ : ∃ z, z = u := ⟨_, rfl⟩
  subst eu_23
  obtain ⟨hP1, hD1⟩ := hB
  rw [ht] at hP1
  obtain ⟨hP, hD⟩ := va_join (wr := [(r_11, .inr (3, [.int 0, .int (-1), .int 0, .ref (bd 1)])), ((bd 0), .inr (14, [.ref (bd 1), .ref (bd 2), .ref (bd 3), .ref (bd 4), .ref (bd 5), .ref (bd 6), .int 100, .int (-1), .int 0, .int 0])), ((bd 2), .inr (4, [.int 0, .ref (bd 7), .int 0])), ((bd 3), .inr (4, [.int 0, .ref (bd 7), .int 0])), ((bd 4), .inr (4, [.int 0, .ref (bd 7), .int 0])), ((bd 5), .inr (4, [.int 0, .ref (bd 7), .int 0])), ((bd 6), .inr (4, [.int 0, .ref (bd 7), .int 0]))]) (w1 := [((bd 1), .inr (4, [.int 1, .ref u_23, .int 1]))]) hP hD [2, 8] [0, 1, 3, 4, 5, 6, 7] rfl rfl (by decide) (by decide) hk1 hFc hP1 hD1
  have hP : va_P D vwCl [(r_11, .inr (3, [.int 0, .int (-1), .int 0, .ref (bd 1)])), ((bd 0), .inr (14, [.ref (bd 1), .ref (bd 2), .ref (bd 3), .ref (bd 4), .ref (bd 5), .ref (bd 6), .int 100, .int (-1), .int 0, .int 0])), ((bd 2), .inr (4, [.int 0, .ref (bd 7), .int 0])), ((bd 3), .inr (4, [.int 0, .ref (bd 7), .int 0])), ((bd 4), .inr (4, [.int 0, .ref (bd 7), .int 0])), ((bd 5), .inr (4, [.int 0, .ref (bd 7), .int 0])), ((bd 6), .inr (4, [.int 0, .ref (bd 7), .int 0])), ((bd 1), .inr (4, [.int 1, .ref u_23, .int 1]))] H := hP
  have hD : va_D A [(r_11, .inr (3, [.int 0, .int (-1), .int 0, .ref (bd 1)])), ((bd 0), .inr (14, [.ref (bd 1), .ref (bd 2), .ref (bd 3), .ref (bd 4), .ref (bd 5), .ref (bd 6), .int 100, .int (-1), .int 0, .int 0])), ((bd 2), .inr (4, [.int 0, .ref (bd 7), .int 0])), ((bd 3), .inr (4, [.int 0, .ref (bd 7), .int 0])), ((bd 4), .inr (4, [.int 0, .ref (bd 7), .int 0])), ((bd 5), .inr (4, [.int 0, .ref (bd 7), .int 0])), ((bd 6), .inr (4, [.int 0, .ref (bd 7), .int 0])), ((bd 1), .inr (4, [.int 1, .ref u_23, .int 1]))] := hD
  have hK : va_K D vwCl [(k_21, .int)] s := hK
  refine lv_pop hx hb dX9_addShade_182 rfl ?_
  refine lv_aload_n hx hb dX9_addShade_183 rfl (lv_at hl 2 rfl) ?_
  refine va_get (D := D) (ci := 14) (v := .ref (bd 1)) (C := RX9) (T := TX9) (N := 10) hx hb hw zi_RX9 hown hK hP 1 rfl rfl 0 (by decide) (hw _ zm_1272) (fun _ h9 => h9) rfl dX9_addShade_184 ?_
  have hPc := hP.sub (ws' := [((bd 1), .inr (4, [.int 1, .ref u_23, .int 1]))]) [7] rfl
  refine va_callFi (va_runF (As := []) (rest := []) (hK.1 4 _ rfl).2 ⟨hx, hb, hml, hown, hw⟩ (c_Jx4a65c_size1 l D sa (bd 1) 1 u_23 _) (va_cwF 0 hw (zg4 zm_1383 zm_1386 zm_240 zm_51 zm_242) rfl rfl rfl (hT.i 0 rfl) (by decide +kernel) ⟨Nat.le_of_ble_eq_true rfl, Nat.le_of_ble_eq_true rfl⟩) ⟨zJ_blind, va_recv hK hPc (ci := 4) (q0 := 0) rfl rfl, zJ_pre hPc hK hT⟩ rfl rfl hl.1 rfl (lv_room (Nat.le_of_ble_eq_true rfl)) dX9_addShade_187 ⟨Nat.le_of_ble_eq_true rfl, Nat.le_of_ble_eq_true rfl⟩) hS zN_in (zN_fr hS hA) (fun r_24 u t H locs ht hvm hw1 hB hz1 hk1 hS => ?_)
  have hP := zN_keep hP hk1
  subst hw1
  refine lv_iconst (v := 1) hx hb dX9_addShade_192 (by decide) ?_
  refine lv_isub hx hb dX9_addShade_193 ?_
  refine lv_topi (fun f_25 ef_25 => ?_)
  obtain rfl : f_25 = 0 := ef_25.trans (by decide)
  have hP9 := hP.sub (ws' := [((bd 0), .inr (14, [.ref (bd 1), .ref (bd 2), .ref (bd 3), .ref (bd 4), .ref (bd 5), .ref (bd 6), .int 100, .int (-1), .int 0, .int 0]))]) [1] rfl
  have hD9 := hD.sub (ws' := [((bd 0), .inr (14, [.ref (bd 1), .ref (bd 2), .ref (bd 3), .ref (bd 4), .ref (bd 5), .ref (bd 6), .int 100, .int (-1), .int 0, .int 0]))]) [1] (by decide) rfl
  refine W.widen (k := 3) (n := 18) (Nat.le_of_ble_eq_true rfl) (Nat.le_of_ble_eq_true rfl) ?_
  exact W.iret (v := 0) hx hb hr (fun t ht hW => ⟨⟨0, (), rfl, rfl, by rw [ht]; exact hP9, hD9⟩, hS.F ht⟩) hS.2.2 dX9_addShade_194
