theorem dL_law_0 : decode cL_law 0 = .ok (.new 8, 3) := by decide +kernel
theorem zm_79 : Cond.classLink RL 8 RX5 ∈ WA := zmm (i := 79) (by decide +kernel) (by decide +kernel)
theorem dL_law_3 : decode cL_law 3 = .ok (.dup, 1) := by decide +kernel
theorem dL_law_4 : decode cL_law 4 = .ok (.invokespecial 169, 3) := by decide +kernel
theorem zm_83 : Cond.code yX5_init prog_1_method_1_code 1 (Option.none : Option FieldType) ∈ WA := zmm (i := 83) (by decide +kernel) (by decide +kernel)
theorem zm_81 : Cond.methodLink RL 169 yX5_init ∈ WA := zmm (i := 81) (by decide +kernel) (by decide +kernel)
theorem zm_82 : Cond.instanceMethod yX5_init ∈ WA := zmm (i := 82) (by decide +kernel) (by decide +kernel)
theorem dL_law_7 : decode cL_law 7 = .ok (.astore_n 1, 1) := by decide +kernel
theorem dL_law_8 : decode cL_law 8 = .ok (.new 170, 3) := by decide +kernel
theorem zm_1264 : Cond.classLink RL 170 RX9 ∈ WA := zmm (i := 1264) (by decide +kernel) (by decide +kernel)
theorem dL_law_11 : decode cL_law 11 = .ok (.dup, 1) := by decide +kernel
theorem dL_law_12 : decode cL_law 12 = .ok (.invokespecial 172, 3) := by decide +kernel
theorem zm_1268 : Cond.code yX9_init prog_8_method_1_code 1 (Option.none : Option FieldType) ∈ WA := zmm (i := 1268) (by decide +kernel) (by decide +kernel)
theorem zm_1266 : Cond.methodLink RL 172 yX9_init ∈ WA := zmm (i := 1266) (by decide +kernel) (by decide +kernel)
theorem zm_1267 : Cond.instanceMethod yX9_init ∈ WA := zmm (i := 1267) (by decide +kernel) (by decide +kernel)
theorem dL_law_15 : decode cL_law 15 = .ok (.astore_n 2, 1) := by decide +kernel
theorem dL_law_16 : decode cL_law 16 = .ok (.iconst 1, 1) := by decide +kernel
theorem dL_law_17 : decode cL_law 17 = .ok (.newarray .long, 2) := by decide +kernel
theorem zm_1851 : Cond.arrayClass FieldType.long ∈ WA := zmm (i := 1851) (by decide +kernel) (by decide +kernel)
theorem dL_law_19 : decode cL_law 19 = .ok (.astore_n 3, 1) := by decide +kernel
theorem dL_law_20 : decode cL_law 20 = .ok (.iconst 1, 1) := by decide +kernel
theorem dL_law_21 : decode cL_law 21 = .ok (.newarray .double, 2) := by decide +kernel
theorem zm_1852 : Cond.arrayClass FieldType.double ∈ WA := zmm (i := 1852) (by decide +kernel) (by decide +kernel)
theorem dL_law_23 : decode cL_law 23 = .ok (.astore 4, 2) := by decide +kernel
theorem dL_law_25 : decode cL_law 25 = .ok (.iconst 0, 1) := by decide +kernel
theorem dL_law_26 : decode cL_law 26 = .ok (.istore 5, 2) := by decide +kernel
set_option maxHeartbeats 4000000 in
set_option maxRecDepth 100000 in
theorem whole_start {p : Program} {e : Env} {s : State} {m : MethodId} {below : List Frame} {meth : Method} {c : Code} (l : Launch) (hflags : l.flags = flags0) {b L : Nat} {xs : Nat → Int32} (hL : L ≤ 7) (C0 : lw_At p s m meth c b L xs) : W p l e room_1 s m #[Value.ref b] below meth c s.heap [] 0 0 (lw_Z below #[Value.ref b] s) (entryFrame m ([Value.ref b] : List Value).toArray 9) := by
  obtain ⟨hx, hb, hr, hml, hown, hts, hX, hbl, hlocks, hgv⟩ := id C0
  have hown : s.vm.findClass RL = some m.cls := hown
  have hw : ∀ w ∈ WA, w.before #[Value.ref b] s = true := fun w h => hts w (List.mem_filter.mp h).1
  have hst : l.stackTraces = false := by unfold Launch.stackTraces; rw [hflags]; decide
  have hA : ∀ q : Nat, s.heap.size ≤ q → (fun q : Nat => s.heap.size ≤ q) q := fun _ h => h
  have hbA : ¬ (fun q : Nat => s.heap.size ≤ q) b := Nat.not_le.mpr hbl
  have hN : ∀ a : Nat, a < s.heap.size → ¬ (fun q : Nat => s.heap.size ≤ q) a := fun a h => Nat.not_le.mpr h
  obtain ⟨sa, hT⟩ := zT_of hts hgv
  obtain ⟨ea, hE, hQ⟩ := zQ_of hts hgv hN
  have hs := flat_of_before _ hgv
  have hZ : ZH (fun q : Nat => s.heap.size ≤ q) s s.heap := ⟨vx_Zqof (hts _ zl_us) (hts _ zi_th) (hs _ zr_us) hN, vx_Zqof (hts _ zl_ss) (hts _ zi_th) (hs _ zr_ss) hN⟩
  obtain ⟨D, hK⟩ := zK_of hw
  have hS : va_S (fun q : Nat => s.heap.size ≤ q) s.heap s.heap [] := va_S.rf
  have hP : va_P D vwCl [] s.heap := fun k q h => by simp at h
  have hD : va_D (fun q : Nat => s.heap.size ≤ q) [] := ⟨fun i j p q h => by simp at h, fun k q h => by simp at h⟩
  have hl := lv_entry ([.ref b]) (n := 9) (Nat.le_of_ble_eq_true rfl)
  rw [lg_entry_eq]
  generalize (lg_sl ([.ref b]) ++ List.replicate (9 - (lg_sl ([.ref b])).length) Slot.unset).toArray = ls at hl ⊢
  have hl : lv_has ls 9 [(0, .ref b)] := hl
  refine va_new (ci := 10) (fs := [.null, .null, .null, .null, .null, .int 0, .int 0, .int 0, .int 0]) (C := RX5) (T := TX5) (N := 9) hx hb hw zi_RX5 tyX5 tyX5_ok hown (hw _ zm_79) (hw _ zm_80) (hw _ zm_45) hK hP hD hS hA rfl (fun j hj => by rcases (show j = 0 ∨ j = 1 ∨ j = 2 ∨ j = 3 ∨ j = 4 ∨ j = 5 ∨ j = 6 ∨ j = 7 ∨ j = 8 by omega) with rfl | rfl | rfl | rfl | rfl | rfl | rfl | rfl | rfl <;> rfl) (Nat.le_of_ble_eq_true rfl) (Nat.le_of_ble_eq_true rfl) dL_law_0 (fun q_1 H hP hD hS => ?_)
  have hP : va_P D vwCl [(q_1, .inr (10, [.null, .null, .null, .null, .null, .int 0, .int 0, .int 0, .int 0]))] H := hP
  have hD : va_D (fun q : Nat => s.heap.size ≤ q) [(q_1, .inr (10, [.null, .null, .null, .null, .null, .int 0, .int 0, .int 0, .int 0]))] := hD
  refine lv_dup hx hb dL_law_3 rfl ?_
  have hFc := va_free (wc := [(q_1, .inr (10, [.null, .null, .null, .null, .null, .int 0, .int 0, .int 0, .int 0]))]) hD hS hA [0] rfl
  refine va_callv (va_runI (As := []) (rest := [.ref q_1]) ⟨hx, hb, hml, hown, hw⟩ (c_X5_init l D sa ea q_1 _) (cwI 0 hw (zgC zm_83) rfl rfl rfl (hw _ zm_45) (hw _ zm_81) (hw _ zm_82) rfl (by decide +kernel) ⟨Nat.le_of_ble_eq_true rfl, Nat.le_of_ble_eq_true rfl⟩) ⟨zW_blind, zW_pre hP hK hD hT hE hS hFc⟩ rfl rfl hl.1 rfl (lv_room (Nat.le_of_ble_eq_true rfl)) dL_law_4 ⟨Nat.le_of_ble_eq_true rfl, Nat.le_of_ble_eq_true rfl⟩) hS (fun q _ h => hFc q h) hFc (fun u t H locs ht hvm hw1 hB hz1 hk1 hS => ?_)
  obtain ⟨u_3_1, u_3_2⟩ := u
  obtain ⟨hP1, hK1, hD1⟩ := hB
  have hK1 := va_K.moved hvm.symm hK1
  obtain ⟨e0, e_u_3⟩ := hw1
  subst e0
  rw [ht] at hP1
  obtain ⟨hP, hD⟩ := va_join (wr := []) (w1 := [((u_3_1 0), .inr (10, [.ref (u_3_1 1), .ref (u_3_1 2), .ref (u_3_1 3), .ref (u_3_1 4), .ref (u_3_1 5), .int (-1), .int 100, .int 0, .int 0])), ((u_3_1 1), .inr (7, [.ref (u_3_1 6), .ref (u_3_1 7), .ref (u_3_1 8), .int 0])), ((u_3_1 2), .inr (8, [.ref (u_3_1 9), .ref (u_3_1 10), .int 0])), ((u_3_1 3), .inr (4, [.int 0, .ref (u_3_1 14), .int 0])), ((u_3_1 4), .inr (4, [.int 0, .ref (u_3_1 14), .int 0])), ((u_3_1 5), .inr (6, [.ref (u_3_1 11), .ref (u_3_1 12), .ref (u_3_1 13), .int 0, .int 0])), ((u_3_1 6), .inl ((u_3_2 0), 12, .inl (fun _ => 0))), ((u_3_1 7), .inl ((u_3_2 1), 36, .inl (fun _ => 0)))]) hP hD [0] [] rfl rfl (by decide) (by decide) hk1 hFc hP1 hD1
  have hK := (hK.sub (tys' := []) [] rfl).app hK1
  have hP : va_P D vwCl [((u_3_1 0), .inr (10, [.ref (u_3_1 1), .ref (u_3_1 2), .ref (u_3_1 3), .ref (u_3_1 4), .ref (u_3_1 5), .int (-1), .int 100, .int 0, .int 0])), ((u_3_1 1), .inr (7, [.ref (u_3_1 6), .ref (u_3_1 7), .ref (u_3_1 8), .int 0])), ((u_3_1 2), .inr (8, [.ref (u_3_1 9), .ref (u_3_1 10), .int 0])), ((u_3_1 3), .inr (4, [.int 0, .ref (u_3_1 14), .int 0])), ((u_3_1 4), .inr (4, [.int 0, .ref (u_3_1 14), .int 0])), ((u_3_1 5), .inr (6, [.ref (u_3_1 11), .ref (u_3_1 12), .ref (u_3_1 13), .int 0, .int 0])), ((u_3_1 6), .inl ((u_3_2 0), 12, .inl (fun _ => 0))), ((u_3_1 7), .inl ((u_3_2 1), 36, .inl (fun _ => 0)))] H := hP
  have hD : va_D (fun q : Nat => s.heap.size ≤ q) [((u_3_1 0), .inr (10, [.ref (u_3_1 1), .ref (u_3_1 2), .ref (u_3_1 3), .ref (u_3_1 4), .ref (u_3_1 5), .int (-1), .int 100, .int 0, .int 0])), ((u_3_1 1), .inr (7, [.ref (u_3_1 6), .ref (u_3_1 7), .ref (u_3_1 8), .int 0])), ((u_3_1 2), .inr (8, [.ref (u_3_1 9), .ref (u_3_1 10), .int 0])), ((u_3_1 3), .inr (4, [.int 0, .ref (u_3_1 14), .int 0])), ((u_3_1 4), .inr (4, [.int 0, .ref (u_3_1 14), .int 0])), ((u_3_1 5), .inr (6, [.ref (u_3_1 11), .ref (u_3_1 12), .ref (u_3_1 13), .int 0, .int 0])), ((u_3_1 6), .inl ((u_3_2 0), 12, .inl (fun _ => 0))), ((u_3_1 7), .inl ((u_3_2 1), 36, .inl (fun _ => 0)))] := hD
  have hK : va_K D vwCl [((u_3_2 0), .char), ((u_3_2 1), .int)] s := hK
  refine lv_astore_n (lv' := [(1, .ref (u_3_1 0)), (0, .ref b)]) hx hb dL_law_7 rfl hl (by decide) rfl (fun ls hl => ?_)
  refine va_new (ci := 14) (fs := [.null, .null, .null, .null, .null, .null, .int 0, .int 0, .int 0, .int 0]) (C := RX9) (T := TX9) (N := 10) hx hb hw zi_RX9 tyX9 tyX9_ok hown (hw _ zm_1264) (hw _ zm_1265) (hw _ zm_53) hK hP hD hS hA rfl (fun j hj => by rcases (show j = 0 ∨ j = 1 ∨ j = 2 ∨ j = 3 ∨ j = 4 ∨ j = 5 ∨ j = 6 ∨ j = 7 ∨ j = 8 ∨ j = 9 by omega) with rfl | rfl | rfl | rfl | rfl | rfl | rfl | rfl | rfl | rfl <;> rfl) (Nat.le_of_ble_eq_true rfl) (Nat.le_of_ble_eq_true rfl) dL_law_8 (fun q_4 H hP hD hS => ?_)
  have hP : va_P D vwCl [((u_3_1 0), .inr (10, [.ref (u_3_1 1), .ref (u_3_1 2), .ref (u_3_1 3), .ref (u_3_1 4), .ref (u_3_1 5), .int (-1), .int 100, .int 0, .int 0])), ((u_3_1 1), .inr (7, [.ref (u_3_1 6), .ref (u_3_1 7), .ref (u_3_1 8), .int 0])), ((u_3_1 2), .inr (8, [.ref (u_3_1 9), .ref (u_3_1 10), .int 0])), ((u_3_1 3), .inr (4, [.int 0, .ref (u_3_1 14), .int 0])), ((u_3_1 4), .inr (4, [.int 0, .ref (u_3_1 14), .int 0])), ((u_3_1 5), .inr (6, [.ref (u_3_1 11), .ref (u_3_1 12), .ref (u_3_1 13), .int 0, .int 0])), ((u_3_1 6), .inl ((u_3_2 0), 12, .inl (fun _ => 0))), ((u_3_1 7), .inl ((u_3_2 1), 36, .inl (fun _ => 0))), (q_4, .inr (14, [.null, .null, .null, .null, .null, .null, .int 0, .int 0, .int 0, .int 0]))] H := hP
  have hD : va_D (fun q : Nat => s.heap.size ≤ q) [((u_3_1 0), .inr (10, [.ref (u_3_1 1), .ref (u_3_1 2), .ref (u_3_1 3), .ref (u_3_1 4), .ref (u_3_1 5), .int (-1), .int 100, .int 0, .int 0])), ((u_3_1 1), .inr (7, [.ref (u_3_1 6), .ref (u_3_1 7), .ref (u_3_1 8), .int 0])), ((u_3_1 2), .inr (8, [.ref (u_3_1 9), .ref (u_3_1 10), .int 0])), ((u_3_1 3), .inr (4, [.int 0, .ref (u_3_1 14), .int 0])), ((u_3_1 4), .inr (4, [.int 0, .ref (u_3_1 14), .int 0])), ((u_3_1 5), .inr (6, [.ref (u_3_1 11), .ref (u_3_1 12), .ref (u_3_1 13), .int 0, .int 0])), ((u_3_1 6), .inl ((u_3_2 0), 12, .inl (fun _ => 0))), ((u_3_1 7), .inl ((u_3_2 1), 36, .inl (fun _ => 0))), (q_4, .inr (14, [.null, .null, .null, .null, .null, .null, .int 0, .int 0, .int 0, .int 0]))] := hD
  have hK : va_K D vwCl [((u_3_2 0), .char), ((u_3_2 1), .int)] s := hK
  refine lv_dup hx hb dL_law_11 rfl ?_
  have hPc := hP.sub (ws' := [(q_4, .inr (14, [.null, .null, .null, .null, .null, .null, .int 0, .int 0, .int 0, .int 0]))]) [8] rfl
  have hDc := hD.sub (ws' := [(q_4, .inr (14, [.null, .null, .null, .null, .null, .null, .int 0, .int 0, .int 0, .int 0]))]) [8] (by decide) rfl
  have hFc := va_free (wc := [(q_4, .inr (14, [.null, .null, .null, .null, .null, .null, .int 0, .int 0, .int 0, .int 0]))]) hD hS hA [8] rfl
  refine va_callv (va_runI (As := []) (rest := [.ref q_4]) ⟨hx, hb, hml, hown, hw⟩ (c_X9_init l D sa ea q_4 _) (cwI 0 hw (zgC zm_1268) rfl rfl rfl (hw _ zm_53) (hw _ zm_1266) (hw _ zm_1267) rfl (by decide +kernel) ⟨Nat.le_of_ble_eq_true rfl, Nat.le_of_ble_eq_true rfl⟩) ⟨zW_blind, zW_pre hPc (hK.sub (tys' := []) [] rfl) hDc hT hE hS hFc⟩ rfl rfl hl.1 rfl (lv_room (Nat.le_of_ble_eq_true rfl)) dL_law_12 ⟨Nat.le_of_ble_eq_true rfl, Nat.le_of_ble_eq_true rfl⟩) hS (fun q _ h => hFc q h) hFc (fun u t H locs ht hvm hw1 hB hz1 hk1 hS => ?_)
  obtain ⟨u_6_1, u_6_2⟩ := u
  obtain ⟨hP1, hK1, hD1⟩ := hB
  have hK1 := va_K.moved hvm.symm hK1
  obtain ⟨e0, e_u_6⟩ := hw1
  subst e0
  rw [ht] at hP1
  obtain ⟨hP, hD⟩ := va_join (wr := [((u_3_1 0), .inr (10, [.ref (u_3_1 1), .ref (u_3_1 2), .ref (u_3_1 3), .ref (u_3_1 4), .ref (u_3_1 5), .int (-1), .int 100, .int 0, .int 0])), ((u_3_1 1), .inr (7, [.ref (u_3_1 6), .ref (u_3_1 7), .ref (u_3_1 8), .int 0])), ((u_3_1 2), .inr (8, [.ref (u_3_1 9), .ref (u_3_1 10), .int 0])), ((u_3_1 3), .inr (4, [.int 0, .ref (u_3_1 14), .int 0])), ((u_3_1 4), .inr (4, [.int 0, .ref (u_3_1 14), .int 0])), ((u_3_1 5), .inr (6, [.ref (u_3_1 11), .ref (u_3_1 12), .ref (u_3_1 13), .int 0, .int 0])), ((u_3_1 6), .inl ((u_3_2 0), 12, .inl (fun _ => 0))), ((u_3_1 7), .inl ((u_3_2 1), 36, .inl (fun _ => 0)))]) (w1 := [((u_6_1 0), .inr (14, [.ref (u_6_1 1), .ref (u_6_1 2), .ref (u_6_1 3), .ref (u_6_1 4), .ref (u_6_1 5), .ref (u_6_1 6), .int 100, .int (-1), .int 0, .int 0])), ((u_6_1 1), .inr (4, [.int 0, .ref (u_6_1 7), .int 0])), ((u_6_1 2), .inr (4, [.int 0, .ref (u_6_1 7), .int 0])), ((u_6_1 3), .inr (4, [.int 0, .ref (u_6_1 7), .int 0])), ((u_6_1 4), .inr (4, [.int 0, .ref (u_6_1 7), .int 0])), ((u_6_1 5), .inr (4, [.int 0, .ref (u_6_1 7), .int 0])), ((u_6_1 6), .inr (4, [.int 0, .ref (u_6_1 7), .int 0]))]) hP hD [8] [0, 1, 2, 3, 4, 5, 6, 7] rfl rfl (by decide) (by decide) hk1 hFc hP1 hD1
  have hK := (hK.sub (tys' := [((u_3_2 0), .char), ((u_3_2 1), .int)]) [0, 1] rfl).app hK1
  have hP : va_P D vwCl [((u_3_1 0), .inr (10, [.ref (u_3_1 1), .ref (u_3_1 2), .ref (u_3_1 3), .ref (u_3_1 4), .ref (u_3_1 5), .int (-1), .int 100, .int 0, .int 0])), ((u_3_1 1), .inr (7, [.ref (u_3_1 6), .ref (u_3_1 7), .ref (u_3_1 8), .int 0])), ((u_3_1 2), .inr (8, [.ref (u_3_1 9), .ref (u_3_1 10), .int 0])), ((u_3_1 3), .inr (4, [.int 0, .ref (u_3_1 14), .int 0])), ((u_3_1 4), .inr (4, [.int 0, .ref (u_3_1 14), .int 0])), ((u_3_1 5), .inr (6, [.ref (u_3_1 11), .ref (u_3_1 12), .ref (u_3_1 13), .int 0, .int 0])), ((u_3_1 6), .inl ((u_3_2 0), 12, .inl (fun _ => 0))), ((u_3_1 7), .inl ((u_3_2 1), 36, .inl (fun _ => 0))), ((u_6_1 0), .inr (14, [.ref (u_6_1 1), .ref (u_6_1 2), .ref (u_6_1 3), .ref (u_6_1 4), .ref (u_6_1 5), .ref (u_6_1 6), .int 100, .int (-1), .int 0, .int 0])), ((u_6_1 1), .inr (4, [.int 0, .ref (u_6_1 7), .int 0])), ((u_6_1 2), .inr (4, [.int 0, .ref (u_6_1 7), .int 0])), ((u_6_1 3), .inr (4, [.int 0, .ref (u_6_1 7), .int 0])), ((u_6_1 4), .inr (4, [.int 0, .ref (u_6_1 7), .int 0])), ((u_6_1 5), .inr (4, [.int 0, .ref (u_6_1 7), .int 0])), ((u_6_1 6), .inr (4, [.int 0, .ref (u_6_1 7), .int 0]))] H := hP
  have hD : va_D (fun q : Nat => s.heap.size ≤ q) [((u_3_1 0), .inr (10, [.ref (u_3_1 1), .ref (u_3_1 2), .ref (u_3_1 3), .ref (u_3_1 4), .ref (u_3_1 5), .int (-1), .int 100, .int 0, .int 0])), ((u_3_1 1), .inr (7, [.ref (u_3_1 6), .ref (u_3_1 7), .ref (u_3_1 8), .int 0])), ((u_3_1 2), .inr (8, [.ref (u_3_1 9), .ref (u_3_1 10), .int 0])), ((u_3_1 3), .inr (4, [.int 0, .ref (u_3_1 14), .int 0])), ((u_3_1 4), .inr (4, [.int 0, .ref (u_3_1 14), .int 0])), ((u_3_1 5), .inr (6, [.ref (u_3_1 11), .ref (u_3_1 12), .ref (u_3_1 13), .int 0, .int 0])), ((u_3_1 6), .inl ((u_3_2 0), 12, .inl (fun _ => 0))), ((u_3_1 7), .inl ((u_3_2 1), 36, .inl (fun _ => 0))), ((u_6_1 0), .inr (14, [.ref (u_6_1 1), .ref (u_6_1 2), .ref (u_6_1 3), .ref (u_6_1 4), .ref (u_6_1 5), .ref (u_6_1 6), .int 100, .int (-1), .int 0, .int 0])), ((u_6_1 1), .inr (4, [.int 0, .ref (u_6_1 7), .int 0])), ((u_6_1 2), .inr (4, [.int 0, .ref (u_6_1 7), .int 0])), ((u_6_1 3), .inr (4, [.int 0, .ref (u_6_1 7), .int 0])), ((u_6_1 4), .inr (4, [.int 0, .ref (u_6_1 7), .int 0])), ((u_6_1 5), .inr (4, [.int 0, .ref (u_6_1 7), .int 0])), ((u_6_1 6), .inr (4, [.int 0, .ref (u_6_1 7), .int 0]))] := hD
  have hK : va_K D vwCl [((u_3_2 0), .char), ((u_3_2 1), .int)] s := hK
  refine lv_astore_n (lv' := [(2, .ref (u_6_1 0)), (1, .ref (u_3_1 0)), (0, .ref b)]) hx hb dL_law_15 rfl hl (by decide) rfl (fun ls hl => ?_)
  refine lv_iconst (v := 1) hx hb dL_law_16 (by decide) ?_
  refine va_newa (atype := .long) (a0 := (1, .inr (.inl (fun _ => 0)))) hx hb (hw _ zm_1851) rfl hK hP hD hS hA (fun _ => rfl) (by decide) rfl (Nat.le_of_ble_eq_true rfl) (Nat.le_of_ble_eq_true rfl) (Nat.le_of_ble_eq_true rfl) dL_law_17 (fun q_7 k_8 H hK hP hD hS => ?_)
  have hP : va_P D vwCl [((u_3_1 0), .inr (10, [.ref (u_3_1 1), .ref (u_3_1 2), .ref (u_3_1 3), .ref (u_3_1 4), .ref (u_3_1 5), .int (-1), .int 100, .int 0, .int 0])), ((u_3_1 1), .inr (7, [.ref (u_3_1 6), .ref (u_3_1 7), .ref (u_3_1 8), .int 0])), ((u_3_1 2), .inr (8, [.ref (u_3_1 9), .ref (u_3_1 10), .int 0])), ((u_3_1 3), .inr (4, [.int 0, .ref (u_3_1 14), .int 0])), ((u_3_1 4), .inr (4, [.int 0, .ref (u_3_1 14), .int 0])), ((u_3_1 5), .inr (6, [.ref (u_3_1 11), .ref (u_3_1 12), .ref (u_3_1 13), .int 0, .int 0])), ((u_3_1 6), .inl ((u_3_2 0), 12, .inl (fun _ => 0))), ((u_3_1 7), .inl ((u_3_2 1), 36, .inl (fun _ => 0))), ((u_6_1 0), .inr (14, [.ref (u_6_1 1), .ref (u_6_1 2), .ref (u_6_1 3), .ref (u_6_1 4), .ref (u_6_1 5), .ref (u_6_1 6), .int 100, .int (-1), .int 0, .int 0])), ((u_6_1 1), .inr (4, [.int 0, .ref (u_6_1 7), .int 0])), ((u_6_1 2), .inr (4, [.int 0, .ref (u_6_1 7), .int 0])), ((u_6_1 3), .inr (4, [.int 0, .ref (u_6_1 7), .int 0])), ((u_6_1 4), .inr (4, [.int 0, .ref (u_6_1 7), .int 0])), ((u_6_1 5), .inr (4, [.int 0, .ref (u_6_1 7), .int 0])), ((u_6_1 6), .inr (4, [.int 0, .ref (u_6_1 7), .int 0])), (q_7, .inl (k_8, 1, .inr (.inl (fun _ => 0))))] H := hP
  have hD : va_D (fun q : Nat => s.heap.size ≤ q) [((u_3_1 0), .inr (10, [.ref (u_3_1 1), .ref (u_3_1 2), .ref (u_3_1 3), .ref (u_3_1 4), .ref (u_3_1 5), .int (-1), .int 100, .int 0, .int 0])), ((u_3_1 1), .inr (7, [.ref (u_3_1 6), .ref (u_3_1 7), .ref (u_3_1 8), .int 0])), ((u_3_1 2), .inr (8, [.ref (u_3_1 9), .ref (u_3_1 10), .int 0])), ((u_3_1 3), .inr (4, [.int 0, .ref (u_3_1 14), .int 0])), ((u_3_1 4), .inr (4, [.int 0, .ref (u_3_1 14), .int 0])), ((u_3_1 5), .inr (6, [.ref (u_3_1 11), .ref (u_3_1 12), .ref (u_3_1 13), .int 0, .int 0])), ((u_3_1 6), .inl ((u_3_2 0), 12, .inl (fun _ => 0))), ((u_3_1 7), .inl ((u_3_2 1), 36, .inl (fun _ => 0))), ((u_6_1 0), .inr (14, [.ref (u_6_1 1), .ref (u_6_1 2), .ref (u_6_1 3), .ref (u_6_1 4), .ref (u_6_1 5), .ref (u_6_1 6), .int 100, .int (-1), .int 0, .int 0])), ((u_6_1 1), .inr (4, [.int 0, .ref (u_6_1 7), .int 0])), ((u_6_1 2), .inr (4, [.int 0, .ref (u_6_1 7), .int 0])), ((u_6_1 3), .inr (4, [.int 0, .ref (u_6_1 7), .int 0])), ((u_6_1 4), .inr (4, [.int 0, .ref (u_6_1 7), .int 0])), ((u_6_1 5), .inr (4, [.int 0, .ref (u_6_1 7), .int 0])), ((u_6_1 6), .inr (4, [.int 0, .ref (u_6_1 7), .int 0])), (q_7, .inl (k_8, 1, .inr (.inl (fun _ => 0))))] := hD
  have hK : va_K D vwCl [((u_3_2 0), .char), ((u_3_2 1), .int), (k_8, .long)] s := hK
  refine lv_astore_n (lv' := [(3, .ref q_7), (2, .ref (u_6_1 0)), (1, .ref (u_3_1 0)), (0, .ref b)]) hx hb dL_law_19 rfl hl (by decide) rfl (fun ls hl => ?_)
  refine lv_iconst (v := 1) hx hb dL_law_20 (by decide) ?_
  refine va_newa (atype := .double) (a0 := (1, .inr (.inr (.inr (.inl (fun _ => 0)))))) hx hb (hw _ zm_1852) rfl hK hP hD hS hA (fun _ => rfl) (by decide) rfl (Nat.le_of_ble_eq_true rfl) (Nat.le_of_ble_eq_true rfl) (Nat.le_of_ble_eq_true rfl) dL_law_21 (fun q_9 k_10 H hK hP hD hS => ?_)
  have hP : va_P D vwCl [((u_3_1 0), .inr (10, [.ref (u_3_1 1), .ref (u_3_1 2), .ref (u_3_1 3), .ref (u_3_1 4), .ref (u_3_1 5), .int (-1), .int 100, .int 0, .int 0])), ((u_3_1 1), .inr (7, [.ref (u_3_1 6), .ref (u_3_1 7), .ref (u_3_1 8), .int 0])), ((u_3_1 2), .inr (8, [.ref (u_3_1 9), .ref (u_3_1 10), .int 0])), ((u_3_1 3), .inr (4, [.int 0, .ref (u_3_1 14), .int 0])), ((u_3_1 4), .inr (4, [.int 0, .ref (u_3_1 14), .int 0])), ((u_3_1 5), .inr (6, [.ref (u_3_1 11), .ref (u_3_1 12), .ref (u_3_1 13), .int 0, .int 0])), ((u_3_1 6), .inl ((u_3_2 0), 12, .inl (fun _ => 0))), ((u_3_1 7), .inl ((u_3_2 1), 36, .inl (fun _ => 0))), ((u_6_1 0), .inr (14, [.ref (u_6_1 1), .ref (u_6_1 2), .ref (u_6_1 3), .ref (u_6_1 4), .ref (u_6_1 5), .ref (u_6_1 6), .int 100, .int (-1), .int 0, .int 0])), ((u_6_1 1), .inr (4, [.int 0, .ref (u_6_1 7), .int 0])), ((u_6_1 2), .inr (4, [.int 0, .ref (u_6_1 7), .int 0])), ((u_6_1 3), .inr (4, [.int 0, .ref (u_6_1 7), .int 0])), ((u_6_1 4), .inr (4, [.int 0, .ref (u_6_1 7), .int 0])), ((u_6_1 5), .inr (4, [.int 0, .ref (u_6_1 7), .int 0])), ((u_6_1 6), .inr (4, [.int 0, .ref (u_6_1 7), .int 0])), (q_7, .inl (k_8, 1, .inr (.inl (fun _ => 0)))), (q_9, .inl (k_10, 1, .inr (.inr (.inr (.inl (fun _ => 0))))))] H := hP
  have hD : va_D (fun q : Nat => s.heap.size ≤ q) [((u_3_1 0), .inr (10, [.ref (u_3_1 1), .ref (u_3_1 2), .ref (u_3_1 3), .ref (u_3_1 4), .ref (u_3_1 5), .int (-1), .int 100, .int 0, .int 0])), ((u_3_1 1), .inr (7, [.ref (u_3_1 6), .ref (u_3_1 7), .ref (u_3_1 8), .int 0])), ((u_3_1 2), .inr (8, [.ref (u_3_1 9), .ref (u_3_1 10), .int 0])), ((u_3_1 3), .inr (4, [.int 0, .ref (u_3_1 14), .int 0])), ((u_3_1 4), .inr (4, [.int 0, .ref (u_3_1 14), .int 0])), ((u_3_1 5), .inr (6, [.ref (u_3_1 11), .ref (u_3_1 12), .ref (u_3_1 13), .int 0, .int 0])), ((u_3_1 6), .inl ((u_3_2 0), 12, .inl (fun _ => 0))), ((u_3_1 7), .inl ((u_3_2 1), 36, .inl (fun _ => 0))), ((u_6_1 0), .inr (14, [.ref (u_6_1 1), .ref (u_6_1 2), .ref (u_6_1 3), .ref (u_6_1 4), .ref (u_6_1 5), .ref (u_6_1 6), .int 100, .int (-1), .int 0, .int 0])), ((u_6_1 1), .inr (4, [.int 0, .ref (u_6_1 7), .int 0])), ((u_6_1 2), .inr (4, [.int 0, .ref (u_6_1 7), .int 0])), ((u_6_1 3), .inr (4, [.int 0, .ref (u_6_1 7), .int 0])), ((u_6_1 4), .inr (4, [.int 0, .ref (u_6_1 7), .int 0])), ((u_6_1 5), .inr (4, [.int 0, .ref (u_6_1 7), .int 0])), ((u_6_1 6), .inr (4, [.int 0, .ref (u_6_1 7), .int 0])), (q_7, .inl (k_8, 1, .inr (.inl (fun _ => 0)))), (q_9, .inl (k_10, 1, .inr (.inr (.inr (.inl (fun _ => 0))))))] := hD
  have hK : va_K D vwCl [((u_3_2 0), .char), ((u_3_2 1), .int), (k_8, .long), (k_10, .double)] s := hK
  refine lv_astore (lv' := [(4, .ref q_9), (3, .ref q_7), (2, .ref (u_6_1 0)), (1, .ref (u_3_1 0)), (0, .ref b)]) hx hb dL_law_23 hl (by decide) rfl (fun ls hl => ?_)
  refine lv_iconst (v := 0) hx hb dL_law_25 (by decide) ?_
  refine lv_istore (lv' := [(5, .int 0), (4, .ref q_9), (3, .ref q_7), (2, .ref (u_6_1 0)), (1, .ref (u_3_1 0)), (0, .ref b)]) hx hb dL_law_26 hl (by decide) rfl (fun ls hl => ?_)
  have hP9 := hP.sub (ws' := zW0 u_3_1 u_6_1 (u_3_2 0) (u_3_2 1) k_8 k_10 q_7 q_9) [0, 1, 2, 3, 4, 5, 8, 9, 10, 11, 12, 13, 14, 6, 7, 15, 16] rfl
  have hD9 := hD.sub (ws' := zW0 u_3_1 u_6_1 (u_3_2 0) (u_3_2 1) k_8 k_10 q_7 q_9) [0, 1, 2, 3, 4, 5, 8, 9, 10, 11, 12, 13, 14, 6, 7, 15, 16] (by decide) rfl
  have hK9 := hK.sub (tys' := [((u_3_2 0), .char), ((u_3_2 1), .int), (k_8, .long), (k_10, .double)]) [0, 1, 2, 3] rfl
  have hl9 := lv_sub hl (l' := [(5, .int 0), (4, .ref q_9), (3, .ref q_7), (2, .ref (u_6_1 0)), (1, .ref (u_3_1 0)), (0, .ref b)]) [0, 1, 2, 3, 4, 5] rfl
  refine lv_iload hx hb dL_law_28 (lv_at hl9 0 rfl) ?_
  refine lv_aload_n hx hb dL_law_30 rfl (lv_at hl9 5 rfl) ?_
  refine va_slen hx hb hX hbl hbA hS dL_law_31 ?_
  refine lv_bipush (v := 7) hx hb dL_law_32 (by decide) ?_
  refine lv_isub hx hb dL_law_34 ?_
  refine lv_topi (fun f ef => ?_)
  refine lv_icmp_gt (tgt := 3455) hx hb dL_law_35 (by decide) (fun c1 => ?_) (fun c1 => ?_)
  · refine lv_iconst (v := 1) hx hb dL_law_3455 (by decide) ?_
    refine va_forget (fun q hq => hS.2.2 q hq) ?_
    refine W.widen (k := 600006) (n := 7302063) (Nat.le_of_ble_eq_true rfl) (Nat.le_of_ble_eq_true rfl) ?_
    exact lw_ret (d0 := s.drawn) (Drawn.sameBut.refl s.drawn lw_cs) hx hb hr hlocks dL_law_3456
  · have hL7 : L = 7 := by
      have h9 : L = 0 ∨ L = 1 ∨ L = 2 ∨ L = 3 ∨ L = 4 ∨ L = 5 ∨ L = 6 ∨ L = 7 := by omega
      rcases h9 with h | h | h | h | h | h | h | h
      all_goals first | exact h | (subst h; subst ef; exact absurd (by decide) c1)
    subst hL7
    refine W.widen (k := 1000) (n := 10000) (Nat.le_of_ble_eq_true rfl) (Nat.le_of_ble_eq_true rfl) ?_
    exact law_sw (And.intro hx (And.intro hb (And.intro hml (And.intro hown (And.intro hw (And.intro hX (And.intro hbl (And.intro hbA (And.intro hA (And.intro hT (And.intro hZ (And.intro hE (And.intro hQ (And.intro hst e_u_6.symm)))))))))))))) (law_end hx hb hr hX hbl hlocks) (And.intro hK9 (And.intro hP9 (And.intro hD9 (And.intro hS hl9))))
