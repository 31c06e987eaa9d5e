-- what holds beside the words: strings of the throws, nest mates, interface calls, the statics of Throwable
def zN (sz : Nat) : Nat → Prop := fun q => sz ≤ q
def zs_ss : List (Nat × String) := [(57, "no letter"), (381, "a number is out of range"), (72, "another shade has the letter"), (81, "no room for a shade"), (387, "no such shade"), (383, "no such part"), (94, "no such era"), (109, "no room for a stripe"), (124, "the row can be no sett"), (389, "no room for a sett"), (393, "no such sett"), (335, "no such stripe"), (194, "a count would be too great"), (209, "there was no scaling"), (216, "no such kind"), (221, "it is registered"), (395, "it is not registered"), (239, "it is withdrawn"), (245, "it is not contested"), (250, "it is not registered as a clan's"), (266, "there is no right to it"), (272, "the pleat shows no such thread"), (278, "the applicant may not weave it"), (288, "no room for an order or a warp"), (300, "no such order"), (309, "no such warp"), (317, "no room for a copy"), (397, "no such copy"), (391, "the row has no stripes"), (357, "no sett is registered"), (363, "there is no sett")]
def zn_f : List (String × Nat × String × String × String × String) := [("Settbook$Copy", 17, "Settbook$Row", "size", "I", "Settbook"), ("Settbook$Sett", 69, "Settbook$Row", "size", "I", "Settbook"), ("Settbook", 114, "Settbook$Row", "size", "I", "Settbook"), ("java/util/ArrayList$Itr", 28, "java/util/ArrayList", "size", "I", "java/util/ArrayList"), ("Settbook", 437, "Settbook$Mill", "warpCount", "I", "Settbook"), ("Settbook", 247, "Settbook$Sett", "number", "I", "Settbook"), ("Settbook", 188, "Settbook$Sett", "told", "LSettbook$Row;", "Settbook"), ("Settbook", 203, "Settbook$Sett", "isMirrored", "Z", "Settbook"), ("Settbook", 146, "Settbook$Sett", "round", "LSettbook$Row;", "Settbook"), ("Settbook", 160, "Settbook$Sett", "form", "LSettbook$Row;", "Settbook"), ("Settbook", 141, "Settbook$Sett", "threads", "I", "Settbook"), ("Settbook", 218, "Settbook$Sett", "isRegistered", "Z", "Settbook"), ("Settbook", 236, "Settbook$Sett", "isWithdrawn", "Z", "Settbook"), ("Settbook", 223, "Settbook$Sett", "kind", "C", "Settbook"), ("Settbook", 227, "Settbook$Sett", "owner", "I", "Settbook"), ("Settbook", 230, "Settbook$Sett", "proof", "I", "Settbook"), ("Settbook", 256, "Settbook$Sett", "consents", "I", "Settbook"), ("Settbook", 442, "Settbook$Copy", "sett", "I", "Settbook")]
def zn_m : List (String × Nat × MethodName × String) := [("Settbook", 9, ⟨"Settbook$Palette", "<init>", "()V"⟩, "Settbook"), ("Settbook", 37, ⟨"Settbook$Mill", "<init>", "()V"⟩, "Settbook"), ("Settbook$Sett", 85, ⟨"Settbook", "quotient", "(II)I"⟩, "Settbook"), ("Settbook$Sett", 88, ⟨"Settbook", "rest", "(II)I"⟩, "Settbook"), ("Settbook$Row", 55, ⟨"Settbook", "quotient", "(II)I"⟩, "Settbook")]
def zf_w : List (String × MethodName × MethodName) := [(RJx4a65c, ⟨"java/util/List", "size", "()I"⟩, yJx4a65c_size_8abf5), (RJx4a65c, ⟨"java/util/List", "isEmpty", "()Z"⟩, yJx4a65c_isEmpty_aae02), (RJx4a65c, ⟨"java/util/List", "iterator", "()Ljava/util/Iterator;"⟩, yJx4a65c_iterator_32c93), (RJx35411, ⟨"java/util/Iterator", "hasNext", "()Z"⟩, yJx35411_hasNext_aae02), (RJx4a65c, ⟨"java/util/List", "clear", "()V"⟩, yJx4a65c_clear_da8c8), (RJx4a65c, ⟨"java/util/List", "add", "(Ljava/lang/Object;)Z"⟩, yJx4a65c_add_9ea2d)]
/-- facts of the tables -/
def ZT (sa : Nat → Nat) (U : State) : Prop := (∀ (i : Nat) (q : Nat × String), zs_ss[i]? = some q → vk_R RX5 q.1 q.2 (sa i) U) ∧ (∀ (i : Nat) (q : String × Nat × String × String × String × String), zn_f[i]? = some q → va_Nw (.fieldLinkNest q.1 q.2.1 q.2.2.1 q.2.2.2.1 q.2.2.2.2.1 q.2.2.2.2.2) U) ∧ (∀ (i : Nat) (q : String × Nat × MethodName × String), zn_m[i]? = some q → va_Nw (.methodLinkNest q.1 q.2.1 q.2.2.1 q.2.2.2) U) ∧ (∀ (i : Nat) (q : String × MethodName × MethodName), zf_w[i]? = some q → va_Fw q.1 q.2.1 q.2.2 U)
theorem zf_ok : ∀ (i : Nat) (q : String × MethodName × MethodName), zf_w[i]? = some q → q.2.1.cls ≠ "java/lang/invoke/MethodHandle" ∧ q.2.1.cls ≠ "java/lang/invoke/VarHandle" := by
  intro i q h
  have h1 : q ∈ zf_w := List.mem_of_getElem? h
  have h2 : ∀ q ∈ zf_w, q.2.1.cls ≠ "java/lang/invoke/MethodHandle" ∧ q.2.1.cls ≠ "java/lang/invoke/VarHandle" := by decide +kernel
  exact h2 q h1
theorem ZT.same {sa : Nat → Nat} {u U : State} (h : U.vm = u.vm) (hA : u.vm.Alike U.vm) (z : ZT sa u) : ZT sa U :=
  ⟨fun i q hi => vk_R.same h (z.1 i q hi), fun i q hi => va_Nw.same rfl h.symm (z.2.1 i q hi), fun i q hi => va_Nw.same rfl h.symm (z.2.2.1 i q hi), fun i q hi => va_Fw.moved (zf_ok i q hi) hA (z.2.2.2 i q hi)⟩
theorem ZT.warm {sa : Nat → Nat} {s U : State} (hW : s.WarmedH U.vm) (z : ZT sa s) : ZT sa U :=
  ⟨fun i q hi => vk_R.warm hW (z.1 i q hi), fun i q hi => va_Nw.warmF hW (z.2.1 i q hi), fun i q hi => va_Nw.warmM hW (z.2.2.1 i q hi), fun i q hi => va_Fw.moved (zf_ok i q hi) hW.alike (z.2.2.2 i q hi)⟩
def ZH (A : Nat → Prop) (U : State) (H : Heap) : Prop := vx_Zq Bundle.tN "UNASSIGNED_STACK" Bundle.steD A U H ∧ vx_Zq Bundle.tN "SUPPRESSED_SENTINEL" Bundle.listD A U H
theorem ZH.pass {A A1 : Nat → Prop} {s U : State} {H : Heap} {locs : List Loc} (hS : va_S A s.heap H locs) (h : ZH A s s.heap) (hA1 : ∀ q, A1 q → A q) (hU : U.heap = H) (hW : s.WarmedH U.vm) : ZH A1 U U.heap := by
  rw [hU]
  exact ⟨((h.1.kept hS.2.1).narrow hA1).moved hW.alike, ((h.2.kept hS.2.1).narrow hA1).moved hW.alike⟩
/-- the start of a method that reads alone, and may throw -/
def zR (D : va_G) (sa : Nat → Nat) (W : va_W) (av : List Value) (sz : Nat) : Array Value → State → Prop := va_Pc av (fun U => U.heap.size = sz ∧ va_P D vwCl W U.heap ∧ va_K D vwCl [] U ∧ ZT sa U ∧ ZH (zN sz) U U.heap)
theorem zR_blind {D : va_G} {sa : Nat → Nat} {W : va_W} {av : List Value} {sz : Nat} : FrameBlind (zR D sa W av sz) := fun a U g mk q => by
  obtain ⟨q0, q1, qP, qK, qT, qH⟩ := q
  exact ⟨q0, q1, qP, va_K.moved (u := U) (U := U.calling g mk a) (Vm.Alike.refl U.vm) qK, ZT.same (u := U) (U := U.calling g mk a) rfl (Vm.Alike.refl U.vm) qT, ⟨vx_Zq.moved (u := U) (U := U.calling g mk a) (Vm.Alike.refl U.vm) qH.1, vx_Zq.moved (u := U) (U := U.calling g mk a) (Vm.Alike.refl U.vm) qH.2⟩⟩
theorem zR_pre {D : va_G} {sa : Nat → Nat} {W : va_W} {av : List Value} {s : State} {A : Nat → Prop} {H : Heap} {locs : List Loc} {tys : List (ClassId × FieldType)} (hP : va_P D vwCl W H) (hK : va_K D vwCl tys s) (hT : ZT sa s) (hZ : ZH A s s.heap) (hS : va_S A s.heap H locs) (hA : ∀ q, s.heap.size ≤ q → A q) : ∀ U : State, U.heap = H → s.WarmedH U.vm → zR D sa W av H.size av.toArray U :=
  fun U hU hW => ⟨rfl, by rw [hU], by rw [hU]; exact hP, va_K.moved hW.alike (hK.sub (tys' := []) [] rfl), hT.warm hW, ZH.pass hS hZ (fun q h => hA q (Nat.le_trans hS.1 h)) hU hW⟩
/-- the start of a method that reads alone, and never throws -/
def zJ (D : va_G) (sa : Nat → Nat) (W : va_W) (av : List Value) (sz : Nat) : Array Value → State → Prop := va_Pc av (fun U => U.heap.size = sz ∧ va_P D vwCl W U.heap ∧ va_K D vwCl [] U ∧ ZT sa U)
theorem zJ_blind {D : va_G} {sa : Nat → Nat} {W : va_W} {av : List Value} {sz : Nat} : FrameBlind (zJ D sa W av sz) := fun a U g mk q => by
  obtain ⟨q0, q1, qP, qK, qT⟩ := q
  exact ⟨q0, q1, qP, va_K.moved (u := U) (U := U.calling g mk a) (Vm.Alike.refl U.vm) qK, ZT.same (u := U) (U := U.calling g mk a) rfl (Vm.Alike.refl U.vm) qT⟩
theorem zJ_pre {D : va_G} {sa : Nat → Nat} {W : va_W} {av : List Value} {s : State} {H : Heap} {tys : List (ClassId × FieldType)} (hP : va_P D vwCl W H) (hK : va_K D vwCl tys s) (hT : ZT sa s) : ∀ U : State, U.heap = H → s.WarmedH U.vm → zJ D sa W av H.size av.toArray U :=
  fun U hU hW => ⟨rfl, by rw [hU], by rw [hU]; exact hP, va_K.moved hW.alike (hK.sub (tys' := []) [] rfl), hT.warm hW⟩
/-- the start of a method that may write its world -/
def zW (D : va_G) (sa : Nat → Nat) (W : va_W) (av : List Value) (sz : Nat) : Array Value → State → Prop := va_Pc av (fun U => U.heap.size = sz ∧ va_P D vwCl W U.heap ∧ va_K D vwCl [] U ∧ va_D (fun _ => True) W ∧ ZT sa U)
theorem zW_blind {D : va_G} {sa : Nat → Nat} {W : va_W} {av : List Value} {sz : Nat} : FrameBlind (zW D sa W av sz) := fun a U g mk q => by
  obtain ⟨q0, q1, qP, qK, qD, qT⟩ := q
  exact ⟨q0, q1, qP, va_K.moved (u := U) (U := U.calling g mk a) (Vm.Alike.refl U.vm) qK, qD, ZT.same (u := U) (U := U.calling g mk a) rfl (Vm.Alike.refl U.vm) qT⟩
theorem zW_pre {D : va_G} {sa : Nat → Nat} {W : va_W} {av : List Value} {s : State} {A : Nat → Prop} {H : Heap} {tys : List (ClassId × FieldType)} (hP : va_P D vwCl W H) (hK : va_K D vwCl tys s) (hD : va_D A W) (hT : ZT sa s) : ∀ U : State, U.heap = H → s.WarmedH U.vm → zW D sa W av H.size av.toArray U :=
  fun U hU hW => ⟨rfl, by rw [hU], by rw [hU]; exact hP, va_K.moved hW.alike (hK.sub (tys' := []) [] rfl), hD.weaken (fun _ _ _ _ => trivial), hT.warm hW⟩
theorem zN_keep {D : va_G} {W : va_W} {H H1 : Heap} (h : va_P D vwCl W H) (hk : ∀ q : Nat, q < H.size → ¬ zN H.size q → H1[q]? = H[q]?) : va_P D vwCl W H1 := h.kept (fun k q hq => hk q.1 (h k q hq).lt (Nat.not_le.mpr (h k q hq).lt))
theorem zN_in {n : Nat} {A : Nat → Prop} : ∀ q : Nat, q < n → zN n q → A q := fun _ h1 h2 => absurd h2 (Nat.not_le.mpr h1)
theorem zN_fr {A : Nat → Prop} {H0 H : Heap} {locs : List Loc} (hS : va_S A H0 H locs) (hA : ∀ q, H0.size ≤ q → A q) : ∀ q : Nat, zN H.size q → A q := fun q h => hA q (Nat.le_trans hS.1 h)
/-- what is thrown -/
abbrev zXC (E : String) (sz : Nat) : String → State → State → Prop := vx_X (fun _ : Unit => True) (fun E' _ _ => E' = E) (zN sz)
abbrev zNo : String → State → State → Prop := fun _ _ _ => False
/-- the objects of a new Settbook: 0 itself, 1 palette, 2 row, 3 setts, 4 copies, 5 mill -/
abbrev zX (ad : Nat → Nat) : va_W := [(ad 0, .inr (10, [.ref (ad 1), .ref (ad 2), .ref (ad 3), .ref (ad 4), .ref (ad 5), .int (-1), .int 100, .int 0, .int 0])), (ad 1, .inr (7, [.ref (ad 6), .ref (ad 7), .ref (ad 8), .int 0])), (ad 2, .inr (8, [.ref (ad 9), .ref (ad 10), .int 0])), (ad 3, .inr (4, [.int 0, .ref (ad 14), .int 0])), (ad 4, .inr (4, [.int 0, .ref (ad 14), .int 0])), (ad 5, .inr (6, [.ref (ad 11), .ref (ad 12), .ref (ad 13), .int 0, .int 0]))]
/-- the objects of a new SettbookModel: 0 itself, 1 shades, 2 row, 3 setts, 4 warps, 5 orders, 6 copies -/
abbrev zM (bd : Nat → Nat) (th : Int32) : va_W := [(bd 0, .inr (14, [.ref (bd 1), .ref (bd 2), .ref (bd 3), .ref (bd 4), .ref (bd 5), .ref (bd 6), .int 100, .int (-1), .int 0, .int th])), (bd 1, .inr (4, [.int 0, .ref (bd 7), .int 0])), (bd 2, .inr (4, [.int 0, .ref (bd 7), .int 0])), (bd 3, .inr (4, [.int 0, .ref (bd 7), .int 0])), (bd 4, .inr (4, [.int 0, .ref (bd 7), .int 0])), (bd 5, .inr (4, [.int 0, .ref (bd 7), .int 0])), (bd 6, .inr (4, [.int 0, .ref (bd 7), .int 0]))]
theorem zM_D {A : Nat → Prop} {bd : Nat → Nat} {th th2 : Int32} (h : va_D A (zM bd th)) : va_D A (zM bd th2) := va_D.set (p := 0) (a := bd 0) (e := .inr (14, [.ref (bd 1), .ref (bd 2), .ref (bd 3), .ref (bd 4), .ref (bd 5), .ref (bd 6), .int 100, .int (-1), .int 0, .int th2])) h rfl
theorem zl_in (x : Int32) : (if x < 0 then (0 : Int32) else if (-1) < x then 0 else 1) = 0 := by
  by_cases h : x < 0
  · rw [if_pos h]
  · rw [if_neg h, if_pos (Int32.lt_iff_toInt_lt.mpr (by have h1 := mt Int32.lt_iff_toInt_lt.mpr h; have e0 : (0 : Int32).toInt = 0 := by decide; have e1 : (-1 : Int32).toInt = -1 := by decide; rw [e0] at h1; rw [e1]; omega))]
theorem zl_le {a b : Int32} (h : ¬ a < b) : b ≤ a := Int32.le_iff_toInt_le.mpr (by have h1 := mt Int32.lt_iff_toInt_lt.mpr h; omega)
theorem zl_lt {a b : Int32} (h : ¬ a ≤ b) : b < a := Int32.lt_iff_toInt_lt.mpr (by have h1 := mt Int32.le_iff_toInt_le.mpr h; omega)
