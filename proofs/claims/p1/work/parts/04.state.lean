-- the good words of the tables: one list for every method
def WA : List Cond := lw_tbl.filter goodWord
theorem zmm {w : Cond} {i : Nat} (h : lw_tbl[i]? = some w) (g : goodWord w = true) : w ∈ WA := List.mem_filter.mpr ⟨List.mem_of_getElem? h, g⟩
theorem zmf {L : List Cond} (h : ∀ w ∈ L.filter goodWord, w ∈ lw_tbl) : ∀ w ∈ L.filter goodWord, w ∈ WA := fun w hw => List.mem_filter.mpr ⟨h w hw, (List.mem_filter.mp hw).2⟩
theorem zma {L : List Cond} (h : ∀ w ∈ L, w ∈ lw_tbl) (g : L.all goodWord = true) : ∀ w ∈ L, w ∈ WA := fun w hw => List.mem_filter.mpr ⟨h w hw, List.all_eq_true.mp g w hw⟩
theorem WA_good {w : Cond} (h : w ∈ WA) : (w.onTables && w.keeps) = true ∨ ∃ ty, w = .arrayClass ty := good_of_word (List.mem_filter.mp h).2
theorem zgC {c : Cond} (h : c ∈ WA) : GoodIn WA (c :: WA) := fun w hw => by
  rcases List.mem_cons.mp hw with rfl | hw
  · exact ⟨h, WA_good h⟩
  · exact ⟨hw, WA_good hw⟩
theorem zg4 {a b c d e : Cond} (ha : a ∈ WA) (hb : b ∈ WA) (hc : c ∈ WA) (hd : d ∈ WA) (he : e ∈ WA) : GoodIn WA (([a, b, c, d] : List Cond) ++ e :: WA) := fun w hw => by
  have h : w ∈ WA := by
    rcases List.mem_append.mp hw with h | h
    · rcases List.mem_cons.mp h with rfl | h
      · exact ha
      · rcases List.mem_cons.mp h with rfl | h
        · exact hb
        · rcases List.mem_cons.mp h with rfl | h
          · exact hc
          · rcases List.mem_cons.mp h with rfl | h
            · exact hd
            · cases h
    · rcases List.mem_cons.mp h with rfl | h
      · exact he
      · exact h
  exact ⟨h, WA_good h⟩
theorem zg3 {a b c e : Cond} (ha : a ∈ WA) (hb : b ∈ WA) (hc : c ∈ WA) (he : e ∈ WA) : GoodIn WA (([a, b, c] : List Cond) ++ e :: WA) := fun w hw => by
  have h : w ∈ WA := by
    rcases List.mem_append.mp hw with h | h
    · rcases List.mem_cons.mp h with rfl | h
      · exact ha
      · rcases List.mem_cons.mp h with rfl | h
        · exact hb
        · rcases List.mem_cons.mp h with rfl | h
          · exact hc
          · cases h
    · rcases List.mem_cons.mp h with rfl | h
      · exact he
      · exact h
  exact ⟨h, WA_good h⟩
-- what holds beside the words: strings of the throws, nest mates, interface calls, the statics of Throwable
def zN (sz : Nat) : Nat → Prop := fun q => sz ≤ q
def zs_ss : List (Nat × String) := [(57, "no letter"), (381, "a number is out of range"), (72, "another shade has the letter"), (81, "no room for a shade"), (387, "no such shade"), (383, "no such part"), (94, "no such era"), (109, "no room for a stripe"), (124, "the row can be no sett"), (389, "no room for a sett"), (393, "no such sett"), (335, "no such stripe"), (194, "a count would be too great"), (209, "there was no scaling"), (216, "no such kind"), (221, "it is registered"), (395, "it is not registered"), (239, "it is withdrawn"), (245, "it is not contested"), (250, "it is not registered as a clan's"), (266, "there is no right to it"), (272, "the pleat shows no such thread"), (278, "the applicant may not weave it"), (288, "no room for an order or a warp"), (300, "no such order"), (309, "no such warp"), (317, "no room for a copy"), (397, "no such copy"), (391, "the row has no stripes"), (357, "no sett is registered"), (363, "there is no sett")]
def zn_f : List (String × Nat × String × String × String × String) := [("Settbook$Copy", 17, "Settbook$Row", "size", "I", "Settbook"), ("Settbook$Sett", 69, "Settbook$Row", "size", "I", "Settbook"), ("Settbook", 114, "Settbook$Row", "size", "I", "Settbook"), ("java/util/ArrayList$Itr", 28, "java/util/ArrayList", "size", "I", "java/util/ArrayList"), ("Settbook", 437, "Settbook$Mill", "warpCount", "I", "Settbook"), ("Settbook", 247, "Settbook$Sett", "number", "I", "Settbook"), ("Settbook", 188, "Settbook$Sett", "told", "LSettbook$Row;", "Settbook"), ("Settbook", 203, "Settbook$Sett", "isMirrored", "Z", "Settbook"), ("Settbook", 146, "Settbook$Sett", "round", "LSettbook$Row;", "Settbook"), ("Settbook", 160, "Settbook$Sett", "form", "LSettbook$Row;", "Settbook"), ("Settbook", 141, "Settbook$Sett", "threads", "I", "Settbook"), ("Settbook", 218, "Settbook$Sett", "isRegistered", "Z", "Settbook"), ("Settbook", 236, "Settbook$Sett", "isWithdrawn", "Z", "Settbook"), ("Settbook", 223, "Settbook$Sett", "kind", "C", "Settbook"), ("Settbook", 227, "Settbook$Sett", "owner", "I", "Settbook"), ("Settbook", 230, "Settbook$Sett", "proof", "I", "Settbook"), ("Settbook", 256, "Settbook$Sett", "consents", "I", "Settbook"), ("Settbook", 442, "Settbook$Copy", "sett", "I", "Settbook")]
def zn_m : List (String × Nat × MethodName × String) := [("Settbook", 9, ⟨"Settbook$Palette", "<init>", "()V"⟩, "Settbook"), ("Settbook", 37, ⟨"Settbook$Mill", "<init>", "()V"⟩, "Settbook"), ("Settbook$Sett", 85, ⟨"Settbook", "quotient", "(II)I"⟩, "Settbook"), ("Settbook$Sett", 88, ⟨"Settbook", "rest", "(II)I"⟩, "Settbook"), ("Settbook$Row", 55, ⟨"Settbook", "quotient", "(II)I"⟩, "Settbook")]
def zf_w : List (String × MethodName × MethodName) := [(RJx4a65c, ⟨"java/util/List", "size", "()I"⟩, yJx4a65c_size_8abf5), (RJx4a65c, ⟨"java/util/List", "isEmpty", "()Z"⟩, yJx4a65c_isEmpty_aae02), (RJx4a65c, ⟨"java/util/List", "iterator", "()Ljava/util/Iterator;"⟩, yJx4a65c_iterator_32c93), (RJx35411, ⟨"java/util/Iterator", "hasNext", "()Z"⟩, yJx35411_hasNext_aae02), (RJx4a65c, ⟨"java/util/List", "clear", "()V"⟩, yJx4a65c_clear_da8c8), (RJx4a65c, ⟨"java/util/List", "add", "(Ljava/lang/Object;)Z"⟩, yJx4a65c_add_9ea2d)]
def zd_w : List MethodName := [⟨"java/lang/RuntimeException", "<init>", "(Ljava/lang/String;)V"⟩, ⟨"java/lang/Exception", "<init>", "(Ljava/lang/String;)V"⟩, ⟨"java/lang/Throwable", "<init>", "(Ljava/lang/String;)V"⟩]
def zc_w : List String := ["java/lang/IllegalArgumentException", "java/lang/UnsupportedOperationException", "java/lang/IllegalStateException", "java/lang/IndexOutOfBoundsException", "java/util/NoSuchElementException", "java/lang/ArithmeticException"]
def zNm : List String := ["java/lang/RuntimeException", "java/lang/Exception"]
/-- facts of the tables -/
def ZT (sa : Nat → Nat) (U : State) : Prop := (∀ (i : Nat) (q : Nat × String), zs_ss[i]? = some q → vk_R RX5 q.1 q.2 (sa i) U) ∧ (∀ (i : Nat) (q : String × Nat × String × String × String × String), zn_f[i]? = some q → va_Nw (.fieldLinkNest q.1 q.2.1 q.2.2.1 q.2.2.2.1 q.2.2.2.2.1 q.2.2.2.2.2) U) ∧ (∀ (i : Nat) (q : String × Nat × MethodName × String), zn_m[i]? = some q → va_Nw (.methodLinkNest q.1 q.2.1 q.2.2.1 q.2.2.2) U) ∧ (∀ (i : Nat) (q : String × MethodName × MethodName), zf_w[i]? = some q → va_Fw q.1 q.2.1 q.2.2 U) ∧ (∀ (i : Nat) (q : MethodName), zd_w[i]? = some q → va_Nw (.declares q) U) ∧ (∀ (i : Nat) (q : String), zc_w[i]? = some q → va_Nw (.castable q q) U)
theorem ZT.s {sa : Nat → Nat} {U : State} (h : ZT sa U) (i : Nat) {k : Nat} {t : String} (e : zs_ss[i]? = some (k, t)) : vk_R RX5 k t (sa i) U := h.1 i _ e
theorem ZT.f {sa : Nat → Nat} {U : State} {args : Array Value} (h : ZT sa U) (i : Nat) {a : String} {k : Nat} {b c d f : String} (e : zn_f[i]? = some (a, k, b, c, d, f)) : (Cond.fieldLinkNest a k b c d f).before args U = true := va_Nw.use rfl (h.2.1 i _ e)
theorem ZT.m {sa : Nat → Nat} {U : State} (h : ZT sa U) (i : Nat) {a : String} {k : Nat} {y : MethodName} {f : String} (e : zn_m[i]? = some (a, k, y, f)) : va_Nw (.methodLinkNest a k y f) U := h.2.2.1 i _ e
theorem ZT.i {sa : Nat → Nat} {U : State} (h : ZT sa U) (i : Nat) {a : String} {x y : MethodName} (e : zf_w[i]? = some (a, x, y)) : va_Fw a x y U := h.2.2.2.1 i _ e
theorem ZT.d {sa : Nat → Nat} {U : State} {args : Array Value} (h : ZT sa U) (i : Nat) {x : MethodName} (e : zd_w[i]? = some x) : (Cond.declares x).before args U = true := va_Nw.use rfl (h.2.2.2.2.1 i _ e)
theorem ZT.c {sa : Nat → Nat} {U : State} {args : Array Value} (h : ZT sa U) (i : Nat) {x : String} (e : zc_w[i]? = some x) : (Cond.castable x x).before args U = true := va_Nw.use rfl (h.2.2.2.2.2 i _ e)
theorem zf_ok : ∀ (i : Nat) (q : String × MethodName × MethodName), zf_w[i]? = some q → q.2.1.cls ≠ "java/lang/invoke/MethodHandle" ∧ q.2.1.cls ≠ "java/lang/invoke/VarHandle" := by
  intro i q h
  have h1 : q ∈ zf_w := List.mem_of_getElem? h
  have h2 : ∀ q ∈ zf_w, q.2.1.cls ≠ "java/lang/invoke/MethodHandle" ∧ q.2.1.cls ≠ "java/lang/invoke/VarHandle" := by decide +kernel
  exact h2 q h1
theorem ZT.same {sa : Nat → Nat} {u U : State} (h : U.vm = u.vm) (hA : u.vm.Alike U.vm) (z : ZT sa u) : ZT sa U :=
  ⟨fun i q hi => vk_R.same h (z.1 i q hi), fun i q hi => va_Nw.same rfl h.symm (z.2.1 i q hi), fun i q hi => va_Nw.same rfl h.symm (z.2.2.1 i q hi), fun i q hi => va_Fw.moved (zf_ok i q hi) hA (z.2.2.2.1 i q hi), fun i q hi => va_Nw.same rfl h.symm (z.2.2.2.2.1 i q hi), fun i q hi => va_Nw.same rfl h.symm (z.2.2.2.2.2 i q hi)⟩
theorem ZT.warm {sa : Nat → Nat} {s U : State} (hW : s.WarmedH U.vm) (z : ZT sa s) : ZT sa U :=
  ⟨fun i q hi => vk_R.warm hW (z.1 i q hi), fun i q hi => va_Nw.warmF hW (z.2.1 i q hi), fun i q hi => va_Nw.warmM hW (z.2.2.1 i q hi), fun i q hi => va_Fw.moved (zf_ok i q hi) hW.alike (z.2.2.2.1 i q hi), fun i q hi => va_Nw.warmD hW (z.2.2.2.2.1 i q hi), fun i q hi => va_Nw.warmC hW (z.2.2.2.2.2 i q hi)⟩
def ZH (A : Nat → Prop) (U : State) (H : Heap) : Prop := vx_Zq Bundle.tN "UNASSIGNED_STACK" Bundle.steD A U H ∧ vx_Zq Bundle.tN "SUPPRESSED_SENTINEL" Bundle.listD A U H
theorem ZH.pass {A A1 : Nat → Prop} {s U : State} {H : Heap} {locs : List Loc} (hS : va_S A s.heap H locs) (h : ZH A s s.heap) (hA1 : ∀ q, A1 q → A q) (hU : U.heap = H) (hW : s.WarmedH U.vm) : ZH A1 U U.heap := by
  rw [hU]
  exact ⟨((h.1.kept hS.2.1).narrow hA1).moved hW.alike, ((h.2.kept hS.2.1).narrow hA1).moved hW.alike⟩
abbrev ZE (ea : Nat) (A : Nat → Prop) (U : State) (H : Heap) : Prop := va_Z "java/util/ArrayList" "DEFAULTCAPACITY_EMPTY_ELEMENTDATA" "[Ljava/lang/Object;" (.ref ea) A U H
theorem ZE_pass {ea : Nat} {A A1 : Nat → Prop} {s U : State} {H : Heap} {locs : List Loc} (hS : va_S A s.heap H locs) (h : ZE ea A s s.heap) (hA1 : ∀ q, A1 q → A q) (hU : U.heap = H) (hW : s.WarmedH U.vm) : ZE ea A1 U U.heap := by
  rw [hU]
  exact ((h.kept hS.2.1).narrow hA1).moved hW.alike
/-- the start of a method that reads alone, and may throw -/
def zR (D : va_G) (sa : Nat → Nat) (W : va_W) (av : List Value) (sz : Nat) : Array Value → State → Prop := va_Pc av (fun U => U.heap.size = sz ∧ va_P D vwCl W U.heap ∧ va_K D vwCl [] U ∧ ZT sa U ∧ ZH (zN sz) U U.heap)
theorem zR_blind {D : va_G} {sa : Nat → Nat} {W : va_W} {av : List Value} {sz : Nat} : FrameBlind (zR D sa W av sz) := fun a U g mk q => by
  obtain ⟨q0, q1, qP, qK, qT, qH⟩ := q
  exact ⟨q0, q1, qP, va_K.moved (u := U) (U := U.calling g mk a) (Vm.Alike.refl U.vm) qK, ZT.same (u := U) (U := U.calling g mk a) rfl (Vm.Alike.refl U.vm) qT, ⟨vx_Zq.moved (u := U) (U := U.calling g mk a) (Vm.Alike.refl U.vm) qH.1, vx_Zq.moved (u := U) (U := U.calling g mk a) (Vm.Alike.refl U.vm) qH.2⟩⟩
theorem zR_pre {D : va_G} {sa : Nat → Nat} {W : va_W} {av : List Value} {s : State} {A : Nat → Prop} {H : Heap} {locs : List Loc} {tys : List (ClassId × FieldType)} (hP : va_P D vwCl W H) (hK : va_K D vwCl tys s) (hT : ZT sa s) (hZ : ZH A s s.heap) (hS : va_S A s.heap H locs) (hA : ∀ q, s.heap.size ≤ q → A q) : ∀ U : State, U.heap = H → s.WarmedH U.vm → zR D sa W av H.size av.toArray U :=
  fun U hU hW => ⟨rfl, by rw [hU], by rw [hU]; exact hP, va_K.moved hW.alike (hK.sub (tys' := []) [] rfl), hT.warm hW, ZH.pass hS hZ (fun q h => hA q (Nat.le_trans hS.1 h)) hU hW⟩
/-- the start of a method that reads alone, and never throws -/
def zJ (D : va_G) (sa : Nat → Nat) (W : va_W) (av : List Value) (sz : Nat) : Array Value → State → Prop := va_Pc av (fun U => U.heap.size = sz ∧ va_P D vwCl W U.heap ∧ va_K D vwCl [] U ∧ ZT sa U)
theorem zJ_blind {D : va_G} {sa : Nat → Nat} {W : va_W} {av : List Value} {sz : Nat} : FrameBlind (zJ D sa W av sz) := fun a U g mk q => by
  obtain ⟨q0, q1, qP, qK, qT⟩ := q
  exact ⟨q0, q1, qP, va_K.moved (u := U) (U := U.calling g mk a) (Vm.Alike.refl U.vm) qK, ZT.same (u := U) (U := U.calling g mk a) rfl (Vm.Alike.refl U.vm) qT⟩
theorem zJ_pre {D : va_G} {sa : Nat → Nat} {W : va_W} {av : List Value} {s : State} {H : Heap} {tys : List (ClassId × FieldType)} (hP : va_P D vwCl W H) (hK : va_K D vwCl tys s) (hT : ZT sa s) : ∀ U : State, U.heap = H → s.WarmedH U.vm → zJ D sa W av H.size av.toArray U :=
  fun U hU hW => ⟨rfl, by rw [hU], by rw [hU]; exact hP, va_K.moved hW.alike (hK.sub (tys' := []) [] rfl), hT.warm hW⟩
/-- the start of a method that may write its world -/
def zW (D : va_G) (sa : Nat → Nat) (ea : Nat) (tys : List (ClassId × FieldType)) (W : va_W) (av : List Value) (sz : Nat) : Array Value → State → Prop := va_Pc av (fun U => U.heap.size = sz ∧ va_P D vwCl W U.heap ∧ va_K D vwCl tys U ∧ va_D (fun _ => True) W ∧ ZT sa U ∧ ZE ea (va_A W sz) U U.heap)
theorem zW_blind {D : va_G} {sa : Nat → Nat} {ea : Nat} {tys : List (ClassId × FieldType)} {W : va_W} {av : List Value} {sz : Nat} : FrameBlind (zW D sa ea tys W av sz) := fun a U g mk q => by
  obtain ⟨q0, q1, qP, qK, qD, qT, qE⟩ := q
  exact ⟨q0, q1, qP, va_K.moved (u := U) (U := U.calling g mk a) (Vm.Alike.refl U.vm) qK, qD, ZT.same (u := U) (U := U.calling g mk a) rfl (Vm.Alike.refl U.vm) qT, va_Z.moved (u := U) (U := U.calling g mk a) (Vm.Alike.refl U.vm) qE⟩
theorem zW_pre {D : va_G} {sa : Nat → Nat} {ea : Nat} {tys : List (ClassId × FieldType)} {W : va_W} {av : List Value} {s : State} {A A2 : Nat → Prop} {H : Heap} {locs : List Loc} (hP : va_P D vwCl W H) (hK : va_K D vwCl tys s) (hD : va_D A2 W) (hT : ZT sa s) (hE : ZE ea A s s.heap) (hS : va_S A s.heap H locs) (hF : ∀ q, va_A W H.size q → A q) : ∀ U : State, U.heap = H → s.WarmedH U.vm → zW D sa ea tys W av H.size av.toArray U :=
  fun U hU hW => ⟨rfl, by rw [hU], by rw [hU]; exact hP, va_K.moved hW.alike hK, hD.weaken (fun _ _ _ _ => trivial), hT.warm hW, ZE_pass hS hE hF hU hW⟩
theorem zN_keep {D : va_G} {W : va_W} {H H1 : Heap} (h : va_P D vwCl W H) (hk : ∀ q : Nat, q < H.size → ¬ zN H.size q → H1[q]? = H[q]?) : va_P D vwCl W H1 := h.kept (fun k q hq => hk q.1 (h k q hq).lt (Nat.not_le.mpr (h k q hq).lt))
theorem zN_in {n : Nat} {A : Nat → Prop} : ∀ q : Nat, q < n → zN n q → A q := fun _ h1 h2 => absurd h2 (Nat.not_le.mpr h1)
theorem zN_fr {A : Nat → Prop} {H0 H : Heap} {locs : List Loc} (hS : va_S A H0 H locs) (hA : ∀ q, H0.size ≤ q → A q) : ∀ q : Nat, zN H.size q → A q := fun q h => hA q (Nat.le_trans hS.1 h)
/-- what is thrown -/
abbrev zXC (E : String) (sz : Nat) : String → State → State → Prop := vx_X (fun _ : Unit => True) (fun E' _ _ => E' = E) (zN sz)
abbrev zX0 (sz : Nat) : String → State → State → Prop := vx_X (fun _ : Unit => True) (fun _ _ _ => False) (zN sz)
def zF : Array Value → State → Outcome → State → Prop := fun _ _ _ _ => False
section ZCALL
variable {p : Program} {l : Launch} {e : Env} {R : Room} {s : State} {m : MethodId} {args : Array Value} {below : List Frame} {meth : Method} {c : Code} {H : Heap} {locs : List Loc} {cells slots : Nat} {Q : State → Prop}
variable {mc ms : Nat} {free : Addr → Prop} {A0 : Nat → Prop} {H0 : Heap} {a : Array Value} {pc : Nat} {ls : Array Slot} {st0 rest : List Value}
/-- a call that never returns -/
theorem zx_call {SX : Type} {px : SX → Prop} {BX : String → SX → State → Prop} {AX : Nat → Prop} (hr : vx_Run p l e R s m args below meth c H locs cells slots mc ms (F0 m pc ls st0) rest (zF a) (vx_X px BX AX) free) (hS : va_S A0 H0 H locs) (hf : ∀ q, free q → A0 q) (hAX : ∀ q, q < H.size → AX q → A0 q)
    (kx : ∀ (E : String) (ce : Cell) (q9 : Addr) (u : SX) (t : State) (H1 : Heap) (locs1 : List Loc), t.heap = H1 → s.vm.Alike t.vm → px u → BX E u t → H.size ≤ H1.size → (∀ q : Nat, q < H.size → ¬ AX q → H1[q]? = H[q]?) → va_S A0 H0 H1 locs1 → H1[q9]? = some ce → ce.vm = .none → s.vm.findClass E = some ce.cls → vx_W p l e R s m args below meth c H1 locs1 (cells + mc) (slots + ms) Q (F0 m pc ls rest) q9) : W p l e R s m args below meth c H locs cells slots Q (F0 m pc ls st0) := by
  intro T hT X
  rcases hr T hT X with ⟨v, st₀, t, T', L, h0, X', hL, e1, e2, hF, st⟩ | ⟨q, st₀, t, T', L, E, ce, h0, X', hL, e1, e2, ⟨u, hp, hb, hF⟩, hce, hcv, hcl, st⟩
  · exact hF.elim
  · obtain ⟨k1, k2, k3⟩ := vx_keep h0 e1 hS hAX hf hL hF
    obtain ⟨t2, a1, b1⟩ := kx E ce q u t T'.heap (locs ++ L) e1.symm (by rw [← e2]; exact X'.warmed.alike) hp hb k1 k2 k3 (by rw [e1]; exact hce) hcv hcl T' rfl X'
    exact ⟨t2, st.trans a1, b1⟩
end ZCALL
/-- whether a number is in its range, as 0 or 1 -/
def z_in (x lo hi : Int32) : Int32 := if x < lo then 0 else if hi < x then 0 else 1
theorem z_two (x lo hi : Int32) : z_in x lo hi = 0 ∨ z_in x lo hi = 1 := by
  unfold z_in
  by_cases h : x < lo
  · rw [if_pos h]; exact Or.inl rfl
  · rw [if_neg h]
    by_cases h2 : hi < x
    · rw [if_pos h2]; exact Or.inl rfl
    · rw [if_neg h2]; exact Or.inr rfl
theorem z_a {x lo hi : Int32} (h : x < lo) : 0 = z_in x lo hi := by unfold z_in; rw [if_pos h]
theorem z_b {x lo hi : Int32} (h : ¬ x < lo) (h2 : hi < x) : 0 = z_in x lo hi := by unfold z_in; rw [if_neg h, if_pos h2]
theorem z_c {x lo hi : Int32} (h : ¬ x < lo) (h2 : ¬ hi < x) : 1 = z_in x lo hi := by unfold z_in; rw [if_neg h, if_neg h2]
theorem z_1a {x lo hi : Int32} (h : z_in x lo hi = 1) : ¬ x < lo := fun c => absurd ((z_a c).trans h) (by decide)
theorem z_1b {x lo hi : Int32} (h : z_in x lo hi = 1) : ¬ hi < x := fun c => absurd ((z_b (z_1a h) c).trans h) (by decide)
theorem z_0b {x lo hi : Int32} (h : z_in x lo hi = 0) (h2 : ¬ x < lo) : hi < x := Decidable.byContradiction fun c => absurd ((z_c h2 c).trans h) (by decide)
theorem z_n (x : Int32) : z_in x 0 (-1) = 0 := by
  unfold z_in
  by_cases h : x < 0
  · rw [if_pos h]
  · rw [if_neg h, if_pos (Int32.lt_iff_toInt_lt.mpr (by have h1 := mt Int32.lt_iff_toInt_lt.mpr h; have e0 : (0 : Int32).toInt = 0 := (by decide); have e1 : (-1 : Int32).toInt = -1 := (by decide); rw [e0] at h1; rw [e1]; omega))]
theorem zl_le {a b : Int32} (h : ¬ a < b) : b ≤ a := Int32.le_iff_toInt_le.mpr (by have h1 := mt Int32.lt_iff_toInt_lt.mpr h; omega)
theorem zl_lt {a b : Int32} (h : ¬ a ≤ b) : b < a := Int32.lt_iff_toInt_lt.mpr (by have h1 := mt Int32.le_iff_toInt_le.mpr h; omega)
theorem zl_nlt {a b : Int32} (h : a ≤ b) : ¬ b < a := fun c => by have h1 := Int32.lt_iff_toInt_lt.mp c; have h2 := Int32.le_iff_toInt_le.mp h; omega
theorem zl_nle {a b : Int32} (h : a < b) : ¬ b ≤ a := fun c => by have h1 := Int32.lt_iff_toInt_lt.mp h; have h2 := Int32.le_iff_toInt_le.mp c; omega
theorem z_zb (x lo hi : Int32) : narrow .boolean (.int (z_in x lo hi)) = .int (z_in x lo hi) := by
  rcases z_two x lo hi with h | h
  · rw [h]; decide
  · rw [h]; decide
/-- the objects of a new Settbook: 0 itself, 1 palette, 2 row, 3 setts, 4 copies, 5 mill -/
abbrev zX (ad : Nat → Nat) : va_W := [(ad 0, .inr (10, [.ref (ad 1), .ref (ad 2), .ref (ad 3), .ref (ad 4), .ref (ad 5), .int (-1), .int 100, .int 0, .int 0])), (ad 1, .inr (7, [.ref (ad 6), .ref (ad 7), .ref (ad 8), .int 0])), (ad 2, .inr (8, [.ref (ad 9), .ref (ad 10), .int 0])), (ad 3, .inr (4, [.int 0, .ref (ad 14), .int 0])), (ad 4, .inr (4, [.int 0, .ref (ad 14), .int 0])), (ad 5, .inr (6, [.ref (ad 11), .ref (ad 12), .ref (ad 13), .int 0, .int 0]))]
/-- the objects of a new SettbookModel: 0 itself, 1 shades, 2 row, 3 setts, 4 warps, 5 orders, 6 copies -/
abbrev zM (bd : Nat → Nat) (th : Int32) : va_W := [(bd 0, .inr (14, [.ref (bd 1), .ref (bd 2), .ref (bd 3), .ref (bd 4), .ref (bd 5), .ref (bd 6), .int 100, .int (-1), .int 0, .int th])), (bd 1, .inr (4, [.int 0, .ref (bd 7), .int 0])), (bd 2, .inr (4, [.int 0, .ref (bd 7), .int 0])), (bd 3, .inr (4, [.int 0, .ref (bd 7), .int 0])), (bd 4, .inr (4, [.int 0, .ref (bd 7), .int 0])), (bd 5, .inr (4, [.int 0, .ref (bd 7), .int 0])), (bd 6, .inr (4, [.int 0, .ref (bd 7), .int 0]))]
