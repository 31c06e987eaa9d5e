theorem zs_in : ∀ q ∈ zs_ss, Cond.stringRef RX5 q.1 q.2 ∈ lw_tbl := by decide +kernel
theorem zf_in : ∀ q ∈ zn_f, Cond.fieldLinkNest q.1 q.2.1 q.2.2.1 q.2.2.2.1 q.2.2.2.2.1 q.2.2.2.2.2 ∈ lw_tbl := by decide +kernel
theorem zm_in : ∀ q ∈ zn_m, Cond.methodLinkNest q.1 q.2.1 q.2.2.1 q.2.2.2 ∈ lw_tbl := by decide +kernel
theorem zd_in : ∀ q ∈ zd_w, Cond.declares q ∈ lw_tbl := by decide +kernel
theorem zc_in : ∀ q ∈ zc_w, Cond.castable q q ∈ lw_tbl := by decide +kernel
theorem zw_in : ∀ q ∈ zf_w, Cond.declares q.2.1 ∈ lw_tbl ∧ Cond.interfaceMethod q.2.1.cls q.2.1.cls q.2.1.name q.2.1.desc ∈ lw_tbl ∧ Cond.publicMethod q.2.2 ∈ lw_tbl ∧ Cond.unhidden q.1 q.2.1.name q.2.1.desc ∈ lw_tbl ∧ Cond.castable q.1 q.2.1.cls ∈ lw_tbl := by decide +kernel
def zFl : List Cond := flatC (Jvm.Cond.and given_1 narrow_1)
theorem zs_ex : ∀ q ∈ zs_ss, Cond.exactly (.string RX5 q.1) "java/lang/String" ∈ zFl := by decide +kernel
theorem zc_ia : Cond.castable "[I" "java/lang/Object" ∈ lw_tbl := by decide +kernel
theorem zc_ao : Cond.arrayOver (.object "java/lang/Object") ∈ lw_tbl := by decide +kernel
theorem zl_us : Cond.laysStatic Bundle.tN "UNASSIGNED_STACK" Bundle.steD ∈ lw_tbl := by decide +kernel
theorem zl_ss : Cond.laysStatic Bundle.tN "SUPPRESSED_SENTINEL" Bundle.listD ∈ lw_tbl := by decide +kernel
theorem zl_de : Cond.laysStatic "java/util/ArrayList" "DEFAULTCAPACITY_EMPTY_ELEMENTDATA" "[Ljava/lang/Object;" ∈ lw_tbl := by decide +kernel
theorem zi_th : Cond.initialized Bundle.tN ∈ lw_tbl := by decide +kernel
theorem zi_al : Cond.initialized "java/util/ArrayList" ∈ lw_tbl := by decide +kernel
theorem zr_us : Cond.isRef (.static Bundle.tN "UNASSIGNED_STACK" Bundle.steD) ∈ zFl := by decide +kernel
theorem zr_ss : Cond.isRef (.static Bundle.tN "SUPPRESSED_SENTINEL" Bundle.listD) ∈ zFl := by decide +kernel
abbrev zDe : Term := .static "java/util/ArrayList" "DEFAULTCAPACITY_EMPTY_ELEMENTDATA" "[Ljava/lang/Object;"
theorem zr_ar : Cond.arrayOf zDe (.object "java/lang/Object") ∈ zFl := by decide +kernel
theorem zr_ln : Cond.eq (.length zDe) (.int 0) ∈ zFl := by decide +kernel
/-- the facts beside the words, at the law's entry -/
theorem zT_of {s : State} {args : Array Value} (hts : ∀ w ∈ lw_tbl, w.before args s = true) (hgv : (Jvm.Cond.and given_1 narrow_1).before args s = true) : ∃ sa : Nat → Nat, ZT sa s := by
  have hs := flat_of_before _ hgv
  have h1 : ∀ i : Nat, ∃ a : Nat, ∀ q : Nat × String, zs_ss[i]? = some q → vk_R RX5 q.1 q.2 a s := by
    intro i
    cases hi : zs_ss[i]? with
    | none => exact ⟨0, fun q h => by cases h⟩
    | some q =>
      have hm := List.mem_of_getElem? hi
      obtain ⟨a, c, cell, k, q1, -⟩ := Cond.exactly_spec (args := args) (first := s) (o := none) (s := s) (idx := []) (hs _ (zs_ex q hm))
      refine ⟨a, fun q' h => ?_⟩
      cases h
      exact vk_R.of (hts _ (zs_in q hm)) q1
  obtain ⟨sa, hsa⟩ := Classical.axiomOfChoice h1
  exact ⟨sa, fun i q hi => hsa i q hi, fun i q hi => va_Nw.of rfl (hts _ (zf_in q (List.mem_of_getElem? hi))), fun i q hi => va_Nw.of rfl (hts _ (zm_in q (List.mem_of_getElem? hi))), fun i q hi => by
    obtain ⟨g1, g2, g3, g4, g5⟩ := zw_in q (List.mem_of_getElem? hi)
    exact va_Fw.of (hts _ g1) (hts _ g2) (hts _ g3) (hts _ g4) (hts _ g5), fun i q hi => va_Nw.of rfl (hts _ (zd_in q (List.mem_of_getElem? hi))), fun i q hi => va_Nw.of rfl (hts _ (zc_in q (List.mem_of_getElem? hi)))⟩
theorem zQ_of {s : State} {args : Array Value} {A : Nat → Prop} (hts : ∀ w ∈ lw_tbl, w.before args s = true) (hgv : (Jvm.Cond.and given_1 narrow_1).before args s = true) (hA : ∀ a : Nat, a < s.heap.size → ¬ A a) : ∃ ea : Nat, ZE ea A s s.heap ∧ ZQ ea A s s.heap := by
  have hs := flat_of_before _ hgv
  have hv2 : (Cond.eq (.length zDe) (.int 0)).value args s none s [] = some true := by simpa [Cond.before, Cond.holds] using hs _ zr_ln
  have hlen : (Term.length zDe).eval args s none [] s = some (.int 0) := va_eqI hv2 rfl
  obtain ⟨ea, cell, ht, harr, hv⟩ := Term.length_spec hlen
  obtain ⟨hcell, -, -, -⟩ := State.arrayAt?_spec harr
  have hlt := (Array.getElem?_eq_some_iff.mp hcell).1
  have hof := (Cond.arrayOf_spec (hs _ zr_ar) ht hcell).1
  have hsz : cell.slots.size < 2 ^ 31 := by
    have h9 := hlen
    simp only [Term.eval, Option.bind_eq_bind] at ht h9
    rw [ht] at h9
    simp only [Option.bind_some, harr] at h9
    by_cases hlt : cell.slots.size < 2147483648
    · exact hlt
    · simp [hlt] at h9
  have h0 : cell.slots.size = 0 := by
    have e1 : Int32.ofNat cell.slots.size = 0 := (Value.int.inj hv).symm
    have e2 : (nI cell.slots.size).toNatClampNeg = cell.slots.size := nI_clamp hsz
    have e3 : nI cell.slots.size = 0 := e1
    rw [e3] at e2
    exact e2.symm.trans (by decide)
  exact ⟨ea, va_Zof (hts _ zl_de) (hts _ zi_al) ht hA, ⟨cell, hcell, hof, h0, hA ea hlt⟩, va_Nw.of rfl (hts _ zc_ia), va_AO.of (A := args) (hts _ zc_ao)⟩
