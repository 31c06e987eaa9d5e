theorem dL_law_45 : decode cL_law 45 = .ok (.tableswitch 3404 0 48 #[211, 305, 387, 455, 523, 536, 608, 664, 720, 788, 856, 924, 992, 1067, 1123, 1191, 1259, 1327, 1414, 1494, 1574, 1618, 1698, 1766, 1822, 1916, 1979, 2042, 2098, 2173, 2248, 2304, 2438, 2565, 2673, 2753, 2809, 2865, 2878, 2891, 2947, 3027, 3083, 3139, 3202, 3246, 3260, 3326, 3391], 211) := by decide +kernel
theorem dL_law_38 : decode cL_law 38 = .ok (.aload_n 0, 1) := by decide +kernel
theorem dL_law_39 : decode cL_law 39 = .ok (.iload 5, 2) := by decide +kernel
theorem dL_law_41 : decode cL_law 41 = .ok (.iaload, 1) := by decide +kernel
theorem dL_law_42 : decode cL_law 42 = .ok (.bipush 63, 2) := by decide +kernel
theorem dL_law_44 : decode cL_law 44 = .ok (.iand, 1) := by decide +kernel
set_option maxHeartbeats 4000000 in
set_option maxRecDepth 100000 in
theorem law_sw {p : Program} {e : Env} {s : State} {m : MethodId} {below : List Frame} {meth : Method} {c : Code} {l : Launch} {D : va_G} {A : Nat → Prop} {sa : Nat → Nat} {ea : Nat} {ad bd : Nat → Nat} {kC kI kO kD : ClassId} {oa od b : Nat} {xs : Nat → Int32} {Q : State → Prop} (C1 : zLw p l s m c b xs A sa ea bd) (hend : ∀ (H : Heap) (locs : List Loc) (ls : Array Slot), va_S A s.heap H locs → lv_has ls 9 [(5, .int 0), (0, .ref b)] → W p l e room_1 s m #[Value.ref b] below meth c H locs 2000 20000 Q (F0 m 3449 ls [])) {H : Heap} {locs : List Loc} {ls : Array Slot} (C2 : zSt D s A ad bd kC kI kO kD oa od b H locs ls) : W p l e room_1 s m #[Value.ref b] below meth c H locs 1000 10000 Q (F0 m 38 ls []) := by
  obtain ⟨hx, hb, hml, hown, hw, hX, hbl, hbA, hA, hT, hZ, hE, hQ, hst, he⟩ := id C1
  obtain ⟨hK, hP, hD, hS, hl⟩ := id C2
  refine lv_aload_n hx hb dL_law_38 rfl (lv_at hl 5 rfl) ?_
  refine lv_iload hx hb dL_law_39 (lv_at hl 0 rfl) ?_
  refine va_sld (i := 0) hx hb hX hbl hbA hS (by unfold vp_in; decide) dL_law_41 ?_
  refine lv_bipush (v := 63) hx hb dL_law_42 (by decide) ?_
  refine lv_iand hx hb dL_law_44 ?_
  refine lv_topi (fun y hy => ?_)
  obtain ⟨n, hn, en⟩ := pk_andE (xs (Int32.toNatClampNeg 0)) (m := 63) 6 (by decide)
  have hyn : y = nI n := hy.trans en
  by_cases h0 : n = 0
  · subst h0
    subst hyn
    refine lv_tableIn (off := 211) (tgt := 256) hx hb dL_law_45 (by decide) (by decide) (by decide) (by decide) ?_
    exact law_0 C1 hend C2
  by_cases h1 : n = 1
  · subst h1
    subst hyn
    refine lv_tableIn (off := 305) (tgt := 350) hx hb dL_law_45 (by decide) (by decide) (by decide) (by decide) ?_
    exact law_1 C1 hend C2
  by_cases h2 : n = 2
  · subst h2
    subst hyn
    refine lv_tableIn (off := 387) (tgt := 432) hx hb dL_law_45 (by decide) (by decide) (by decide) (by decide) ?_
    exact law_2 C1 hend C2
  by_cases h3 : n = 3
  · subst h3
    subst hyn
    refine lv_tableIn (off := 455) (tgt := 500) hx hb dL_law_45 (by decide) (by decide) (by decide) (by decide) ?_
    exact law_3 C1 hend C2
  by_cases h4 : n = 4
  · subst h4
    subst hyn
    refine lv_tableIn (off := 523) (tgt := 568) hx hb dL_law_45 (by decide) (by decide) (by decide) (by decide) ?_
    exact law_4 C1 hend C2
  by_cases h5 : n = 5
  · subst h5
    subst hyn
    refine lv_tableIn (off := 536) (tgt := 581) hx hb dL_law_45 (by decide) (by decide) (by decide) (by decide) ?_
    exact law_5 C1 hend C2
  by_cases h6 : n = 6
  · subst h6
    subst hyn
    refine lv_tableIn (off := 608) (tgt := 653) hx hb dL_law_45 (by decide) (by decide) (by decide) (by decide) ?_
    exact law_6 C1 hend C2
  by_cases h7 : n = 7
  · subst h7
    subst hyn
    refine lv_tableIn (off := 664) (tgt := 709) hx hb dL_law_45 (by decide) (by decide) (by decide) (by decide) ?_
    exact law_7 C1 hend C2
  by_cases h8 : n = 8
  · subst h8
    subst hyn
    refine lv_tableIn (off := 720) (tgt := 765) hx hb dL_law_45 (by decide) (by decide) (by decide) (by decide) ?_
    exact law_8 C1 hend C2
  by_cases h9 : n = 9
  · subst h9
    subst hyn
    refine lv_tableIn (off := 788) (tgt := 833) hx hb dL_law_45 (by decide) (by decide) (by decide) (by decide) ?_
    exact law_9 C1 hend C2
  by_cases h10 : n = 10
  · subst h10
    subst hyn
    refine lv_tableIn (off := 856) (tgt := 901) hx hb dL_law_45 (by decide) (by decide) (by decide) (by decide) ?_
    exact law_10 C1 hend C2
  by_cases h11 : n = 11
  · subst h11
    subst hyn
    refine lv_tableIn (off := 924) (tgt := 969) hx hb dL_law_45 (by decide) (by decide) (by decide) (by decide) ?_
    exact law_11 C1 hend C2
  by_cases h12 : n = 12
  · subst h12
    subst hyn
    refine lv_tableIn (off := 992) (tgt := 1037) hx hb dL_law_45 (by decide) (by decide) (by decide) (by decide) ?_
    exact law_12 C1 hend C2
  by_cases h13 : n = 13
  · subst h13
    subst hyn
    refine lv_tableIn (off := 1067) (tgt := 1112) hx hb dL_law_45 (by decide) (by decide) (by decide) (by decide) ?_
    exact law_13 C1 hend C2
  by_cases h14 : n = 14
  · subst h14
    subst hyn
    refine lv_tableIn (off := 1123) (tgt := 1168) hx hb dL_law_45 (by decide) (by decide) (by decide) (by decide) ?_
    exact law_14 C1 hend C2
  by_cases h15 : n = 15
  · subst h15
    subst hyn
    refine lv_tableIn (off := 1191) (tgt := 1236) hx hb dL_law_45 (by decide) (by decide) (by decide) (by decide) ?_
    exact law_15 C1 hend C2
  by_cases h16 : n = 16
  · subst h16
    subst hyn
    refine lv_tableIn (off := 1259) (tgt := 1304) hx hb dL_law_45 (by decide) (by decide) (by decide) (by decide) ?_
    exact law_16 C1 hend C2
  by_cases h17 : n = 17
  · subst h17
    subst hyn
    refine lv_tableIn (off := 1327) (tgt := 1372) hx hb dL_law_45 (by decide) (by decide) (by decide) (by decide) ?_
    exact law_17 C1 hend C2
  by_cases h18 : n = 18
  · subst h18
    subst hyn
    refine lv_tableIn (off := 1414) (tgt := 1459) hx hb dL_law_45 (by decide) (by decide) (by decide) (by decide) ?_
    exact law_18 C1 hend C2
  by_cases h19 : n = 19
  · subst h19
    subst hyn
    refine lv_tableIn (off := 1494) (tgt := 1539) hx hb dL_law_45 (by decide) (by decide) (by decide) (by decide) ?_
    exact law_19 C1 hend C2
  by_cases h20 : n = 20
  · subst h20
    subst hyn
    refine lv_tableIn (off := 1574) (tgt := 1619) hx hb dL_law_45 (by decide) (by decide) (by decide) (by decide) ?_
    exact law_20 C1 hend C2
  by_cases h21 : n = 21
  · subst h21
    subst hyn
    refine lv_tableIn (off := 1618) (tgt := 1663) hx hb dL_law_45 (by decide) (by decide) (by decide) (by decide) ?_
    exact law_21 C1 hend C2
  by_cases h22 : n = 22
  · subst h22
    subst hyn
    refine lv_tableIn (off := 1698) (tgt := 1743) hx hb dL_law_45 (by decide) (by decide) (by decide) (by decide) ?_
    exact law_22 C1 hend C2
  by_cases h23 : n = 23
  · subst h23
    subst hyn
    refine lv_tableIn (off := 1766) (tgt := 1811) hx hb dL_law_45 (by decide) (by decide) (by decide) (by decide) ?_
    exact law_23 C1 hend C2
  by_cases h24 : n = 24
  · subst h24
    subst hyn
    refine lv_tableIn (off := 1822) (tgt := 1867) hx hb dL_law_45 (by decide) (by decide) (by decide) (by decide) ?_
    exact law_24 C1 hend C2
  by_cases h25 : n = 25
  · subst h25
    subst hyn
    refine lv_tableIn (off := 1916) (tgt := 1961) hx hb dL_law_45 (by decide) (by decide) (by decide) (by decide) ?_
    exact law_25 C1 hend C2
  by_cases h26 : n = 26
  · subst h26
    subst hyn
    refine lv_tableIn (off := 1979) (tgt := 2024) hx hb dL_law_45 (by decide) (by decide) (by decide) (by decide) ?_
    exact law_26 C1 hend C2
  by_cases h27 : n = 27
  · subst h27
    subst hyn
    refine lv_tableIn (off := 2042) (tgt := 2087) hx hb dL_law_45 (by decide) (by decide) (by decide) (by decide) ?_
    exact law_27 C1 hend C2
  by_cases h28 : n = 28
  · subst h28
    subst hyn
    refine lv_tableIn (off := 2098) (tgt := 2143) hx hb dL_law_45 (by decide) (by decide) (by decide) (by decide) ?_
    exact law_28 C1 hend C2
  by_cases h29 : n = 29
  · subst h29
    subst hyn
    refine lv_tableIn (off := 2173) (tgt := 2218) hx hb dL_law_45 (by decide) (by decide) (by decide) (by decide) ?_
    exact law_29 C1 hend C2
  by_cases h30 : n = 30
  · subst h30
    subst hyn
    refine lv_tableIn (off := 2248) (tgt := 2293) hx hb dL_law_45 (by decide) (by decide) (by decide) (by decide) ?_
    exact law_30 C1 hend C2
  by_cases h31 : n = 31
  · subst h31
    subst hyn
    refine lv_tableIn (off := 2304) (tgt := 2349) hx hb dL_law_45 (by decide) (by decide) (by decide) (by decide) ?_
    exact law_31 C1 hend C2
  by_cases h32 : n = 32
  · subst h32
    subst hyn
    refine lv_tableIn (off := 2438) (tgt := 2483) hx hb dL_law_45 (by decide) (by decide) (by decide) (by decide) ?_
    exact law_32 C1 hend C2
  by_cases h33 : n = 33
  · subst h33
    subst hyn
    refine lv_tableIn (off := 2565) (tgt := 2610) hx hb dL_law_45 (by decide) (by decide) (by decide) (by decide) ?_
    exact law_33 C1 hend C2
  by_cases h34 : n = 34
  · subst h34
    subst hyn
    refine lv_tableIn (off := 2673) (tgt := 2718) hx hb dL_law_45 (by decide) (by decide) (by decide) (by decide) ?_
    exact law_34 C1 hend C2
  by_cases h35 : n = 35
  · subst h35
    subst hyn
    refine lv_tableIn (off := 2753) (tgt := 2798) hx hb dL_law_45 (by decide) (by decide) (by decide) (by decide) ?_
    exact law_35 C1 hend C2
  by_cases h36 : n = 36
  · subst h36
    subst hyn
    refine lv_tableIn (off := 2809) (tgt := 2854) hx hb dL_law_45 (by decide) (by decide) (by decide) (by decide) ?_
    exact law_36 C1 hend C2
  by_cases h37 : n = 37
  · subst h37
    subst hyn
    refine lv_tableIn (off := 2865) (tgt := 2910) hx hb dL_law_45 (by decide) (by decide) (by decide) (by decide) ?_
    exact law_37 C1 hend C2
  by_cases h38 : n = 38
  · subst h38
    subst hyn
    refine lv_tableIn (off := 2878) (tgt := 2923) hx hb dL_law_45 (by decide) (by decide) (by decide) (by decide) ?_
    exact law_38 C1 hend C2
  by_cases h39 : n = 39
  · subst h39
    subst hyn
    refine lv_tableIn (off := 2891) (tgt := 2936) hx hb dL_law_45 (by decide) (by decide) (by decide) (by decide) ?_
    exact law_39 C1 hend C2
  by_cases h40 : n = 40
  · subst h40
    subst hyn
    refine lv_tableIn (off := 2947) (tgt := 2992) hx hb dL_law_45 (by decide) (by decide) (by decide) (by decide) ?_
    exact law_40 C1 hend C2
  by_cases h41 : n = 41
  · subst h41
    subst hyn
    refine lv_tableIn (off := 3027) (tgt := 3072) hx hb dL_law_45 (by decide) (by decide) (by decide) (by decide) ?_
    exact law_41 C1 hend C2
  by_cases h42 : n = 42
  · subst h42
    subst hyn
    refine lv_tableIn (off := 3083) (tgt := 3128) hx hb dL_law_45 (by decide) (by decide) (by decide) (by decide) ?_
    exact law_42 C1 hend C2
  by_cases h43 : n = 43
  · subst h43
    subst hyn
    refine lv_tableIn (off := 3139) (tgt := 3184) hx hb dL_law_45 (by decide) (by decide) (by decide) (by decide) ?_
    exact law_43 C1 hend C2
  by_cases h44 : n = 44
  · subst h44
    subst hyn
    refine lv_tableIn (off := 3202) (tgt := 3247) hx hb dL_law_45 (by decide) (by decide) (by decide) (by decide) ?_
    exact law_44 C1 hend C2
  by_cases h45 : n = 45
  · subst h45
    subst hyn
    refine lv_tableIn (off := 3246) (tgt := 3291) hx hb dL_law_45 (by decide) (by decide) (by decide) (by decide) ?_
    exact law_45 C1 hend C2
  by_cases h46 : n = 46
  · subst h46
    subst hyn
    refine lv_tableIn (off := 3260) (tgt := 3305) hx hb dL_law_45 (by decide) (by decide) (by decide) (by decide) ?_
    exact law_46 C1 hend C2
  by_cases h47 : n = 47
  · subst h47
    subst hyn
    refine lv_tableIn (off := 3326) (tgt := 3371) hx hb dL_law_45 (by decide) (by decide) (by decide) (by decide) ?_
    exact law_47 C1 hend C2
  by_cases h48 : n = 48
  · subst h48
    subst hyn
    refine lv_tableIn (off := 3391) (tgt := 3436) hx hb dL_law_45 (by decide) (by decide) (by decide) (by decide) ?_
    exact law_48 C1 hend C2
  refine lv_tableOut (tgt := 3449) hx hb dL_law_45 (Or.inr ?_) (by decide) ?_
  · rw [hyn, nI_toInt (by omega)]
    omega
  · refine W.widen (k := 2000) (n := 20000) (Nat.le_of_ble_eq_true rfl) (Nat.le_of_ble_eq_true rfl) ?_
    exact hend _ _ _ hS (lv_sub hl [0, 5] rfl)
