theorem dL_law_1867 : decode cL_law 1867 = .ok (.aload_n 1, 1) := by decide +kernel
theorem dL_law_1868 : decode cL_law 1868 = .ok (.aload_n 0, 1) := by decide +kernel
theorem dL_law_1869 : decode cL_law 1869 = .ok (.iload 5, 2) := by decide +kernel
theorem dL_law_1871 : decode cL_law 1871 = .ok (.iconst 1, 1) := by decide +kernel
theorem dL_law_1872 : decode cL_law 1872 = .ok (.iadd, 1) := by decide +kernel
theorem dL_law_1873 : decode cL_law 1873 = .ok (.iaload, 1) := by decide +kernel
theorem dL_law_1874 : decode cL_law 1874 = .ok (.aload_n 0, 1) := by decide +kernel
theorem dL_law_1875 : decode cL_law 1875 = .ok (.iload 5, 2) := by decide +kernel
theorem dL_law_1877 : decode cL_law 1877 = .ok (.iconst 2, 1) := by decide +kernel
theorem dL_law_1878 : decode cL_law 1878 = .ok (.iadd, 1) := by decide +kernel
theorem dL_law_1879 : decode cL_law 1879 = .ok (.iaload, 1) := by decide +kernel
theorem dL_law_1880 : decode cL_law 1880 = .ok (.i2c, 1) := by decide +kernel
theorem dL_law_1881 : decode cL_law 1881 = .ok (.aload_n 0, 1) := by decide +kernel
theorem dL_law_1882 : decode cL_law 1882 = .ok (.iload 5, 2) := by decide +kernel
theorem dL_law_1884 : decode cL_law 1884 = .ok (.iconst 3, 1) := by decide +kernel
theorem dL_law_1885 : decode cL_law 1885 = .ok (.iadd, 1) := by decide +kernel
theorem dL_law_1886 : decode cL_law 1886 = .ok (.iaload, 1) := by decide +kernel
theorem dL_law_1887 : decode cL_law 1887 = .ok (.aload_n 0, 1) := by decide +kernel
theorem dL_law_1888 : decode cL_law 1888 = .ok (.iload 5, 2) := by decide +kernel
theorem dL_law_1890 : decode cL_law 1890 = .ok (.iconst 4, 1) := by decide +kernel
theorem dL_law_1891 : decode cL_law 1891 = .ok (.iadd, 1) := by decide +kernel
theorem dL_law_1892 : decode cL_law 1892 = .ok (.iaload, 1) := by decide +kernel
theorem dL_law_1893 : decode cL_law 1893 = .ok (.aload_n 3, 1) := by decide +kernel
theorem dL_law_1894 : decode cL_law 1894 = .ok (.invokestatic 258, 3) := by decide +kernel
theorem zm_963 : Cond.methodLink RL 258 yL_register ∈ WA := zmm (i := 963) (by decide +kernel) (by decide +kernel)
theorem zm_964 : Cond.static yL_register ∈ WA := zmm (i := 964) (by decide +kernel) (by decide +kernel)
theorem zm_965 : Cond.codeWith yL_register method_26_code 7 (Option.some FieldType.int) [(0, 14, 17, 23), (0, 14, 21, 13), (0, 14, 25, 15)] ∈ WA := zmm (i := 965) (by decide +kernel) (by decide +kernel)
theorem dL_law_1897 : decode cL_law 1897 = .ok (.istore 6, 2) := by decide +kernel
theorem dL_law_1899 : decode cL_law 1899 = .ok (.aload_n 2, 1) := by decide +kernel
theorem dL_law_1900 : decode cL_law 1900 = .ok (.aload_n 0, 1) := by decide +kernel
theorem dL_law_1901 : decode cL_law 1901 = .ok (.iload 5, 2) := by decide +kernel
theorem dL_law_1903 : decode cL_law 1903 = .ok (.iconst 1, 1) := by decide +kernel
theorem dL_law_1904 : decode cL_law 1904 = .ok (.iadd, 1) := by decide +kernel
theorem dL_law_1905 : decode cL_law 1905 = .ok (.iaload, 1) := by decide +kernel
theorem dL_law_1906 : decode cL_law 1906 = .ok (.aload_n 0, 1) := by decide +kernel
theorem dL_law_1907 : decode cL_law 1907 = .ok (.iload 5, 2) := by decide +kernel
theorem dL_law_1909 : decode cL_law 1909 = .ok (.iconst 2, 1) := by decide +kernel
theorem dL_law_1910 : decode cL_law 1910 = .ok (.iadd, 1) := by decide +kernel
theorem dL_law_1911 : decode cL_law 1911 = .ok (.iaload, 1) := by decide +kernel
theorem dL_law_1912 : decode cL_law 1912 = .ok (.i2c, 1) := by decide +kernel
theorem dL_law_1913 : decode cL_law 1913 = .ok (.aload_n 0, 1) := by decide +kernel
theorem dL_law_1914 : decode cL_law 1914 = .ok (.iload 5, 2) := by decide +kernel
theorem dL_law_1916 : decode cL_law 1916 = .ok (.iconst 3, 1) := by decide +kernel
theorem dL_law_1917 : decode cL_law 1917 = .ok (.iadd, 1) := by decide +kernel
theorem dL_law_1918 : decode cL_law 1918 = .ok (.iaload, 1) := by decide +kernel
theorem dL_law_1919 : decode cL_law 1919 = .ok (.aload_n 0, 1) := by decide +kernel
theorem dL_law_1920 : decode cL_law 1920 = .ok (.iload 5, 2) := by decide +kernel
theorem dL_law_1922 : decode cL_law 1922 = .ok (.iconst 4, 1) := by decide +kernel
theorem dL_law_1923 : decode cL_law 1923 = .ok (.iadd, 1) := by decide +kernel
theorem dL_law_1924 : decode cL_law 1924 = .ok (.iaload, 1) := by decide +kernel
theorem dL_law_1925 : decode cL_law 1925 = .ok (.invokevirtual 261, 3) := by decide +kernel
theorem zm_1653 : Cond.methodLink RL 261 yX9_register ∈ WA := zmm (i := 1653) (by decide +kernel) (by decide +kernel)
theorem zm_1654 : Cond.instanceMethod yX9_register ∈ WA := zmm (i := 1654) (by decide +kernel) (by decide +kernel)
theorem zm_1655 : Cond.selects RX9 yX9_register yX9_register ∈ WA := zmm (i := 1655) (by decide +kernel) (by decide +kernel)
theorem zm_1656 : Cond.code yX9_register prog_8_method_38_code 9 (Option.some FieldType.int) ∈ WA := zmm (i := 1656) (by decide +kernel) (by decide +kernel)
theorem dL_law_1928 : decode cL_law 1928 = .ok (.istore 7, 2) := by decide +kernel
theorem dL_law_1930 : decode cL_law 1930 = .ok (.aload_n 2, 1) := by decide +kernel
theorem dL_law_1931 : decode cL_law 1931 = .ok (.invokevirtual 179, 3) := by decide +kernel
theorem dL_law_1934 : decode cL_law 1934 = .ok (.iload 6, 2) := by decide +kernel
theorem dL_law_1936 : decode cL_law 1936 = .ok (.if_icmp .eq 5, 3) := by decide +kernel
theorem dL_law_1941 : decode cL_law 1941 = .ok (.iload 6, 2) := by decide +kernel
theorem dL_law_1943 : decode cL_law 1943 = .ok (.ifCond .ne 15, 3) := by decide +kernel
theorem dL_law_1958 : decode cL_law 1958 = .ok (.goto 1491, 3) := by decide +kernel
set_option maxHeartbeats 4000000 in
set_option maxRecDepth 100000 in
theorem law_24 {p : Program} {e : Env} {s : State} {m : MethodId} {below : List Frame} {meth : Method} {c : Code} {l : Launch} {D : va_G} {A : Nat → Prop} {sa : Nat → Nat} {ea : Nat} {ad bd : Nat → Nat} {kC kI kO kD : ClassId} {oa od b : Nat} {xs : Nat → Int32} {Q : State → Prop} (C1 : zLw p l s m c b xs A sa ea bd) (hend : ∀ (H : Heap) (locs : List Loc) (ls : Array Slot), va_S A s.heap H locs → lv_has ls 9 [(5, .int 0), (0, .ref b)] → W p l e room_1 s m #[Value.ref b] below meth c H locs 2000 20000 Q (F0 m 3449 ls [])) {H : Heap} {locs : List Loc} {ls : Array Slot} (C2 : zSt D s A ad bd kC kI kO kD oa od b H locs ls) : W p l e room_1 s m #[Value.ref b] below meth c H locs 1000 10000 Q (F0 m 1867 ls []) := by
  obtain ⟨hx, hb, hml, hown, hw, hX, hbl, hbA, hA, hT, hZ, hE, hQ, hst, he⟩ := C1
  obtain ⟨hK, hP, hD, hS, hl⟩ := C2
  have hP : va_P D vwCl [((ad 0), .inr (10, [.ref (ad 1), .ref (ad 2), .ref (ad 3), .ref (ad 4), .ref (ad 5), .int (-1), .int 100, .int 0, .int 0])), ((ad 1), .inr (7, [.ref (ad 6), .ref (ad 7), .ref (ad 8), .int 0])), ((ad 2), .inr (8, [.ref (ad 9), .ref (ad 10), .int 0])), ((ad 3), .inr (4, [.int 0, .ref (ad 14), .int 0])), ((ad 4), .inr (4, [.int 0, .ref (ad 14), .int 0])), ((ad 5), .inr (6, [.ref (ad 11), .ref (ad 12), .ref (ad 13), .int 0, .int 0])), ((bd 0), .inr (14, [.ref (bd 1), .ref (bd 2), .ref (bd 3), .ref (bd 4), .ref (bd 5), .ref (bd 6), .int 100, .int (-1), .int 0, .int 0])), ((bd 1), .inr (4, [.int 0, .ref (bd 7), .int 0])), ((bd 2), .inr (4, [.int 0, .ref (bd 7), .int 0])), ((bd 3), .inr (4, [.int 0, .ref (bd 7), .int 0])), ((bd 4), .inr (4, [.int 0, .ref (bd 7), .int 0])), ((bd 5), .inr (4, [.int 0, .ref (bd 7), .int 0])), ((bd 6), .inr (4, [.int 0, .ref (bd 7), .int 0])), ((ad 6), .inl (kC, 12, .inl (fun _ => 0))), ((ad 7), .inl (kI, 36, .inl (fun _ => 0))), (oa, .inl (kO, 1, .inr (.inl (fun _ => 0)))), (od, .inl (kD, 1, .inr (.inr (.inr (.inl (fun _ => 0))))))] H := hP
  have hD : va_D A [((ad 0), .inr (10, [.ref (ad 1), .ref (ad 2), .ref (ad 3), .ref (ad 4), .ref (ad 5), .int (-1), .int 100, .int 0, .int 0])), ((ad 1), .inr (7, [.ref (ad 6), .ref (ad 7), .ref (ad 8), .int 0])), ((ad 2), .inr (8, [.ref (ad 9), .ref (ad 10), .int 0])), ((ad 3), .inr (4, [.int 0, .ref (ad 14), .int 0])), ((ad 4), .inr (4, [.int 0, .ref (ad 14), .int 0])), ((ad 5), .inr (6, [.ref (ad 11), .ref (ad 12), .ref (ad 13), .int 0, .int 0])), ((bd 0), .inr (14, [.ref (bd 1), .ref (bd 2), .ref (bd 3), .ref (bd 4), .ref (bd 5), .ref (bd 6), .int 100, .int (-1), .int 0, .int 0])), ((bd 1), .inr (4, [.int 0, .ref (bd 7), .int 0])), ((bd 2), .inr (4, [.int 0, .ref (bd 7), .int 0])), ((bd 3), .inr (4, [.int 0, .ref (bd 7), .int 0])), ((bd 4), .inr (4, [.int 0, .ref (bd 7), .int 0])), ((bd 5), .inr (4, [.int 0, .ref (bd 7), .int 0])), ((bd 6), .inr (4, [.int 0, .ref (bd 7), .int 0])), ((ad 6), .inl (kC, 12, .inl (fun _ => 0))), ((ad 7), .inl (kI, 36, .inl (fun _ => 0))), (oa, .inl (kO, 1, .inr (.inl (fun _ => 0)))), (od, .inl (kD, 1, .inr (.inr (.inr (.inl (fun _ => 0))))))] := hD
  refine lv_aload_n hx hb dL_law_1867 rfl (lv_at hl 4 rfl) ?_
  refine lv_aload_n hx hb dL_law_1868 rfl (lv_at hl 5 rfl) ?_
  refine lv_iload hx hb dL_law_1869 (lv_at hl 0 rfl) ?_
  refine lv_iconst (v := 1) hx hb dL_law_1871 (by decide) ?_
  refine lv_iadd hx hb dL_law_1872 ?_
  refine lv_topi (fun f_1 ef_1 => ?_)
  obtain rfl : f_1 = 1 := ef_1.trans (by decide)
  refine va_sld (i := 1) hx hb hX hbl hbA hS (by unfold vp_in; decide) dL_law_1873 ?_
  refine lv_aload_n hx hb dL_law_1874 rfl (lv_at hl 5 rfl) ?_
  refine lv_iload hx hb dL_law_1875 (lv_at hl 0 rfl) ?_
  refine lv_iconst (v := 2) hx hb dL_law_1877 (by decide) ?_
  refine lv_iadd hx hb dL_law_1878 ?_
  refine lv_topi (fun f_2 ef_2 => ?_)
  obtain rfl : f_2 = 2 := ef_2.trans (by decide)
  refine va_sld (i := 2) hx hb hX hbl hbA hS (by unfold vp_in; decide) dL_law_1879 ?_
  refine lv_i2c hx hb dL_law_1880 rfl ?_
  refine lv_aload_n hx hb dL_law_1881 rfl (lv_at hl 5 rfl) ?_
  refine lv_iload hx hb dL_law_1882 (lv_at hl 0 rfl) ?_
  refine lv_iconst (v := 3) hx hb dL_law_1884 (by decide) ?_
  refine lv_iadd hx hb dL_law_1885 ?_
  refine lv_topi (fun f_4 ef_4 => ?_)
  obtain rfl : f_4 = 3 := ef_4.trans (by decide)
  refine va_sld (i := 3) hx hb hX hbl hbA hS (by unfold vp_in; decide) dL_law_1886 ?_
  refine lv_aload_n hx hb dL_law_1887 rfl (lv_at hl 5 rfl) ?_
  refine lv_iload hx hb dL_law_1888 (lv_at hl 0 rfl) ?_
  refine lv_iconst (v := 4) hx hb dL_law_1890 (by decide) ?_
  refine lv_iadd hx hb dL_law_1891 ?_
  refine lv_topi (fun f_5 ef_5 => ?_)
  obtain rfl : f_5 = 4 := ef_5.trans (by decide)
  refine va_sld (i := 4) hx hb hX hbl hbA hS (by unfold vp_in; decide) dL_law_1892 ?_
  refine lv_aload_n hx hb dL_law_1893 rfl (lv_at hl 2 rfl) ?_
  have hPc := hP.sub (ws' := [((ad 0), .inr (10, [.ref (ad 1), .ref (ad 2), .ref (ad 3), .ref (ad 4), .ref (ad 5), .int (-1), .int 100, .int 0, .int 0])), ((ad 1), .inr (7, [.ref (ad 6), .ref (ad 7), .ref (ad 8), .int 0])), ((ad 2), .inr (8, [.ref (ad 9), .ref (ad 10), .int 0])), ((ad 3), .inr (4, [.int 0, .ref (ad 14), .int 0])), ((ad 4), .inr (4, [.int 0, .ref (ad 14), .int 0])), ((ad 5), .inr (6, [.ref (ad 11), .ref (ad 12), .ref (ad 13), .int 0, .int 0]))]) [0, 1, 2, 3, 4, 5] rfl
  refine vx_calli (vx_runSX (As := [.ref (ad 0), .int (xs (Int32.toNatClampNeg 1)), .int (((xs (Int32.toNatClampNeg 2)).toUInt32 % 65536).toInt32), .int (xs (Int32.toNatClampNeg 3)), .int (xs (Int32.toNatClampNeg 4)), .ref oa]) (rest := []) ⟨hx, hb, hml, hown, hw⟩ (c_L_register l hst D sa ad _ (xs (Int32.toNatClampNeg 1)) (((xs (Int32.toNatClampNeg 2)).toUInt32 % 65536).toInt32) (xs (Int32.toNatClampNeg 3)) (xs (Int32.toNatClampNeg 4)) oa) (vx_cwSW 6 hw (zg3 zm_963 zm_964 zm_44 zm_965) rfl rfl rfl (by decide +kernel) ⟨Nat.le_of_ble_eq_true rfl, Nat.le_of_ble_eq_true rfl⟩) ⟨zR_blind, zR_pre hPc hK hT hZ hS hA⟩ rfl rfl hl.1 rfl (lv_room (Nat.le_of_ble_eq_true rfl)) dL_law_1894 ⟨Nat.le_of_ble_eq_true rfl, Nat.le_of_ble_eq_true rfl⟩) hS zN_in (zN_fr hS hA) zN_in (fun E ce q9 u t H1 locs1 ht hvm hu hE => hE.elim) (fun r_6 u t H locs ht hvm hw1 hB hz1 hk1 hS => ?_)
  have hP := zN_keep hP hk1
  subst hw1
  refine lv_istore (lv' := [(6, .int 1), (5, .int 0), (4, .ref od), (3, .ref oa), (2, .ref (bd 0)), (1, .ref (ad 0)), (0, .ref b)]) hx hb dL_law_1897 hl (by decide) rfl (fun ls hl => ?_)
  refine lv_aload_n hx hb dL_law_1899 rfl (lv_at hl 4 rfl) ?_
  refine lv_aload_n hx hb dL_law_1900 rfl (lv_at hl 6 rfl) ?_
  refine lv_iload hx hb dL_law_1901 (lv_at hl 1 rfl) ?_
  refine lv_iconst (v := 1) hx hb dL_law_1903 (by decide) ?_
  refine lv_iadd hx hb dL_law_1904 ?_
  refine lv_topi (fun f_7 ef_7 => ?_)
  obtain rfl : f_7 = 1 := ef_7.trans (by decide)
  refine va_sld (i := 1) hx hb hX hbl hbA hS (by unfold vp_in; decide) dL_law_1905 ?_
  refine lv_aload_n hx hb dL_law_1906 rfl (lv_at hl 6 rfl) ?_
  refine lv_iload hx hb dL_law_1907 (lv_at hl 1 rfl) ?_
  refine lv_iconst (v := 2) hx hb dL_law_1909 (by decide) ?_
  refine lv_iadd hx hb dL_law_1910 ?_
  refine lv_topi (fun f_8 ef_8 => ?_)
  obtain rfl : f_8 = 2 := ef_8.trans (by decide)
  refine va_sld (i := 2) hx hb hX hbl hbA hS (by unfold vp_in; decide) dL_law_1911 ?_
  refine lv_i2c hx hb dL_law_1912 rfl ?_
  refine lv_aload_n hx hb dL_law_1913 rfl (lv_at hl 6 rfl) ?_
  refine lv_iload hx hb dL_law_1914 (lv_at hl 1 rfl) ?_
  refine lv_iconst (v := 3) hx hb dL_law_1916 (by decide) ?_
  refine lv_iadd hx hb dL_law_1917 ?_
  refine lv_topi (fun f_10 ef_10 => ?_)
  obtain rfl : f_10 = 3 := ef_10.trans (by decide)
  refine va_sld (i := 3) hx hb hX hbl hbA hS (by unfold vp_in; decide) dL_law_1918 ?_
  refine lv_aload_n hx hb dL_law_1919 rfl (lv_at hl 6 rfl) ?_
  refine lv_iload hx hb dL_law_1920 (lv_at hl 1 rfl) ?_
  refine lv_iconst (v := 4) hx hb dL_law_1922 (by decide) ?_
  refine lv_iadd hx hb dL_law_1923 ?_
  refine lv_topi (fun f_11 ef_11 => ?_)
  obtain rfl : f_11 = 4 := ef_11.trans (by decide)
  refine va_sld (i := 4) hx hb hX hbl hbA hS (by unfold vp_in; decide) dL_law_1924 ?_
  have hPc := hP.sub (ws' := [((bd 0), .inr (14, [.ref (bd 1), .ref (bd 2), .ref (bd 3), .ref (bd 4), .ref (bd 5), .ref (bd 6), .int 100, .int (-1), .int 0, .int 0])), ((bd 1), .inr (4, [.int 0, .ref (bd 7), .int 0])), ((bd 2), .inr (4, [.int 0, .ref (bd 7), .int 0])), ((bd 3), .inr (4, [.int 0, .ref (bd 7), .int 0])), ((bd 4), .inr (4, [.int 0, .ref (bd 7), .int 0])), ((bd 5), .inr (4, [.int 0, .ref (bd 7), .int 0])), ((bd 6), .inr (4, [.int 0, .ref (bd 7), .int 0]))]) [6, 7, 8, 9, 10, 11, 12] rfl
  have hDc := hD.sub (ws' := [((bd 0), .inr (14, [.ref (bd 1), .ref (bd 2), .ref (bd 3), .ref (bd 4), .ref (bd 5), .ref (bd 6), .int 100, .int (-1), .int 0, .int 0])), ((bd 1), .inr (4, [.int 0, .ref (bd 7), .int 0])), ((bd 2), .inr (4, [.int 0, .ref (bd 7), .int 0])), ((bd 3), .inr (4, [.int 0, .ref (bd 7), .int 0])), ((bd 4), .inr (4, [.int 0, .ref (bd 7), .int 0])), ((bd 5), .inr (4, [.int 0, .ref (bd 7), .int 0])), ((bd 6), .inr (4, [.int 0, .ref (bd 7), .int 0]))]) [6, 7, 8, 9, 10, 11, 12] (by decide) rfl
  have hFc := va_free (wc := [((bd 0), .inr (14, [.ref (bd 1), .ref (bd 2), .ref (bd 3), .ref (bd 4), .ref (bd 5), .ref (bd 6), .int 100, .int (-1), .int 0, .int 0])), ((bd 1), .inr (4, [.int 0, .ref (bd 7), .int 0])), ((bd 2), .inr (4, [.int 0, .ref (bd 7), .int 0])), ((bd 3), .inr (4, [.int 0, .ref (bd 7), .int 0])), ((bd 4), .inr (4, [.int 0, .ref (bd 7), .int 0])), ((bd 5), .inr (4, [.int 0, .ref (bd 7), .int 0])), ((bd 6), .inr (4, [.int 0, .ref (bd 7), .int 0]))]) hD hS hA [6, 7, 8, 9, 10, 11, 12] rfl
  refine va_calli (va_runV (As := [.int (xs (Int32.toNatClampNeg 1)), .int (((xs (Int32.toNatClampNeg 2)).toUInt32 % 65536).toInt32), .int (xs (Int32.toNatClampNeg 3)), .int (xs (Int32.toNatClampNeg 4))]) (rest := []) ⟨hx, hb, hml, hown, hw⟩ (c_X9_register l D sa ea bd 0 _ (xs (Int32.toNatClampNeg 1)) (((xs (Int32.toNatClampNeg 2)).toUInt32 % 65536).toInt32) (xs (Int32.toNatClampNeg 3)) (xs (Int32.toNatClampNeg 4))) (cwV 4 hw (zg4 zm_1653 zm_1654 zm_1655 zm_53 zm_1656) rfl rfl rfl (by decide +kernel) ⟨Nat.le_of_ble_eq_true rfl, Nat.le_of_ble_eq_true rfl⟩) ⟨zW_blind, va_recv hK hPc (ci := 14) (q0 := 0) rfl rfl, zW_pre hPc (hK.sub (tys' := []) [] rfl) hDc hT hE hS hFc⟩ rfl rfl hl.1 rfl (lv_room (Nat.le_of_ble_eq_true rfl)) dL_law_1925 ⟨Nat.le_of_ble_eq_true rfl, Nat.le_of_ble_eq_true rfl⟩) hS (fun q _ h => hFc q h) hFc (fun r_12 u t H locs ht hvm hw1 hB hz1 hk1 hS => ?_)
  subst hw1
  obtain ⟨hP1, hD1⟩ := hB
  rw [ht] at hP1
  obtain ⟨hP, hD⟩ := va_join (wr := [((ad 0), .inr (10, [.ref (ad 1), .ref (ad 2), .ref (ad 3), .ref (ad 4), .ref (ad 5), .int (-1), .int 100, .int 0, .int 0])), ((ad 1), .inr (7, [.ref (ad 6), .ref (ad 7), .ref (ad 8), .int 0])), ((ad 2), .inr (8, [.ref (ad 9), .ref (ad 10), .int 0])), ((ad 3), .inr (4, [.int 0, .ref (ad 14), .int 0])), ((ad 4), .inr (4, [.int 0, .ref (ad 14), .int 0])), ((ad 5), .inr (6, [.ref (ad 11), .ref (ad 12), .ref (ad 13), .int 0, .int 0])), ((ad 6), .inl (kC, 12, .inl (fun _ => 0))), ((ad 7), .inl (kI, 36, .inl (fun _ => 0))), (oa, .inl (kO, 1, .inr (.inl (fun _ => 0)))), (od, .inl (kD, 1, .inr (.inr (.inr (.inl (fun _ => 0))))))]) (w1 := [((bd 0), .inr (14, [.ref (bd 1), .ref (bd 2), .ref (bd 3), .ref (bd 4), .ref (bd 5), .ref (bd 6), .int 100, .int (-1), .int 0, .int 1])), ((bd 1), .inr (4, [.int 0, .ref (bd 7), .int 0])), ((bd 2), .inr (4, [.int 0, .ref (bd 7), .int 0])), ((bd 3), .inr (4, [.int 0, .ref (bd 7), .int 0])), ((bd 4), .inr (4, [.int 0, .ref (bd 7), .int 0])), ((bd 5), .inr (4, [.int 0, .ref (bd 7), .int 0])), ((bd 6), .inr (4, [.int 0, .ref (bd 7), .int 0]))]) hP hD [6, 7, 8, 9, 10, 11, 12] [0, 1, 2, 3, 4, 5, 13, 14, 15, 16] rfl rfl (by decide) (by decide) hk1 hFc hP1 hD1
  have hP : va_P D vwCl [((ad 0), .inr (10, [.ref (ad 1), .ref (ad 2), .ref (ad 3), .ref (ad 4), .ref (ad 5), .int (-1), .int 100, .int 0, .int 0])), ((ad 1), .inr (7, [.ref (ad 6), .ref (ad 7), .ref (ad 8), .int 0])), ((ad 2), .inr (8, [.ref (ad 9), .ref (ad 10), .int 0])), ((ad 3), .inr (4, [.int 0, .ref (ad 14), .int 0])), ((ad 4), .inr (4, [.int 0, .ref (ad 14), .int 0])), ((ad 5), .inr (6, [.ref (ad 11), .ref (ad 12), .ref (ad 13), .int 0, .int 0])), ((ad 6), .inl (kC, 12, .inl (fun _ => 0))), ((ad 7), .inl (kI, 36, .inl (fun _ => 0))), (oa, .inl (kO, 1, .inr (.inl (fun _ => 0)))), (od, .inl (kD, 1, .inr (.inr (.inr (.inl (fun _ => 0)))))), ((bd 0), .inr (14, [.ref (bd 1), .ref (bd 2), .ref (bd 3), .ref (bd 4), .ref (bd 5), .ref (bd 6), .int 100, .int (-1), .int 0, .int 1])), ((bd 1), .inr (4, [.int 0, .ref (bd 7), .int 0])), ((bd 2), .inr (4, [.int 0, .ref (bd 7), .int 0])), ((bd 3), .inr (4, [.int 0, .ref (bd 7), .int 0])), ((bd 4), .inr (4, [.int 0, .ref (bd 7), .int 0])), ((bd 5), .inr (4, [.int 0, .ref (bd 7), .int 0])), ((bd 6), .inr (4, [.int 0, .ref (bd 7), .int 0]))] H := hP
  have hD : va_D A [((ad 0), .inr (10, [.ref (ad 1), .ref (ad 2), .ref (ad 3), .ref (ad 4), .ref (ad 5), .int (-1), .int 100, .int 0, .int 0])), ((ad 1), .inr (7, [.ref (ad 6), .ref (ad 7), .ref (ad 8), .int 0])), ((ad 2), .inr (8, [.ref (ad 9), .ref (ad 10), .int 0])), ((ad 3), .inr (4, [.int 0, .ref (ad 14), .int 0])), ((ad 4), .inr (4, [.int 0, .ref (ad 14), .int 0])), ((ad 5), .inr (6, [.ref (ad 11), .ref (ad 12), .ref (ad 13), .int 0, .int 0])), ((ad 6), .inl (kC, 12, .inl (fun _ => 0))), ((ad 7), .inl (kI, 36, .inl (fun _ => 0))), (oa, .inl (kO, 1, .inr (.inl (fun _ => 0)))), (od, .inl (kD, 1, .inr (.inr (.inr (.inl (fun _ => 0)))))), ((bd 0), .inr (14, [.ref (bd 1), .ref (bd 2), .ref (bd 3), .ref (bd 4), .ref (bd 5), .ref (bd 6), .int 100, .int (-1), .int 0, .int 1])), ((bd 1), .inr (4, [.int 0, .ref (bd 7), .int 0])), ((bd 2), .inr (4, [.int 0, .ref (bd 7), .int 0])), ((bd 3), .inr (4, [.int 0, .ref (bd 7), .int 0])), ((bd 4), .inr (4, [.int 0, .ref (bd 7), .int 0])), ((bd 5), .inr (4, [.int 0, .ref (bd 7), .int 0])), ((bd 6), .inr (4, [.int 0, .ref (bd 7), .int 0]))] := hD
  have hK : va_K D vwCl [(kC, .char), (kI, .int), (kO, .long), (kD, .double)] s := hK
  refine lv_istore (lv' := [(7, .int 0), (6, .int 1), (5, .int 0), (4, .ref od), (3, .ref oa), (2, .ref (bd 0)), (1, .ref (ad 0)), (0, .ref b)]) hx hb dL_law_1928 hl (by decide) rfl (fun ls hl => ?_)
  refine lv_aload_n hx hb dL_law_1930 rfl (lv_at hl 5 rfl) ?_
  have hPc := hP.sub (ws' := [((bd 0), .inr (14, [.ref (bd 1), .ref (bd 2), .ref (bd 3), .ref (bd 4), .ref (bd 5), .ref (bd 6), .int 100, .int (-1), .int 0, .int 1])), ((bd 1), .inr (4, [.int 0, .ref (bd 7), .int 0])), ((bd 2), .inr (4, [.int 0, .ref (bd 7), .int 0])), ((bd 3), .inr (4, [.int 0, .ref (bd 7), .int 0])), ((bd 4), .inr (4, [.int 0, .ref (bd 7), .int 0])), ((bd 5), .inr (4, [.int 0, .ref (bd 7), .int 0])), ((bd 6), .inr (4, [.int 0, .ref (bd 7), .int 0]))]) [10, 11, 12, 13, 14, 15, 16] rfl
  refine va_calli (va_runV (As := []) (rest := []) ⟨hx, hb, hml, hown, hw⟩ (c_X9_thrown l D sa bd 1 _) (cwV 0 hw (zg4 zm_1303 zm_1304 zm_1305 zm_53 zm_1306) rfl rfl rfl (by decide +kernel) ⟨Nat.le_of_ble_eq_true rfl, Nat.le_of_ble_eq_true rfl⟩) ⟨zJ_blind, va_recv hK hPc (ci := 14) (q0 := 0) rfl rfl, zJ_pre hPc hK hT⟩ rfl rfl hl.1 rfl (lv_room (Nat.le_of_ble_eq_true rfl)) dL_law_1931 ⟨Nat.le_of_ble_eq_true rfl, Nat.le_of_ble_eq_true rfl⟩) hS zN_in (zN_fr hS hA) (fun r_13 u t H locs ht hvm hw1 hB hz1 hk1 hS => ?_)
  have hP := zN_keep hP hk1
  subst hw1
  refine lv_iload hx hb dL_law_1934 (lv_at hl 1 rfl) ?_
  refine lv_icmp_eq (tgt := 1941) hx hb dL_law_1936 (by decide) (fun _ => ?_) (fun c_14 => absurd (by decide) c_14)
  refine lv_iload hx hb dL_law_1941 (lv_at hl 1 rfl) ?_
  refine lv_if_ne (tgt := 1958) hx hb dL_law_1943 (by decide) (fun _ => ?_) (fun c_15 => absurd c_15 (by decide))
  refine lv_goto (tgt := 3449) hx hb dL_law_1958 (by decide) ?_
  refine W.widen (k := 2000) (n := 20000) (Nat.le_of_ble_eq_true rfl) (Nat.le_of_ble_eq_true rfl) ?_
  exact hend _ _ _ hS (lv_sub hl [2, 7] rfl)
theorem dL_law_1961 : decode cL_law 1961 = .ok (.aload_n 1, 1) := by decide +kernel
theorem dL_law_1962 : decode cL_law 1962 = .ok (.aload_n 0, 1) := by decide +kernel
theorem dL_law_1963 : decode cL_law 1963 = .ok (.iload 5, 2) := by decide +kernel
theorem dL_law_1965 : decode cL_law 1965 = .ok (.iconst 1, 1) := by decide +kernel
theorem dL_law_1966 : decode cL_law 1966 = .ok (.iadd, 1) := by decide +kernel
theorem dL_law_1967 : decode cL_law 1967 = .ok (.iaload, 1) := by decide +kernel
theorem dL_law_1968 : decode cL_law 1968 = .ok (.aload_n 3, 1) := by decide +kernel
theorem dL_law_1969 : decode cL_law 1969 = .ok (.invokestatic 262, 3) := by decide +kernel
theorem zm_972 : Cond.methodLink RL 262 yL_withdraw ∈ WA := zmm (i := 972) (by decide +kernel) (by decide +kernel)
theorem zm_973 : Cond.static yL_withdraw ∈ WA := zmm (i := 973) (by decide +kernel) (by decide +kernel)
theorem zm_974 : Cond.codeWith yL_withdraw method_27_code 4 (Option.some FieldType.int) [(0, 16, 19, 23), (0, 16, 22, 15)] ∈ WA := zmm (i := 974) (by decide +kernel) (by decide +kernel)
theorem dL_law_1972 : decode cL_law 1972 = .ok (.istore 6, 2) := by decide +kernel
theorem dL_law_1974 : decode cL_law 1974 = .ok (.aload_n 2, 1) := by decide +kernel
theorem dL_law_1975 : decode cL_law 1975 = .ok (.aload_n 0, 1) := by decide +kernel
theorem dL_law_1976 : decode cL_law 1976 = .ok (.iload 5, 2) := by decide +kernel
theorem dL_law_1978 : decode cL_law 1978 = .ok (.iconst 1, 1) := by decide +kernel
theorem dL_law_1979 : decode cL_law 1979 = .ok (.iadd, 1) := by decide +kernel
theorem dL_law_1980 : decode cL_law 1980 = .ok (.iaload, 1) := by decide +kernel
theorem dL_law_1981 : decode cL_law 1981 = .ok (.invokevirtual 264, 3) := by decide +kernel
theorem zm_1661 : Cond.methodLink RL 264 yX9_withdraw ∈ WA := zmm (i := 1661) (by decide +kernel) (by decide +kernel)
theorem zm_1662 : Cond.instanceMethod yX9_withdraw ∈ WA := zmm (i := 1662) (by decide +kernel) (by decide +kernel)
theorem zm_1663 : Cond.selects RX9 yX9_withdraw yX9_withdraw ∈ WA := zmm (i := 1663) (by decide +kernel) (by decide +kernel)
theorem zm_1664 : Cond.code yX9_withdraw prog_8_method_41_code 2 (Option.some FieldType.boolean) ∈ WA := zmm (i := 1664) (by decide +kernel) (by decide +kernel)
theorem dL_law_1984 : decode cL_law 1984 = .ok (.istore 7, 2) := by decide +kernel
theorem dL_law_1986 : decode cL_law 1986 = .ok (.aload_n 2, 1) := by decide +kernel
theorem dL_law_1987 : decode cL_law 1987 = .ok (.invokevirtual 179, 3) := by decide +kernel
theorem dL_law_1990 : decode cL_law 1990 = .ok (.iload 6, 2) := by decide +kernel
theorem dL_law_1992 : decode cL_law 1992 = .ok (.if_icmp .eq 5, 3) := by decide +kernel
theorem dL_law_1997 : decode cL_law 1997 = .ok (.iload 6, 2) := by decide +kernel
theorem dL_law_1999 : decode cL_law 1999 = .ok (.ifCond .ne 22, 3) := by decide +kernel
theorem dL_law_2021 : decode cL_law 2021 = .ok (.goto 1428, 3) := by decide +kernel
set_option maxHeartbeats 4000000 in
set_option maxRecDepth 100000 in
theorem law_25 {p : Program} {e : Env} {s : State} {m : MethodId} {below : List Frame} {meth : Method} {c : Code} {l : Launch} {D : va_G} {A : Nat → Prop} {sa : Nat → Nat} {ea : Nat} {ad bd : Nat → Nat} {kC kI kO kD : ClassId} {oa od b : Nat} {xs : Nat → Int32} {Q : State → Prop} (C1 : zLw p l s m c b xs A sa ea bd) (hend : ∀ (H : Heap) (locs : List Loc) (ls : Array Slot), va_S A s.heap H locs → lv_has ls 9 [(5, .int 0), (0, .ref b)] → W p l e room_1 s m #[Value.ref b] below meth c H locs 2000 20000 Q (F0 m 3449 ls [])) {H : Heap} {locs : List Loc} {ls : Array Slot} (C2 : zSt D s A ad bd kC kI kO kD oa od b H locs ls) : W p l e room_1 s m #[Value.ref b] below meth c H locs 1000 10000 Q (F0 m 1961 ls []) := by
  obtain ⟨hx, hb, hml, hown, hw, hX, hbl, hbA, hA, hT, hZ, hE, hQ, hst, he⟩ := C1
  obtain ⟨hK, hP, hD, hS, hl⟩ := C2
  have hP : va_P D vwCl [((ad 0), .inr (10, [.ref (ad 1), .ref (ad 2), .ref (ad 3), .ref (ad 4), .ref (ad 5), .int (-1), .int 100, .int 0, .int 0])), ((ad 1), .inr (7, [.ref (ad 6), .ref (ad 7), .ref (ad 8), .int 0])), ((ad 2), .inr (8, [.ref (ad 9), .ref (ad 10), .int 0])), ((ad 3), .inr (4, [.int 0, .ref (ad 14), .int 0])), ((ad 4), .inr (4, [.int 0, .ref (ad 14), .int 0])), ((ad 5), .inr (6, [.ref (ad 11), .ref (ad 12), .ref (ad 13), .int 0, .int 0])), ((bd 0), .inr (14, [.ref (bd 1), .ref (bd 2), .ref (bd 3), .ref (bd 4), .ref (bd 5), .ref (bd 6), .int 100, .int (-1), .int 0, .int 0])), ((bd 1), .inr (4, [.int 0, .ref (bd 7), .int 0])), ((bd 2), .inr (4, [.int 0, .ref (bd 7), .int 0])), ((bd 3), .inr (4, [.int 0, .ref (bd 7), .int 0])), ((bd 4), .inr (4, [.int 0, .ref (bd 7), .int 0])), ((bd 5), .inr (4, [.int 0, .ref (bd 7), .int 0])), ((bd 6), .inr (4, [.int 0, .ref (bd 7), .int 0])), ((ad 6), .inl (kC, 12, .inl (fun _ => 0))), ((ad 7), .inl (kI, 36, .inl (fun _ => 0))), (oa, .inl (kO, 1, .inr (.inl (fun _ => 0)))), (od, .inl (kD, 1, .inr (.inr (.inr (.inl (fun _ => 0))))))] H := hP
  have hD : va_D A [((ad 0), .inr (10, [.ref (ad 1), .ref (ad 2), .ref (ad 3), .ref (ad 4), .ref (ad 5), .int (-1), .int 100, .int 0, .int 0])), ((ad 1), .inr (7, [.ref (ad 6), .ref (ad 7), .ref (ad 8), .int 0])), ((ad 2), .inr (8, [.ref (ad 9), .ref (ad 10), .int 0])), ((ad 3), .inr (4, [.int 0, .ref (ad 14), .int 0])), ((ad 4), .inr (4, [.int 0, .ref (ad 14), .int 0])), ((ad 5), .inr (6, [.ref (ad 11), .ref (ad 12), .ref (ad 13), .int 0, .int 0])), ((bd 0), .inr (14, [.ref (bd 1), .ref (bd 2), .ref (bd 3), .ref (bd 4), .ref (bd 5), .ref (bd 6), .int 100, .int (-1), .int 0, .int 0])), ((bd 1), .inr (4, [.int 0, .ref (bd 7), .int 0])), ((bd 2), .inr (4, [.int 0, .ref (bd 7), .int 0])), ((bd 3), .inr (4, [.int 0, .ref (bd 7), .int 0])), ((bd 4), .inr (4, [.int 0, .ref (bd 7), .int 0])), ((bd 5), .inr (4, [.int 0, .ref (bd 7), .int 0])), ((bd 6), .inr (4, [.int 0, .ref (bd 7), .int 0])), ((ad 6), .inl (kC, 12, .inl (fun _ => 0))), ((ad 7), .inl (kI, 36, .inl (fun _ => 0))), (oa, .inl (kO, 1, .inr (.inl (fun _ => 0)))), (od, .inl (kD, 1, .inr (.inr (.inr (.inl (fun _ => 0))))))] := hD
  refine lv_aload_n hx hb dL_law_1961 rfl (lv_at hl 4 rfl) ?_
  refine lv_aload_n hx hb dL_law_1962 rfl (lv_at hl 5 rfl) ?_
  refine lv_iload hx hb dL_law_1963 (lv_at hl 0 rfl) ?_
  refine lv_iconst (v := 1) hx hb dL_law_1965 (by decide) ?_
  refine lv_iadd hx hb dL_law_1966 ?_
  refine lv_topi (fun f_1 ef_1 => ?_)
  obtain rfl : f_1 = 1 := ef_1.trans (by decide)
  refine va_sld (i := 1) hx hb hX hbl hbA hS (by unfold vp_in; decide) dL_law_1967 ?_
  refine lv_aload_n hx hb dL_law_1968 rfl (lv_at hl 2 rfl) ?_
  have hPc := hP.sub (ws' := [((ad 0), .inr (10, [.ref (ad 1), .ref (ad 2), .ref (ad 3), .ref (ad 4), .ref (ad 5), .int (-1), .int 100, .int 0, .int 0])), ((ad 1), .inr (7, [.ref (ad 6), .ref (ad 7), .ref (ad 8), .int 0])), ((ad 2), .inr (8, [.ref (ad 9), .ref (ad 10), .int 0])), ((ad 3), .inr (4, [.int 0, .ref (ad 14), .int 0])), ((ad 4), .inr (4, [.int 0, .ref (ad 14), .int 0])), ((ad 5), .inr (6, [.ref (ad 11), .ref (ad 12), .ref (ad 13), .int 0, .int 0]))]) [0, 1, 2, 3, 4, 5] rfl
  refine vx_calli (vx_runSX (As := [.ref (ad 0), .int (xs (Int32.toNatClampNeg 1)), .ref oa]) (rest := []) ⟨hx, hb, hml, hown, hw⟩ (c_L_withdraw l hst D sa ad _ (xs (Int32.toNatClampNeg 1)) oa) (vx_cwSW 3 hw (zg3 zm_972 zm_973 zm_44 zm_974) rfl rfl rfl (by decide +kernel) ⟨Nat.le_of_ble_eq_true rfl, Nat.le_of_ble_eq_true rfl⟩) ⟨zR_blind, zR_pre hPc hK hT hZ hS hA⟩ rfl rfl hl.1 rfl (lv_room (Nat.le_of_ble_eq_true rfl)) dL_law_1969 ⟨Nat.le_of_ble_eq_true rfl, Nat.le_of_ble_eq_true rfl⟩) hS zN_in (zN_fr hS hA) zN_in (fun E ce q9 u t H1 locs1 ht hvm hu hE => hE.elim) (fun r_2 u t H locs ht hvm hw1 hB hz1 hk1 hS => ?_)
  have hP := zN_keep hP hk1
  subst hw1
  refine lv_istore (lv' := [(6, .int 1), (5, .int 0), (4, .ref od), (3, .ref oa), (2, .ref (bd 0)), (1, .ref (ad 0)), (0, .ref b)]) hx hb dL_law_1972 hl (by decide) rfl (fun ls hl => ?_)
  refine lv_aload_n hx hb dL_law_1974 rfl (lv_at hl 4 rfl) ?_
  refine lv_aload_n hx hb dL_law_1975 rfl (lv_at hl 6 rfl) ?_
  refine lv_iload hx hb dL_law_1976 (lv_at hl 1 rfl) ?_
  refine lv_iconst (v := 1) hx hb dL_law_1978 (by decide) ?_
  refine lv_iadd hx hb dL_law_1979 ?_
  refine lv_topi (fun f_3 ef_3 => ?_)
  obtain rfl : f_3 = 1 := ef_3.trans (by decide)
  refine va_sld (i := 1) hx hb hX hbl hbA hS (by unfold vp_in; decide) dL_law_1980 ?_
  have hPc := hP.sub (ws' := [((bd 0), .inr (14, [.ref (bd 1), .ref (bd 2), .ref (bd 3), .ref (bd 4), .ref (bd 5), .ref (bd 6), .int 100, .int (-1), .int 0, .int 0])), ((bd 1), .inr (4, [.int 0, .ref (bd 7), .int 0])), ((bd 2), .inr (4, [.int 0, .ref (bd 7), .int 0])), ((bd 3), .inr (4, [.int 0, .ref (bd 7), .int 0])), ((bd 4), .inr (4, [.int 0, .ref (bd 7), .int 0])), ((bd 5), .inr (4, [.int 0, .ref (bd 7), .int 0])), ((bd 6), .inr (4, [.int 0, .ref (bd 7), .int 0]))]) [6, 7, 8, 9, 10, 11, 12] rfl
  have hDc := hD.sub (ws' := [((bd 0), .inr (14, [.ref (bd 1), .ref (bd 2), .ref (bd 3), .ref (bd 4), .ref (bd 5), .ref (bd 6), .int 100, .int (-1), .int 0, .int 0])), ((bd 1), .inr (4, [.int 0, .ref (bd 7), .int 0])), ((bd 2), .inr (4, [.int 0, .ref (bd 7), .int 0])), ((bd 3), .inr (4, [.int 0, .ref (bd 7), .int 0])), ((bd 4), .inr (4, [.int 0, .ref (bd 7), .int 0])), ((bd 5), .inr (4, [.int 0, .ref (bd 7), .int 0])), ((bd 6), .inr (4, [.int 0, .ref (bd 7), .int 0]))]) [6, 7, 8, 9, 10, 11, 12] (by decide) rfl
  have hFc := va_free (wc := [((bd 0), .inr (14, [.ref (bd 1), .ref (bd 2), .ref (bd 3), .ref (bd 4), .ref (bd 5), .ref (bd 6), .int 100, .int (-1), .int 0, .int 0])), ((bd 1), .inr (4, [.int 0, .ref (bd 7), .int 0])), ((bd 2), .inr (4, [.int 0, .ref (bd 7), .int 0])), ((bd 3), .inr (4, [.int 0, .ref (bd 7), .int 0])), ((bd 4), .inr (4, [.int 0, .ref (bd 7), .int 0])), ((bd 5), .inr (4, [.int 0, .ref (bd 7), .int 0])), ((bd 6), .inr (4, [.int 0, .ref (bd 7), .int 0]))]) hD hS hA [6, 7, 8, 9, 10, 11, 12] rfl
  refine va_calli (va_runV (As := [.int (xs (Int32.toNatClampNeg 1))]) (rest := []) ⟨hx, hb, hml, hown, hw⟩ (c_X9_withdraw l D sa ea bd 0 _ (xs (Int32.toNatClampNeg 1))) (cwV 1 hw (zg4 zm_1661 zm_1662 zm_1663 zm_53 zm_1664) rfl rfl rfl (by decide +kernel) ⟨Nat.le_of_ble_eq_true rfl, Nat.le_of_ble_eq_true rfl⟩) ⟨zW_blind, va_recv hK hPc (ci := 14) (q0 := 0) rfl rfl, zW_pre hPc (hK.sub (tys' := []) [] rfl) hDc hT hE hS hFc⟩ rfl rfl hl.1 rfl (lv_room (Nat.le_of_ble_eq_true rfl)) dL_law_1981 ⟨Nat.le_of_ble_eq_true rfl, Nat.le_of_ble_eq_true rfl⟩) hS (fun q _ h => hFc q h) hFc (fun r_4 u t H locs ht hvm hw1 hB hz1 hk1 hS => ?_)
  subst hw1
  obtain ⟨hP1, hD1⟩ := hB
  rw [ht] at hP1
  obtain ⟨hP, hD⟩ := va_join (wr := [((ad 0), .inr (10, [.ref (ad 1), .ref (ad 2), .ref (ad 3), .ref (ad 4), .ref (ad 5), .int (-1), .int 100, .int 0, .int 0])), ((ad 1), .inr (7, [.ref (ad 6), .ref (ad 7), .ref (ad 8), .int 0])), ((ad 2), .inr (8, [.ref (ad 9), .ref (ad 10), .int 0])), ((ad 3), .inr (4, [.int 0, .ref (ad 14), .int 0])), ((ad 4), .inr (4, [.int 0, .ref (ad 14), .int 0])), ((ad 5), .inr (6, [.ref (ad 11), .ref (ad 12), .ref (ad 13), .int 0, .int 0])), ((ad 6), .inl (kC, 12, .inl (fun _ => 0))), ((ad 7), .inl (kI, 36, .inl (fun _ => 0))), (oa, .inl (kO, 1, .inr (.inl (fun _ => 0)))), (od, .inl (kD, 1, .inr (.inr (.inr (.inl (fun _ => 0))))))]) (w1 := [((bd 0), .inr (14, [.ref (bd 1), .ref (bd 2), .ref (bd 3), .ref (bd 4), .ref (bd 5), .ref (bd 6), .int 100, .int (-1), .int 0, .int 1])), ((bd 1), .inr (4, [.int 0, .ref (bd 7), .int 0])), ((bd 2), .inr (4, [.int 0, .ref (bd 7), .int 0])), ((bd 3), .inr (4, [.int 0, .ref (bd 7), .int 0])), ((bd 4), .inr (4, [.int 0, .ref (bd 7), .int 0])), ((bd 5), .inr (4, [.int 0, .ref (bd 7), .int 0])), ((bd 6), .inr (4, [.int 0, .ref (bd 7), .int 0]))]) hP hD [6, 7, 8, 9, 10, 11, 12] [0, 1, 2, 3, 4, 5, 13, 14, 15, 16] rfl rfl (by decide) (by decide) hk1 hFc hP1 hD1
  have hP : va_P D vwCl [((ad 0), .inr (10, [.ref (ad 1), .ref (ad 2), .ref (ad 3), .ref (ad 4), .ref (ad 5), .int (-1), .int 100, .int 0, .int 0])), ((ad 1), .inr (7, [.ref (ad 6), .ref (ad 7), .ref (ad 8), .int 0])), ((ad 2), .inr (8, [.ref (ad 9), .ref (ad 10), .int 0])), ((ad 3), .inr (4, [.int 0, .ref (ad 14), .int 0])), ((ad 4), .inr (4, [.int 0, .ref (ad 14), .int 0])), ((ad 5), .inr (6, [.ref (ad 11), .ref (ad 12), .ref (ad 13), .int 0, .int 0])), ((ad 6), .inl (kC, 12, .inl (fun _ => 0))), ((ad 7), .inl (kI, 36, .inl (fun _ => 0))), (oa, .inl (kO, 1, .inr (.inl (fun _ => 0)))), (od, .inl (kD, 1, .inr (.inr (.inr (.inl (fun _ => 0)))))), ((bd 0), .inr (14, [.ref (bd 1), .ref (bd 2), .ref (bd 3), .ref (bd 4), .ref (bd 5), .ref (bd 6), .int 100, .int (-1), .int 0, .int 1])), ((bd 1), .inr (4, [.int 0, .ref (bd 7), .int 0])), ((bd 2), .inr (4, [.int 0, .ref (bd 7), .int 0])), ((bd 3), .inr (4, [.int 0, .ref (bd 7), .int 0])), ((bd 4), .inr (4, [.int 0, .ref (bd 7), .int 0])), ((bd 5), .inr (4, [.int 0, .ref (bd 7), .int 0])), ((bd 6), .inr (4, [.int 0, .ref (bd 7), .int 0]))] H := hP
  have hD : va_D A [((ad 0), .inr (10, [.ref (ad 1), .ref (ad 2), .ref (ad 3), .ref (ad 4), .ref (ad 5), .int (-1), .int 100, .int 0, .int 0])), ((ad 1), .inr (7, [.ref (ad 6), .ref (ad 7), .ref (ad 8), .int 0])), ((ad 2), .inr (8, [.ref (ad 9), .ref (ad 10), .int 0])), ((ad 3), .inr (4, [.int 0, .ref (ad 14), .int 0])), ((ad 4), .inr (4, [.int 0, .ref (ad 14), .int 0])), ((ad 5), .inr (6, [.ref (ad 11), .ref (ad 12), .ref (ad 13), .int 0, .int 0])), ((ad 6), .inl (kC, 12, .inl (fun _ => 0))), ((ad 7), .inl (kI, 36, .inl (fun _ => 0))), (oa, .inl (kO, 1, .inr (.inl (fun _ => 0)))), (od, .inl (kD, 1, .inr (.inr (.inr (.inl (fun _ => 0)))))), ((bd 0), .inr (14, [.ref (bd 1), .ref (bd 2), .ref (bd 3), .ref (bd 4), .ref (bd 5), .ref (bd 6), .int 100, .int (-1), .int 0, .int 1])), ((bd 1), .inr (4, [.int 0, .ref (bd 7), .int 0])), ((bd 2), .inr (4, [.int 0, .ref (bd 7), .int 0])), ((bd 3), .inr (4, [.int 0, .ref (bd 7), .int 0])), ((bd 4), .inr (4, [.int 0, .ref (bd 7), .int 0])), ((bd 5), .inr (4, [.int 0, .ref (bd 7), .int 0])), ((bd 6), .inr (4, [.int 0, .ref (bd 7), .int 0]))] := hD
  have hK : va_K D vwCl [(kC, .char), (kI, .int), (kO, .long), (kD, .double)] s := hK
  refine lv_istore (lv' := [(7, .int 0), (6, .int 1), (5, .int 0), (4, .ref od), (3, .ref oa), (2, .ref (bd 0)), (1, .ref (ad 0)), (0, .ref b)]) hx hb dL_law_1984 hl (by decide) rfl (fun ls hl => ?_)
  refine lv_aload_n hx hb dL_law_1986 rfl (lv_at hl 5 rfl) ?_
  have hPc := hP.sub (ws' := [((bd 0), .inr (14, [.ref (bd 1), .ref (bd 2), .ref (bd 3), .ref (bd 4), .ref (bd 5), .ref (bd 6), .int 100, .int (-1), .int 0, .int 1])), ((bd 1), .inr (4, [.int 0, .ref (bd 7), .int 0])), ((bd 2), .inr (4, [.int 0, .ref (bd 7), .int 0])), ((bd 3), .inr (4, [.int 0, .ref (bd 7), .int 0])), ((bd 4), .inr (4, [.int 0, .ref (bd 7), .int 0])), ((bd 5), .inr (4, [.int 0, .ref (bd 7), .int 0])), ((bd 6), .inr (4, [.int 0, .ref (bd 7), .int 0]))]) [10, 11, 12, 13, 14, 15, 16] rfl
  refine va_calli (va_runV (As := []) (rest := []) ⟨hx, hb, hml, hown, hw⟩ (c_X9_thrown l D sa bd 1 _) (cwV 0 hw (zg4 zm_1303 zm_1304 zm_1305 zm_53 zm_1306) rfl rfl rfl (by decide +kernel) ⟨Nat.le_of_ble_eq_true rfl, Nat.le_of_ble_eq_true rfl⟩) ⟨zJ_blind, va_recv hK hPc (ci := 14) (q0 := 0) rfl rfl, zJ_pre hPc hK hT⟩ rfl rfl hl.1 rfl (lv_room (Nat.le_of_ble_eq_true rfl)) dL_law_1987 ⟨Nat.le_of_ble_eq_true rfl, Nat.le_of_ble_eq_true rfl⟩) hS zN_in (zN_fr hS hA) (fun r_5 u t H locs ht hvm hw1 hB hz1 hk1 hS => ?_)
  have hP := zN_keep hP hk1
  subst hw1
  refine lv_iload hx hb dL_law_1990 (lv_at hl 1 rfl) ?_
  refine lv_icmp_eq (tgt := 1997) hx hb dL_law_1992 (by decide) (fun _ => ?_) (fun c_6 => absurd (by decide) c_6)
  refine lv_iload hx hb dL_law_1997 (lv_at hl 1 rfl) ?_
  refine lv_if_ne (tgt := 2021) hx hb dL_law_1999 (by decide) (fun _ => ?_) (fun c_7 => absurd c_7 (by decide))
  refine lv_goto (tgt := 3449) hx hb dL_law_2021 (by decide) ?_
  refine W.widen (k := 2000) (n := 20000) (Nat.le_of_ble_eq_true rfl) (Nat.le_of_ble_eq_true rfl) ?_
  exact hend _ _ _ hS (lv_sub hl [2, 7] rfl)
theorem dL_law_2024 : decode cL_law 2024 = .ok (.aload_n 1, 1) := by decide +kernel
theorem dL_law_2025 : decode cL_law 2025 = .ok (.aload_n 0, 1) := by decide +kernel
theorem dL_law_2026 : decode cL_law 2026 = .ok (.iload 5, 2) := by decide +kernel
theorem dL_law_2028 : decode cL_law 2028 = .ok (.iconst 1, 1) := by decide +kernel
theorem dL_law_2029 : decode cL_law 2029 = .ok (.iadd, 1) := by decide +kernel
theorem dL_law_2030 : decode cL_law 2030 = .ok (.iaload, 1) := by decide +kernel
theorem dL_law_2031 : decode cL_law 2031 = .ok (.aload_n 3, 1) := by decide +kernel
theorem dL_law_2032 : decode cL_law 2032 = .ok (.invokestatic 265, 3) := by decide +kernel
theorem zm_996 : Cond.methodLink RL 265 yL_isContested ∈ WA := zmm (i := 996) (by decide +kernel) (by decide +kernel)
theorem zm_997 : Cond.static yL_isContested ∈ WA := zmm (i := 997) (by decide +kernel) (by decide +kernel)
theorem zm_998 : Cond.codeWith yL_isContested method_28_code 4 (Option.some FieldType.int) [(0, 16, 19, 23), (0, 16, 22, 15)] ∈ WA := zmm (i := 998) (by decide +kernel) (by decide +kernel)
theorem dL_law_2035 : decode cL_law 2035 = .ok (.istore 6, 2) := by decide +kernel
theorem dL_law_2037 : decode cL_law 2037 = .ok (.aload_n 2, 1) := by decide +kernel
theorem dL_law_2038 : decode cL_law 2038 = .ok (.aload_n 0, 1) := by decide +kernel
theorem dL_law_2039 : decode cL_law 2039 = .ok (.iload 5, 2) := by decide +kernel
theorem dL_law_2041 : decode cL_law 2041 = .ok (.iconst 1, 1) := by decide +kernel
theorem dL_law_2042 : decode cL_law 2042 = .ok (.iadd, 1) := by decide +kernel
theorem dL_law_2043 : decode cL_law 2043 = .ok (.iaload, 1) := by decide +kernel
theorem dL_law_2044 : decode cL_law 2044 = .ok (.invokevirtual 267, 3) := by decide +kernel
theorem zm_1673 : Cond.methodLink RL 267 yX9_isContested ∈ WA := zmm (i := 1673) (by decide +kernel) (by decide +kernel)
theorem zm_1674 : Cond.instanceMethod yX9_isContested ∈ WA := zmm (i := 1674) (by decide +kernel) (by decide +kernel)
theorem zm_1675 : Cond.selects RX9 yX9_isContested yX9_isContested ∈ WA := zmm (i := 1675) (by decide +kernel) (by decide +kernel)
theorem zm_1676 : Cond.code yX9_isContested prog_8_method_42_code 2 (Option.some FieldType.boolean) ∈ WA := zmm (i := 1676) (by decide +kernel) (by decide +kernel)
theorem dL_law_2047 : decode cL_law 2047 = .ok (.istore 7, 2) := by decide +kernel
theorem dL_law_2049 : decode cL_law 2049 = .ok (.aload_n 2, 1) := by decide +kernel
theorem dL_law_2050 : decode cL_law 2050 = .ok (.invokevirtual 179, 3) := by decide +kernel
theorem dL_law_2053 : decode cL_law 2053 = .ok (.iload 6, 2) := by decide +kernel
theorem dL_law_2055 : decode cL_law 2055 = .ok (.if_icmp .eq 5, 3) := by decide +kernel
theorem dL_law_2060 : decode cL_law 2060 = .ok (.iload 6, 2) := by decide +kernel
theorem dL_law_2062 : decode cL_law 2062 = .ok (.ifCond .ne 22, 3) := by decide +kernel
theorem dL_law_2084 : decode cL_law 2084 = .ok (.goto 1365, 3) := by decide +kernel
set_option maxHeartbeats 4000000 in
set_option maxRecDepth 100000 in
theorem law_26 {p : Program} {e : Env} {s : State} {m : MethodId} {below : List Frame} {meth : Method} {c : Code} {l : Launch} {D : va_G} {A : Nat → Prop} {sa : Nat → Nat} {ea : Nat} {ad bd : Nat → Nat} {kC kI kO kD : ClassId} {oa od b : Nat} {xs : Nat → Int32} {Q : State → Prop} (C1 : zLw p l s m c b xs A sa ea bd) (hend : ∀ (H : Heap) (locs : List Loc) (ls : Array Slot), va_S A s.heap H locs → lv_has ls 9 [(5, .int 0), (0, .ref b)] → W p l e room_1 s m #[Value.ref b] below meth c H locs 2000 20000 Q (F0 m 3449 ls [])) {H : Heap} {locs : List Loc} {ls : Array Slot} (C2 : zSt D s A ad bd kC kI kO kD oa od b H locs ls) : W p l e room_1 s m #[Value.ref b] below meth c H locs 1000 10000 Q (F0 m 2024 ls []) := by
  obtain ⟨hx, hb, hml, hown, hw, hX, hbl, hbA, hA, hT, hZ, hE, hQ, hst, he⟩ := C1
  obtain ⟨hK, hP, hD, hS, hl⟩ := C2
  have hP : va_P D vwCl [((ad 0), .inr (10, [.ref (ad 1), .ref (ad 2), .ref (ad 3), .ref (ad 4), .ref (ad 5), .int (-1), .int 100, .int 0, .int 0])), ((ad 1), .inr (7, [.ref (ad 6), .ref (ad 7), .ref (ad 8), .int 0])), ((ad 2), .inr (8, [.ref (ad 9), .ref (ad 10), .int 0])), ((ad 3), .inr (4, [.int 0, .ref (ad 14), .int 0])), ((ad 4), .inr (4, [.int 0, .ref (ad 14), .int 0])), ((ad 5), .inr (6, [.ref (ad 11), .ref (ad 12), .ref (ad 13), .int 0, .int 0])), ((bd 0), .inr (14, [.ref (bd 1), .ref (bd 2), .ref (bd 3), .ref (bd 4), .ref (bd 5), .ref (bd 6), .int 100, .int (-1), .int 0, .int 0])), ((bd 1), .inr (4, [.int 0, .ref (bd 7), .int 0])), ((bd 2), .inr (4, [.int 0, .ref (bd 7), .int 0])), ((bd 3), .inr (4, [.int 0, .ref (bd 7), .int 0])), ((bd 4), .inr (4, [.int 0, .ref (bd 7), .int 0])), ((bd 5), .inr (4, [.int 0, .ref (bd 7), .int 0])), ((bd 6), .inr (4, [.int 0, .ref (bd 7), .int 0])), ((ad 6), .inl (kC, 12, .inl (fun _ => 0))), ((ad 7), .inl (kI, 36, .inl (fun _ => 0))), (oa, .inl (kO, 1, .inr (.inl (fun _ => 0)))), (od, .inl (kD, 1, .inr (.inr (.inr (.inl (fun _ => 0))))))] H := hP
  have hD : va_D A [((ad 0), .inr (10, [.ref (ad 1), .ref (ad 2), .ref (ad 3), .ref (ad 4), .ref (ad 5), .int (-1), .int 100, .int 0, .int 0])), ((ad 1), .inr (7, [.ref (ad 6), .ref (ad 7), .ref (ad 8), .int 0])), ((ad 2), .inr (8, [.ref (ad 9), .ref (ad 10), .int 0])), ((ad 3), .inr (4, [.int 0, .ref (ad 14), .int 0])), ((ad 4), .inr (4, [.int 0, .ref (ad 14), .int 0])), ((ad 5), .inr (6, [.ref (ad 11), .ref (ad 12), .ref (ad 13), .int 0, .int 0])), ((bd 0), .inr (14, [.ref (bd 1), .ref (bd 2), .ref (bd 3), .ref (bd 4), .ref (bd 5), .ref (bd 6), .int 100, .int (-1), .int 0, .int 0])), ((bd 1), .inr (4, [.int 0, .ref (bd 7), .int 0])), ((bd 2), .inr (4, [.int 0, .ref (bd 7), .int 0])), ((bd 3), .inr (4, [.int 0, .ref (bd 7), .int 0])), ((bd 4), .inr (4, [.int 0, .ref (bd 7), .int 0])), ((bd 5), .inr (4, [.int 0, .ref (bd 7), .int 0])), ((bd 6), .inr (4, [.int 0, .ref (bd 7), .int 0])), ((ad 6), .inl (kC, 12, .inl (fun _ => 0))), ((ad 7), .inl (kI, 36, .inl (fun _ => 0))), (oa, .inl (kO, 1, .inr (.inl (fun _ => 0)))), (od, .inl (kD, 1, .inr (.inr (.inr (.inl (fun _ => 0))))))] := hD
  refine lv_aload_n hx hb dL_law_2024 rfl (lv_at hl 4 rfl) ?_
  refine lv_aload_n hx hb dL_law_2025 rfl (lv_at hl 5 rfl) ?_
  refine lv_iload hx hb dL_law_2026 (lv_at hl 0 rfl) ?_
  refine lv_iconst (v := 1) hx hb dL_law_2028 (by decide) ?_
  refine lv_iadd hx hb dL_law_2029 ?_
  refine lv_topi (fun f_1 ef_1 => ?_)
  obtain rfl : f_1 = 1 := ef_1.trans (by decide)
  refine va_sld (i := 1) hx hb hX hbl hbA hS (by unfold vp_in; decide) dL_law_2030 ?_
  refine lv_aload_n hx hb dL_law_2031 rfl (lv_at hl 2 rfl) ?_
  have hPc := hP.sub (ws' := [((ad 0), .inr (10, [.ref (ad 1), .ref (ad 2), .ref (ad 3), .ref (ad 4), .ref (ad 5), .int (-1), .int 100, .int 0, .int 0])), ((ad 1), .inr (7, [.ref (ad 6), .ref (ad 7), .ref (ad 8), .int 0])), ((ad 2), .inr (8, [.ref (ad 9), .ref (ad 10), .int 0])), ((ad 3), .inr (4, [.int 0, .ref (ad 14), .int 0])), ((ad 4), .inr (4, [.int 0, .ref (ad 14), .int 0])), ((ad 5), .inr (6, [.ref (ad 11), .ref (ad 12), .ref (ad 13), .int 0, .int 0]))]) [0, 1, 2, 3, 4, 5] rfl
  refine vx_calli (vx_runSX (As := [.ref (ad 0), .int (xs (Int32.toNatClampNeg 1)), .ref oa]) (rest := []) ⟨hx, hb, hml, hown, hw⟩ (c_L_isContested l hst D sa ad _ (xs (Int32.toNatClampNeg 1)) oa) (vx_cwSW 3 hw (zg3 zm_996 zm_997 zm_44 zm_998) rfl rfl rfl (by decide +kernel) ⟨Nat.le_of_ble_eq_true rfl, Nat.le_of_ble_eq_true rfl⟩) ⟨zR_blind, zR_pre hPc hK hT hZ hS hA⟩ rfl rfl hl.1 rfl (lv_room (Nat.le_of_ble_eq_true rfl)) dL_law_2032 ⟨Nat.le_of_ble_eq_true rfl, Nat.le_of_ble_eq_true rfl⟩) hS zN_in (zN_fr hS hA) zN_in (fun E ce q9 u t H1 locs1 ht hvm hu hE => hE.elim) (fun r_2 u t H locs ht hvm hw1 hB hz1 hk1 hS => ?_)
  have hP := zN_keep hP hk1
  subst hw1
  refine lv_istore (lv' := [(6, .int 1), (5, .int 0), (4, .ref od), (3, .ref oa), (2, .ref (bd 0)), (1, .ref (ad 0)), (0, .ref b)]) hx hb dL_law_2035 hl (by decide) rfl (fun ls hl => ?_)
  refine lv_aload_n hx hb dL_law_2037 rfl (lv_at hl 4 rfl) ?_
  refine lv_aload_n hx hb dL_law_2038 rfl (lv_at hl 6 rfl) ?_
  refine lv_iload hx hb dL_law_2039 (lv_at hl 1 rfl) ?_
  refine lv_iconst (v := 1) hx hb dL_law_2041 (by decide) ?_
  refine lv_iadd hx hb dL_law_2042 ?_
  refine lv_topi (fun f_3 ef_3 => ?_)
  obtain rfl : f_3 = 1 := ef_3.trans (by decide)
  refine va_sld (i := 1) hx hb hX hbl hbA hS (by unfold vp_in; decide) dL_law_2043 ?_
  have hPc := hP.sub (ws' := [((bd 0), .inr (14, [.ref (bd 1), .ref (bd 2), .ref (bd 3), .ref (bd 4), .ref (bd 5), .ref (bd 6), .int 100, .int (-1), .int 0, .int 0])), ((bd 1), .inr (4, [.int 0, .ref (bd 7), .int 0])), ((bd 2), .inr (4, [.int 0, .ref (bd 7), .int 0])), ((bd 3), .inr (4, [.int 0, .ref (bd 7), .int 0])), ((bd 4), .inr (4, [.int 0, .ref (bd 7), .int 0])), ((bd 5), .inr (4, [.int 0, .ref (bd 7), .int 0])), ((bd 6), .inr (4, [.int 0, .ref (bd 7), .int 0]))]) [6, 7, 8, 9, 10, 11, 12] rfl
  have hDc := hD.sub (ws' := [((bd 0), .inr (14, [.ref (bd 1), .ref (bd 2), .ref (bd 3), .ref (bd 4), .ref (bd 5), .ref (bd 6), .int 100, .int (-1), .int 0, .int 0])), ((bd 1), .inr (4, [.int 0, .ref (bd 7), .int 0])), ((bd 2), .inr (4, [.int 0, .ref (bd 7), .int 0])), ((bd 3), .inr (4, [.int 0, .ref (bd 7), .int 0])), ((bd 4), .inr (4, [.int 0, .ref (bd 7), .int 0])), ((bd 5), .inr (4, [.int 0, .ref (bd 7), .int 0])), ((bd 6), .inr (4, [.int 0, .ref (bd 7), .int 0]))]) [6, 7, 8, 9, 10, 11, 12] (by decide) rfl
  have hFc := va_free (wc := [((bd 0), .inr (14, [.ref (bd 1), .ref (bd 2), .ref (bd 3), .ref (bd 4), .ref (bd 5), .ref (bd 6), .int 100, .int (-1), .int 0, .int 0])), ((bd 1), .inr (4, [.int 0, .ref (bd 7), .int 0])), ((bd 2), .inr (4, [.int 0, .ref (bd 7), .int 0])), ((bd 3), .inr (4, [.int 0, .ref (bd 7), .int 0])), ((bd 4), .inr (4, [.int 0, .ref (bd 7), .int 0])), ((bd 5), .inr (4, [.int 0, .ref (bd 7), .int 0])), ((bd 6), .inr (4, [.int 0, .ref (bd 7), .int 0]))]) hD hS hA [6, 7, 8, 9, 10, 11, 12] rfl
  refine va_calli (va_runV (As := [.int (xs (Int32.toNatClampNeg 1))]) (rest := []) ⟨hx, hb, hml, hown, hw⟩ (c_X9_isContested l D sa ea bd 0 _ (xs (Int32.toNatClampNeg 1))) (cwV 1 hw (zg4 zm_1673 zm_1674 zm_1675 zm_53 zm_1676) rfl rfl rfl (by decide +kernel) ⟨Nat.le_of_ble_eq_true rfl, Nat.le_of_ble_eq_true rfl⟩) ⟨zW_blind, va_recv hK hPc (ci := 14) (q0 := 0) rfl rfl, zW_pre hPc (hK.sub (tys' := []) [] rfl) hDc hT hE hS hFc⟩ rfl rfl hl.1 rfl (lv_room (Nat.le_of_ble_eq_true rfl)) dL_law_2044 ⟨Nat.le_of_ble_eq_true rfl, Nat.le_of_ble_eq_true rfl⟩) hS (fun q _ h => hFc q h) hFc (fun r_4 u t H locs ht hvm hw1 hB hz1 hk1 hS => ?_)
  subst hw1
  obtain ⟨hP1, hD1⟩ := hB
  rw [ht] at hP1
  obtain ⟨hP, hD⟩ := va_join (wr := [((ad 0), .inr (10, [.ref (ad 1), .ref (ad 2), .ref (ad 3), .ref (ad 4), .ref (ad 5), .int (-1), .int 100, .int 0, .int 0])), ((ad 1), .inr (7, [.ref (ad 6), .ref (ad 7), .ref (ad 8), .int 0])), ((ad 2), .inr (8, [.ref (ad 9), .ref (ad 10), .int 0])), ((ad 3), .inr (4, [.int 0, .ref (ad 14), .int 0])), ((ad 4), .inr (4, [.int 0, .ref (ad 14), .int 0])), ((ad 5), .inr (6, [.ref (ad 11), .ref (ad 12), .ref (ad 13), .int 0, .int 0])), ((ad 6), .inl (kC, 12, .inl (fun _ => 0))), ((ad 7), .inl (kI, 36, .inl (fun _ => 0))), (oa, .inl (kO, 1, .inr (.inl (fun _ => 0)))), (od, .inl (kD, 1, .inr (.inr (.inr (.inl (fun _ => 0))))))]) (w1 := [((bd 0), .inr (14, [.ref (bd 1), .ref (bd 2), .ref (bd 3), .ref (bd 4), .ref (bd 5), .ref (bd 6), .int 100, .int (-1), .int 0, .int 1])), ((bd 1), .inr (4, [.int 0, .ref (bd 7), .int 0])), ((bd 2), .inr (4, [.int 0, .ref (bd 7), .int 0])), ((bd 3), .inr (4, [.int 0, .ref (bd 7), .int 0])), ((bd 4), .inr (4, [.int 0, .ref (bd 7), .int 0])), ((bd 5), .inr (4, [.int 0, .ref (bd 7), .int 0])), ((bd 6), .inr (4, [.int 0, .ref (bd 7), .int 0]))]) hP hD [6, 7, 8, 9, 10, 11, 12] [0, 1, 2, 3, 4, 5, 13, 14, 15, 16] rfl rfl (by decide) (by decide) hk1 hFc hP1 hD1
  have hP : va_P D vwCl [((ad 0), .inr (10, [.ref (ad 1), .ref (ad 2), .ref (ad 3), .ref (ad 4), .ref (ad 5), .int (-1), .int 100, .int 0, .int 0])), ((ad 1), .inr (7, [.ref (ad 6), .ref (ad 7), .ref (ad 8), .int 0])), ((ad 2), .inr (8, [.ref (ad 9), .ref (ad 10), .int 0])), ((ad 3), .inr (4, [.int 0, .ref (ad 14), .int 0])), ((ad 4), .inr (4, [.int 0, .ref (ad 14), .int 0])), ((ad 5), .inr (6, [.ref (ad 11), .ref (ad 12), .ref (ad 13), .int 0, .int 0])), ((ad 6), .inl (kC, 12, .inl (fun _ => 0))), ((ad 7), .inl (kI, 36, .inl (fun _ => 0))), (oa, .inl (kO, 1, .inr (.inl (fun _ => 0)))), (od, .inl (kD, 1, .inr (.inr (.inr (.inl (fun _ => 0)))))), ((bd 0), .inr (14, [.ref (bd 1), .ref (bd 2), .ref (bd 3), .ref (bd 4), .ref (bd 5), .ref (bd 6), .int 100, .int (-1), .int 0, .int 1])), ((bd 1), .inr (4, [.int 0, .ref (bd 7), .int 0])), ((bd 2), .inr (4, [.int 0, .ref (bd 7), .int 0])), ((bd 3), .inr (4, [.int 0, .ref (bd 7), .int 0])), ((bd 4), .inr (4, [.int 0, .ref (bd 7), .int 0])), ((bd 5), .inr (4, [.int 0, .ref (bd 7), .int 0])), ((bd 6), .inr (4, [.int 0, .ref (bd 7), .int 0]))] H := hP
  have hD : va_D A [((ad 0), .inr (10, [.ref (ad 1), .ref (ad 2), .ref (ad 3), .ref (ad 4), .ref (ad 5), .int (-1), .int 100, .int 0, .int 0])), ((ad 1), .inr (7, [.ref (ad 6), .ref (ad 7), .ref (ad 8), .int 0])), ((ad 2), .inr (8, [.ref (ad 9), .ref (ad 10), .int 0])), ((ad 3), .inr (4, [.int 0, .ref (ad 14), .int 0])), ((ad 4), .inr (4, [.int 0, .ref (ad 14), .int 0])), ((ad 5), .inr (6, [.ref (ad 11), .ref (ad 12), .ref (ad 13), .int 0, .int 0])), ((ad 6), .inl (kC, 12, .inl (fun _ => 0))), ((ad 7), .inl (kI, 36, .inl (fun _ => 0))), (oa, .inl (kO, 1, .inr (.inl (fun _ => 0)))), (od, .inl (kD, 1, .inr (.inr (.inr (.inl (fun _ => 0)))))), ((bd 0), .inr (14, [.ref (bd 1), .ref (bd 2), .ref (bd 3), .ref (bd 4), .ref (bd 5), .ref (bd 6), .int 100, .int (-1), .int 0, .int 1])), ((bd 1), .inr (4, [.int 0, .ref (bd 7), .int 0])), ((bd 2), .inr (4, [.int 0, .ref (bd 7), .int 0])), ((bd 3), .inr (4, [.int 0, .ref (bd 7), .int 0])), ((bd 4), .inr (4, [.int 0, .ref (bd 7), .int 0])), ((bd 5), .inr (4, [.int 0, .ref (bd 7), .int 0])), ((bd 6), .inr (4, [.int 0, .ref (bd 7), .int 0]))] := hD
  have hK : va_K D vwCl [(kC, .char), (kI, .int), (kO, .long), (kD, .double)] s := hK
  refine lv_istore (lv' := [(7, .int 0), (6, .int 1), (5, .int 0), (4, .ref od), (3, .ref oa), (2, .ref (bd 0)), (1, .ref (ad 0)), (0, .ref b)]) hx hb dL_law_2047 hl (by decide) rfl (fun ls hl => ?_)
  refine lv_aload_n hx hb dL_law_2049 rfl (lv_at hl 5 rfl) ?_
  have hPc := hP.sub (ws' := [((bd 0), .inr (14, [.ref (bd 1), .ref (bd 2), .ref (bd 3), .ref (bd 4), .ref (bd 5), .ref (bd 6), .int 100, .int (-1), .int 0, .int 1])), ((bd 1), .inr (4, [.int 0, .ref (bd 7), .int 0])), ((bd 2), .inr (4, [.int 0, .ref (bd 7), .int 0])), ((bd 3), .inr (4, [.int 0, .ref (bd 7), .int 0])), ((bd 4), .inr (4, [.int 0, .ref (bd 7), .int 0])), ((bd 5), .inr (4, [.int 0, .ref (bd 7), .int 0])), ((bd 6), .inr (4, [.int 0, .ref (bd 7), .int 0]))]) [10, 11, 12, 13, 14, 15, 16] rfl
  refine va_calli (va_runV (As := []) (rest := []) ⟨hx, hb, hml, hown, hw⟩ (c_X9_thrown l D sa bd 1 _) (cwV 0 hw (zg4 zm_1303 zm_1304 zm_1305 zm_53 zm_1306) rfl rfl rfl (by decide +kernel) ⟨Nat.le_of_ble_eq_true rfl, Nat.le_of_ble_eq_true rfl⟩) ⟨zJ_blind, va_recv hK hPc (ci := 14) (q0 := 0) rfl rfl, zJ_pre hPc hK hT⟩ rfl rfl hl.1 rfl (lv_room (Nat.le_of_ble_eq_true rfl)) dL_law_2050 ⟨Nat.le_of_ble_eq_true rfl, Nat.le_of_ble_eq_true rfl⟩) hS zN_in (zN_fr hS hA) (fun r_5 u t H locs ht hvm hw1 hB hz1 hk1 hS => ?_)
  have hP := zN_keep hP hk1
  subst hw1
  refine lv_iload hx hb dL_law_2053 (lv_at hl 1 rfl) ?_
  refine lv_icmp_eq (tgt := 2060) hx hb dL_law_2055 (by decide) (fun _ => ?_) (fun c_6 => absurd (by decide) c_6)
  refine lv_iload hx hb dL_law_2060 (lv_at hl 1 rfl) ?_
  refine lv_if_ne (tgt := 2084) hx hb dL_law_2062 (by decide) (fun _ => ?_) (fun c_7 => absurd c_7 (by decide))
  refine lv_goto (tgt := 3449) hx hb dL_law_2084 (by decide) ?_
  refine W.widen (k := 2000) (n := 20000) (Nat.le_of_ble_eq_true rfl) (Nat.le_of_ble_eq_true rfl) ?_
  exact hend _ _ _ hS (lv_sub hl [2, 7] rfl)
theorem dL_law_2087 : decode cL_law 2087 = .ok (.aload_n 1, 1) := by decide +kernel
theorem dL_law_2088 : decode cL_law 2088 = .ok (.aload_n 0, 1) := by decide +kernel
theorem dL_law_2089 : decode cL_law 2089 = .ok (.iload 5, 2) := by decide +kernel
theorem dL_law_2091 : decode cL_law 2091 = .ok (.iconst 1, 1) := by decide +kernel
theorem dL_law_2092 : decode cL_law 2092 = .ok (.iadd, 1) := by decide +kernel
theorem dL_law_2093 : decode cL_law 2093 = .ok (.iaload, 1) := by decide +kernel
theorem dL_law_2094 : decode cL_law 2094 = .ok (.aload_n 3, 1) := by decide +kernel
theorem dL_law_2095 : decode cL_law 2095 = .ok (.invokestatic 268, 3) := by decide +kernel
theorem zm_1003 : Cond.methodLink RL 268 yL_contestedBy ∈ WA := zmm (i := 1003) (by decide +kernel) (by decide +kernel)
theorem zm_1004 : Cond.static yL_contestedBy ∈ WA := zmm (i := 1004) (by decide +kernel) (by decide +kernel)
theorem zm_1005 : Cond.codeWith yL_contestedBy method_29_code 4 (Option.some FieldType.int) [(0, 9, 12, 23), (0, 9, 15, 15), (0, 9, 18, 46)] ∈ WA := zmm (i := 1005) (by decide +kernel) (by decide +kernel)
theorem dL_law_2098 : decode cL_law 2098 = .ok (.istore 6, 2) := by decide +kernel
theorem dL_law_2100 : decode cL_law 2100 = .ok (.aload_n 2, 1) := by decide +kernel
theorem dL_law_2101 : decode cL_law 2101 = .ok (.aload_n 0, 1) := by decide +kernel
theorem dL_law_2102 : decode cL_law 2102 = .ok (.iload 5, 2) := by decide +kernel
theorem dL_law_2104 : decode cL_law 2104 = .ok (.iconst 1, 1) := by decide +kernel
theorem dL_law_2105 : decode cL_law 2105 = .ok (.iadd, 1) := by decide +kernel
theorem dL_law_2106 : decode cL_law 2106 = .ok (.iaload, 1) := by decide +kernel
theorem dL_law_2107 : decode cL_law 2107 = .ok (.invokevirtual 270, 3) := by decide +kernel
theorem zm_1677 : Cond.methodLink RL 270 yX9_contestedBy ∈ WA := zmm (i := 1677) (by decide +kernel) (by decide +kernel)
theorem zm_1678 : Cond.instanceMethod yX9_contestedBy ∈ WA := zmm (i := 1678) (by decide +kernel) (by decide +kernel)
theorem zm_1679 : Cond.selects RX9 yX9_contestedBy yX9_contestedBy ∈ WA := zmm (i := 1679) (by decide +kernel) (by decide +kernel)
theorem zm_1680 : Cond.code yX9_contestedBy prog_8_method_43_code 3 (Option.some FieldType.int) ∈ WA := zmm (i := 1680) (by decide +kernel) (by decide +kernel)
theorem dL_law_2110 : decode cL_law 2110 = .ok (.istore 7, 2) := by decide +kernel
theorem dL_law_2112 : decode cL_law 2112 = .ok (.aload_n 2, 1) := by decide +kernel
theorem dL_law_2113 : decode cL_law 2113 = .ok (.invokevirtual 179, 3) := by decide +kernel
theorem dL_law_2116 : decode cL_law 2116 = .ok (.iload 6, 2) := by decide +kernel
theorem dL_law_2118 : decode cL_law 2118 = .ok (.if_icmp .eq 5, 3) := by decide +kernel
theorem dL_law_2123 : decode cL_law 2123 = .ok (.iload 6, 2) := by decide +kernel
theorem dL_law_2125 : decode cL_law 2125 = .ok (.ifCond .ne 15, 3) := by decide +kernel
theorem dL_law_2140 : decode cL_law 2140 = .ok (.goto 1309, 3) := by decide +kernel
set_option maxHeartbeats 4000000 in
set_option maxRecDepth 100000 in
theorem law_27 {p : Program} {e : Env} {s : State} {m : MethodId} {below : List Frame} {meth : Method} {c : Code} {l : Launch} {D : va_G} {A : Nat → Prop} {sa : Nat → Nat} {ea : Nat} {ad bd : Nat → Nat} {kC kI kO kD : ClassId} {oa od b : Nat} {xs : Nat → Int32} {Q : State → Prop} (C1 : zLw p l s m c b xs A sa ea bd) (hend : ∀ (H : Heap) (locs : List Loc) (ls : Array Slot), va_S A s.heap H locs → lv_has ls 9 [(5, .int 0), (0, .ref b)] → W p l e room_1 s m #[Value.ref b] below meth c H locs 2000 20000 Q (F0 m 3449 ls [])) {H : Heap} {locs : List Loc} {ls : Array Slot} (C2 : zSt D s A ad bd kC kI kO kD oa od b H locs ls) : W p l e room_1 s m #[Value.ref b] below meth c H locs 1000 10000 Q (F0 m 2087 ls []) := by
  obtain ⟨hx, hb, hml, hown, hw, hX, hbl, hbA, hA, hT, hZ, hE, hQ, hst, he⟩ := C1
  obtain ⟨hK, hP, hD, hS, hl⟩ := C2
  have hP : va_P D vwCl [((ad 0), .inr (10, [.ref (ad 1), .ref (ad 2), .ref (ad 3), .ref (ad 4), .ref (ad 5), .int (-1), .int 100, .int 0, .int 0])), ((ad 1), .inr (7, [.ref (ad 6), .ref (ad 7), .ref (ad 8), .int 0])), ((ad 2), .inr (8, [.ref (ad 9), .ref (ad 10), .int 0])), ((ad 3), .inr (4, [.int 0, .ref (ad 14), .int 0])), ((ad 4), .inr (4, [.int 0, .ref (ad 14), .int 0])), ((ad 5), .inr (6, [.ref (ad 11), .ref (ad 12), .ref (ad 13), .int 0, .int 0])), ((bd 0), .inr (14, [.ref (bd 1), .ref (bd 2), .ref (bd 3), .ref (bd 4), .ref (bd 5), .ref (bd 6), .int 100, .int (-1), .int 0, .int 0])), ((bd 1), .inr (4, [.int 0, .ref (bd 7), .int 0])), ((bd 2), .inr (4, [.int 0, .ref (bd 7), .int 0])), ((bd 3), .inr (4, [.int 0, .ref (bd 7), .int 0])), ((bd 4), .inr (4, [.int 0, .ref (bd 7), .int 0])), ((bd 5), .inr (4, [.int 0, .ref (bd 7), .int 0])), ((bd 6), .inr (4, [.int 0, .ref (bd 7), .int 0])), ((ad 6), .inl (kC, 12, .inl (fun _ => 0))), ((ad 7), .inl (kI, 36, .inl (fun _ => 0))), (oa, .inl (kO, 1, .inr (.inl (fun _ => 0)))), (od, .inl (kD, 1, .inr (.inr (.inr (.inl (fun _ => 0))))))] H := hP
  have hD : va_D A [((ad 0), .inr (10, [.ref (ad 1), .ref (ad 2), .ref (ad 3), .ref (ad 4), .ref (ad 5), .int (-1), .int 100, .int 0, .int 0])), ((ad 1), .inr (7, [.ref (ad 6), .ref (ad 7), .ref (ad 8), .int 0])), ((ad 2), .inr (8, [.ref (ad 9), .ref (ad 10), .int 0])), ((ad 3), .inr (4, [.int 0, .ref (ad 14), .int 0])), ((ad 4), .inr (4, [.int 0, .ref (ad 14), .int 0])), ((ad 5), .inr (6, [.ref (ad 11), .ref (ad 12), .ref (ad 13), .int 0, .int 0])), ((bd 0), .inr (14, [.ref (bd 1), .ref (bd 2), .ref (bd 3), .ref (bd 4), .ref (bd 5), .ref (bd 6), .int 100, .int (-1), .int 0, .int 0])), ((bd 1), .inr (4, [.int 0, .ref (bd 7), .int 0])), ((bd 2), .inr (4, [.int 0, .ref (bd 7), .int 0])), ((bd 3), .inr (4, [.int 0, .ref (bd 7), .int 0])), ((bd 4), .inr (4, [.int 0, .ref (bd 7), .int 0])), ((bd 5), .inr (4, [.int 0, .ref (bd 7), .int 0])), ((bd 6), .inr (4, [.int 0, .ref (bd 7), .int 0])), ((ad 6), .inl (kC, 12, .inl (fun _ => 0))), ((ad 7), .inl (kI, 36, .inl (fun _ => 0))), (oa, .inl (kO, 1, .inr (.inl (fun _ => 0)))), (od, .inl (kD, 1, .inr (.inr (.inr (.inl (fun _ => 0))))))] := hD
  refine lv_aload_n hx hb dL_law_2087 rfl (lv_at hl 4 rfl) ?_
  refine lv_aload_n hx hb dL_law_2088 rfl (lv_at hl 5 rfl) ?_
  refine lv_iload hx hb dL_law_2089 (lv_at hl 0 rfl) ?_
  refine lv_iconst (v := 1) hx hb dL_law_2091 (by decide) ?_
  refine lv_iadd hx hb dL_law_2092 ?_
  refine lv_topi (fun f_1 ef_1 => ?_)
  obtain rfl : f_1 = 1 := ef_1.trans (by decide)
  refine va_sld (i := 1) hx hb hX hbl hbA hS (by unfold vp_in; decide) dL_law_2093 ?_
  refine lv_aload_n hx hb dL_law_2094 rfl (lv_at hl 2 rfl) ?_
  have hPc := hP.sub (ws' := [((ad 0), .inr (10, [.ref (ad 1), .ref (ad 2), .ref (ad 3), .ref (ad 4), .ref (ad 5), .int (-1), .int 100, .int 0, .int 0])), ((ad 1), .inr (7, [.ref (ad 6), .ref (ad 7), .ref (ad 8), .int 0])), ((ad 2), .inr (8, [.ref (ad 9), .ref (ad 10), .int 0])), ((ad 3), .inr (4, [.int 0, .ref (ad 14), .int 0])), ((ad 4), .inr (4, [.int 0, .ref (ad 14), .int 0])), ((ad 5), .inr (6, [.ref (ad 11), .ref (ad 12), .ref (ad 13), .int 0, .int 0]))]) [0, 1, 2, 3, 4, 5] rfl
  refine vx_calli (vx_runSX (As := [.ref (ad 0), .int (xs (Int32.toNatClampNeg 1)), .ref oa]) (rest := []) ⟨hx, hb, hml, hown, hw⟩ (c_L_contestedBy l hst D sa ad _ (xs (Int32.toNatClampNeg 1)) oa) (vx_cwSW 3 hw (zg3 zm_1003 zm_1004 zm_44 zm_1005) rfl rfl rfl (by decide +kernel) ⟨Nat.le_of_ble_eq_true rfl, Nat.le_of_ble_eq_true rfl⟩) ⟨zR_blind, zR_pre hPc hK hT hZ hS hA⟩ rfl rfl hl.1 rfl (lv_room (Nat.le_of_ble_eq_true rfl)) dL_law_2095 ⟨Nat.le_of_ble_eq_true rfl, Nat.le_of_ble_eq_true rfl⟩) hS zN_in (zN_fr hS hA) zN_in (fun E ce q9 u t H1 locs1 ht hvm hu hE => hE.elim) (fun r_2 u t H locs ht hvm hw1 hB hz1 hk1 hS => ?_)
  have hP := zN_keep hP hk1
  subst hw1
  refine lv_istore (lv' := [(6, .int 1), (5, .int 0), (4, .ref od), (3, .ref oa), (2, .ref (bd 0)), (1, .ref (ad 0)), (0, .ref b)]) hx hb dL_law_2098 hl (by decide) rfl (fun ls hl => ?_)
  refine lv_aload_n hx hb dL_law_2100 rfl (lv_at hl 4 rfl) ?_
  refine lv_aload_n hx hb dL_law_2101 rfl (lv_at hl 6 rfl) ?_
  refine lv_iload hx hb dL_law_2102 (lv_at hl 1 rfl) ?_
  refine lv_iconst (v := 1) hx hb dL_law_2104 (by decide) ?_
  refine lv_iadd hx hb dL_law_2105 ?_
  refine lv_topi (fun f_3 ef_3 => ?_)
  obtain rfl : f_3 = 1 := ef_3.trans (by decide)
  refine va_sld (i := 1) hx hb hX hbl hbA hS (by unfold vp_in; decide) dL_law_2106 ?_
  have hPc := hP.sub (ws' := [((bd 0), .inr (14, [.ref (bd 1), .ref (bd 2), .ref (bd 3), .ref (bd 4), .ref (bd 5), .ref (bd 6), .int 100, .int (-1), .int 0, .int 0])), ((bd 1), .inr (4, [.int 0, .ref (bd 7), .int 0])), ((bd 2), .inr (4, [.int 0, .ref (bd 7), .int 0])), ((bd 3), .inr (4, [.int 0, .ref (bd 7), .int 0])), ((bd 4), .inr (4, [.int 0, .ref (bd 7), .int 0])), ((bd 5), .inr (4, [.int 0, .ref (bd 7), .int 0])), ((bd 6), .inr (4, [.int 0, .ref (bd 7), .int 0]))]) [6, 7, 8, 9, 10, 11, 12] rfl
  have hDc := hD.sub (ws' := [((bd 0), .inr (14, [.ref (bd 1), .ref (bd 2), .ref (bd 3), .ref (bd 4), .ref (bd 5), .ref (bd 6), .int 100, .int (-1), .int 0, .int 0])), ((bd 1), .inr (4, [.int 0, .ref (bd 7), .int 0])), ((bd 2), .inr (4, [.int 0, .ref (bd 7), .int 0])), ((bd 3), .inr (4, [.int 0, .ref (bd 7), .int 0])), ((bd 4), .inr (4, [.int 0, .ref (bd 7), .int 0])), ((bd 5), .inr (4, [.int 0, .ref (bd 7), .int 0])), ((bd 6), .inr (4, [.int 0, .ref (bd 7), .int 0]))]) [6, 7, 8, 9, 10, 11, 12] (by decide) rfl
  have hFc := va_free (wc := [((bd 0), .inr (14, [.ref (bd 1), .ref (bd 2), .ref (bd 3), .ref (bd 4), .ref (bd 5), .ref (bd 6), .int 100, .int (-1), .int 0, .int 0])), ((bd 1), .inr (4, [.int 0, .ref (bd 7), .int 0])), ((bd 2), .inr (4, [.int 0, .ref (bd 7), .int 0])), ((bd 3), .inr (4, [.int 0, .ref (bd 7), .int 0])), ((bd 4), .inr (4, [.int 0, .ref (bd 7), .int 0])), ((bd 5), .inr (4, [.int 0, .ref (bd 7), .int 0])), ((bd 6), .inr (4, [.int 0, .ref (bd 7), .int 0]))]) hD hS hA [6, 7, 8, 9, 10, 11, 12] rfl
  refine va_calli (va_runV (As := [.int (xs (Int32.toNatClampNeg 1))]) (rest := []) ⟨hx, hb, hml, hown, hw⟩ (c_X9_contestedBy l D sa ea bd 0 _ (xs (Int32.toNatClampNeg 1))) (cwV 1 hw (zg4 zm_1677 zm_1678 zm_1679 zm_53 zm_1680) rfl rfl rfl (by decide +kernel) ⟨Nat.le_of_ble_eq_true rfl, Nat.le_of_ble_eq_true rfl⟩) ⟨zW_blind, va_recv hK hPc (ci := 14) (q0 := 0) rfl rfl, zW_pre hPc (hK.sub (tys' := []) [] rfl) hDc hT hE hS hFc⟩ rfl rfl hl.1 rfl (lv_room (Nat.le_of_ble_eq_true rfl)) dL_law_2107 ⟨Nat.le_of_ble_eq_true rfl, Nat.le_of_ble_eq_true rfl⟩) hS (fun q _ h => hFc q h) hFc (fun r_4 u t H locs ht hvm hw1 hB hz1 hk1 hS => ?_)
  subst hw1
  obtain ⟨hP1, hD1⟩ := hB
  rw [ht] at hP1
  obtain ⟨hP, hD⟩ := va_join (wr := [((ad 0), .inr (10, [.ref (ad 1), .ref (ad 2), .ref (ad 3), .ref (ad 4), .ref (ad 5), .int (-1), .int 100, .int 0, .int 0])), ((ad 1), .inr (7, [.ref (ad 6), .ref (ad 7), .ref (ad 8), .int 0])), ((ad 2), .inr (8, [.ref (ad 9), .ref (ad 10), .int 0])), ((ad 3), .inr (4, [.int 0, .ref (ad 14), .int 0])), ((ad 4), .inr (4, [.int 0, .ref (ad 14), .int 0])), ((ad 5), .inr (6, [.ref (ad 11), .ref (ad 12), .ref (ad 13), .int 0, .int 0])), ((ad 6), .inl (kC, 12, .inl (fun _ => 0))), ((ad 7), .inl (kI, 36, .inl (fun _ => 0))), (oa, .inl (kO, 1, .inr (.inl (fun _ => 0)))), (od, .inl (kD, 1, .inr (.inr (.inr (.inl (fun _ => 0))))))]) (w1 := [((bd 0), .inr (14, [.ref (bd 1), .ref (bd 2), .ref (bd 3), .ref (bd 4), .ref (bd 5), .ref (bd 6), .int 100, .int (-1), .int 0, .int 1])), ((bd 1), .inr (4, [.int 0, .ref (bd 7), .int 0])), ((bd 2), .inr (4, [.int 0, .ref (bd 7), .int 0])), ((bd 3), .inr (4, [.int 0, .ref (bd 7), .int 0])), ((bd 4), .inr (4, [.int 0, .ref (bd 7), .int 0])), ((bd 5), .inr (4, [.int 0, .ref (bd 7), .int 0])), ((bd 6), .inr (4, [.int 0, .ref (bd 7), .int 0]))]) hP hD [6, 7, 8, 9, 10, 11, 12] [0, 1, 2, 3, 4, 5, 13, 14, 15, 16] rfl rfl (by decide) (by decide) hk1 hFc hP1 hD1
  have hP : va_P D vwCl [((ad 0), .inr (10, [.ref (ad 1), .ref (ad 2), .ref (ad 3), .ref (ad 4), .ref (ad 5), .int (-1), .int 100, .int 0, .int 0])), ((ad 1), .inr (7, [.ref (ad 6), .ref (ad 7), .ref (ad 8), .int 0])), ((ad 2), .inr (8, [.ref (ad 9), .ref (ad 10), .int 0])), ((ad 3), .inr (4, [.int 0, .ref (ad 14), .int 0])), ((ad 4), .inr (4, [.int 0, .ref (ad 14), .int 0])), ((ad 5), .inr (6, [.ref (ad 11), .ref (ad 12), .ref (ad 13), .int 0, .int 0])), ((ad 6), .inl (kC, 12, .inl (fun _ => 0))), ((ad 7), .inl (kI, 36, .inl (fun _ => 0))), (oa, .inl (kO, 1, .inr (.inl (fun _ => 0)))), (od, .inl (kD, 1, .inr (.inr (.inr (.inl (fun _ => 0)))))), ((bd 0), .inr (14, [.ref (bd 1), .ref (bd 2), .ref (bd 3), .ref (bd 4), .ref (bd 5), .ref (bd 6), .int 100, .int (-1), .int 0, .int 1])), ((bd 1), .inr (4, [.int 0, .ref (bd 7), .int 0])), ((bd 2), .inr (4, [.int 0, .ref (bd 7), .int 0])), ((bd 3), .inr (4, [.int 0, .ref (bd 7), .int 0])), ((bd 4), .inr (4, [.int 0, .ref (bd 7), .int 0])), ((bd 5), .inr (4, [.int 0, .ref (bd 7), .int 0])), ((bd 6), .inr (4, [.int 0, .ref (bd 7), .int 0]))] H := hP
  have hD : va_D A [((ad 0), .inr (10, [.ref (ad 1), .ref (ad 2), .ref (ad 3), .ref (ad 4), .ref (ad 5), .int (-1), .int 100, .int 0, .int 0])), ((ad 1), .inr (7, [.ref (ad 6), .ref (ad 7), .ref (ad 8), .int 0])), ((ad 2), .inr (8, [.ref (ad 9), .ref (ad 10), .int 0])), ((ad 3), .inr (4, [.int 0, .ref (ad 14), .int 0])), ((ad 4), .inr (4, [.int 0, .ref (ad 14), .int 0])), ((ad 5), .inr (6, [.ref (ad 11), .ref (ad 12), .ref (ad 13), .int 0, .int 0])), ((ad 6), .inl (kC, 12, .inl (fun _ => 0))), ((ad 7), .inl (kI, 36, .inl (fun _ => 0))), (oa, .inl (kO, 1, .inr (.inl (fun _ => 0)))), (od, .inl (kD, 1, .inr (.inr (.inr (.inl (fun _ => 0)))))), ((bd 0), .inr (14, [.ref (bd 1), .ref (bd 2), .ref (bd 3), .ref (bd 4), .ref (bd 5), .ref (bd 6), .int 100, .int (-1), .int 0, .int 1])), ((bd 1), .inr (4, [.int 0, .ref (bd 7), .int 0])), ((bd 2), .inr (4, [.int 0, .ref (bd 7), .int 0])), ((bd 3), .inr (4, [.int 0, .ref (bd 7), .int 0])), ((bd 4), .inr (4, [.int 0, .ref (bd 7), .int 0])), ((bd 5), .inr (4, [.int 0, .ref (bd 7), .int 0])), ((bd 6), .inr (4, [.int 0, .ref (bd 7), .int 0]))] := hD
  have hK : va_K D vwCl [(kC, .char), (kI, .int), (kO, .long), (kD, .double)] s := hK
  refine lv_istore (lv' := [(7, .int 0), (6, .int 1), (5, .int 0), (4, .ref od), (3, .ref oa), (2, .ref (bd 0)), (1, .ref (ad 0)), (0, .ref b)]) hx hb dL_law_2110 hl (by decide) rfl (fun ls hl => ?_)
  refine lv_aload_n hx hb dL_law_2112 rfl (lv_at hl 5 rfl) ?_
  have hPc := hP.sub (ws' := [((bd 0), .inr (14, [.ref (bd 1), .ref (bd 2), .ref (bd 3), .ref (bd 4), .ref (bd 5), .ref (bd 6), .int 100, .int (-1), .int 0, .int 1])), ((bd 1), .inr (4, [.int 0, .ref (bd 7), .int 0])), ((bd 2), .inr (4, [.int 0, .ref (bd 7), .int 0])), ((bd 3), .inr (4, [.int 0, .ref (bd 7), .int 0])), ((bd 4), .inr (4, [.int 0, .ref (bd 7), .int 0])), ((bd 5), .inr (4, [.int 0, .ref (bd 7), .int 0])), ((bd 6), .inr (4, [.int 0, .ref (bd 7), .int 0]))]) [10, 11, 12, 13, 14, 15, 16] rfl
  refine va_calli (va_runV (As := []) (rest := []) ⟨hx, hb, hml, hown, hw⟩ (c_X9_thrown l D sa bd 1 _) (cwV 0 hw (zg4 zm_1303 zm_1304 zm_1305 zm_53 zm_1306) rfl rfl rfl (by decide +kernel) ⟨Nat.le_of_ble_eq_true rfl, Nat.le_of_ble_eq_true rfl⟩) ⟨zJ_blind, va_recv hK hPc (ci := 14) (q0 := 0) rfl rfl, zJ_pre hPc hK hT⟩ rfl rfl hl.1 rfl (lv_room (Nat.le_of_ble_eq_true rfl)) dL_law_2113 ⟨Nat.le_of_ble_eq_true rfl, Nat.le_of_ble_eq_true rfl⟩) hS zN_in (zN_fr hS hA) (fun r_5 u t H locs ht hvm hw1 hB hz1 hk1 hS => ?_)
  have hP := zN_keep hP hk1
  subst hw1
  refine lv_iload hx hb dL_law_2116 (lv_at hl 1 rfl) ?_
  refine lv_icmp_eq (tgt := 2123) hx hb dL_law_2118 (by decide) (fun _ => ?_) (fun c_6 => absurd (by decide) c_6)
  refine lv_iload hx hb dL_law_2123 (lv_at hl 1 rfl) ?_
  refine lv_if_ne (tgt := 2140) hx hb dL_law_2125 (by decide) (fun _ => ?_) (fun c_7 => absurd c_7 (by decide))
  refine lv_goto (tgt := 3449) hx hb dL_law_2140 (by decide) ?_
  refine W.widen (k := 2000) (n := 20000) (Nat.le_of_ble_eq_true rfl) (Nat.le_of_ble_eq_true rfl) ?_
  exact hend _ _ _ hS (lv_sub hl [2, 7] rfl)
theorem dL_law_2143 : decode cL_law 2143 = .ok (.aload_n 1, 1) := by decide +kernel
theorem dL_law_2144 : decode cL_law 2144 = .ok (.aload_n 0, 1) := by decide +kernel
theorem dL_law_2145 : decode cL_law 2145 = .ok (.iload 5, 2) := by decide +kernel
theorem dL_law_2147 : decode cL_law 2147 = .ok (.iconst 1, 1) := by decide +kernel
theorem dL_law_2148 : decode cL_law 2148 = .ok (.iadd, 1) := by decide +kernel
theorem dL_law_2149 : decode cL_law 2149 = .ok (.iaload, 1) := by decide +kernel
theorem dL_law_2150 : decode cL_law 2150 = .ok (.aload_n 0, 1) := by decide +kernel
theorem dL_law_2151 : decode cL_law 2151 = .ok (.iload 5, 2) := by decide +kernel
theorem dL_law_2153 : decode cL_law 2153 = .ok (.iconst 2, 1) := by decide +kernel
theorem dL_law_2154 : decode cL_law 2154 = .ok (.iadd, 1) := by decide +kernel
theorem dL_law_2155 : decode cL_law 2155 = .ok (.iaload, 1) := by decide +kernel
theorem dL_law_2156 : decode cL_law 2156 = .ok (.aload_n 3, 1) := by decide +kernel
theorem dL_law_2157 : decode cL_law 2157 = .ok (.invokestatic 271, 3) := by decide +kernel
theorem zm_1011 : Cond.methodLink RL 271 yL_consent ∈ WA := zmm (i := 1011) (by decide +kernel) (by decide +kernel)
theorem zm_1012 : Cond.static yL_consent ∈ WA := zmm (i := 1012) (by decide +kernel) (by decide +kernel)
theorem zm_1013 : Cond.codeWith yL_consent method_30_code 5 (Option.some FieldType.int) [(0, 17, 20, 23), (0, 17, 24, 13), (0, 17, 28, 15)] ∈ WA := zmm (i := 1013) (by decide +kernel) (by decide +kernel)
theorem dL_law_2160 : decode cL_law 2160 = .ok (.istore 6, 2) := by decide +kernel
theorem dL_law_2162 : decode cL_law 2162 = .ok (.aload_n 2, 1) := by decide +kernel
theorem dL_law_2163 : decode cL_law 2163 = .ok (.aload_n 0, 1) := by decide +kernel
theorem dL_law_2164 : decode cL_law 2164 = .ok (.iload 5, 2) := by decide +kernel
theorem dL_law_2166 : decode cL_law 2166 = .ok (.iconst 1, 1) := by decide +kernel
theorem dL_law_2167 : decode cL_law 2167 = .ok (.iadd, 1) := by decide +kernel
theorem dL_law_2168 : decode cL_law 2168 = .ok (.iaload, 1) := by decide +kernel
theorem dL_law_2169 : decode cL_law 2169 = .ok (.aload_n 0, 1) := by decide +kernel
theorem dL_law_2170 : decode cL_law 2170 = .ok (.iload 5, 2) := by decide +kernel
theorem dL_law_2172 : decode cL_law 2172 = .ok (.iconst 2, 1) := by decide +kernel
theorem dL_law_2173 : decode cL_law 2173 = .ok (.iadd, 1) := by decide +kernel
theorem dL_law_2174 : decode cL_law 2174 = .ok (.iaload, 1) := by decide +kernel
theorem dL_law_2175 : decode cL_law 2175 = .ok (.invokevirtual 273, 3) := by decide +kernel
theorem zm_1681 : Cond.methodLink RL 273 yX9_consent ∈ WA := zmm (i := 1681) (by decide +kernel) (by decide +kernel)
theorem zm_1682 : Cond.instanceMethod yX9_consent ∈ WA := zmm (i := 1682) (by decide +kernel) (by decide +kernel)
theorem zm_1683 : Cond.selects RX9 yX9_consent yX9_consent ∈ WA := zmm (i := 1683) (by decide +kernel) (by decide +kernel)
theorem zm_1684 : Cond.code yX9_consent prog_8_method_44_code 4 (Option.some FieldType.boolean) ∈ WA := zmm (i := 1684) (by decide +kernel) (by decide +kernel)
theorem dL_law_2178 : decode cL_law 2178 = .ok (.istore 7, 2) := by decide +kernel
theorem dL_law_2180 : decode cL_law 2180 = .ok (.aload_n 2, 1) := by decide +kernel
theorem dL_law_2181 : decode cL_law 2181 = .ok (.invokevirtual 179, 3) := by decide +kernel
theorem dL_law_2184 : decode cL_law 2184 = .ok (.iload 6, 2) := by decide +kernel
theorem dL_law_2186 : decode cL_law 2186 = .ok (.if_icmp .eq 5, 3) := by decide +kernel
theorem dL_law_2191 : decode cL_law 2191 = .ok (.iload 6, 2) := by decide +kernel
theorem dL_law_2193 : decode cL_law 2193 = .ok (.ifCond .ne 22, 3) := by decide +kernel
theorem dL_law_2215 : decode cL_law 2215 = .ok (.goto 1234, 3) := by decide +kernel
set_option maxHeartbeats 4000000 in
set_option maxRecDepth 100000 in
theorem law_28 {p : Program} {e : Env} {s : State} {m : MethodId} {below : List Frame} {meth : Method} {c : Code} {l : Launch} {D : va_G} {A : Nat → Prop} {sa : Nat → Nat} {ea : Nat} {ad bd : Nat → Nat} {kC kI kO kD : ClassId} {oa od b : Nat} {xs : Nat → Int32} {Q : State → Prop} (C1 : zLw p l s m c b xs A sa ea bd) (hend : ∀ (H : Heap) (locs : List Loc) (ls : Array Slot), va_S A s.heap H locs → lv_has ls 9 [(5, .int 0), (0, .ref b)] → W p l e room_1 s m #[Value.ref b] below meth c H locs 2000 20000 Q (F0 m 3449 ls [])) {H : Heap} {locs : List Loc} {ls : Array Slot} (C2 : zSt D s A ad bd kC kI kO kD oa od b H locs ls) : W p l e room_1 s m #[Value.ref b] below meth c H locs 1000 10000 Q (F0 m 2143 ls []) := by
  obtain ⟨hx, hb, hml, hown, hw, hX, hbl, hbA, hA, hT, hZ, hE, hQ, hst, he⟩ := C1
  obtain ⟨hK, hP, hD, hS, hl⟩ := C2
  have hP : va_P D vwCl [((ad 0), .inr (10, [.ref (ad 1), .ref (ad 2), .ref (ad 3), .ref (ad 4), .ref (ad 5), .int (-1), .int 100, .int 0, .int 0])), ((ad 1), .inr (7, [.ref (ad 6), .ref (ad 7), .ref (ad 8), .int 0])), ((ad 2), .inr (8, [.ref (ad 9), .ref (ad 10), .int 0])), ((ad 3), .inr (4, [.int 0, .ref (ad 14), .int 0])), ((ad 4), .inr (4, [.int 0, .ref (ad 14), .int 0])), ((ad 5), .inr (6, [.ref (ad 11), .ref (ad 12), .ref (ad 13), .int 0, .int 0])), ((bd 0), .inr (14, [.ref (bd 1), .ref (bd 2), .ref (bd 3), .ref (bd 4), .ref (bd 5), .ref (bd 6), .int 100, .int (-1), .int 0, .int 0])), ((bd 1), .inr (4, [.int 0, .ref (bd 7), .int 0])), ((bd 2), .inr (4, [.int 0, .ref (bd 7), .int 0])), ((bd 3), .inr (4, [.int 0, .ref (bd 7), .int 0])), ((bd 4), .inr (4, [.int 0, .ref (bd 7), .int 0])), ((bd 5), .inr (4, [.int 0, .ref (bd 7), .int 0])), ((bd 6), .inr (4, [.int 0, .ref (bd 7), .int 0])), ((ad 6), .inl (kC, 12, .inl (fun _ => 0))), ((ad 7), .inl (kI, 36, .inl (fun _ => 0))), (oa, .inl (kO, 1, .inr (.inl (fun _ => 0)))), (od, .inl (kD, 1, .inr (.inr (.inr (.inl (fun _ => 0))))))] H := hP
  have hD : va_D A [((ad 0), .inr (10, [.ref (ad 1), .ref (ad 2), .ref (ad 3), .ref (ad 4), .ref (ad 5), .int (-1), .int 100, .int 0, .int 0])), ((ad 1), .inr (7, [.ref (ad 6), .ref (ad 7), .ref (ad 8), .int 0])), ((ad 2), .inr (8, [.ref (ad 9), .ref (ad 10), .int 0])), ((ad 3), .inr (4, [.int 0, .ref (ad 14), .int 0])), ((ad 4), .inr (4, [.int 0, .ref (ad 14), .int 0])), ((ad 5), .inr (6, [.ref (ad 11), .ref (ad 12), .ref (ad 13), .int 0, .int 0])), ((bd 0), .inr (14, [.ref (bd 1), .ref (bd 2), .ref (bd 3), .ref (bd 4), .ref (bd 5), .ref (bd 6), .int 100, .int (-1), .int 0, .int 0])), ((bd 1), .inr (4, [.int 0, .ref (bd 7), .int 0])), ((bd 2), .inr (4, [.int 0, .ref (bd 7), .int 0])), ((bd 3), .inr (4, [.int 0, .ref (bd 7), .int 0])), ((bd 4), .inr (4, [.int 0, .ref (bd 7), .int 0])), ((bd 5), .inr (4, [.int 0, .ref (bd 7), .int 0])), ((bd 6), .inr (4, [.int 0, .ref (bd 7), .int 0])), ((ad 6), .inl (kC, 12, .inl (fun _ => 0))), ((ad 7), .inl (kI, 36, .inl (fun _ => 0))), (oa, .inl (kO, 1, .inr (.inl (fun _ => 0)))), (od, .inl (kD, 1, .inr (.inr (.inr (.inl (fun _ => 0))))))] := hD
  refine lv_aload_n hx hb dL_law_2143 rfl (lv_at hl 4 rfl) ?_
  refine lv_aload_n hx hb dL_law_2144 rfl (lv_at hl 5 rfl) ?_
  refine lv_iload hx hb dL_law_2145 (lv_at hl 0 rfl) ?_
  refine lv_iconst (v := 1) hx hb dL_law_2147 (by decide) ?_
  refine lv_iadd hx hb dL_law_2148 ?_
  refine lv_topi (fun f_1 ef_1 => ?_)
  obtain rfl : f_1 = 1 := ef_1.trans (by decide)
  refine va_sld (i := 1) hx hb hX hbl hbA hS (by unfold vp_in; decide) dL_law_2149 ?_
  refine lv_aload_n hx hb dL_law_2150 rfl (lv_at hl 5 rfl) ?_
  refine lv_iload hx hb dL_law_2151 (lv_at hl 0 rfl) ?_
  refine lv_iconst (v := 2) hx hb dL_law_2153 (by decide) ?_
  refine lv_iadd hx hb dL_law_2154 ?_
  refine lv_topi (fun f_2 ef_2 => ?_)
  obtain rfl : f_2 = 2 := ef_2.trans (by decide)
  refine va_sld (i := 2) hx hb hX hbl hbA hS (by unfold vp_in; decide) dL_law_2155 ?_
  refine lv_aload_n hx hb dL_law_2156 rfl (lv_at hl 2 rfl) ?_
  have hPc := hP.sub (ws' := [((ad 0), .inr (10, [.ref (ad 1), .ref (ad 2), .ref (ad 3), .ref (ad 4), .ref (ad 5), .int (-1), .int 100, .int 0, .int 0])), ((ad 1), .inr (7, [.ref (ad 6), .ref (ad 7), .ref (ad 8), .int 0])), ((ad 2), .inr (8, [.ref (ad 9), .ref (ad 10), .int 0])), ((ad 3), .inr (4, [.int 0, .ref (ad 14), .int 0])), ((ad 4), .inr (4, [.int 0, .ref (ad 14), .int 0])), ((ad 5), .inr (6, [.ref (ad 11), .ref (ad 12), .ref (ad 13), .int 0, .int 0]))]) [0, 1, 2, 3, 4, 5] rfl
  refine vx_calli (vx_runSX (As := [.ref (ad 0), .int (xs (Int32.toNatClampNeg 1)), .int (xs (Int32.toNatClampNeg 2)), .ref oa]) (rest := []) ⟨hx, hb, hml, hown, hw⟩ (c_L_consent l hst D sa ad _ (xs (Int32.toNatClampNeg 1)) (xs (Int32.toNatClampNeg 2)) oa) (vx_cwSW 4 hw (zg3 zm_1011 zm_1012 zm_44 zm_1013) rfl rfl rfl (by decide +kernel) ⟨Nat.le_of_ble_eq_true rfl, Nat.le_of_ble_eq_true rfl⟩) ⟨zR_blind, zR_pre hPc hK hT hZ hS hA⟩ rfl rfl hl.1 rfl (lv_room (Nat.le_of_ble_eq_true rfl)) dL_law_2157 ⟨Nat.le_of_ble_eq_true rfl, Nat.le_of_ble_eq_true rfl⟩) hS zN_in (zN_fr hS hA) zN_in (fun E ce q9 u t H1 locs1 ht hvm hu hE => hE.elim) (fun r_3 u t H locs ht hvm hw1 hB hz1 hk1 hS => ?_)
  have hP := zN_keep hP hk1
  subst hw1
  refine lv_istore (lv' := [(6, .int 1), (5, .int 0), (4, .ref od), (3, .ref oa), (2, .ref (bd 0)), (1, .ref (ad 0)), (0, .ref b)]) hx hb dL_law_2160 hl (by decide) rfl (fun ls hl => ?_)
  refine lv_aload_n hx hb dL_law_2162 rfl (lv_at hl 4 rfl) ?_
  refine lv_aload_n hx hb dL_law_2163 rfl (lv_at hl 6 rfl) ?_
  refine lv_iload hx hb dL_law_2164 (lv_at hl 1 rfl) ?_
  refine lv_iconst (v := 1) hx hb dL_law_2166 (by decide) ?_
  refine lv_iadd hx hb dL_law_2167 ?_
  refine lv_topi (fun f_4 ef_4 => ?_)
  obtain rfl : f_4 = 1 := ef_4.trans (by decide)
  refine va_sld (i := 1) hx hb hX hbl hbA hS (by unfold vp_in; decide) dL_law_2168 ?_
  refine lv_aload_n hx hb dL_law_2169 rfl (lv_at hl 6 rfl) ?_
  refine lv_iload hx hb dL_law_2170 (lv_at hl 1 rfl) ?_
  refine lv_iconst (v := 2) hx hb dL_law_2172 (by decide) ?_
  refine lv_iadd hx hb dL_law_2173 ?_
  refine lv_topi (fun f_5 ef_5 => ?_)
  obtain rfl : f_5 = 2 := ef_5.trans (by decide)
  refine va_sld (i := 2) hx hb hX hbl hbA hS (by unfold vp_in; decide) dL_law_2174 ?_
  have hPc := hP.sub (ws' := [((bd 0), .inr (14, [.ref (bd 1), .ref (bd 2), .ref (bd 3), .ref (bd 4), .ref (bd 5), .ref (bd 6), .int 100, .int (-1), .int 0, .int 0])), ((bd 1), .inr (4, [.int 0, .ref (bd 7), .int 0])), ((bd 2), .inr (4, [.int 0, .ref (bd 7), .int 0])), ((bd 3), .inr (4, [.int 0, .ref (bd 7), .int 0])), ((bd 4), .inr (4, [.int 0, .ref (bd 7), .int 0])), ((bd 5), .inr (4, [.int 0, .ref (bd 7), .int 0])), ((bd 6), .inr (4, [.int 0, .ref (bd 7), .int 0]))]) [6, 7, 8, 9, 10, 11, 12] rfl
  have hDc := hD.sub (ws' := [((bd 0), .inr (14, [.ref (bd 1), .ref (bd 2), .ref (bd 3), .ref (bd 4), .ref (bd 5), .ref (bd 6), .int 100, .int (-1), .int 0, .int 0])), ((bd 1), .inr (4, [.int 0, .ref (bd 7), .int 0])), ((bd 2), .inr (4, [.int 0, .ref (bd 7), .int 0])), ((bd 3), .inr (4, [.int 0, .ref (bd 7), .int 0])), ((bd 4), .inr (4, [.int 0, .ref (bd 7), .int 0])), ((bd 5), .inr (4, [.int 0, .ref (bd 7), .int 0])), ((bd 6), .inr (4, [.int 0, .ref (bd 7), .int 0]))]) [6, 7, 8, 9, 10, 11, 12] (by decide) rfl
  have hFc := va_free (wc := [((bd 0), .inr (14, [.ref (bd 1), .ref (bd 2), .ref (bd 3), .ref (bd 4), .ref (bd 5), .ref (bd 6), .int 100, .int (-1), .int 0, .int 0])), ((bd 1), .inr (4, [.int 0, .ref (bd 7), .int 0])), ((bd 2), .inr (4, [.int 0, .ref (bd 7), .int 0])), ((bd 3), .inr (4, [.int 0, .ref (bd 7), .int 0])), ((bd 4), .inr (4, [.int 0, .ref (bd 7), .int 0])), ((bd 5), .inr (4, [.int 0, .ref (bd 7), .int 0])), ((bd 6), .inr (4, [.int 0, .ref (bd 7), .int 0]))]) hD hS hA [6, 7, 8, 9, 10, 11, 12] rfl
  refine va_calli (va_runV (As := [.int (xs (Int32.toNatClampNeg 1)), .int (xs (Int32.toNatClampNeg 2))]) (rest := []) ⟨hx, hb, hml, hown, hw⟩ (c_X9_consent l D sa ea bd 0 _ (xs (Int32.toNatClampNeg 1)) (xs (Int32.toNatClampNeg 2))) (cwV 2 hw (zg4 zm_1681 zm_1682 zm_1683 zm_53 zm_1684) rfl rfl rfl (by decide +kernel) ⟨Nat.le_of_ble_eq_true rfl, Nat.le_of_ble_eq_true rfl⟩) ⟨zW_blind, va_recv hK hPc (ci := 14) (q0 := 0) rfl rfl, zW_pre hPc (hK.sub (tys' := []) [] rfl) hDc hT hE hS hFc⟩ rfl rfl hl.1 rfl (lv_room (Nat.le_of_ble_eq_true rfl)) dL_law_2175 ⟨Nat.le_of_ble_eq_true rfl, Nat.le_of_ble_eq_true rfl⟩) hS (fun q _ h => hFc q h) hFc (fun r_6 u t H locs ht hvm hw1 hB hz1 hk1 hS => ?_)
  subst hw1
  obtain ⟨hP1, hD1⟩ := hB
  rw [ht] at hP1
  obtain ⟨hP, hD⟩ := va_join (wr := [((ad 0), .inr (10, [.ref (ad 1), .ref (ad 2), .ref (ad 3), .ref (ad 4), .ref (ad 5), .int (-1), .int 100, .int 0, .int 0])), ((ad 1), .inr (7, [.ref (ad 6), .ref (ad 7), .ref (ad 8), .int 0])), ((ad 2), .inr (8, [.ref (ad 9), .ref (ad 10), .int 0])), ((ad 3), .inr (4, [.int 0, .ref (ad 14), .int 0])), ((ad 4), .inr (4, [.int 0, .ref (ad 14), .int 0])), ((ad 5), .inr (6, [.ref (ad 11), .ref (ad 12), .ref (ad 13), .int 0, .int 0])), ((ad 6), .inl (kC, 12, .inl (fun _ => 0))), ((ad 7), .inl (kI, 36, .inl (fun _ => 0))), (oa, .inl (kO, 1, .inr (.inl (fun _ => 0)))), (od, .inl (kD, 1, .inr (.inr (.inr (.inl (fun _ => 0))))))]) (w1 := [((bd 0), .inr (14, [.ref (bd 1), .ref (bd 2), .ref (bd 3), .ref (bd 4), .ref (bd 5), .ref (bd 6), .int 100, .int (-1), .int 0, .int 1])), ((bd 1), .inr (4, [.int 0, .ref (bd 7), .int 0])), ((bd 2), .inr (4, [.int 0, .ref (bd 7), .int 0])), ((bd 3), .inr (4, [.int 0, .ref (bd 7), .int 0])), ((bd 4), .inr (4, [.int 0, .ref (bd 7), .int 0])), ((bd 5), .inr (4, [.int 0, .ref (bd 7), .int 0])), ((bd 6), .inr (4, [.int 0, .ref (bd 7), .int 0]))]) hP hD [6, 7, 8, 9, 10, 11, 12] [0, 1, 2, 3, 4, 5, 13, 14, 15, 16] rfl rfl (by decide) (by decide) hk1 hFc hP1 hD1
  have hP : va_P D vwCl [((ad 0), .inr (10, [.ref (ad 1), .ref (ad 2), .ref (ad 3), .ref (ad 4), .ref (ad 5), .int (-1), .int 100, .int 0, .int 0])), ((ad 1), .inr (7, [.ref (ad 6), .ref (ad 7), .ref (ad 8), .int 0])), ((ad 2), .inr (8, [.ref (ad 9), .ref (ad 10), .int 0])), ((ad 3), .inr (4, [.int 0, .ref (ad 14), .int 0])), ((ad 4), .inr (4, [.int 0, .ref (ad 14), .int 0])), ((ad 5), .inr (6, [.ref (ad 11), .ref (ad 12), .ref (ad 13), .int 0, .int 0])), ((ad 6), .inl (kC, 12, .inl (fun _ => 0))), ((ad 7), .inl (kI, 36, .inl (fun _ => 0))), (oa, .inl (kO, 1, .inr (.inl (fun _ => 0)))), (od, .inl (kD, 1, .inr (.inr (.inr (.inl (fun _ => 0)))))), ((bd 0), .inr (14, [.ref (bd 1), .ref (bd 2), .ref (bd 3), .ref (bd 4), .ref (bd 5), .ref (bd 6), .int 100, .int (-1), .int 0, .int 1])), ((bd 1), .inr (4, [.int 0, .ref (bd 7), .int 0])), ((bd 2), .inr (4, [.int 0, .ref (bd 7), .int 0])), ((bd 3), .inr (4, [.int 0, .ref (bd 7), .int 0])), ((bd 4), .inr (4, [.int 0, .ref (bd 7), .int 0])), ((bd 5), .inr (4, [.int 0, .ref (bd 7), .int 0])), ((bd 6), .inr (4, [.int 0, .ref (bd 7), .int 0]))] H := hP
  have hD : va_D A [((ad 0), .inr (10, [.ref (ad 1), .ref (ad 2), .ref (ad 3), .ref (ad 4), .ref (ad 5), .int (-1), .int 100, .int 0, .int 0])), ((ad 1), .inr (7, [.ref (ad 6), .ref (ad 7), .ref (ad 8), .int 0])), ((ad 2), .inr (8, [.ref (ad 9), .ref (ad 10), .int 0])), ((ad 3), .inr (4, [.int 0, .ref (ad 14), .int 0])), ((ad 4), .inr (4, [.int 0, .ref (ad 14), .int 0])), ((ad 5), .inr (6, [.ref (ad 11), .ref (ad 12), .ref (ad 13), .int 0, .int 0])), ((ad 6), .inl (kC, 12, .inl (fun _ => 0))), ((ad 7), .inl (kI, 36, .inl (fun _ => 0))), (oa, .inl (kO, 1, .inr (.inl (fun _ => 0)))), (od, .inl (kD, 1, .inr (.inr (.inr (.inl (fun _ => 0)))))), ((bd 0), .inr (14, [.ref (bd 1), .ref (bd 2), .ref (bd 3), .ref (bd 4), .ref (bd 5), .ref (bd 6), .int 100, .int (-1), .int 0, .int 1])), ((bd 1), .inr (4, [.int 0, .ref (bd 7), .int 0])), ((bd 2), .inr (4, [.int 0, .ref (bd 7), .int 0])), ((bd 3), .inr (4, [.int 0, .ref (bd 7), .int 0])), ((bd 4), .inr (4, [.int 0, .ref (bd 7), .int 0])), ((bd 5), .inr (4, [.int 0, .ref (bd 7), .int 0])), ((bd 6), .inr (4, [.int 0, .ref (bd 7), .int 0]))] := hD
  have hK : va_K D vwCl [(kC, .char), (kI, .int), (kO, .long), (kD, .double)] s := hK
  refine lv_istore (lv' := [(7, .int 0), (6, .int 1), (5, .int 0), (4, .ref od), (3, .ref oa), (2, .ref (bd 0)), (1, .ref (ad 0)), (0, .ref b)]) hx hb dL_law_2178 hl (by decide) rfl (fun ls hl => ?_)
  refine lv_aload_n hx hb dL_law_2180 rfl (lv_at hl 5 rfl) ?_
  have hPc := hP.sub (ws' := [((bd 0), .inr (14, [.ref (bd 1), .ref (bd 2), .ref (bd 3), .ref (bd 4), .ref (bd 5), .ref (bd 6), .int 100, .int (-1), .int 0, .int 1])), ((bd 1), .inr (4, [.int 0, .ref (bd 7), .int 0])), ((bd 2), .inr (4, [.int 0, .ref (bd 7), .int 0])), ((bd 3), .inr (4, [.int 0, .ref (bd 7), .int 0])), ((bd 4), .inr (4, [.int 0, .ref (bd 7), .int 0])), ((bd 5), .inr (4, [.int 0, .ref (bd 7), .int 0])), ((bd 6), .inr (4, [.int 0, .ref (bd 7), .int 0]))]) [10, 11, 12, 13, 14, 15, 16] rfl
  refine va_calli (va_runV (As := []) (rest := []) ⟨hx, hb, hml, hown, hw⟩ (c_X9_thrown l D sa bd 1 _) (cwV 0 hw (zg4 zm_1303 zm_1304 zm_1305 zm_53 zm_1306) rfl rfl rfl (by decide +kernel) ⟨Nat.le_of_ble_eq_true rfl, Nat.le_of_ble_eq_true rfl⟩) ⟨zJ_blind, va_recv hK hPc (ci := 14) (q0 := 0) rfl rfl, zJ_pre hPc hK hT⟩ rfl rfl hl.1 rfl (lv_room (Nat.le_of_ble_eq_true rfl)) dL_law_2181 ⟨Nat.le_of_ble_eq_true rfl, Nat.le_of_ble_eq_true rfl⟩) hS zN_in (zN_fr hS hA) (fun r_7 u t H locs ht hvm hw1 hB hz1 hk1 hS => ?_)
  have hP := zN_keep hP hk1
  subst hw1
  refine lv_iload hx hb dL_law_2184 (lv_at hl 1 rfl) ?_
  refine lv_icmp_eq (tgt := 2191) hx hb dL_law_2186 (by decide) (fun _ => ?_) (fun c_8 => absurd (by decide) c_8)
  refine lv_iload hx hb dL_law_2191 (lv_at hl 1 rfl) ?_
  refine lv_if_ne (tgt := 2215) hx hb dL_law_2193 (by decide) (fun _ => ?_) (fun c_9 => absurd c_9 (by decide))
  refine lv_goto (tgt := 3449) hx hb dL_law_2215 (by decide) ?_
  refine W.widen (k := 2000) (n := 20000) (Nat.le_of_ble_eq_true rfl) (Nat.le_of_ble_eq_true rfl) ?_
  exact hend _ _ _ hS (lv_sub hl [2, 7] rfl)
theorem dL_law_2218 : decode cL_law 2218 = .ok (.aload_n 1, 1) := by decide +kernel
theorem dL_law_2219 : decode cL_law 2219 = .ok (.aload_n 0, 1) := by decide +kernel
theorem dL_law_2220 : decode cL_law 2220 = .ok (.iload 5, 2) := by decide +kernel
theorem dL_law_2222 : decode cL_law 2222 = .ok (.iconst 1, 1) := by decide +kernel
theorem dL_law_2223 : decode cL_law 2223 = .ok (.iadd, 1) := by decide +kernel
theorem dL_law_2224 : decode cL_law 2224 = .ok (.iaload, 1) := by decide +kernel
theorem dL_law_2225 : decode cL_law 2225 = .ok (.aload_n 0, 1) := by decide +kernel
theorem dL_law_2226 : decode cL_law 2226 = .ok (.iload 5, 2) := by decide +kernel
theorem dL_law_2228 : decode cL_law 2228 = .ok (.iconst 2, 1) := by decide +kernel
theorem dL_law_2229 : decode cL_law 2229 = .ok (.iadd, 1) := by decide +kernel
theorem dL_law_2230 : decode cL_law 2230 = .ok (.iaload, 1) := by decide +kernel
theorem dL_law_2231 : decode cL_law 2231 = .ok (.aload_n 3, 1) := by decide +kernel
theorem dL_law_2232 : decode cL_law 2232 = .ok (.invokestatic 274, 3) := by decide +kernel
theorem zm_1023 : Cond.methodLink RL 274 yL_mayWeave ∈ WA := zmm (i := 1023) (by decide +kernel) (by decide +kernel)
theorem zm_1024 : Cond.static yL_mayWeave ∈ WA := zmm (i := 1024) (by decide +kernel) (by decide +kernel)
theorem zm_1025 : Cond.codeWith yL_mayWeave method_31_code 5 (Option.some FieldType.int) [(0, 17, 20, 23), (0, 17, 24, 13)] ∈ WA := zmm (i := 1025) (by decide +kernel) (by decide +kernel)
theorem dL_law_2235 : decode cL_law 2235 = .ok (.istore 6, 2) := by decide +kernel
theorem dL_law_2237 : decode cL_law 2237 = .ok (.aload_n 2, 1) := by decide +kernel
theorem dL_law_2238 : decode cL_law 2238 = .ok (.aload_n 0, 1) := by decide +kernel
theorem dL_law_2239 : decode cL_law 2239 = .ok (.iload 5, 2) := by decide +kernel
theorem dL_law_2241 : decode cL_law 2241 = .ok (.iconst 1, 1) := by decide +kernel
theorem dL_law_2242 : decode cL_law 2242 = .ok (.iadd, 1) := by decide +kernel
theorem dL_law_2243 : decode cL_law 2243 = .ok (.iaload, 1) := by decide +kernel
theorem dL_law_2244 : decode cL_law 2244 = .ok (.aload_n 0, 1) := by decide +kernel
theorem dL_law_2245 : decode cL_law 2245 = .ok (.iload 5, 2) := by decide +kernel
theorem dL_law_2247 : decode cL_law 2247 = .ok (.iconst 2, 1) := by decide +kernel
theorem dL_law_2248 : decode cL_law 2248 = .ok (.iadd, 1) := by decide +kernel
theorem dL_law_2249 : decode cL_law 2249 = .ok (.iaload, 1) := by decide +kernel
theorem dL_law_2250 : decode cL_law 2250 = .ok (.invokevirtual 276, 3) := by decide +kernel
theorem zm_1685 : Cond.methodLink RL 276 yX9_mayWeave ∈ WA := zmm (i := 1685) (by decide +kernel) (by decide +kernel)
theorem zm_1686 : Cond.instanceMethod yX9_mayWeave ∈ WA := zmm (i := 1686) (by decide +kernel) (by decide +kernel)
theorem zm_1687 : Cond.selects RX9 yX9_mayWeave yX9_mayWeave ∈ WA := zmm (i := 1687) (by decide +kernel) (by decide +kernel)
theorem zm_1688 : Cond.code yX9_mayWeave prog_8_method_47_code 3 (Option.some FieldType.boolean) ∈ WA := zmm (i := 1688) (by decide +kernel) (by decide +kernel)
theorem dL_law_2253 : decode cL_law 2253 = .ok (.istore 7, 2) := by decide +kernel
theorem dL_law_2255 : decode cL_law 2255 = .ok (.aload_n 2, 1) := by decide +kernel
theorem dL_law_2256 : decode cL_law 2256 = .ok (.invokevirtual 179, 3) := by decide +kernel
theorem dL_law_2259 : decode cL_law 2259 = .ok (.iload 6, 2) := by decide +kernel
theorem dL_law_2261 : decode cL_law 2261 = .ok (.if_icmp .eq 5, 3) := by decide +kernel
theorem dL_law_2266 : decode cL_law 2266 = .ok (.iload 6, 2) := by decide +kernel
theorem dL_law_2268 : decode cL_law 2268 = .ok (.ifCond .ne 22, 3) := by decide +kernel
theorem dL_law_2290 : decode cL_law 2290 = .ok (.goto 1159, 3) := by decide +kernel
set_option maxHeartbeats 4000000 in
set_option maxRecDepth 100000 in
theorem law_29 {p : Program} {e : Env} {s : State} {m : MethodId} {below : List Frame} {meth : Method} {c : Code} {l : Launch} {D : va_G} {A : Nat → Prop} {sa : Nat → Nat} {ea : Nat} {ad bd : Nat → Nat} {kC kI kO kD : ClassId} {oa od b : Nat} {xs : Nat → Int32} {Q : State → Prop} (C1 : zLw p l s m c b xs A sa ea bd) (hend : ∀ (H : Heap) (locs : List Loc) (ls : Array Slot), va_S A s.heap H locs → lv_has ls 9 [(5, .int 0), (0, .ref b)] → W p l e room_1 s m #[Value.ref b] below meth c H locs 2000 20000 Q (F0 m 3449 ls [])) {H : Heap} {locs : List Loc} {ls : Array Slot} (C2 : zSt D s A ad bd kC kI kO kD oa od b H locs ls) : W p l e room_1 s m #[Value.ref b] below meth c H locs 1000 10000 Q (F0 m 2218 ls []) := by
  obtain ⟨hx, hb, hml, hown, hw, hX, hbl, hbA, hA, hT, hZ, hE, hQ, hst, he⟩ := C1
  obtain ⟨hK, hP, hD, hS, hl⟩ := C2
  have hP : va_P D vwCl [((ad 0), .inr (10, [.ref (ad 1), .ref (ad 2), .ref (ad 3), .ref (ad 4), .ref (ad 5), .int (-1), .int 100, .int 0, .int 0])), ((ad 1), .inr (7, [.ref (ad 6), .ref (ad 7), .ref (ad 8), .int 0])), ((ad 2), .inr (8, [.ref (ad 9), .ref (ad 10), .int 0])), ((ad 3), .inr (4, [.int 0, .ref (ad 14), .int 0])), ((ad 4), .inr (4, [.int 0, .ref (ad 14), .int 0])), ((ad 5), .inr (6, [.ref (ad 11), .ref (ad 12), .ref (ad 13), .int 0, .int 0])), ((bd 0), .inr (14, [.ref (bd 1), .ref (bd 2), .ref (bd 3), .ref (bd 4), .ref (bd 5), .ref (bd 6), .int 100, .int (-1), .int 0, .int 0])), ((bd 1), .inr (4, [.int 0, .ref (bd 7), .int 0])), ((bd 2), .inr (4, [.int 0, .ref (bd 7), .int 0])), ((bd 3), .inr (4, [.int 0, .ref (bd 7), .int 0])), ((bd 4), .inr (4, [.int 0, .ref (bd 7), .int 0])), ((bd 5), .inr (4, [.int 0, .ref (bd 7), .int 0])), ((bd 6), .inr (4, [.int 0, .ref (bd 7), .int 0])), ((ad 6), .inl (kC, 12, .inl (fun _ => 0))), ((ad 7), .inl (kI, 36, .inl (fun _ => 0))), (oa, .inl (kO, 1, .inr (.inl (fun _ => 0)))), (od, .inl (kD, 1, .inr (.inr (.inr (.inl (fun _ => 0))))))] H := hP
  have hD : va_D A [((ad 0), .inr (10, [.ref (ad 1), .ref (ad 2), .ref (ad 3), .ref (ad 4), .ref (ad 5), .int (-1), .int 100, .int 0, .int 0])), ((ad 1), .inr (7, [.ref (ad 6), .ref (ad 7), .ref (ad 8), .int 0])), ((ad 2), .inr (8, [.ref (ad 9), .ref (ad 10), .int 0])), ((ad 3), .inr (4, [.int 0, .ref (ad 14), .int 0])), ((ad 4), .inr (4, [.int 0, .ref (ad 14), .int 0])), ((ad 5), .inr (6, [.ref (ad 11), .ref (ad 12), .ref (ad 13), .int 0, .int 0])), ((bd 0), .inr (14, [.ref (bd 1), .ref (bd 2), .ref (bd 3), .ref (bd 4), .ref (bd 5), .ref (bd 6), .int 100, .int (-1), .int 0, .int 0])), ((bd 1), .inr (4, [.int 0, .ref (bd 7), .int 0])), ((bd 2), .inr (4, [.int 0, .ref (bd 7), .int 0])), ((bd 3), .inr (4, [.int 0, .ref (bd 7), .int 0])), ((bd 4), .inr (4, [.int 0, .ref (bd 7), .int 0])), ((bd 5), .inr (4, [.int 0, .ref (bd 7), .int 0])), ((bd 6), .inr (4, [.int 0, .ref (bd 7), .int 0])), ((ad 6), .inl (kC, 12, .inl (fun _ => 0))), ((ad 7), .inl (kI, 36, .inl (fun _ => 0))), (oa, .inl (kO, 1, .inr (.inl (fun _ => 0)))), (od, .inl (kD, 1, .inr (.inr (.inr (.inl (fun _ => 0))))))] := hD
  refine lv_aload_n hx hb dL_law_2218 rfl (lv_at hl 4 rfl) ?_
  refine lv_aload_n hx hb dL_law_2219 rfl (lv_at hl 5 rfl) ?_
  refine lv_iload hx hb dL_law_2220 (lv_at hl 0 rfl) ?_
  refine lv_iconst (v := 1) hx hb dL_law_2222 (by decide) ?_
  refine lv_iadd hx hb dL_law_2223 ?_
  refine lv_topi (fun f_1 ef_1 => ?_)
  obtain rfl : f_1 = 1 := ef_1.trans (by decide)
  refine va_sld (i := 1) hx hb hX hbl hbA hS (by unfold vp_in; decide) dL_law_2224 ?_
  refine lv_aload_n hx hb dL_law_2225 rfl (lv_at hl 5 rfl) ?_
  refine lv_iload hx hb dL_law_2226 (lv_at hl 0 rfl) ?_
  refine lv_iconst (v := 2) hx hb dL_law_2228 (by decide) ?_
  refine lv_iadd hx hb dL_law_2229 ?_
  refine lv_topi (fun f_2 ef_2 => ?_)
  obtain rfl : f_2 = 2 := ef_2.trans (by decide)
  refine va_sld (i := 2) hx hb hX hbl hbA hS (by unfold vp_in; decide) dL_law_2230 ?_
  refine lv_aload_n hx hb dL_law_2231 rfl (lv_at hl 2 rfl) ?_
  have hPc := hP.sub (ws' := [((ad 0), .inr (10, [.ref (ad 1), .ref (ad 2), .ref (ad 3), .ref (ad 4), .ref (ad 5), .int (-1), .int 100, .int 0, .int 0])), ((ad 1), .inr (7, [.ref (ad 6), .ref (ad 7), .ref (ad 8), .int 0])), ((ad 2), .inr (8, [.ref (ad 9), .ref (ad 10), .int 0])), ((ad 3), .inr (4, [.int 0, .ref (ad 14), .int 0])), ((ad 4), .inr (4, [.int 0, .ref (ad 14), .int 0])), ((ad 5), .inr (6, [.ref (ad 11), .ref (ad 12), .ref (ad 13), .int 0, .int 0]))]) [0, 1, 2, 3, 4, 5] rfl
  refine vx_calli (vx_runSX (As := [.ref (ad 0), .int (xs (Int32.toNatClampNeg 1)), .int (xs (Int32.toNatClampNeg 2)), .ref oa]) (rest := []) ⟨hx, hb, hml, hown, hw⟩ (c_L_mayWeave l hst D sa ad _ (xs (Int32.toNatClampNeg 1)) (xs (Int32.toNatClampNeg 2)) oa) (vx_cwSW 4 hw (zg3 zm_1023 zm_1024 zm_44 zm_1025) rfl rfl rfl (by decide +kernel) ⟨Nat.le_of_ble_eq_true rfl, Nat.le_of_ble_eq_true rfl⟩) ⟨zR_blind, zR_pre hPc hK hT hZ hS hA⟩ rfl rfl hl.1 rfl (lv_room (Nat.le_of_ble_eq_true rfl)) dL_law_2232 ⟨Nat.le_of_ble_eq_true rfl, Nat.le_of_ble_eq_true rfl⟩) hS zN_in (zN_fr hS hA) zN_in (fun E ce q9 u t H1 locs1 ht hvm hu hE => hE.elim) (fun r_3 u t H locs ht hvm hw1 hB hz1 hk1 hS => ?_)
  have hP := zN_keep hP hk1
  subst hw1
  refine lv_istore (lv' := [(6, .int 1), (5, .int 0), (4, .ref od), (3, .ref oa), (2, .ref (bd 0)), (1, .ref (ad 0)), (0, .ref b)]) hx hb dL_law_2235 hl (by decide) rfl (fun ls hl => ?_)
  refine lv_aload_n hx hb dL_law_2237 rfl (lv_at hl 4 rfl) ?_
  refine lv_aload_n hx hb dL_law_2238 rfl (lv_at hl 6 rfl) ?_
  refine lv_iload hx hb dL_law_2239 (lv_at hl 1 rfl) ?_
  refine lv_iconst (v := 1) hx hb dL_law_2241 (by decide) ?_
  refine lv_iadd hx hb dL_law_2242 ?_
  refine lv_topi (fun f_4 ef_4 => ?_)
  obtain rfl : f_4 = 1 := ef_4.trans (by decide)
  refine va_sld (i := 1) hx hb hX hbl hbA hS (by unfold vp_in; decide) dL_law_2243 ?_
  refine lv_aload_n hx hb dL_law_2244 rfl (lv_at hl 6 rfl) ?_
  refine lv_iload hx hb dL_law_2245 (lv_at hl 1 rfl) ?_
  refine lv_iconst (v := 2) hx hb dL_law_2247 (by decide) ?_
  refine lv_iadd hx hb dL_law_2248 ?_
  refine lv_topi (fun f_5 ef_5 => ?_)
  obtain rfl : f_5 = 2 := ef_5.trans (by decide)
  refine va_sld (i := 2) hx hb hX hbl hbA hS (by unfold vp_in; decide) dL_law_2249 ?_
  have hPc := hP.sub (ws' := [((bd 0), .inr (14, [.ref (bd 1), .ref (bd 2), .ref (bd 3), .ref (bd 4), .ref (bd 5), .ref (bd 6), .int 100, .int (-1), .int 0, .int 0])), ((bd 1), .inr (4, [.int 0, .ref (bd 7), .int 0])), ((bd 2), .inr (4, [.int 0, .ref (bd 7), .int 0])), ((bd 3), .inr (4, [.int 0, .ref (bd 7), .int 0])), ((bd 4), .inr (4, [.int 0, .ref (bd 7), .int 0])), ((bd 5), .inr (4, [.int 0, .ref (bd 7), .int 0])), ((bd 6), .inr (4, [.int 0, .ref (bd 7), .int 0]))]) [6, 7, 8, 9, 10, 11, 12] rfl
  have hDc := hD.sub (ws' := [((bd 0), .inr (14, [.ref (bd 1), .ref (bd 2), .ref (bd 3), .ref (bd 4), .ref (bd 5), .ref (bd 6), .int 100, .int (-1), .int 0, .int 0])), ((bd 1), .inr (4, [.int 0, .ref (bd 7), .int 0])), ((bd 2), .inr (4, [.int 0, .ref (bd 7), .int 0])), ((bd 3), .inr (4, [.int 0, .ref (bd 7), .int 0])), ((bd 4), .inr (4, [.int 0, .ref (bd 7), .int 0])), ((bd 5), .inr (4, [.int 0, .ref (bd 7), .int 0])), ((bd 6), .inr (4, [.int 0, .ref (bd 7), .int 0]))]) [6, 7, 8, 9, 10, 11, 12] (by decide) rfl
  have hFc := va_free (wc := [((bd 0), .inr (14, [.ref (bd 1), .ref (bd 2), .ref (bd 3), .ref (bd 4), .ref (bd 5), .ref (bd 6), .int 100, .int (-1), .int 0, .int 0])), ((bd 1), .inr (4, [.int 0, .ref (bd 7), .int 0])), ((bd 2), .inr (4, [.int 0, .ref (bd 7), .int 0])), ((bd 3), .inr (4, [.int 0, .ref (bd 7), .int 0])), ((bd 4), .inr (4, [.int 0, .ref (bd 7), .int 0])), ((bd 5), .inr (4, [.int 0, .ref (bd 7), .int 0])), ((bd 6), .inr (4, [.int 0, .ref (bd 7), .int 0]))]) hD hS hA [6, 7, 8, 9, 10, 11, 12] rfl
  refine va_calli (va_runV (As := [.int (xs (Int32.toNatClampNeg 1)), .int (xs (Int32.toNatClampNeg 2))]) (rest := []) ⟨hx, hb, hml, hown, hw⟩ (c_X9_mayWeave l D sa ea bd 0 _ (xs (Int32.toNatClampNeg 1)) (xs (Int32.toNatClampNeg 2))) (cwV 2 hw (zg4 zm_1685 zm_1686 zm_1687 zm_53 zm_1688) rfl rfl rfl (by decide +kernel) ⟨Nat.le_of_ble_eq_true rfl, Nat.le_of_ble_eq_true rfl⟩) ⟨zW_blind, va_recv hK hPc (ci := 14) (q0 := 0) rfl rfl, zW_pre hPc (hK.sub (tys' := []) [] rfl) hDc hT hE hS hFc⟩ rfl rfl hl.1 rfl (lv_room (Nat.le_of_ble_eq_true rfl)) dL_law_2250 ⟨Nat.le_of_ble_eq_true rfl, Nat.le_of_ble_eq_true rfl⟩) hS (fun q _ h => hFc q h) hFc (fun r_6 u t H locs ht hvm hw1 hB hz1 hk1 hS => ?_)
  subst hw1
  obtain ⟨hP1, hD1⟩ := hB
  rw [ht] at hP1
  obtain ⟨hP, hD⟩ := va_join (wr := [((ad 0), .inr (10, [.ref (ad 1), .ref (ad 2), .ref (ad 3), .ref (ad 4), .ref (ad 5), .int (-1), .int 100, .int 0, .int 0])), ((ad 1), .inr (7, [.ref (ad 6), .ref (ad 7), .ref (ad 8), .int 0])), ((ad 2), .inr (8, [.ref (ad 9), .ref (ad 10), .int 0])), ((ad 3), .inr (4, [.int 0, .ref (ad 14), .int 0])), ((ad 4), .inr (4, [.int 0, .ref (ad 14), .int 0])), ((ad 5), .inr (6, [.ref (ad 11), .ref (ad 12), .ref (ad 13), .int 0, .int 0])), ((ad 6), .inl (kC, 12, .inl (fun _ => 0))), ((ad 7), .inl (kI, 36, .inl (fun _ => 0))), (oa, .inl (kO, 1, .inr (.inl (fun _ => 0)))), (od, .inl (kD, 1, .inr (.inr (.inr (.inl (fun _ => 0))))))]) (w1 := [((bd 0), .inr (14, [.ref (bd 1), .ref (bd 2), .ref (bd 3), .ref (bd 4), .ref (bd 5), .ref (bd 6), .int 100, .int (-1), .int 0, .int 1])), ((bd 1), .inr (4, [.int 0, .ref (bd 7), .int 0])), ((bd 2), .inr (4, [.int 0, .ref (bd 7), .int 0])), ((bd 3), .inr (4, [.int 0, .ref (bd 7), .int 0])), ((bd 4), .inr (4, [.int 0, .ref (bd 7), .int 0])), ((bd 5), .inr (4, [.int 0, .ref (bd 7), .int 0])), ((bd 6), .inr (4, [.int 0, .ref (bd 7), .int 0]))]) hP hD [6, 7, 8, 9, 10, 11, 12] [0, 1, 2, 3, 4, 5, 13, 14, 15, 16] rfl rfl (by decide) (by decide) hk1 hFc hP1 hD1
  have hP : va_P D vwCl [((ad 0), .inr (10, [.ref (ad 1), .ref (ad 2), .ref (ad 3), .ref (ad 4), .ref (ad 5), .int (-1), .int 100, .int 0, .int 0])), ((ad 1), .inr (7, [.ref (ad 6), .ref (ad 7), .ref (ad 8), .int 0])), ((ad 2), .inr (8, [.ref (ad 9), .ref (ad 10), .int 0])), ((ad 3), .inr (4, [.int 0, .ref (ad 14), .int 0])), ((ad 4), .inr (4, [.int 0, .ref (ad 14), .int 0])), ((ad 5), .inr (6, [.ref (ad 11), .ref (ad 12), .ref (ad 13), .int 0, .int 0])), ((ad 6), .inl (kC, 12, .inl (fun _ => 0))), ((ad 7), .inl (kI, 36, .inl (fun _ => 0))), (oa, .inl (kO, 1, .inr (.inl (fun _ => 0)))), (od, .inl (kD, 1, .inr (.inr (.inr (.inl (fun _ => 0)))))), ((bd 0), .inr (14, [.ref (bd 1), .ref (bd 2), .ref (bd 3), .ref (bd 4), .ref (bd 5), .ref (bd 6), .int 100, .int (-1), .int 0, .int 1])), ((bd 1), .inr (4, [.int 0, .ref (bd 7), .int 0])), ((bd 2), .inr (4, [.int 0, .ref (bd 7), .int 0])), ((bd 3), .inr (4, [.int 0, .ref (bd 7), .int 0])), ((bd 4), .inr (4, [.int 0, .ref (bd 7), .int 0])), ((bd 5), .inr (4, [.int 0, .ref (bd 7), .int 0])), ((bd 6), .inr (4, [.int 0, .ref (bd 7), .int 0]))] H := hP
  have hD : va_D A [((ad 0), .inr (10, [.ref (ad 1), .ref (ad 2), .ref (ad 3), .ref (ad 4), .ref (ad 5), .int (-1), .int 100, .int 0, .int 0])), ((ad 1), .inr (7, [.ref (ad 6), .ref (ad 7), .ref (ad 8), .int 0])), ((ad 2), .inr (8, [.ref (ad 9), .ref (ad 10), .int 0])), ((ad 3), .inr (4, [.int 0, .ref (ad 14), .int 0])), ((ad 4), .inr (4, [.int 0, .ref (ad 14), .int 0])), ((ad 5), .inr (6, [.ref (ad 11), .ref (ad 12), .ref (ad 13), .int 0, .int 0])), ((ad 6), .inl (kC, 12, .inl (fun _ => 0))), ((ad 7), .inl (kI, 36, .inl (fun _ => 0))), (oa, .inl (kO, 1, .inr (.inl (fun _ => 0)))), (od, .inl (kD, 1, .inr (.inr (.inr (.inl (fun _ => 0)))))), ((bd 0), .inr (14, [.ref (bd 1), .ref (bd 2), .ref (bd 3), .ref (bd 4), .ref (bd 5), .ref (bd 6), .int 100, .int (-1), .int 0, .int 1])), ((bd 1), .inr (4, [.int 0, .ref (bd 7), .int 0])), ((bd 2), .inr (4, [.int 0, .ref (bd 7), .int 0])), ((bd 3), .inr (4, [.int 0, .ref (bd 7), .int 0])), ((bd 4), .inr (4, [.int 0, .ref (bd 7), .int 0])), ((bd 5), .inr (4, [.int 0, .ref (bd 7), .int 0])), ((bd 6), .inr (4, [.int 0, .ref (bd 7), .int 0]))] := hD
  have hK : va_K D vwCl [(kC, .char), (kI, .int), (kO, .long), (kD, .double)] s := hK
  refine lv_istore (lv' := [(7, .int 0), (6, .int 1), (5, .int 0), (4, .ref od), (3, .ref oa), (2, .ref (bd 0)), (1, .ref (ad 0)), (0, .ref b)]) hx hb dL_law_2253 hl (by decide) rfl (fun ls hl => ?_)
  refine lv_aload_n hx hb dL_law_2255 rfl (lv_at hl 5 rfl) ?_
  have hPc := hP.sub (ws' := [((bd 0), .inr (14, [.ref (bd 1), .ref (bd 2), .ref (bd 3), .ref (bd 4), .ref (bd 5), .ref (bd 6), .int 100, .int (-1), .int 0, .int 1])), ((bd 1), .inr (4, [.int 0, .ref (bd 7), .int 0])), ((bd 2), .inr (4, [.int 0, .ref (bd 7), .int 0])), ((bd 3), .inr (4, [.int 0, .ref (bd 7), .int 0])), ((bd 4), .inr (4, [.int 0, .ref (bd 7), .int 0])), ((bd 5), .inr (4, [.int 0, .ref (bd 7), .int 0])), ((bd 6), .inr (4, [.int 0, .ref (bd 7), .int 0]))]) [10, 11, 12, 13, 14, 15, 16] rfl
  refine va_calli (va_runV (As := []) (rest := []) ⟨hx, hb, hml, hown, hw⟩ (c_X9_thrown l D sa bd 1 _) (cwV 0 hw (zg4 zm_1303 zm_1304 zm_1305 zm_53 zm_1306) rfl rfl rfl (by decide +kernel) ⟨Nat.le_of_ble_eq_true rfl, Nat.le_of_ble_eq_true rfl⟩) ⟨zJ_blind, va_recv hK hPc (ci := 14) (q0 := 0) rfl rfl, zJ_pre hPc hK hT⟩ rfl rfl hl.1 rfl (lv_room (Nat.le_of_ble_eq_true rfl)) dL_law_2256 ⟨Nat.le_of_ble_eq_true rfl, Nat.le_of_ble_eq_true rfl⟩) hS zN_in (zN_fr hS hA) (fun r_7 u t H locs ht hvm hw1 hB hz1 hk1 hS => ?_)
  have hP := zN_keep hP hk1
  subst hw1
  refine lv_iload hx hb dL_law_2259 (lv_at hl 1 rfl) ?_
  refine lv_icmp_eq (tgt := 2266) hx hb dL_law_2261 (by decide) (fun _ => ?_) (fun c_8 => absurd (by decide) c_8)
  refine lv_iload hx hb dL_law_2266 (lv_at hl 1 rfl) ?_
  refine lv_if_ne (tgt := 2290) hx hb dL_law_2268 (by decide) (fun _ => ?_) (fun c_9 => absurd c_9 (by decide))
  refine lv_goto (tgt := 3449) hx hb dL_law_2290 (by decide) ?_
  refine W.widen (k := 2000) (n := 20000) (Nat.le_of_ble_eq_true rfl) (Nat.le_of_ble_eq_true rfl) ?_
  exact hend _ _ _ hS (lv_sub hl [2, 7] rfl)
theorem dL_law_2293 : decode cL_law 2293 = .ok (.aload_n 1, 1) := by decide +kernel
theorem dL_law_2294 : decode cL_law 2294 = .ok (.aload_n 0, 1) := by decide +kernel
theorem dL_law_2295 : decode cL_law 2295 = .ok (.iload 5, 2) := by decide +kernel
theorem dL_law_2297 : decode cL_law 2297 = .ok (.iconst 1, 1) := by decide +kernel
theorem dL_law_2298 : decode cL_law 2298 = .ok (.iadd, 1) := by decide +kernel
theorem dL_law_2299 : decode cL_law 2299 = .ok (.iaload, 1) := by decide +kernel
theorem dL_law_2300 : decode cL_law 2300 = .ok (.aload_n 3, 1) := by decide +kernel
theorem dL_law_2301 : decode cL_law 2301 = .ok (.invokestatic 277, 3) := by decide +kernel
theorem zm_1038 : Cond.methodLink RL 277 yL_rightOf ∈ WA := zmm (i := 1038) (by decide +kernel) (by decide +kernel)
theorem zm_1039 : Cond.static yL_rightOf ∈ WA := zmm (i := 1039) (by decide +kernel) (by decide +kernel)
theorem zm_1040 : Cond.codeWith yL_rightOf method_32_code 4 (Option.some FieldType.int) [(0, 9, 12, 23), (0, 9, 15, 46)] ∈ WA := zmm (i := 1040) (by decide +kernel) (by decide +kernel)
theorem dL_law_2304 : decode cL_law 2304 = .ok (.istore 6, 2) := by decide +kernel
theorem dL_law_2306 : decode cL_law 2306 = .ok (.aload_n 2, 1) := by decide +kernel
theorem dL_law_2307 : decode cL_law 2307 = .ok (.aload_n 0, 1) := by decide +kernel
theorem dL_law_2308 : decode cL_law 2308 = .ok (.iload 5, 2) := by decide +kernel
theorem dL_law_2310 : decode cL_law 2310 = .ok (.iconst 1, 1) := by decide +kernel
theorem dL_law_2311 : decode cL_law 2311 = .ok (.iadd, 1) := by decide +kernel
theorem dL_law_2312 : decode cL_law 2312 = .ok (.iaload, 1) := by decide +kernel
theorem dL_law_2313 : decode cL_law 2313 = .ok (.invokevirtual 279, 3) := by decide +kernel
theorem zm_1697 : Cond.methodLink RL 279 yX9_rightOf ∈ WA := zmm (i := 1697) (by decide +kernel) (by decide +kernel)
theorem zm_1698 : Cond.instanceMethod yX9_rightOf ∈ WA := zmm (i := 1698) (by decide +kernel) (by decide +kernel)
theorem zm_1699 : Cond.selects RX9 yX9_rightOf yX9_rightOf ∈ WA := zmm (i := 1699) (by decide +kernel) (by decide +kernel)
theorem zm_1700 : Cond.code yX9_rightOf prog_8_method_48_code 3 (Option.some FieldType.int) ∈ WA := zmm (i := 1700) (by decide +kernel) (by decide +kernel)
theorem dL_law_2316 : decode cL_law 2316 = .ok (.istore 7, 2) := by decide +kernel
theorem dL_law_2318 : decode cL_law 2318 = .ok (.aload_n 2, 1) := by decide +kernel
theorem dL_law_2319 : decode cL_law 2319 = .ok (.invokevirtual 179, 3) := by decide +kernel
theorem dL_law_2322 : decode cL_law 2322 = .ok (.iload 6, 2) := by decide +kernel
theorem dL_law_2324 : decode cL_law 2324 = .ok (.if_icmp .eq 5, 3) := by decide +kernel
theorem dL_law_2329 : decode cL_law 2329 = .ok (.iload 6, 2) := by decide +kernel
theorem dL_law_2331 : decode cL_law 2331 = .ok (.ifCond .ne 15, 3) := by decide +kernel
theorem dL_law_2346 : decode cL_law 2346 = .ok (.goto 1103, 3) := by decide +kernel
set_option maxHeartbeats 4000000 in
set_option maxRecDepth 100000 in
theorem law_30 {p : Program} {e : Env} {s : State} {m : MethodId} {below : List Frame} {meth : Method} {c : Code} {l : Launch} {D : va_G} {A : Nat → Prop} {sa : Nat → Nat} {ea : Nat} {ad bd : Nat → Nat} {kC kI kO kD : ClassId} {oa od b : Nat} {xs : Nat → Int32} {Q : State → Prop} (C1 : zLw p l s m c b xs A sa ea bd) (hend : ∀ (H : Heap) (locs : List Loc) (ls : Array Slot), va_S A s.heap H locs → lv_has ls 9 [(5, .int 0), (0, .ref b)] → W p l e room_1 s m #[Value.ref b] below meth c H locs 2000 20000 Q (F0 m 3449 ls [])) {H : Heap} {locs : List Loc} {ls : Array Slot} (C2 : zSt D s A ad bd kC kI kO kD oa od b H locs ls) : W p l e room_1 s m #[Value.ref b] below meth c H locs 1000 10000 Q (F0 m 2293 ls []) := by
  obtain ⟨hx, hb, hml, hown, hw, hX, hbl, hbA, hA, hT, hZ, hE, hQ, hst, he⟩ := C1
  obtain ⟨hK, hP, hD, hS, hl⟩ := C2
  have hP : va_P D vwCl [((ad 0), .inr (10, [.ref (ad 1), .ref (ad 2), .ref (ad 3), .ref (ad 4), .ref (ad 5), .int (-1), .int 100, .int 0, .int 0])), ((ad 1), .inr (7, [.ref (ad 6), .ref (ad 7), .ref (ad 8), .int 0])), ((ad 2), .inr (8, [.ref (ad 9), .ref (ad 10), .int 0])), ((ad 3), .inr (4, [.int 0, .ref (ad 14), .int 0])), ((ad 4), .inr (4, [.int 0, .ref (ad 14), .int 0])), ((ad 5), .inr (6, [.ref (ad 11), .ref (ad 12), .ref (ad 13), .int 0, .int 0])), ((bd 0), .inr (14, [.ref (bd 1), .ref (bd 2), .ref (bd 3), .ref (bd 4), .ref (bd 5), .ref (bd 6), .int 100, .int (-1), .int 0, .int 0])), ((bd 1), .inr (4, [.int 0, .ref (bd 7), .int 0])), ((bd 2), .inr (4, [.int 0, .ref (bd 7), .int 0])), ((bd 3), .inr (4, [.int 0, .ref (bd 7), .int 0])), ((bd 4), .inr (4, [.int 0, .ref (bd 7), .int 0])), ((bd 5), .inr (4, [.int 0, .ref (bd 7), .int 0])), ((bd 6), .inr (4, [.int 0, .ref (bd 7), .int 0])), ((ad 6), .inl (kC, 12, .inl (fun _ => 0))), ((ad 7), .inl (kI, 36, .inl (fun _ => 0))), (oa, .inl (kO, 1, .inr (.inl (fun _ => 0)))), (od, .inl (kD, 1, .inr (.inr (.inr (.inl (fun _ => 0))))))] H := hP
  have hD : va_D A [((ad 0), .inr (10, [.ref (ad 1), .ref (ad 2), .ref (ad 3), .ref (ad 4), .ref (ad 5), .int (-1), .int 100, .int 0, .int 0])), ((ad 1), .inr (7, [.ref (ad 6), .ref (ad 7), .ref (ad 8), .int 0])), ((ad 2), .inr (8, [.ref (ad 9), .ref (ad 10), .int 0])), ((ad 3), .inr (4, [.int 0, .ref (ad 14), .int 0])), ((ad 4), .inr (4, [.int 0, .ref (ad 14), .int 0])), ((ad 5), .inr (6, [.ref (ad 11), .ref (ad 12), .ref (ad 13), .int 0, .int 0])), ((bd 0), .inr (14, [.ref (bd 1), .ref (bd 2), .ref (bd 3), .ref (bd 4), .ref (bd 5), .ref (bd 6), .int 100, .int (-1), .int 0, .int 0])), ((bd 1), .inr (4, [.int 0, .ref (bd 7), .int 0])), ((bd 2), .inr (4, [.int 0, .ref (bd 7), .int 0])), ((bd 3), .inr (4, [.int 0, .ref (bd 7), .int 0])), ((bd 4), .inr (4, [.int 0, .ref (bd 7), .int 0])), ((bd 5), .inr (4, [.int 0, .ref (bd 7), .int 0])), ((bd 6), .inr (4, [.int 0, .ref (bd 7), .int 0])), ((ad 6), .inl (kC, 12, .inl (fun _ => 0))), ((ad 7), .inl (kI, 36, .inl (fun _ => 0))), (oa, .inl (kO, 1, .inr (.inl (fun _ => 0)))), (od, .inl (kD, 1, .inr (.inr (.inr (.inl (fun _ => 0))))))] := hD
  refine lv_aload_n hx hb dL_law_2293 rfl (lv_at hl 4 rfl) ?_
  refine lv_aload_n hx hb dL_law_2294 rfl (lv_at hl 5 rfl) ?_
  refine lv_iload hx hb dL_law_2295 (lv_at hl 0 rfl) ?_
  refine lv_iconst (v := 1) hx hb dL_law_2297 (by decide) ?_
  refine lv_iadd hx hb dL_law_2298 ?_
  refine lv_topi (fun f_1 ef_1 => ?_)
  obtain rfl : f_1 = 1 := ef_1.trans (by decide)
  refine va_sld (i := 1) hx hb hX hbl hbA hS (by unfold vp_in; decide) dL_law_2299 ?_
  refine lv_aload_n hx hb dL_law_2300 rfl (lv_at hl 2 rfl) ?_
  have hPc := hP.sub (ws' := [((ad 0), .inr (10, [.ref (ad 1), .ref (ad 2), .ref (ad 3), .ref (ad 4), .ref (ad 5), .int (-1), .int 100, .int 0, .int 0])), ((ad 1), .inr (7, [.ref (ad 6), .ref (ad 7), .ref (ad 8), .int 0])), ((ad 2), .inr (8, [.ref (ad 9), .ref (ad 10), .int 0])), ((ad 3), .inr (4, [.int 0, .ref (ad 14), .int 0])), ((ad 4), .inr (4, [.int 0, .ref (ad 14), .int 0])), ((ad 5), .inr (6, [.ref (ad 11), .ref (ad 12), .ref (ad 13), .int 0, .int 0]))]) [0, 1, 2, 3, 4, 5] rfl
  refine vx_calli (vx_runSX (As := [.ref (ad 0), .int (xs (Int32.toNatClampNeg 1)), .ref oa]) (rest := []) ⟨hx, hb, hml, hown, hw⟩ (c_L_rightOf l hst D sa ad _ (xs (Int32.toNatClampNeg 1)) oa) (vx_cwSW 3 hw (zg3 zm_1038 zm_1039 zm_44 zm_1040) rfl rfl rfl (by decide +kernel) ⟨Nat.le_of_ble_eq_true rfl, Nat.le_of_ble_eq_true rfl⟩) ⟨zR_blind, zR_pre hPc hK hT hZ hS hA⟩ rfl rfl hl.1 rfl (lv_room (Nat.le_of_ble_eq_true rfl)) dL_law_2301 ⟨Nat.le_of_ble_eq_true rfl, Nat.le_of_ble_eq_true rfl⟩) hS zN_in (zN_fr hS hA) zN_in (fun E ce q9 u t H1 locs1 ht hvm hu hE => hE.elim) (fun r_2 u t H locs ht hvm hw1 hB hz1 hk1 hS => ?_)
  have hP := zN_keep hP hk1
  subst hw1
  refine lv_istore (lv' := [(6, .int 1), (5, .int 0), (4, .ref od), (3, .ref oa), (2, .ref (bd 0)), (1, .ref (ad 0)), (0, .ref b)]) hx hb dL_law_2304 hl (by decide) rfl (fun ls hl => ?_)
  refine lv_aload_n hx hb dL_law_2306 rfl (lv_at hl 4 rfl) ?_
  refine lv_aload_n hx hb dL_law_2307 rfl (lv_at hl 6 rfl) ?_
  refine lv_iload hx hb dL_law_2308 (lv_at hl 1 rfl) ?_
  refine lv_iconst (v := 1) hx hb dL_law_2310 (by decide) ?_
  refine lv_iadd hx hb dL_law_2311 ?_
  refine lv_topi (fun f_3 ef_3 => ?_)
  obtain rfl : f_3 = 1 := ef_3.trans (by decide)
  refine va_sld (i := 1) hx hb hX hbl hbA hS (by unfold vp_in; decide) dL_law_2312 ?_
  have hPc := hP.sub (ws' := [((bd 0), .inr (14, [.ref (bd 1), .ref (bd 2), .ref (bd 3), .ref (bd 4), .ref (bd 5), .ref (bd 6), .int 100, .int (-1), .int 0, .int 0])), ((bd 1), .inr (4, [.int 0, .ref (bd 7), .int 0])), ((bd 2), .inr (4, [.int 0, .ref (bd 7), .int 0])), ((bd 3), .inr (4, [.int 0, .ref (bd 7), .int 0])), ((bd 4), .inr (4, [.int 0, .ref (bd 7), .int 0])), ((bd 5), .inr (4, [.int 0, .ref (bd 7), .int 0])), ((bd 6), .inr (4, [.int 0, .ref (bd 7), .int 0]))]) [6, 7, 8, 9, 10, 11, 12] rfl
  have hDc := hD.sub (ws' := [((bd 0), .inr (14, [.ref (bd 1), .ref (bd 2), .ref (bd 3), .ref (bd 4), .ref (bd 5), .ref (bd 6), .int 100, .int (-1), .int 0, .int 0])), ((bd 1), .inr (4, [.int 0, .ref (bd 7), .int 0])), ((bd 2), .inr (4, [.int 0, .ref (bd 7), .int 0])), ((bd 3), .inr (4, [.int 0, .ref (bd 7), .int 0])), ((bd 4), .inr (4, [.int 0, .ref (bd 7), .int 0])), ((bd 5), .inr (4, [.int 0, .ref (bd 7), .int 0])), ((bd 6), .inr (4, [.int 0, .ref (bd 7), .int 0]))]) [6, 7, 8, 9, 10, 11, 12] (by decide) rfl
  have hFc := va_free (wc := [((bd 0), .inr (14, [.ref (bd 1), .ref (bd 2), .ref (bd 3), .ref (bd 4), .ref (bd 5), .ref (bd 6), .int 100, .int (-1), .int 0, .int 0])), ((bd 1), .inr (4, [.int 0, .ref (bd 7), .int 0])), ((bd 2), .inr (4, [.int 0, .ref (bd 7), .int 0])), ((bd 3), .inr (4, [.int 0, .ref (bd 7), .int 0])), ((bd 4), .inr (4, [.int 0, .ref (bd 7), .int 0])), ((bd 5), .inr (4, [.int 0, .ref (bd 7), .int 0])), ((bd 6), .inr (4, [.int 0, .ref (bd 7), .int 0]))]) hD hS hA [6, 7, 8, 9, 10, 11, 12] rfl
  refine va_calli (va_runV (As := [.int (xs (Int32.toNatClampNeg 1))]) (rest := []) ⟨hx, hb, hml, hown, hw⟩ (c_X9_rightOf l D sa ea bd 0 _ (xs (Int32.toNatClampNeg 1))) (cwV 1 hw (zg4 zm_1697 zm_1698 zm_1699 zm_53 zm_1700) rfl rfl rfl (by decide +kernel) ⟨Nat.le_of_ble_eq_true rfl, Nat.le_of_ble_eq_true rfl⟩) ⟨zW_blind, va_recv hK hPc (ci := 14) (q0 := 0) rfl rfl, zW_pre hPc (hK.sub (tys' := []) [] rfl) hDc hT hE hS hFc⟩ rfl rfl hl.1 rfl (lv_room (Nat.le_of_ble_eq_true rfl)) dL_law_2313 ⟨Nat.le_of_ble_eq_true rfl, Nat.le_of_ble_eq_true rfl⟩) hS (fun q _ h => hFc q h) hFc (fun r_4 u t H locs ht hvm hw1 hB hz1 hk1 hS => ?_)
  subst hw1
  obtain ⟨hP1, hD1⟩ := hB
  rw [ht] at hP1
  obtain ⟨hP, hD⟩ := va_join (wr := [((ad 0), .inr (10, [.ref (ad 1), .ref (ad 2), .ref (ad 3), .ref (ad 4), .ref (ad 5), .int (-1), .int 100, .int 0, .int 0])), ((ad 1), .inr (7, [.ref (ad 6), .ref (ad 7), .ref (ad 8), .int 0])), ((ad 2), .inr (8, [.ref (ad 9), .ref (ad 10), .int 0])), ((ad 3), .inr (4, [.int 0, .ref (ad 14), .int 0])), ((ad 4), .inr (4, [.int 0, .ref (ad 14), .int 0])), ((ad 5), .inr (6, [.ref (ad 11), .ref (ad 12), .ref (ad 13), .int 0, .int 0])), ((ad 6), .inl (kC, 12, .inl (fun _ => 0))), ((ad 7), .inl (kI, 36, .inl (fun _ => 0))), (oa, .inl (kO, 1, .inr (.inl (fun _ => 0)))), (od, .inl (kD, 1, .inr (.inr (.inr (.inl (fun _ => 0))))))]) (w1 := [((bd 0), .inr (14, [.ref (bd 1), .ref (bd 2), .ref (bd 3), .ref (bd 4), .ref (bd 5), .ref (bd 6), .int 100, .int (-1), .int 0, .int 1])), ((bd 1), .inr (4, [.int 0, .ref (bd 7), .int 0])), ((bd 2), .inr (4, [.int 0, .ref (bd 7), .int 0])), ((bd 3), .inr (4, [.int 0, .ref (bd 7), .int 0])), ((bd 4), .inr (4, [.int 0, .ref (bd 7), .int 0])), ((bd 5), .inr (4, [.int 0, .ref (bd 7), .int 0])), ((bd 6), .inr (4, [.int 0, .ref (bd 7), .int 0]))]) hP hD [6, 7, 8, 9, 10, 11, 12] [0, 1, 2, 3, 4, 5, 13, 14, 15, 16] rfl rfl (by decide) (by decide) hk1 hFc hP1 hD1
  have hP : va_P D vwCl [((ad 0), .inr (10, [.ref (ad 1), .ref (ad 2), .ref (ad 3), .ref (ad 4), .ref (ad 5), .int (-1), .int 100, .int 0, .int 0])), ((ad 1), .inr (7, [.ref (ad 6), .ref (ad 7), .ref (ad 8), .int 0])), ((ad 2), .inr (8, [.ref (ad 9), .ref (ad 10), .int 0])), ((ad 3), .inr (4, [.int 0, .ref (ad 14), .int 0])), ((ad 4), .inr (4, [.int 0, .ref (ad 14), .int 0])), ((ad 5), .inr (6, [.ref (ad 11), .ref (ad 12), .ref (ad 13), .int 0, .int 0])), ((ad 6), .inl (kC, 12, .inl (fun _ => 0))), ((ad 7), .inl (kI, 36, .inl (fun _ => 0))), (oa, .inl (kO, 1, .inr (.inl (fun _ => 0)))), (od, .inl (kD, 1, .inr (.inr (.inr (.inl (fun _ => 0)))))), ((bd 0), .inr (14, [.ref (bd 1), .ref (bd 2), .ref (bd 3), .ref (bd 4), .ref (bd 5), .ref (bd 6), .int 100, .int (-1), .int 0, .int 1])), ((bd 1), .inr (4, [.int 0, .ref (bd 7), .int 0])), ((bd 2), .inr (4, [.int 0, .ref (bd 7), .int 0])), ((bd 3), .inr (4, [.int 0, .ref (bd 7), .int 0])), ((bd 4), .inr (4, [.int 0, .ref (bd 7), .int 0])), ((bd 5), .inr (4, [.int 0, .ref (bd 7), .int 0])), ((bd 6), .inr (4, [.int 0, .ref (bd 7), .int 0]))] H := hP
  have hD : va_D A [((ad 0), .inr (10, [.ref (ad 1), .ref (ad 2), .ref (ad 3), .ref (ad 4), .ref (ad 5), .int (-1), .int 100, .int 0, .int 0])), ((ad 1), .inr (7, [.ref (ad 6), .ref (ad 7), .ref (ad 8), .int 0])), ((ad 2), .inr (8, [.ref (ad 9), .ref (ad 10), .int 0])), ((ad 3), .inr (4, [.int 0, .ref (ad 14), .int 0])), ((ad 4), .inr (4, [.int 0, .ref (ad 14), .int 0])), ((ad 5), .inr (6, [.ref (ad 11), .ref (ad 12), .ref (ad 13), .int 0, .int 0])), ((ad 6), .inl (kC, 12, .inl (fun _ => 0))), ((ad 7), .inl (kI, 36, .inl (fun _ => 0))), (oa, .inl (kO, 1, .inr (.inl (fun _ => 0)))), (od, .inl (kD, 1, .inr (.inr (.inr (.inl (fun _ => 0)))))), ((bd 0), .inr (14, [.ref (bd 1), .ref (bd 2), .ref (bd 3), .ref (bd 4), .ref (bd 5), .ref (bd 6), .int 100, .int (-1), .int 0, .int 1])), ((bd 1), .inr (4, [.int 0, .ref (bd 7), .int 0])), ((bd 2), .inr (4, [.int 0, .ref (bd 7), .int 0])), ((bd 3), .inr (4, [.int 0, .ref (bd 7), .int 0])), ((bd 4), .inr (4, [.int 0, .ref (bd 7), .int 0])), ((bd 5), .inr (4, [.int 0, .ref (bd 7), .int 0])), ((bd 6), .inr (4, [.int 0, .ref (bd 7), .int 0]))] := hD
  have hK : va_K D vwCl [(kC, .char), (kI, .int), (kO, .long), (kD, .double)] s := hK
  refine lv_istore (lv' := [(7, .int 0), (6, .int 1), (5, .int 0), (4, .ref od), (3, .ref oa), (2, .ref (bd 0)), (1, .ref (ad 0)), (0, .ref b)]) hx hb dL_law_2316 hl (by decide) rfl (fun ls hl => ?_)
  refine lv_aload_n hx hb dL_law_2318 rfl (lv_at hl 5 rfl) ?_
  have hPc := hP.sub (ws' := [((bd 0), .inr (14, [.ref (bd 1), .ref (bd 2), .ref (bd 3), .ref (bd 4), .ref (bd 5), .ref (bd 6), .int 100, .int (-1), .int 0, .int 1])), ((bd 1), .inr (4, [.int 0, .ref (bd 7), .int 0])), ((bd 2), .inr (4, [.int 0, .ref (bd 7), .int 0])), ((bd 3), .inr (4, [.int 0, .ref (bd 7), .int 0])), ((bd 4), .inr (4, [.int 0, .ref (bd 7), .int 0])), ((bd 5), .inr (4, [.int 0, .ref (bd 7), .int 0])), ((bd 6), .inr (4, [.int 0, .ref (bd 7), .int 0]))]) [10, 11, 12, 13, 14, 15, 16] rfl
  refine va_calli (va_runV (As := []) (rest := []) ⟨hx, hb, hml, hown, hw⟩ (c_X9_thrown l D sa bd 1 _) (cwV 0 hw (zg4 zm_1303 zm_1304 zm_1305 zm_53 zm_1306) rfl rfl rfl (by decide +kernel) ⟨Nat.le_of_ble_eq_true rfl, Nat.le_of_ble_eq_true rfl⟩) ⟨zJ_blind, va_recv hK hPc (ci := 14) (q0 := 0) rfl rfl, zJ_pre hPc hK hT⟩ rfl rfl hl.1 rfl (lv_room (Nat.le_of_ble_eq_true rfl)) dL_law_2319 ⟨Nat.le_of_ble_eq_true rfl, Nat.le_of_ble_eq_true rfl⟩) hS zN_in (zN_fr hS hA) (fun r_5 u t H locs ht hvm hw1 hB hz1 hk1 hS => ?_)
  have hP := zN_keep hP hk1
  subst hw1
  refine lv_iload hx hb dL_law_2322 (lv_at hl 1 rfl) ?_
  refine lv_icmp_eq (tgt := 2329) hx hb dL_law_2324 (by decide) (fun _ => ?_) (fun c_6 => absurd (by decide) c_6)
  refine lv_iload hx hb dL_law_2329 (lv_at hl 1 rfl) ?_
  refine lv_if_ne (tgt := 2346) hx hb dL_law_2331 (by decide) (fun _ => ?_) (fun c_7 => absurd c_7 (by decide))
  refine lv_goto (tgt := 3449) hx hb dL_law_2346 (by decide) ?_
  refine W.widen (k := 2000) (n := 20000) (Nat.le_of_ble_eq_true rfl) (Nat.le_of_ble_eq_true rfl) ?_
  exact hend _ _ _ hS (lv_sub hl [2, 7] rfl)
