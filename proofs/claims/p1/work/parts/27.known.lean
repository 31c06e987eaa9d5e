theorem zi_RJ0 : ∀ w ∈ u_ws RJ0 TJ0 2, w ∈ WA := zma (by decide +kernel) (by decide +kernel)
theorem zm_506 : Cond.instantiable RJ0 4 ∈ WA := zmm (i := 506) (by decide +kernel) (by decide +kernel)
theorem zi_RJ6 : ∀ w ∈ u_ws RJ6 TJ6 1, w ∈ WA := zma (by decide +kernel) (by decide +kernel)
theorem zm_1733 : Cond.instantiable RJ6 1 ∈ WA := zmm (i := 1733) (by decide +kernel) (by decide +kernel)
theorem zi_RJx00060 : ∀ w ∈ u_ws RJx00060 TJx00060 6, w ∈ WA := zma (by decide +kernel) (by decide +kernel)
theorem zm_488 : Cond.instantiable RJx00060 6 ∈ WA := zmm (i := 488) (by decide +kernel) (by decide +kernel)
theorem zi_RX0 : ∀ w ∈ u_ws RX0 TX0 3, w ∈ WA := zma (by decide +kernel) (by decide +kernel)
theorem zm_1149 : Cond.instantiable RX0 3 ∈ WA := zmm (i := 1149) (by decide +kernel) (by decide +kernel)
theorem zi_RX4 : ∀ w ∈ u_ws RX4 TX4 14, w ∈ WA := zma (by decide +kernel) (by decide +kernel)
theorem zm_600 : Cond.instantiable RX4 14 ∈ WA := zmm (i := 600) (by decide +kernel) (by decide +kernel)
theorem zm_80 : Cond.instantiable RX5 9 ∈ WA := zmm (i := 80) (by decide +kernel) (by decide +kernel)
theorem zi_RX6 : ∀ w ∈ u_ws RX6 TX6 2, w ∈ WA := zma (by decide +kernel) (by decide +kernel)
theorem zm_1771 : Cond.instantiable RX6 2 ∈ WA := zmm (i := 1771) (by decide +kernel) (by decide +kernel)
theorem zi_RX7 : ∀ w ∈ u_ws RX7 TX7 7, w ∈ WA := zma (by decide +kernel) (by decide +kernel)
theorem zm_1461 : Cond.instantiable RX7 7 ∈ WA := zmm (i := 1461) (by decide +kernel) (by decide +kernel)
theorem zi_RX8 : ∀ w ∈ u_ws RX8 TX8 2, w ∈ WA := zma (by decide +kernel) (by decide +kernel)
theorem zm_1426 : Cond.instantiable RX8 2 ∈ WA := zmm (i := 1426) (by decide +kernel) (by decide +kernel)
theorem zm_1265 : Cond.instantiable RX9 10 ∈ WA := zmm (i := 1265) (by decide +kernel) (by decide +kernel)
theorem zK_of {s : State} {args : Array Value} (hw : ∀ w ∈ WA, w.before args s = true) : ∃ D : va_G, va_K D vwCl [] s := by
  obtain ⟨c0, i0, k0⟩ := u_known (C := RJ0) (T := TJ0) (N := 2) (n := 4) hw zi_RJ0 (hw _ zm_506)
  obtain ⟨c1, i1, k1⟩ := u_known (C := RJ6) (T := TJ6) (N := 1) (n := 1) hw zi_RJ6 (hw _ zm_1733)
  obtain ⟨c2, i2, k2⟩ := u_known (C := RJx00060) (T := TJx00060) (N := 6) (n := 6) hw zi_RJx00060 (hw _ zm_488)
  obtain ⟨c3, i3, k3⟩ := u_known (C := RJx35411) (T := TJx35411) (N := 4) (n := 4) hw zi_RJx35411 (hw _ zm_1329)
  obtain ⟨c4, i4, k4⟩ := u_known (C := RJx4a65c) (T := TJx4a65c) (N := 3) (n := 3) hw zi_RJx4a65c (hw _ zm_131)
  obtain ⟨c5, i5, k5⟩ := u_known (C := RX0) (T := TX0) (N := 3) (n := 3) hw zi_RX0 (hw _ zm_1149)
  obtain ⟨c6, i6, k6⟩ := u_known (C := RX1) (T := TX1) (N := 5) (n := 5) hw zi_RX1 (hw _ zm_160)
  obtain ⟨c7, i7, k7⟩ := u_known (C := RX2) (T := TX2) (N := 4) (n := 4) hw zi_RX2 (hw _ zm_88)
  obtain ⟨c8, i8, k8⟩ := u_known (C := RX3) (T := TX3) (N := 3) (n := 3) hw zi_RX3 (hw _ zm_109)
  obtain ⟨c9, i9, k9⟩ := u_known (C := RX4) (T := TX4) (N := 14) (n := 14) hw zi_RX4 (hw _ zm_600)
  obtain ⟨c10, i10, k10⟩ := u_known (C := RX5) (T := TX5) (N := 9) (n := 9) hw zi_RX5 (hw _ zm_80)
  obtain ⟨c11, i11, k11⟩ := u_known (C := RX6) (T := TX6) (N := 2) (n := 2) hw zi_RX6 (hw _ zm_1771)
  obtain ⟨c12, i12, k12⟩ := u_known (C := RX7) (T := TX7) (N := 7) (n := 7) hw zi_RX7 (hw _ zm_1461)
  obtain ⟨c13, i13, k13⟩ := u_known (C := RX8) (T := TX8) (N := 2) (n := 2) hw zi_RX8 (hw _ zm_1426)
  obtain ⟨c14, i14, k14⟩ := u_known (C := RX9) (T := TX9) (N := 10) (n := 10) hw zi_RX9 (hw _ zm_1265)
  refine ⟨(fun k => ([c0, c1, c2, c3, c4, c5, c6, c7, c8, c9, c10, c11, c12, c13, c14] : List ClassId).getD k c0, fun k => ([i0, i1, i2, i3, i4, i5, i6, i7, i8, i9, i10, i11, i12, i13, i14] : List (Nat → Nat)).getD k i0), fun k q hq => ?_, fun k q h => by simp at h⟩
  match k, hq with
  | 0, hq => cases hq; exact k0
  | 1, hq => cases hq; exact k1
  | 2, hq => cases hq; exact k2
  | 3, hq => cases hq; exact k3
  | 4, hq => cases hq; exact k4
  | 5, hq => cases hq; exact k5
  | 6, hq => cases hq; exact k6
  | 7, hq => cases hq; exact k7
  | 8, hq => cases hq; exact k8
  | 9, hq => cases hq; exact k9
  | 10, hq => cases hq; exact k10
  | 11, hq => cases hq; exact k11
  | 12, hq => cases hq; exact k12
  | 13, hq => cases hq; exact k13
  | 14, hq => cases hq; exact k14
  | k + 15, hq => simp [vwCl] at hq
