def lh_S0 : lh_S := (fun _ => 0, fun _ _ => 0, fun _ _ _ => 0, fun _ _ _ => 0, fun _ _ _ => none)
theorem lh_W0 {D : va_G} {cT : Nat → ClassId} {ad : Nat → Nat → Nat} {A : Nat → Prop} {H : Heap} : lh_W D cT lh_S0 ad A H :=
  ⟨[], fun k q h => by simp at h, ⟨fun i j p q h => by simp at h, fun k q h => by simp at h⟩, fun a i h => absurd h (Nat.not_lt_zero _), fun a i b j h => absurd h (Nat.not_lt_zero _), fun a i k t j h => absurd h (Nat.not_lt_zero _)⟩
theorem lh_arr1 {s : State} {args : Array Value} {ty : FieldType} (h : (Cond.arrayClass ty).before args s = true) : ∃ c, ArrOfT s c ty ∧ s.vm.findClass ("[" ++ ty.toString) = some c := by
  obtain ⟨c, k, comp, h1, h2, h3⟩ := Cond.arrayClass_spec h
  exact ⟨c, fun n z => ⟨(fun k h => by cases h), k, h2, comp, h3⟩, h1⟩
theorem lh_arr2 {s : State} {args : Array Value} {C : String} (h : (Cond.arrayOver (.object C)).before args s = true) : ∃ c, ArrOfT s c (.object C) ∧ va_RA s c (.object C) := by
  obtain ⟨comp, c, k, h1, h2, h3, h4, h5⟩ := Cond.arrayOver_spec h
  exact ⟨c, fun n z => ⟨(fun k h => by cases h), k, h3, comp, h4⟩, k, comp, h3, h4, h1, h5⟩
set_option maxHeartbeats 4000000 in
set_option maxRecDepth 100000 in
/-- what the tables say of the classes and arrays at the law's entry -/
theorem lh_known {p : Program} {s : State} {m : MethodId} {meth : Method} {c : Code} {b L : Nat} {xs : Nat → Int32} (C0 : lw_At p s m meth c b L xs) : ∃ (D : va_G) (cT : Nat → ClassId), lh_K D cT s ∧ lh_N s := by
  obtain ⟨hx, hb, hr, hml, hown, hts, hX, hbl, hlocks, hgv⟩ := C0
  obtain ⟨c0, i0, k0⟩ := u_known (C := RX0) (T := TX0) (N := 3) (n := 3) hts inX0 (hts (.instantiable RX0 3) (by decide +kernel))
  obtain ⟨c1, i1, k1⟩ := u_known (C := RX1) (T := TX1) (N := 7) (n := 7) hts inX1 (hts (.instantiable RX1 7) (by decide +kernel))
  obtain ⟨c2, i2, k2⟩ := u_known (C := RX2) (T := TX2) (N := 7) (n := 7) hts inX2 (hts (.instantiable RX2 7) (by decide +kernel))
  obtain ⟨c3, i3, k3⟩ := u_known (C := RX3) (T := TX3) (N := 2) (n := 2) hts inX3 (hts (.instantiable RX3 2) (by decide +kernel))
  obtain ⟨c4, i4, k4⟩ := u_known (C := RX4) (T := TX4) (N := 6) (n := 6) hts inX4 (hts (.instantiable RX4 6) (by decide +kernel))
  obtain ⟨c5, i5, k5⟩ := u_known (C := RX5) (T := TX5) (N := 6) (n := 6) hts inX5 (hts (.instantiable RX5 6) (by decide +kernel))
  obtain ⟨c6, i6, k6⟩ := u_known (C := RX6) (T := TX6) (N := 4) (n := 4) hts inX6 (hts (.instantiable RX6 4) (by decide +kernel))
  obtain ⟨c7, i7, k7⟩ := u_known (C := RX7) (T := TX7) (N := 2) (n := 2) hts inX7 (hts (.instantiable RX7 2) (by decide +kernel))
  obtain ⟨c8, i8, k8⟩ := u_known (C := RX8) (T := TX8) (N := 4) (n := 4) hts inX8 (hts (.instantiable RX8 4) (by decide +kernel))
  obtain ⟨c9, i9, k9⟩ := u_known (C := RX9) (T := TX9) (N := 10) (n := 10) hts inX9 (hts (.instantiable RX9 10) (by decide +kernel))
  obtain ⟨c10, i10, k10⟩ := u_known (C := RX10) (T := TX10) (N := 42) (n := 42) hts inX10 (hts (.instantiable RX10 42) (by decide +kernel))
  obtain ⟨a0, b0, d0⟩ := lh_arr1 (hts (.arrayClass .int) (by decide +kernel))
  obtain ⟨a1, b1, d1⟩ := lh_arr1 (hts (.arrayClass .boolean) (by decide +kernel))
  obtain ⟨a2, b2, d2⟩ := lh_arr1 (hts (.arrayClass .long) (by decide +kernel))
  have e3 := hts (.arrayOver (.object RX0)) (by decide +kernel)
  obtain ⟨a3, b3, d3⟩ := lh_arr2 e3
  have e4 := hts (.arrayOver (.object RX1)) (by decide +kernel)
  obtain ⟨a4, b4, d4⟩ := lh_arr2 e4
  have e5 := hts (.arrayOver (.object RX2)) (by decide +kernel)
  obtain ⟨a5, b5, d5⟩ := lh_arr2 e5
  have e6 := hts (.arrayOver (.object RX5)) (by decide +kernel)
  obtain ⟨a6, b6, d6⟩ := lh_arr2 e6
  have e7 := hts (.arrayOver (.object RX7)) (by decide +kernel)
  obtain ⟨a7, b7, d7⟩ := lh_arr2 e7
  have e8 := hts (.arrayOver (.object RX8)) (by decide +kernel)
  obtain ⟨a8, b8, d8⟩ := lh_arr2 e8
  refine ⟨(fun k => [c0, c1, c2, c3, c4, c5, c6, c7, c8, c9, c10].getD k 0, fun k => [i0, i1, i2, i3, i4, i5, i6, i7, i8, i9, i10].getD k (fun _ => 0)), fun k => [a0, a1, a2, a3, a4, a5, a6, a7, a8].getD k 0, ⟨?_, ?_⟩, ?_⟩
  · intro k q hq
    match k, hq with
    | 0, hq => cases hq; exact k0
    | 1, hq => cases hq; exact k1
    | 2, hq => cases hq; exact k2
    | 3, hq => cases hq; exact k3
    | 4, hq => cases hq; exact k4
    | 5, hq => cases hq; exact k5
    | 6, hq => cases hq; exact k6
    | 7, hq => cases hq; exact k7
    | 8, hq => cases hq; exact k8
    | 9, hq => cases hq; exact k9
    | 10, hq => cases hq; exact k10
    | k + 11, hq => simp [vwCl] at hq
  · intro k q hq
    match k, hq with
    | 0, hq => cases hq; exact ⟨b0, d0⟩
    | 1, hq => cases hq; exact ⟨b1, d1⟩
    | 2, hq => cases hq; exact ⟨b2, d2⟩
    | 3, hq => cases hq; exact ⟨b3, d3⟩
    | 4, hq => cases hq; exact ⟨b4, d4⟩
    | 5, hq => cases hq; exact ⟨b5, d5⟩
    | 6, hq => cases hq; exact ⟨b6, d6⟩
    | 7, hq => cases hq; exact ⟨b7, d7⟩
    | 8, hq => cases hq; exact ⟨b8, d8⟩
    | k + 9, hq => simp [lh_tys] at hq
  · exact ⟨va_Nw.of rfl (hts (.methodLinkNest RX9 19 yX3_init "LoaderModels") (by decide +kernel)), va_Nw.of rfl (hts (.methodLinkNest RX4 11 yX6_init "LoaderModels") (by decide +kernel)), va_Nw.of rfl (hts (.methodLinkNest RX4 81 yX9_failed "LoaderModels") (by decide +kernel)), va_Nw.of rfl (hts (.methodLinkNest RX4 85 yX8_init "LoaderModels") (by decide +kernel)), va_AO.of e3, va_AO.of e4, va_AO.of e5, va_AO.of e6, va_AO.of e7, va_AO.of e8⟩
/-- the claim's walk, out of what the law's function answers -/
theorem whole_open (hpure : ∀ (L : Nat) (xs : Nat → Int32), L ≤ 3072 → ∃ (n : Nat) (S' : lh_S), f_L_law n L xs lh_S0 = some (1, S')) {p : Program} {e : Env} {s : State} {m : MethodId} {below : List Frame} {meth : Method} {c : Code} (l : Launch) {b L : Nat} {xs : Nat → Int32} (hL : L ≤ 3072) (C0 : lw_At p s m meth c b L xs) : W p l e room_1 s m #[Value.ref b] below meth c s.heap [] 0 0 (lw_Z below #[Value.ref b] s) (entryFrame m ([Value.ref b] : List Value).toArray 4) := by
  obtain ⟨D, cT, hK, hN⟩ := lh_known C0
  obtain ⟨n, S', hf⟩ := hpure L xs hL
  exact law_run l C0 D cT hK hN n S' lh_S0 (fun _ _ => 0) lh_W0 hf
