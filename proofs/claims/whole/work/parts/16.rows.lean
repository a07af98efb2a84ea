/-- what a change of one place does to the logical heap -/
def lh_Ch (S S' : lh_S) (ad : Nat → Nat → Nat) (a i k : Nat) (v : Value) : Prop :=
  gvN S' = gvN S ∧ (∀ j, j ≠ k → lh_val S' ad a i j = lh_val S ad a i j) ∧ lh_val S' ad a i k = v ∧ (∀ (cT : Nat → ClassId) (b j : Nat), ¬ (b = a ∧ j = i) → lh_cell cT S' ad b j = lh_cell cT S ad b j) ∧ lh_ok S' ∧ gvL S' = gvL S
theorem lh_chI {S : lh_S} {ad : Nat → Nat → Nat} {a i k : Nat} {v : Int32} (ht : lh_tc a k = 0) (hok : lh_ok S) : lh_Ch S (pvI S a i k v) ad a i k (.int v) := by
  refine ⟨rfl, fun j hj => ?_, ?_, fun cT b j hb => ?_, fun b j q t x h1 h2 h3 => hok b j q t x h1 h2 h3, rfl⟩
  · have e : gvI (pvI S a i k v) a i j = gvI S a i j := lh_u3_n (fun z => hj z.2.2)
    unfold lh_val
    rw [e]
    rfl
  · have e : gvI (pvI S a i k v) a i k = v := lh_u3_s
    unfold lh_val
    rw [ht, e]
  · exact lh_cell_c rfl (fun q => lh_u3_n (fun z => hb ⟨z.1, z.2.1⟩)) (fun _ => rfl) (fun _ => rfl)
theorem lh_chJ {S : lh_S} {ad : Nat → Nat → Nat} {a i k : Nat} {v : Int64} (ht : lh_tc a k = 1) (hok : lh_ok S) : lh_Ch S (pvJ S a i k v) ad a i k (.long v) := by
  refine ⟨rfl, fun j hj => ?_, ?_, fun cT b j hb => ?_, fun b j q t x h1 h2 h3 => hok b j q t x h1 h2 h3, rfl⟩
  · have e : gvJ (pvJ S a i k v) a i j = gvJ S a i j := lh_u3_n (fun z => hj z.2.2)
    unfold lh_val
    rw [e]
    rfl
  · have e : gvJ (pvJ S a i k v) a i k = v := lh_u3_s
    unfold lh_val
    rw [ht, e]
  · exact lh_cell_c rfl (fun _ => rfl) (fun q => lh_u3_n (fun z => hb ⟨z.1, z.2.1⟩)) (fun _ => rfl)
theorem lh_okR {S : lh_S} {a i k t : Nat} {o : Option Nat} (ht : lh_tc a k = t + 2) (ho : ∀ j, o = some j → j < gvN S t) (hok : lh_ok S) : lh_ok (pvR S a i k o) := by
  intro b j q t2 x h1 h2 h3
  by_cases hz : b = a ∧ j = i ∧ q = k
  · obtain ⟨rfl, rfl, rfl⟩ := hz
    have e : gvR (pvR S b j q o) b j q = o := lh_u3_s
    rw [e] at h3
    have : t2 = t := by omega
    subst this
    exact ho x h3
  · have e : gvR (pvR S a i k o) b j q = gvR S b j q := lh_u3_n hz
    rw [e] at h3
    exact hok b j q t2 x h1 h2 h3
theorem lh_chR {S : lh_S} {ad : Nat → Nat → Nat} {a i k t : Nat} {o : Option Nat} (ht : lh_tc a k = t + 2) (ho : ∀ j, o = some j → j < gvN S t) (hok : lh_ok S) : lh_Ch S (pvR S a i k o) ad a i k (lh_r ad t o) := by
  refine ⟨rfl, fun j hj => ?_, ?_, fun cT b j hb => ?_, lh_okR ht ho hok, rfl⟩
  · have e : gvR (pvR S a i k o) a i j = gvR S a i j := lh_u3_n (fun z => hj z.2.2)
    unfold lh_val
    rw [e]
    rfl
  · have e : gvR (pvR S a i k o) a i k = o := lh_u3_s
    unfold lh_val
    rw [ht, e]
  · exact lh_cell_c rfl (fun _ => rfl) (fun _ => rfl) (fun q => lh_u3_n (fun z => hb ⟨z.1, z.2.1⟩))
theorem lh_nar_r {ad : Nat → Nat → Nat} {t : Nat} {o : Option Nat} {C : String} : narrow (.object C) (lh_r ad t o) = lh_r ad t o := by cases o <;> rfl
theorem lh_fit_r {ad : Nat → Nat → Nat} {t : Nat} {o : Option Nat} {C : String} : fits (.object C) (lh_r ad t o) = true := by cases o <;> rfl
theorem lh_nar_a {ad : Nat → Nat → Nat} {t : Nat} {o : Option Nat} {C : FieldType} : narrow (.array C) (lh_r ad t o) = lh_r ad t o := by cases o <;> rfl
theorem lh_fit_a {ad : Nat → Nat → Nat} {t : Nat} {o : Option Nat} {C : FieldType} : fits (.array C) (lh_r ad t o) = true := by cases o <;> rfl
theorem lh_cat_r {ad : Nat → Nat → Nat} {t : Nat} {o : Option Nat} : (lh_r ad t o).category = 1 := by cases o <;> rfl
theorem lh_nar_z {v : Int32} (h : v = 0 ∨ v = 1) : narrow .boolean (.int v) = .int v := by rcases h with rfl | rfl <;> rfl
/-- the same numbers have the same addresses in a world that has grown -/
def lh_E (S : lh_S) (ad ad' : Nat → Nat → Nat) : Prop := ∀ b j : Nat, j < gvN S b → ad' b j = ad b j
section LH
variable {p : Program} {l : Launch} {e : Env} {R : Room} {s : State} {m : MethodId} {args : Array Value} {below : List Frame} {meth : Method} {c : Code} {H : Heap} {locs : List Loc} {cells slots : Nat} {Q : State → Prop}
variable {cc : ByteArray} {pc : Nat} {ls : Array Slot} {rest : List Value} {D : va_G} {cT : Nat → ClassId} {S : lh_S} {ad : Nat → Nat → Nat} {A : Nat → Prop} {H0 : Heap}
theorem lh_get (hexec : p.tables.exec = Jvm.exec) (hb : c.code = cc) {own ref C : String} {T : u_T} {N a k i index : Nat} {Ts : List Cond} (hts : ∀ w ∈ Ts, w.before args s = true) (hin : ∀ w ∈ u_ws C T N, w ∈ Ts) (hown : s.vm.findClass own = some m.cls) (hK : lh_K D cT s) (hW : lh_W D cT S ad A H) {o : Option Nat} (ho : o = some i) (hi : i < gvN S a) (hc : vwCl[a]? = some (C, T, N)) (hn : lh_nf a = N) (har : lh_ar a = none) (hk : k < N)
    (hlink : (Cond.fieldLink own index ref (T k).2.1 (T k).2.2.1).before args s = true) (hsame : ∀ x, s.fieldFound? (T k).1 (T k).2.1 (T k).2.2.1 = some x → s.fieldFound? ref (T k).2.1 (T k).2.2.1 = some x) (hdg : decode cc pc = .ok (.getfield index, 3))
    {v : Value} (hv : lh_val S ad a i k = v) (kk : W p l e R s m args below meth c H locs cells slots Q (F0 m (pc + 3) ls (v :: rest))) : W p l e R s m args below meth c H locs cells slots Q (F0 m pc ls (lh_r ad a o :: rest)) := by
  subst ho
  obtain ⟨ws, hP, hD, h1, h2, hok⟩ := hW
  obtain ⟨q, hq⟩ := h1 a i hi
  rw [lh_cell, har, hn] at hq
  exact va_get hexec hb hts hin hown hK hP q hq hc k hk hlink hsame (v := v) (by rw [List.getElem?_map, List.getElem?_range hk]; exact congrArg some hv) hdg kk
theorem lh_put (hexec : p.tables.exec = Jvm.exec) (hb : c.code = cc) {own ref C : String} {T : u_T} {N a k i index : Nat} {Ts : List Cond} (hts : ∀ w ∈ Ts, w.before args s = true) (hin : ∀ w ∈ u_ws C T N, w ∈ Ts) (ty0 : Nat → FieldType) (hty : ∀ k, k < N → parseFieldDescriptor (T k).2.2.1 = some (ty0 k)) (hnm : ∀ a, a < N → ∀ b, b < N → a ≠ b → (T a).2.1 ≠ (T b).2.1) (hown : s.vm.findClass own = some m.cls) (hK : lh_K D cT s) (hW : lh_W D cT S ad A H) (hS0 : va_S A H0 H locs) {o : Option Nat} (ho : o = some i) (hi : i < gvN S a) (hc : vwCl[a]? = some (C, T, N)) (hn0 : lh_nf a = N) (har : lh_ar a = none) (hk : k < N)
    (hlink : (Cond.fieldLink own index ref (T k).2.1 (T k).2.2.1).before args s = true) (hsame : ∀ x, s.fieldFound? (T k).1 (T k).2.1 (T k).2.2.1 = some x → s.fieldFound? ref (T k).2.1 (T k).2.2.1 = some x) (hfin : (T k).2.2.2 = false ∨ ((T k).2.2.2 = true ∧ meth.name = "<init>" ∧ (T k).1 = own)) {ty : FieldType} {v : Value} (hd : parseFieldDescriptor (T k).2.2.1 = some ty) (hn : narrow ty v = v) (hfit : fits ty v = true) {S' : lh_S} (hch : lh_ok S → lh_Ch S S' ad a i k v)
    (hdg : decode cc pc = .ok (.putfield index, 3)) (kk : ∀ (H1 : Heap) (locs1 : List Loc), lh_W D cT S' ad A H1 → va_S A H0 H1 locs1 → W p l e R s m args below meth c H1 locs1 cells slots Q (F0 m (pc + 3) ls rest)) : W p l e R s m args below meth c H locs cells slots Q (F0 m pc ls (v :: lh_r ad a o :: rest)) := by
  subst ho
  obtain ⟨ws, hP, hD, h1, h2, hok⟩ := hW
  obtain ⟨q, hq0⟩ := h1 a i hi
  obtain ⟨c1, c2, c3, c4, c5, c6⟩ := hch hok
  have hq := hq0
  rw [lh_cell, har, hn0] at hq
  have hset : ((List.range N).map (lh_val S ad a i)).set k v = (List.range N).map (lh_val S' ad a i) := lh_list_set _ _ N k v c2 c3
  have he : lh_cell cT S' ad a i = .inr (a, ((List.range N).map (lh_val S ad a i)).set k v) := by rw [lh_cell, har, hn0, hset]
  rcases hfin with hf | ⟨hf, hi2, hde⟩
  · exact va_put hexec hb hts hin ty0 hty hnm hown hK hP hD hS0 q hq hc k hk hlink hsame hf hd hn hfit (by simpa using hk) hdg (fun H1 locs1 hP1 hD1 hS1 => kk H1 locs1 (lh_W_set hq0 hi hD h1 h2 hP1 hD1 c1 he (c4 cT) c5) hS1)
  · exact va_putF hexec hb hts hin ty0 hty hnm hown hK hP hD hS0 q hq hc k hk hlink hsame hf hi2 hde hd hn hfit (by simpa using hk) hdg (fun H1 locs1 hP1 hD1 hS1 => kk H1 locs1 (lh_W_set hq0 hi hD h1 h2 hP1 hD1 c1 he (c4 cT) c5) hS1)
theorem lh_vin {i : Int32} {n : Nat} (h : ¬ (i < 0 ∨ n ≤ i.toNatClampNeg)) : vp_in i n := h
theorem lh_ald_i (hexec : p.tables.exec = Jvm.exec) (hb : c.code = cc) (hK : lh_K D cT s) (hW : lh_W D cT S ad A H) {a i : Nat} {o : Option Nat} (ho : o = some i) (hi : i < gvN S a) (har : lh_ar a = some 0) (htc : lh_tc a 0 = 0) {x : Int32} (hin : ¬ (x < 0 ∨ gvL S a i ≤ x.toNatClampNeg)) (hdg : decode cc pc = .ok (.iaload, 1))
    (kk : W p l e R s m args below meth c H locs cells slots Q (F0 m (pc + 1) ls (.int (gvI S a i x.toNatClampNeg) :: rest))) : W p l e R s m args below meth c H locs cells slots Q (F0 m pc ls (.int x :: lh_r ad a o :: rest)) := by
  subst ho
  obtain ⟨ws, hP, hD, h1, h2, hok⟩ := hW
  obtain ⟨q, hq⟩ := h1 a i hi
  rw [lh_cell, har] at hq
  have hq : ws[q]? = some (ad a i, .inl (cT 0, gvL S a i, .inl (gvI S a i))) := by rw [hq]; simp only [lh_con, htc]
  exact va_iald hexec hb hK hP q 0 hq rfl hin hdg kk
theorem lh_ald_z (hexec : p.tables.exec = Jvm.exec) (hb : c.code = cc) (hK : lh_K D cT s) (hW : lh_W D cT S ad A H) {a i : Nat} {o : Option Nat} (ho : o = some i) (hi : i < gvN S a) (har : lh_ar a = some 1) (htc : lh_tc a 0 = 0) {x : Int32} (hin : ¬ (x < 0 ∨ gvL S a i ≤ x.toNatClampNeg)) (hdg : decode cc pc = .ok (.baload, 1))
    (kk : W p l e R s m args below meth c H locs cells slots Q (F0 m (pc + 1) ls (.int (gvI S a i x.toNatClampNeg) :: rest))) : W p l e R s m args below meth c H locs cells slots Q (F0 m pc ls (.int x :: lh_r ad a o :: rest)) := by
  subst ho
  obtain ⟨ws, hP, hD, h1, h2, hok⟩ := hW
  obtain ⟨q, hq⟩ := h1 a i hi
  rw [lh_cell, har] at hq
  have hq : ws[q]? = some (ad a i, .inl (cT 1, gvL S a i, .inl (gvI S a i))) := by rw [hq]; simp only [lh_con, htc]
  exact va_zald hexec hb hK hP q 1 hq rfl hin hdg kk
theorem lh_ald_l (hexec : p.tables.exec = Jvm.exec) (hb : c.code = cc) (hK : lh_K D cT s) (hW : lh_W D cT S ad A H) {a i : Nat} {o : Option Nat} (ho : o = some i) (hi : i < gvN S a) (har : lh_ar a = some 2) (htc : lh_tc a 0 = 1) {x : Int32} (hin : ¬ (x < 0 ∨ gvL S a i ≤ x.toNatClampNeg)) (hdg : decode cc pc = .ok (.laload, 1))
    (kk : W p l e R s m args below meth c H locs cells slots Q (F0 m (pc + 1) ls (.long (gvJ S a i x.toNatClampNeg) :: rest))) : W p l e R s m args below meth c H locs cells slots Q (F0 m pc ls (.int x :: lh_r ad a o :: rest)) := by
  subst ho
  obtain ⟨ws, hP, hD, h1, h2, hok⟩ := hW
  obtain ⟨q, hq⟩ := h1 a i hi
  rw [lh_cell, har] at hq
  have hq : ws[q]? = some (ad a i, .inl (cT 2, gvL S a i, .inr (.inl (gvJ S a i)))) := by rw [hq]; simp only [lh_con, htc]
  exact va_lald hexec hb hK hP q 2 hq rfl hin hdg kk
theorem lh_ald_r (hexec : p.tables.exec = Jvm.exec) (hb : c.code = cc) (hK : lh_K D cT s) (hW : lh_W D cT S ad A H) {a i t0 t : Nat} {C : String} {o : Option Nat} (ho : o = some i) (hi : i < gvN S a) (har : lh_ar a = some t0) (hty : (lh_tys cT)[t0]? = some (cT t0, .object C)) (htc : lh_tc a 0 = t + 2) {x : Int32} (hin : ¬ (x < 0 ∨ gvL S a i ≤ x.toNatClampNeg)) (hdg : decode cc pc = .ok (.aaload, 1))
    (kk : W p l e R s m args below meth c H locs cells slots Q (F0 m (pc + 1) ls (lh_r ad t (gvR S a i x.toNatClampNeg) :: rest))) : W p l e R s m args below meth c H locs cells slots Q (F0 m pc ls (.int x :: lh_r ad a o :: rest)) := by
  subst ho
  obtain ⟨ws, hP, hD, h1, h2, hok⟩ := hW
  obtain ⟨q, hq⟩ := h1 a i hi
  rw [lh_cell, har] at hq
  have hq : ws[q]? = some (ad a i, .inl (cT t0, gvL S a i, .inr (.inr (.inr (.inr (fun j => (gvR S a i j).map (ad t))))))) := by rw [hq]; simp only [lh_con, htc]
  exact va_aldq hexec hb hK hP q t0 hq hty hin hdg kk
theorem lh_alen (hexec : p.tables.exec = Jvm.exec) (hb : c.code = cc) (hK : lh_K D cT s) (hW : lh_W D cT S ad A H) {a i t0 : Nat} {ty : FieldType} {o : Option Nat} (ho : o = some i) (hi : i < gvN S a) (har : lh_ar a = some t0) (hty : (lh_tys cT)[t0]? = some (cT t0, ty)) (hdg : decode cc pc = .ok (.arraylength, 1))
    (kk : W p l e R s m args below meth c H locs cells slots Q (F0 m (pc + 1) ls (.int (nI (gvL S a i)) :: rest))) : W p l e R s m args below meth c H locs cells slots Q (F0 m pc ls (lh_r ad a o :: rest)) := by
  subst ho
  obtain ⟨ws, hP, hD, h1, h2, hok⟩ := hW
  obtain ⟨q, hq⟩ := h1 a i hi
  rw [lh_cell, har] at hq
  exact va_alen hexec hb hK hP q t0 hq hty rfl hdg kk
theorem lh_ast_i (hexec : p.tables.exec = Jvm.exec) (hb : c.code = cc) (hK : lh_K D cT s) (hW : lh_W D cT S ad A H) (hS : va_S A H0 H locs) {a i : Nat} {o : Option Nat} (ho : o = some i) (hi : i < gvN S a) (har : lh_ar a = some 0) (htc : ∀ k, lh_tc a k = 0) {x v : Int32} (hin : ¬ (x < 0 ∨ gvL S a i ≤ x.toNatClampNeg)) (hdg : decode cc pc = .ok (.iastore, 1))
    (kk : ∀ (H1 : Heap) (locs1 : List Loc), lh_W D cT (pvI S a i x.toNatClampNeg v) ad A H1 → va_S A H0 H1 locs1 → W p l e R s m args below meth c H1 locs1 cells slots Q (F0 m (pc + 1) ls rest)) : W p l e R s m args below meth c H locs cells slots Q (F0 m pc ls (.int v :: .int x :: lh_r ad a o :: rest)) := by
  subst ho
  obtain ⟨ws, hP, hD, h1, h2, hok⟩ := hW
  obtain ⟨q, hq0⟩ := h1 a i hi
  obtain ⟨c1, c2, c3, c4, c5, c6⟩ := lh_chI (ad := ad) (i := i) (v := v) (htc x.toNatClampNeg) hok
  have hq := hq0
  rw [lh_cell, har] at hq
  have hq : ws[q]? = some (ad a i, .inl (cT 0, gvL S a i, .inl (gvI S a i))) := by rw [hq]; simp only [lh_con, htc]
  have ef : gvI (pvI S a i x.toNatClampNeg v) a i = upd (gvI S a i) x.toNatClampNeg v := by
    funext j
    by_cases hj : j = x.toNatClampNeg
    · subst hj; simp [upd, gvI, pvI, lh_u3]
    · simp [upd, gvI, pvI, lh_u3, hj]
  have he : lh_cell cT (pvI S a i x.toNatClampNeg v) ad a i = .inl (cT 0, gvL S a i, .inl (upd (gvI S a i) x.toNatClampNeg v)) := by
    simp only [lh_cell, har, lh_con, htc, ef]
    rfl
  exact va_iast hexec hb hK hP hD hS q 0 hq rfl hin hdg (fun H1 locs1 hP1 hD1 hS1 => kk H1 locs1 (lh_W_set hq0 hi hD h1 h2 hP1 hD1 c1 he (c4 cT) c5) hS1)
theorem lh_ast_z (hexec : p.tables.exec = Jvm.exec) (hb : c.code = cc) (hK : lh_K D cT s) (hW : lh_W D cT S ad A H) (hS : va_S A H0 H locs) {a i : Nat} {o : Option Nat} (ho : o = some i) (hi : i < gvN S a) (har : lh_ar a = some 1) (htc : ∀ k, lh_tc a k = 0) {x v : Int32} (hin : ¬ (x < 0 ∨ gvL S a i ≤ x.toNatClampNeg)) (hdg : decode cc pc = .ok (.bastore, 1))
    (kk : ∀ (H1 : Heap) (locs1 : List Loc), lh_W D cT (pvI S a i x.toNatClampNeg (vp_nar .boolean v)) ad A H1 → va_S A H0 H1 locs1 → W p l e R s m args below meth c H1 locs1 cells slots Q (F0 m (pc + 1) ls rest)) : W p l e R s m args below meth c H locs cells slots Q (F0 m pc ls (.int v :: .int x :: lh_r ad a o :: rest)) := by
  subst ho
  obtain ⟨ws, hP, hD, h1, h2, hok⟩ := hW
  obtain ⟨q, hq0⟩ := h1 a i hi
  obtain ⟨c1, c2, c3, c4, c5, c6⟩ := lh_chI (ad := ad) (i := i) (v := vp_nar .boolean v) (htc x.toNatClampNeg) hok
  have hq := hq0
  rw [lh_cell, har] at hq
  have hq : ws[q]? = some (ad a i, .inl (cT 1, gvL S a i, .inl (gvI S a i))) := by rw [hq]; simp only [lh_con, htc]
  have ef : gvI (pvI S a i x.toNatClampNeg (vp_nar .boolean v)) a i = upd (gvI S a i) x.toNatClampNeg (vp_nar .boolean v) := by
    funext j
    by_cases hj : j = x.toNatClampNeg
    · subst hj; simp [upd, gvI, pvI, lh_u3]
    · simp [upd, gvI, pvI, lh_u3, hj]
  have he : lh_cell cT (pvI S a i x.toNatClampNeg (vp_nar .boolean v)) ad a i = .inl (cT 1, gvL S a i, .inl (upd (gvI S a i) x.toNatClampNeg (vp_nar .boolean v))) := by
    simp only [lh_cell, har, lh_con, htc, ef]
    rfl
  exact va_zast hexec hb hK hP hD hS q 1 hq rfl hin hdg (fun H1 locs1 hP1 hD1 hS1 => kk H1 locs1 (lh_W_set hq0 hi hD h1 h2 hP1 hD1 c1 he (c4 cT) c5) hS1)
theorem lh_ast_l (hexec : p.tables.exec = Jvm.exec) (hb : c.code = cc) (hK : lh_K D cT s) (hW : lh_W D cT S ad A H) (hS : va_S A H0 H locs) {a i : Nat} {o : Option Nat} (ho : o = some i) (hi : i < gvN S a) (har : lh_ar a = some 2) (htc : ∀ k, lh_tc a k = 1) {x : Int32} {v : Int64} (hin : ¬ (x < 0 ∨ gvL S a i ≤ x.toNatClampNeg)) (hdg : decode cc pc = .ok (.lastore, 1))
    (kk : ∀ (H1 : Heap) (locs1 : List Loc), lh_W D cT (pvJ S a i x.toNatClampNeg v) ad A H1 → va_S A H0 H1 locs1 → W p l e R s m args below meth c H1 locs1 cells slots Q (F0 m (pc + 1) ls rest)) : W p l e R s m args below meth c H locs cells slots Q (F0 m pc ls (.long v :: .int x :: lh_r ad a o :: rest)) := by
  subst ho
  obtain ⟨ws, hP, hD, h1, h2, hok⟩ := hW
  obtain ⟨q, hq0⟩ := h1 a i hi
  obtain ⟨c1, c2, c3, c4, c5, c6⟩ := lh_chJ (ad := ad) (i := i) (v := v) (htc x.toNatClampNeg) hok
  have hq := hq0
  rw [lh_cell, har] at hq
  have hq : ws[q]? = some (ad a i, .inl (cT 2, gvL S a i, .inr (.inl (gvJ S a i)))) := by rw [hq]; simp only [lh_con, htc]
  have ef : gvJ (pvJ S a i x.toNatClampNeg v) a i = vp_updL (gvJ S a i) x.toNatClampNeg v := by
    funext j
    by_cases hj : j = x.toNatClampNeg
    · subst hj; simp [vp_updL, gvJ, pvJ, lh_u3]
    · simp [vp_updL, gvJ, pvJ, lh_u3, hj]
  have he : lh_cell cT (pvJ S a i x.toNatClampNeg v) ad a i = .inl (cT 2, gvL S a i, .inr (.inl (vp_updL (gvJ S a i) x.toNatClampNeg v))) := by
    simp only [lh_cell, har, lh_con, htc, ef]
    rfl
  exact va_last hexec hb hK hP hD hS q 2 hq rfl hin hdg (fun H1 locs1 hP1 hD1 hS1 => kk H1 locs1 (lh_W_set hq0 hi hD h1 h2 hP1 hD1 c1 he (c4 cT) c5) hS1)
theorem lh_ast_r (hexec : p.tables.exec = Jvm.exec) (hb : c.code = cc) (hK : lh_K D cT s) (hW : lh_W D cT S ad A H) (hS : va_S A H0 H locs) {a i t0 t N : Nat} {C : String} {T : u_T} {o o2 : Option Nat} (ho : o = some i) (hi : i < gvN S a) (har : lh_ar a = some t0) (hty : (lh_tys cT)[t0]? = some (cT t0, .object C)) (htc : ∀ k, lh_tc a k = t + 2) (hc : vwCl[t]? = some (C, T, N)) (hat : lh_ar t = none) (ho2 : ∀ j, o2 = some j → j < gvN S t) {x : Int32} (hin : ¬ (x < 0 ∨ gvL S a i ≤ x.toNatClampNeg)) (hdg : decode cc pc = .ok (.aastore, 1))
    (kk : ∀ (H1 : Heap) (locs1 : List Loc), lh_W D cT (pvR S a i x.toNatClampNeg o2) ad A H1 → va_S A H0 H1 locs1 → W p l e R s m args below meth c H1 locs1 cells slots Q (F0 m (pc + 1) ls rest)) : W p l e R s m args below meth c H locs cells slots Q (F0 m pc ls (lh_r ad t o2 :: .int x :: lh_r ad a o :: rest)) := by
  subst ho
  obtain ⟨ws, hP, hD, h1, h2, hok⟩ := hW
  obtain ⟨q, hq0⟩ := h1 a i hi
  obtain ⟨c1, c2, c3, c4, c5, c6⟩ := lh_chR (ad := ad) (i := i) (o := o2) (htc x.toNatClampNeg) ho2 hok
  have hq := hq0
  rw [lh_cell, har] at hq
  have hq : ws[q]? = some (ad a i, .inl (cT t0, gvL S a i, .inr (.inr (.inr (.inr (fun j => (gvR S a i j).map (ad t))))))) := by rw [hq]; simp only [lh_con, htc]
  have ef : (fun j => (gvR (pvR S a i x.toNatClampNeg o2) a i j).map (ad t)) = va_up (fun j => (gvR S a i j).map (ad t)) x.toNatClampNeg (o2.map (ad t)) := by
    funext j
    by_cases hj : j = x.toNatClampNeg
    · subst hj; simp [va_up, gvR, pvR, lh_u3]
    · simp [va_up, gvR, pvR, lh_u3, hj]
  have he : lh_cell cT (pvR S a i x.toNatClampNeg o2) ad a i = .inl (cT t0, gvL S a i, .inr (.inr (.inr (.inr (va_up (fun j => (gvR S a i j).map (ad t)) x.toNatClampNeg (o2.map (ad t))))))) := by
    rw [lh_cell, har]
    show (Sum.inl (cT t0, gvL S a i, lh_con (pvR S a i x.toNatClampNeg o2) ad a i) : va_E) = _
    rw [lh_con, htc]
    show (Sum.inl (cT t0, gvL S a i, .inr (.inr (.inr (.inr (fun j => (gvR (pvR S a i x.toNatClampNeg o2) a i j).map (ad t)))))) : va_E) = _
    rw [ef]
  cases o2 with
  | none => exact va_astqN hexec hb hK hP hD hS q t0 hq hty hin hdg (fun H1 locs1 hP1 hD1 hS1 => kk H1 locs1 (lh_W_set hq0 hi hD h1 h2 hP1 hD1 c1 he (c4 cT) c5) hS1)
  | some j =>
    obtain ⟨qk, hqk⟩ := h1 t j (ho2 j rfl)
    rw [lh_cell, hat] at hqk
    exact va_astq hexec hb hK hP hD hS q t0 qk t hq hty hqk hc hin hdg (fun H1 locs1 hP1 hD1 hS1 => kk H1 locs1 (lh_W_set hq0 hi hD h1 h2 hP1 hD1 c1 he (c4 cT) c5) hS1)
end LH
