/-- the default of a place -/
def lh_dv (a j : Nat) : Value := match lh_tc a j with
  | 0 => .int 0
  | 1 => .long 0
  | _ => .null
theorem lh_new_cell {cT : Nat → ClassId} {S : lh_S} {ad : Nat → Nat → Nat} {a n q b j : Nat} (hok : lh_ok S) (hj : j < gvN S b) : lh_cell cT (pvN S a n) (lh_u2 ad a (gvN S a) q) b j = lh_cell cT S ad b j := by
  have hne : ¬ (b = a ∧ j = gvN S a) := fun z => by obtain ⟨rfl, rfl⟩ := z; omega
  have eI : ∀ k, gvI (pvN S a n) b j k = gvI S b j k := fun k => if_neg hne
  have eJ : ∀ k, gvJ (pvN S a n) b j k = gvJ S b j k := fun k => if_neg hne
  have eR : ∀ k, gvR (pvN S a n) b j k = gvR S b j k := fun k => if_neg hne
  have eL : gvL (pvN S a n) b j = gvL S b j := if_neg hne
  rw [lh_cell_c (S := S) eL eI eJ eR]
  have em : ∀ k t, lh_tc b k = t + 2 → (gvR S b j k).map (lh_u2 ad a (gvN S a) q t) = (gvR S b j k).map (ad t) := by
    intro k t ht
    cases ho : gvR S b j k with
    | none => rfl
    | some x =>
      have hx := hok b j k t x hj ht ho
      have : ¬ (t = a ∧ x = gvN S a) := fun z => by obtain ⟨rfl, rfl⟩ := z; omega
      show some (lh_u2 ad a (gvN S a) q t x) = some (ad t x)
      rw [lh_u2, if_neg this]
  have e1 : lh_val S (lh_u2 ad a (gvN S a) q) b j = lh_val S ad b j := by
    funext k
    unfold lh_val
    split
    · rfl
    · rfl
    · next t ht =>
      unfold lh_r
      rw [em k t ht]
  unfold lh_cell
  split
  · rw [e1]
  · next t ht =>
    have e2 : lh_con S (lh_u2 ad a (gvN S a) q) b j = lh_con S ad b j := by
      unfold lh_con
      split
      · rfl
      · rfl
      · next t2 ht2 =>
        have : (fun k => (gvR S b j k).map (lh_u2 ad a (gvN S a) q t2)) = fun k => (gvR S b j k).map (ad t2) := by
          funext k
          cases ho : gvR S b j k with
          | none => rfl
          | some x =>
            have htk : lh_tc b k = t2 + 2 := by
              have : lh_tc b k = lh_tc b 0 := by
                unfold lh_ar at ht
                unfold lh_tc
                split at ht <;> simp_all
              omega
            have := em k t2 htk
            rw [ho] at this
            exact this
        rw [this]
    rw [e2]
theorem lh_pvN_n {S : lh_S} {a n b : Nat} : gvN (pvN S a n) b = if b = a then gvN S a + 1 else gvN S b := by
  show va_up S.1 a (S.1 a + 1) b = _
  unfold va_up
  rfl
theorem lh_W_new {D : va_G} {cT : Nat → ClassId} {S : lh_S} {ad : Nat → Nat → Nat} {A : Nat → Prop} {H1 : Heap} {ws : va_W} {a n q : Nat} {e : va_E}
    (h1 : ∀ b j : Nat, j < gvN S b → ∃ q : Nat, ws[q]? = some (ad b j, lh_cell cT S ad b j)) (h2 : ∀ b j b' j' : Nat, j < gvN S b → j' < gvN S b' → ad b j = ad b' j' → b = b' ∧ j = j') (hok : lh_ok S)
    (hP1 : va_P D vwCl (ws ++ [(q, e)]) H1) (hD1 : va_D A (ws ++ [(q, e)])) (he : lh_cell cT (pvN S a n) (lh_u2 ad a (gvN S a) q) a (gvN S a) = e) : lh_W D cT (pvN S a n) (lh_u2 ad a (gvN S a) q) A H1 := by
  have old : ∀ b j, j < gvN (pvN S a n) b → (b = a ∧ j = gvN S a) ∨ (j < gvN S b ∧ ¬ (b = a ∧ j = gvN S a)) := by
    intro b j hj
    rw [lh_pvN_n] at hj
    by_cases hb : b = a
    · subst hb
      rw [if_pos rfl] at hj
      by_cases hz : j = gvN S b
      · exact Or.inl ⟨rfl, hz⟩
      · exact Or.inr ⟨by omega, fun z => hz z.2⟩
    · rw [if_neg hb] at hj
      exact Or.inr ⟨hj, fun z => hb z.1⟩
  have adn : lh_u2 ad a (gvN S a) q a (gvN S a) = q := by simp [lh_u2]
  have ado : ∀ b j, ¬ (b = a ∧ j = gvN S a) → lh_u2 ad a (gvN S a) q b j = ad b j := fun b j h => by simp only [lh_u2, if_neg h]
  have pos : ∀ b j, j < gvN S b → ∃ x : Nat, x < ws.length ∧ (ws ++ [(q, e)])[x]? = some (ad b j, lh_cell cT S ad b j) := by
    intro b j hj
    obtain ⟨x, hx⟩ := h1 b j hj
    have hl := (List.getElem?_eq_some_iff.mp hx).1
    exact ⟨x, hl, by rw [List.getElem?_append_left hl]; exact hx⟩
  have last : (ws ++ [(q, e)])[ws.length]? = some (q, e) := by simp
  have fresh : ∀ b j, j < gvN S b → ad b j ≠ q := by
    intro b j hj z
    obtain ⟨x, hl, hx⟩ := pos b j hj
    have := hD1.1 x ws.length _ _ hx last z
    omega
  refine ⟨_, hP1, hD1, fun b j hj => ?_, fun b j b' j' hj hj' hz => ?_, fun b j k t x hj ht hx => ?_⟩
  · rcases old b j hj with ⟨rfl, rfl⟩ | ⟨h3, h4⟩
    · exact ⟨ws.length, by rw [last, adn, he]⟩
    · obtain ⟨x, hl, hx⟩ := pos b j h3
      exact ⟨x, by rw [hx, ado b j h4, lh_new_cell hok h3]⟩
  · rcases old b j hj with ⟨rfl, rfl⟩ | ⟨h3, h4⟩ <;> rcases old b' j' hj' with ⟨rfl, rfl⟩ | ⟨h5, h6⟩
    · exact ⟨rfl, rfl⟩
    · rw [adn, ado _ _ h6] at hz
      exact absurd hz.symm (fresh b' j' h5)
    · rw [adn, ado _ _ h4] at hz
      exact absurd hz (fresh b j h3)
    · rw [ado _ _ h4, ado _ _ h6] at hz
      exact h2 b j b' j' h3 h5 hz
  · have hle : ∀ b, gvN S b ≤ gvN (pvN S a n) b := fun b => by rw [lh_pvN_n]; split <;> (try subst_vars) <;> omega
    rcases old b j hj with ⟨rfl, rfl⟩ | ⟨h3, h4⟩
    · have : gvR (pvN S b n) b (gvN S b) k = none := if_pos ⟨rfl, rfl⟩
      rw [this] at hx
      cases hx
    · have : gvR (pvN S a n) b j k = gvR S b j k := if_neg h4
      rw [this] at hx
      exact Nat.lt_of_lt_of_le (hok b j k t x h3 ht hx) (hle t)
theorem lh_E_new {S : lh_S} {ad : Nat → Nat → Nat} {a q : Nat} : lh_E S ad (lh_u2 ad a (gvN S a) q) := by
  intro b j hj
  have : ¬ (b = a ∧ j = gvN S a) := fun z => by obtain ⟨rfl, rfl⟩ := z; omega
  simp only [lh_u2, if_neg this]
section LH2
variable {p : Program} {l : Launch} {e : Env} {R : Room} {s : State} {m : MethodId} {args : Array Value} {below : List Frame} {meth : Method} {c : Code} {H : Heap} {locs : List Loc} {cells slots : Nat} {Q : State → Prop}
variable {cc : ByteArray} {pc : Nat} {ls : Array Slot} {rest : List Value} {D : va_G} {cT : Nat → ClassId} {S : lh_S} {ad : Nat → Nat → Nat} {A : Nat → Prop} {H0 : Heap}
theorem lh_new {c0 : Code} (hexec : p.tables.exec = Jvm.exec) (hb : c0.code = cc) {own C : String} {T : u_T} {N a index : Nat} {Ts : List Cond} (hts : ∀ w ∈ Ts, w.before args s = true) (hin : ∀ w ∈ u_ws C T N, w ∈ Ts) (ty : Nat → FieldType) (hty : ∀ k, k < N → parseFieldDescriptor (T k).2.2.1 = some (ty k)) (hown : s.vm.findClass own = some m.cls) (hcl : (Cond.classLink own index C).before args s = true) (hinst : (Cond.instantiable C N).before args s = true) (hini : (Cond.initialized C).before args s = true)
    (hK : lh_K D cT s) (hW : lh_W D cT S ad A H) (hS : va_S A H0 H locs) (hA : ∀ q, H0.size ≤ q → A q) (hc : vwCl[a]? = some (C, T, N)) (hn : lh_nf a = N) (har : lh_ar a = none) (hdv : ∀ j, j < N → defaultValue (ty j) = lh_dv a j) (hcells : cells + 1 ≤ R.cells) (hslots : slots + N ≤ R.slots) (hdg : decode cc pc = .ok (.new index, 3))
    (kk : ∀ (ad' : Nat → Nat → Nat) (H1 : Heap), lh_E S ad ad' → lh_W D cT (pvN S a 0) ad' A H1 → va_S A H0 H1 locs → W p l e R s m args below meth c0 H1 locs (cells + 1) (slots + N) Q (F0 m (pc + 3) ls (lh_r ad' a (some (gvN S a)) :: rest))) : W p l e R s m args below meth c0 H locs cells slots Q (F0 m pc ls rest) := by
  obtain ⟨ws, hP, hD, h1, h2, hok⟩ := hW
  refine va_new (fs := (List.range N).map (lh_dv a)) hexec hb hts hin ty hty hown hcl hinst hini hK hP hD hS hA hc (fun j hj => by rw [hdv j hj]; simp [vp_V, hj]) hcells hslots hdg (fun q H1 hP1 hD1 hS1 => ?_)
  have hcell : lh_cell cT (pvN S a 0) (lh_u2 ad a (gvN S a) q) a (gvN S a) = .inr (a, (List.range N).map (lh_dv a)) := by
    have e1 : lh_val (pvN S a 0) (lh_u2 ad a (gvN S a) q) a (gvN S a) = lh_dv a := by
      funext k
      have eI : gvI (pvN S a 0) a (gvN S a) k = 0 := if_pos ⟨rfl, rfl⟩
      have eJ : gvJ (pvN S a 0) a (gvN S a) k = 0 := if_pos ⟨rfl, rfl⟩
      have eR : gvR (pvN S a 0) a (gvN S a) k = none := if_pos ⟨rfl, rfl⟩
      unfold lh_val lh_dv
      rw [eI, eJ, eR]
      generalize lh_tc a k = tt
      match tt with
      | 0 => rfl
      | 1 => rfl
      | _ + 2 => rfl
    rw [lh_cell, har, hn, e1]
  have e : lh_r (lh_u2 ad a (gvN S a) q) a (some (gvN S a)) = .ref q := by simp [lh_r, va_rf, lh_u2]
  have := kk (lh_u2 ad a (gvN S a) q) H1 lh_E_new (lh_W_new h1 h2 hok hP1 hD1 hcell) hS1
  rw [e] at this
  exact this
theorem lh_newa (hexec : p.tables.exec = Jvm.exec) (hb : c.code = cc) {atype : ArrayType} (harr : (Cond.arrayClass (newarray.typeOf atype)).before args s = true) {ty : FieldType} (hty : newarray.typeOf atype = ty) (hK : lh_K D cT s) (hW : lh_W D cT S ad A H) (hS : va_S A H0 H locs) (hA : ∀ q, H0.size ≤ q → A q) {a t0 : Nat} (har : lh_ar a = some t0) (ht : (lh_tys cT)[t0]? = some (cT t0, ty)) (hra : ∀ U cA, va_RA U cA ty → U.vm.findClass ("[" ++ ty.toString) = some cA) (htc : lh_tc a 0 = 0 ∧ defaultValue ty = .int 0 ∨ lh_tc a 0 = 1 ∧ defaultValue ty = .long 0)
    {n : Int32} {N' : Nat} (hn : ¬ n < 0) (hN : n.toNatClampNeg = N') (hbytes : N' * componentBytes ty ≤ 536870912) (hcells : cells + 1 ≤ R.cells) (hslots : slots + N' ≤ R.slots) (hdg : decode cc pc = .ok (.newarray atype, 2))
    (kk : ∀ (ad' : Nat → Nat → Nat) (H1 : Heap), lh_E S ad ad' → lh_W D cT (pvN S a N') ad' A H1 → va_S A H0 H1 locs → W p l e R s m args below meth c H1 locs (cells + 1) (slots + N') Q (F0 m (pc + 2) ls (lh_r ad' a (some (gvN S a)) :: rest))) : W p l e R s m args below meth c H locs cells slots Q (F0 m pc ls (.int n :: rest)) := by
  obtain ⟨ws, hP, hD, h1, h2, hok⟩ := hW
  have fin : ∀ (q : Nat) (cA : ClassId) (H1 : Heap) (con : (Nat → Int32) ⊕ (Nat → Int64) ⊕ (Nat → UInt32) ⊕ (Nat → UInt64) ⊕ (Nat → Option Nat)), lh_con (pvN S a N') (lh_u2 ad a (gvN S a) q) a (gvN S a) = con → va_K D vwCl (lh_tys cT ++ [(cA, ty)]) s → va_P D vwCl (ws ++ [(q, .inl (cA, N', con))]) H1 → va_D A (ws ++ [(q, .inl (cA, N', con))]) → va_S A H0 H1 locs → W p l e R s m args below meth c H1 locs (cells + 1) (slots + N') Q (F0 m (pc + 2) ls (.ref q :: rest)) := by
    intro q cA H1 con hcon hK1 hP1 hD1 hS1
    have hcA : cA = cT t0 := by
      have g1 := hra s cA (hK1.2 (lh_tys cT).length (cA, ty) (by simp)).2
      have g2 := hra s (cT t0) (hK.2 t0 _ ht).2
      exact Option.some.inj (g1.symm.trans g2)
    subst hcA
    have eL : gvL (pvN S a N') a (gvN S a) = N' := if_pos ⟨rfl, rfl⟩
    have hcell : lh_cell cT (pvN S a N') (lh_u2 ad a (gvN S a) q) a (gvN S a) = .inl (cT t0, N', con) := by rw [lh_cell, har, ← hcon]; show (Sum.inl (cT t0, gvL (pvN S a N') a (gvN S a), _) : va_E) = _; rw [eL]
    have e : lh_r (lh_u2 ad a (gvN S a) q) a (some (gvN S a)) = .ref q := by simp [lh_r, va_rf, lh_u2]
    have := kk (lh_u2 ad a (gvN S a) q) H1 lh_E_new (lh_W_new h1 h2 hok hP1 hD1 hcell) hS1
    rw [e] at this
    exact this
  rcases htc with ⟨ht0, hdf⟩ | ⟨ht0, hdf⟩
  · refine va_newa (a0 := (N', .inl (fun _ => 0))) hexec hb harr hty hK hP hD hS hA (fun cA => by rw [vp_cell_i, hdf]) hn hN hbytes hcells hslots hdg (fun q cA H1 hK1 hP1 hD1 hS1 => fin q cA H1 _ ?_ hK1 hP1 hD1 hS1)
    rw [lh_con, ht0]
    show (Sum.inl (gvI (pvN S a N') a (gvN S a)) : (Nat → Int32) ⊕ (Nat → Int64) ⊕ (Nat → UInt32) ⊕ (Nat → UInt64) ⊕ (Nat → Option Nat)) = _
    congr 1
    funext k
    exact if_pos ⟨rfl, rfl⟩
  · refine va_newa (a0 := (N', .inr (.inl (fun _ => 0)))) hexec hb harr hty hK hP hD hS hA (fun cA => by rw [vp_cell_l, hdf]) hn hN hbytes hcells hslots hdg (fun q cA H1 hK1 hP1 hD1 hS1 => fin q cA H1 _ ?_ hK1 hP1 hD1 hS1)
    rw [lh_con, ht0]
    show (Sum.inr (Sum.inl (gvJ (pvN S a N') a (gvN S a))) : (Nat → Int32) ⊕ (Nat → Int64) ⊕ (Nat → UInt32) ⊕ (Nat → UInt64) ⊕ (Nat → Option Nat)) = _
    congr 2
    funext k
    exact if_pos ⟨rfl, rfl⟩
theorem lh_newq (hexec : p.tables.exec = Jvm.exec) (hb : c.code = cc) {own C : String} {index : Nat} (hown : s.vm.findClass own = some m.cls) (hclink : (Cond.classLink own index C).before args s = true) (hover : va_AO C s) (hK : lh_K D cT s) (hW : lh_W D cT S ad A H) (hS : va_S A H0 H locs) (hA : ∀ q, H0.size ≤ q → A q) {a t0 t : Nat} (har : lh_ar a = some t0) (ht : (lh_tys cT)[t0]? = some (cT t0, .object C)) (htc : lh_tc a 0 = t + 2)
    {n : Int32} {N' : Nat} (hn : ¬ n < 0) (hN : n.toNatClampNeg = N') (hbytes : N' * 4 ≤ 536870912) (hcells : cells + 1 ≤ R.cells) (hslots : slots + N' ≤ R.slots) (hdg : decode cc pc = .ok (.anewarray index, 3))
    (kk : ∀ (ad' : Nat → Nat → Nat) (H1 : Heap), lh_E S ad ad' → lh_W D cT (pvN S a N') ad' A H1 → va_S A H0 H1 locs → W p l e R s m args below meth c H1 locs (cells + 1) (slots + N') Q (F0 m (pc + 3) ls (lh_r ad' a (some (gvN S a)) :: rest))) : W p l e R s m args below meth c H locs cells slots Q (F0 m pc ls (.int n :: rest)) := by
  obtain ⟨ws, hP, hD, h1, h2, hok⟩ := hW
  refine va_newq hexec hb hown hclink hover hK hP hD hS hA hn hN hbytes hcells hslots hdg (fun q cA H1 hK1 hP1 hD1 hS1 => ?_)
  have hcA : cA = cT t0 := by
    obtain ⟨kA, comp, g1, g2, g3, g4⟩ := (hK1.2 (lh_tys cT).length (cA, .object C) (by simp)).2
    obtain ⟨kA', comp', f1, f2, f3, f4⟩ := (hK.2 t0 _ ht).2
    exact Option.some.inj (g4.symm.trans f4)
  subst hcA
  have eL : gvL (pvN S a N') a (gvN S a) = N' := if_pos ⟨rfl, rfl⟩
  have hcell : lh_cell cT (pvN S a N') (lh_u2 ad a (gvN S a) q) a (gvN S a) = .inl (cT t0, N', .inr (.inr (.inr (.inr (fun _ => none))))) := by
    rw [lh_cell, har]
    show (Sum.inl (cT t0, gvL (pvN S a N') a (gvN S a), lh_con (pvN S a N') (lh_u2 ad a (gvN S a) q) a (gvN S a)) : va_E) = _
    rw [eL, lh_con, htc]
    show (Sum.inl (cT t0, N', .inr (.inr (.inr (.inr (fun j => (gvR (pvN S a N') a (gvN S a) j).map (lh_u2 ad a (gvN S a) q t)))))) : va_E) = _
    have : (fun j => (gvR (pvN S a N') a (gvN S a) j).map (lh_u2 ad a (gvN S a) q t)) = fun _ => none := by
      funext j
      have eR : gvR (pvN S a N') a (gvN S a) j = none := if_pos ⟨rfl, rfl⟩
      rw [eR]
      rfl
    rw [this]
  have e : lh_r (lh_u2 ad a (gvN S a) q) a (some (gvN S a)) = .ref q := by simp [lh_r, va_rf, lh_u2]
  have := kk (lh_u2 ad a (gvN S a) q) H1 lh_E_new (lh_W_new h1 h2 hok hP1 hD1 hcell) hS1
  rw [e] at this
  exact this
-- references in locals, and branches on them
theorem lh_aload_n (hexec : p.tables.exec = Jvm.exec) (hb : c.code = cc) {k : Fin 4} {i t : Nat} {o : Option Nat} (hdg : decode cc pc = .ok (.aload_n k, 1)) (hi : (k : Nat) = i) (hl : ls[i]? = some (.val (lh_r ad t o)))
    (kk : W p l e R s m args below meth c H locs cells slots Q (F0 m (pc + 1) ls (lh_r ad t o :: rest))) : W p l e R s m args below meth c H locs cells slots Q (F0 m pc ls rest) := by
  cases o with
  | none => exact lv_aload_nN hexec hb hdg hi hl kk
  | some x => exact lv_aload_n hexec hb hdg hi hl kk
theorem lh_aload (hexec : p.tables.exec = Jvm.exec) (hb : c.code = cc) {i t : Nat} {o : Option Nat} (hdg : decode cc pc = .ok (.aload i, 2)) (hl : ls[i]? = some (.val (lh_r ad t o)))
    (kk : W p l e R s m args below meth c H locs cells slots Q (F0 m (pc + 2) ls (lh_r ad t o :: rest))) : W p l e R s m args below meth c H locs cells slots Q (F0 m pc ls rest) := by
  cases o with
  | none => exact lv_aloadN hexec hb hdg hl kk
  | some x => exact lv_aload hexec hb hdg hl kk
theorem lh_astore_n (hexec : p.tables.exec = Jvm.exec) (hb : c.code = cc) {k : Fin 4} {i nL t : Nat} {o : Option Nat} {lv lv' : List (Nat × Value)} (hdg : decode cc pc = .ok (.astore_n k, 1)) (hi : (k : Nat) = i) (h : lv_has ls nL lv) (hn : i < nL) (hl : (i, lh_r ad t o) :: lv.filter (fun q => !(q.1 == i) && !(q.1 + 1 == i && q.2.category == 2)) = lv')
    (kk : ∀ ls' : Array Slot, lv_has ls' nL lv' → W p l e R s m args below meth c H locs cells slots Q (F0 m (pc + 1) ls' rest)) : W p l e R s m args below meth c H locs cells slots Q (F0 m pc ls (lh_r ad t o :: rest)) := by
  cases o with
  | none => exact lv_astore_nN hexec hb hdg hi h hn hl kk
  | some x => exact lv_astore_n hexec hb hdg hi h hn hl kk
theorem lh_astore (hexec : p.tables.exec = Jvm.exec) (hb : c.code = cc) {i nL t : Nat} {o : Option Nat} {lv lv' : List (Nat × Value)} (hdg : decode cc pc = .ok (.astore i, 2)) (h : lv_has ls nL lv) (hn : i < nL) (hl : (i, lh_r ad t o) :: lv.filter (fun q => !(q.1 == i) && !(q.1 + 1 == i && q.2.category == 2)) = lv')
    (kk : ∀ ls' : Array Slot, lv_has ls' nL lv' → W p l e R s m args below meth c H locs cells slots Q (F0 m (pc + 2) ls' rest)) : W p l e R s m args below meth c H locs cells slots Q (F0 m pc ls (lh_r ad t o :: rest)) := by
  cases o with
  | none => exact lv_astoreN hexec hb hdg h hn hl kk
  | some x => exact lv_astore hexec hb hdg h hn hl kk
theorem lh_null (hexec : p.tables.exec = Jvm.exec) (hb : c.code = cc) (ad : Nat → Nat → Nat) (t : Nat) (hdg : decode cc pc = .ok (.aconst_null, 1)) (k : W p l e R s m args below meth c H locs cells slots Q (F0 m (pc + 1) ls (lh_r ad t none :: rest))) : W p l e R s m args below meth c H locs cells slots Q (F0 m pc ls rest) := lv_null hexec hb hdg k
theorem lh_ifnull (hexec : p.tables.exec = Jvm.exec) (hb : c.code = cc) {off : Int} {tgt t : Nat} {o : Option Nat} (hdg : decode cc pc = .ok (.ifnull off, 3)) (ht : (pc : Int) + off = (tgt : Int)) (kt : o = none → W p l e R s m args below meth c H locs cells slots Q (F0 m tgt ls rest)) (kf : ¬ o = none → W p l e R s m args below meth c H locs cells slots Q (F0 m (pc + 3) ls rest)) : W p l e R s m args below meth c H locs cells slots Q (F0 m pc ls (lh_r ad t o :: rest)) := by
  cases o with
  | none => exact lv_ifnullN hexec hb hdg ht (kt rfl)
  | some x => exact lv_ifnull hexec hb hdg (kf (fun h => by cases h))
theorem lh_ifnonnull (hexec : p.tables.exec = Jvm.exec) (hb : c.code = cc) {off : Int} {tgt t : Nat} {o : Option Nat} (hdg : decode cc pc = .ok (.ifnonnull off, 3)) (ht : (pc : Int) + off = (tgt : Int)) (kt : ¬ o = none → W p l e R s m args below meth c H locs cells slots Q (F0 m tgt ls rest)) (kf : o = none → W p l e R s m args below meth c H locs cells slots Q (F0 m (pc + 3) ls rest)) : W p l e R s m args below meth c H locs cells slots Q (F0 m pc ls (lh_r ad t o :: rest)) := by
  cases o with
  | none => exact lv_ifnonnullN hexec hb hdg (kf rfl)
  | some x => exact lv_ifnonnull hexec hb hdg ht (kt (fun h => by cases h))
theorem lh_mapinj {D : va_G} {cT : Nat → ClassId} {S : lh_S} {ad : Nat → Nat → Nat} {A : Nat → Prop} {H : Heap} (hW : lh_W D cT S ad A H) {t : Nat} {o1 o2 : Option Nat} (h1 : ∀ j, o1 = some j → j < gvN S t) (h2 : ∀ j, o2 = some j → j < gvN S t) : o1.map (ad t) = o2.map (ad t) ↔ o1 = o2 := by
  constructor
  · intro h
    cases o1 with
    | none => cases o2 with
      | none => rfl
      | some y => cases h
    | some x => cases o2 with
      | none => cases h
      | some y =>
        obtain ⟨ws, hP, hD, g1, g2, hok⟩ := hW
        rw [(g2 t x t y (h1 x rfl) (h2 y rfl) (Option.some.inj h)).2]
  · intro h; rw [h]
theorem lh_acmp_eq (hexec : p.tables.exec = Jvm.exec) (hb : c.code = cc) (hW : lh_W D cT S ad A H) {t : Nat} {o1 o2 : Option Nat} (h1 : ∀ j, o1 = some j → j < gvN S t) (h2 : ∀ j, o2 = some j → j < gvN S t) {off : Int} {tgt : Nat} (hdg : decode cc pc = .ok (.if_acmp .eq off, 3)) (ht : (pc : Int) + off = (tgt : Int))
    (kt : o1 = o2 → W p l e R s m args below meth c H locs cells slots Q (F0 m tgt ls rest)) (kf : ¬ o1 = o2 → W p l e R s m args below meth c H locs cells slots Q (F0 m (pc + 3) ls rest)) : W p l e R s m args below meth c H locs cells slots Q (F0 m pc ls (lh_r ad t o2 :: lh_r ad t o1 :: rest)) :=
  lv_acmp_eq hexec hb hdg ht (fun h => kt ((lh_mapinj hW h1 h2).mp h)) (fun h => kf (fun z => h ((lh_mapinj hW h1 h2).mpr z)))
theorem lh_acmp_ne (hexec : p.tables.exec = Jvm.exec) (hb : c.code = cc) (hW : lh_W D cT S ad A H) {t : Nat} {o1 o2 : Option Nat} (h1 : ∀ j, o1 = some j → j < gvN S t) (h2 : ∀ j, o2 = some j → j < gvN S t) {off : Int} {tgt : Nat} (hdg : decode cc pc = .ok (.if_acmp .ne off, 3)) (ht : (pc : Int) + off = (tgt : Int))
    (kt : ¬ o1 = o2 → W p l e R s m args below meth c H locs cells slots Q (F0 m tgt ls rest)) (kf : o1 = o2 → W p l e R s m args below meth c H locs cells slots Q (F0 m (pc + 3) ls rest)) : W p l e R s m args below meth c H locs cells slots Q (F0 m pc ls (lh_r ad t o2 :: lh_r ad t o1 :: rest)) :=
  lv_acmp_ne hexec hb hdg ht (fun h => kt (fun z => h ((lh_mapinj hW h1 h2).mpr z))) (fun h => kf ((lh_mapinj hW h1 h2).mp h))
end LH2
