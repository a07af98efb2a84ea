/-- the words that are no rows of a method's list: private calls within the nest, arrays over a class -/
def lh_N (U : State) : Prop := va_Nw (.methodLinkNest RX9 19 yX3_init "LoaderModels") U ∧ va_Nw (.methodLinkNest RX4 11 yX6_init "LoaderModels") U ∧ va_Nw (.methodLinkNest RX4 81 yX9_failed "LoaderModels") U ∧ va_Nw (.methodLinkNest RX4 85 yX8_init "LoaderModels") U ∧ va_AO RX0 U ∧ va_AO RX1 U ∧ va_AO RX2 U ∧ va_AO RX5 U ∧ va_AO RX7 U ∧ va_AO RX8 U
theorem lh_N.warm {s U : State} (hW : s.WarmedH U.vm) (h : lh_N s) : lh_N U := by
  obtain ⟨h1, h2, h3, h4, a1, a2, a3, a4, a5, a6⟩ := h
  exact ⟨va_Nw.warmM hW h1, va_Nw.warmM hW h2, va_Nw.warmM hW h3, va_Nw.warmM hW h4, a1.moved hW.alike, a2.moved hW.alike, a3.moved hW.alike, a4.moved hW.alike, a5.moved hW.alike, a6.moved hW.alike⟩
theorem lh_N.same {s U : State} (hW : s.vm = U.vm) (h : lh_N s) : lh_N U := by
  obtain ⟨h1, h2, h3, h4, a1, a2, a3, a4, a5, a6⟩ := h
  have ha : s.vm.Alike U.vm := by rw [hW]; exact Vm.Alike.refl _
  exact ⟨va_Nw.same rfl hW h1, va_Nw.same rfl hW h2, va_Nw.same rfl hW h3, va_Nw.same rfl hW h4, a1.moved ha, a2.moved ha, a3.moved ha, a4.moved ha, a5.moved ha, a6.moved ha⟩
def lh_P (D : va_G) (cT : Nat → ClassId) (S : lh_S) (ad : Nat → Nat → Nat) (A : Nat → Prop) (sz : Nat) (av : List Value) : Array Value → State → Prop := va_Pc av (fun U => U.heap.size = sz ∧ lh_W D cT S ad A U.heap ∧ lh_K D cT U ∧ lh_N U)
def lh_Q (D : va_G) (cT : Nat → ClassId) (S' : lh_S) (ad : Nat → Nat → Nat) (A : Nat → Prop) (X : Prop) (v : Option Value) : Array Value → State → Outcome → State → Prop := fun _ st oc t => (oc = .returned v ∧ X ∧ lh_W D cT S' ad A t.heap) ∧ va_F A st t
def lh_QA (D : va_G) (cT : Nat → ClassId) (S S' : lh_S) (ad : Nat → Nat → Nat) (A : Nat → Prop) (X : Prop) (v : (Nat → Nat → Nat) → Option Value) : Array Value → State → Outcome → State → Prop := fun _ st oc t => (∃ ad' : Nat → Nat → Nat, lh_E S ad ad' ∧ oc = .returned (v ad') ∧ X ∧ lh_W D cT S' ad' A t.heap) ∧ va_F A st t
theorem lh_blind {D : va_G} {cT : Nat → ClassId} {S : lh_S} {ad : Nat → Nat → Nat} {A : Nat → Prop} {sz : Nat} {av : List Value} : FrameBlind (lh_P D cT S ad A sz av) := by
  intro a U g mk q
  obtain ⟨q0, q1, qP, qK, qN⟩ := q
  exact ⟨q0, q1, qP, va_K.moved (u := U) (U := U.calling g mk a) (Vm.Alike.refl U.vm) qK, lh_N.same rfl qN⟩
theorem lh_pre {D : va_G} {cT : Nat → ClassId} {S : lh_S} {ad : Nat → Nat → Nat} {A : Nat → Prop} {H : Heap} {s : State} {av : List Value} (hW : lh_W D cT S ad A H) (hK : lh_K D cT s) (hN : lh_N s) : ∀ U : State, U.heap = H → s.WarmedH U.vm → lh_P D cT S ad A H.size av av.toArray U :=
  fun U hU hw => ⟨rfl, by rw [hU], by rw [hU]; exact hW, va_K.moved hw.alike hK, hN.warm hw⟩
section LH3
variable {p : Program} {l : Launch} {e : Env} {R : Room} {s : State} {m : MethodId} {args : Array Value} {below : List Frame} {meth : Method} {c : Code} {H : Heap} {locs : List Loc} {cells slots : Nat} {Q : State → Prop}
variable {cc : ByteArray} {pc : Nat} {ls : Array Slot} {rest st0 : List Value} {D : va_G} {cT : Nat → ClassId} {S S' : lh_S} {ad : Nat → Nat → Nat} {A : Nat → Prop} {H0 : Heap} {mc ms : Nat} {a : Array Value}
theorem lh_call {X : Prop} {v : Option Value} (hr : va_Run p l e R s m args below meth c H locs cells slots mc ms (F0 m pc ls st0) rest (lh_Q D cT S' ad A X v a) A) (hS : va_S A H0 H locs)
    (kk : ∀ (H1 : Heap) (locs1 : List Loc), X → lh_W D cT S' ad A H1 → va_S A H0 H1 locs1 → W p l e R s m args below meth c H1 locs1 (cells + mc) (slots + ms) Q (F0 m (pc + 3) ls (v.toList ++ rest))) : W p l e R s m args below meth c H locs cells slots Q (F0 m pc ls st0) := by
  intro T hT X0
  obtain ⟨v', st₀, t, T', L, h0, X', hL, e1, e2, ⟨⟨hv, hX, hw⟩, hz, hk⟩, st⟩ := hr T hT X0
  cases hv
  rw [h0] at hz hk
  obtain ⟨t2, a1, b1⟩ := kk T'.heap (locs ++ L) hX (by rw [e1]; exact hw)
    ⟨Nat.le_trans hS.1 (by rw [e1]; exact hz), fun q h1 h2 => by rw [e1, hk q (Nat.lt_of_lt_of_le h1 hS.1) h2]; exact hS.2.1 q h1 h2, fun q hq => by
      rcases List.mem_append.mp hq with h | h
      · exact hS.2.2 q h
      · exact hL q h⟩ T' rfl X'
  exact ⟨t2, st t2 a1, b1⟩
theorem lh_callA {X : Prop} {v : (Nat → Nat → Nat) → Option Value} (hr : va_Run p l e R s m args below meth c H locs cells slots mc ms (F0 m pc ls st0) rest (lh_QA D cT S S' ad A X v a) A) (hS : va_S A H0 H locs)
    (kk : ∀ (ad' : Nat → Nat → Nat) (H1 : Heap) (locs1 : List Loc), lh_E S ad ad' → X → lh_W D cT S' ad' A H1 → va_S A H0 H1 locs1 → W p l e R s m args below meth c H1 locs1 (cells + mc) (slots + ms) Q (F0 m (pc + 3) ls ((v ad').toList ++ rest))) : W p l e R s m args below meth c H locs cells slots Q (F0 m pc ls st0) := by
  intro T hT X0
  obtain ⟨v', st₀, t, T', L, h0, X', hL, e1, e2, ⟨⟨ad', hE, hv, hX, hw⟩, hz, hk⟩, st⟩ := hr T hT X0
  cases hv
  rw [h0] at hz hk
  obtain ⟨t2, a1, b1⟩ := kk ad' T'.heap (locs ++ L) hE hX (by rw [e1]; exact hw)
    ⟨Nat.le_trans hS.1 (by rw [e1]; exact hz), fun q h1 h2 => by rw [e1, hk q (Nat.lt_of_lt_of_le h1 hS.1) h2]; exact hS.2.1 q h1 h2, fun q hq => by
      rcases List.mem_append.mp hq with h | h
      · exact hS.2.2 q h
      · exact hL q h⟩ T' rfl X'
  exact ⟨t2, st t2 a1, b1⟩
theorem lh_recv (hK : lh_K D cT s) (hW : lh_W D cT S ad A H) {k i N : Nat} {C : String} {T : u_T} (hi : i < gvN S k) (hc : vwCl[k]? = some (C, T, N)) (har : lh_ar k = none) : ∃ cell : Cell, H[ad k i]? = some cell ∧ cell.vm.isStatics = false ∧ s.vm.findClass C = some cell.cls := by
  obtain ⟨ws, hP, hD, h1, h2, hok⟩ := hW
  obtain ⟨q, hq⟩ := h1 k i hi
  rw [lh_cell, har] at hq
  exact va_recv hK hP hc hq
variable {y : MethodName} {bytes : ByteArray} {maxL nL n index : Nat} {ret : Option FieldType} {ws : List Cond} {rm : Room} {Qc : Array Value → State → Outcome → State → Prop} {Ts : List Cond} {own C : String} {As : List Value}
/-- a virtual call's run -/
theorem lh_rv (F : CallFix p m c cc nL s args Ts own) {k i N : Nat} {T : u_T} {o : Option Nat} (ho : o = some i) (hM : Met l y ws rm (lh_P D cT S ad A H.size (lh_r ad k (some i) :: As)) Qc mc ms A) (cw : CallW R s args own C index y bytes maxL ret ws rm mc ms n) (hK : lh_K D cT s) (hN : lh_N s) (hW : lh_W D cT S ad A H) (hi : i < gvN S k) (hc : vwCl[k]? = some (C, T, N)) (har : lh_ar k = none)
    (hn : As.length = n) (hsz : ls.size = nL) (hst : st0 = As.reverse ++ lh_r ad k o :: rest) (hR : (rest.map fun v => v.category).sum ≤ 8) (hdg : decode cc pc = .ok (.invokevirtual index, 3)) (hf : cells + mc ≤ R.cells ∧ slots + ms ≤ R.slots) :
    va_Run p l e R s m args below meth c H locs cells slots mc ms (F0 m pc ls st0) rest (Qc (lh_r ad k (some i) :: As).toArray) A := by
  subst ho
  exact va_runV F hM cw ⟨lh_blind, lh_recv hK hW hi hc har, lh_pre hW hK hN⟩ rfl hn hsz hst (lv_room (pc := pc) (ls := ls) (rest := st0) (m := m) hR) hdg hf
theorem lh_rs (F : CallFix p m c cc nL s args Ts own) (hM : Met l y ws rm (lh_P D cT S ad A H.size As) Qc mc ms A) (cw : CallB R s args own index y bytes maxL ret ws rm mc ms n ∧ (Cond.static y).before args s = true) (hK : lh_K D cT s) (hN : lh_N s) (hW : lh_W D cT S ad A H)
    (hn : As.length = n) (hsz : ls.size = nL) (hst : st0 = As.reverse ++ rest) (hR : (rest.map fun v => v.category).sum ≤ 8) (hdg : decode cc pc = .ok (.invokestatic index, 3)) (hf : cells + mc ≤ R.cells ∧ slots + ms ≤ R.slots) :
    va_Run p l e R s m args below meth c H locs cells slots mc ms (F0 m pc ls st0) rest (Qc As.toArray) A :=
  va_runS F hM cw ⟨lh_blind, lh_pre hW hK hN⟩ rfl hn hsz hst (lv_room (pc := pc) (ls := ls) (rest := st0) (m := m) hR) hdg hf
theorem lh_rsn {host : String} (F : CallFix p m c cc nL s args Ts own) (hM : Met l y ws rm (lh_P D cT S ad A H.size As) Qc mc ms A) (cw : va_CN R s args own index y host bytes maxL ret ws rm mc ms n ∧ (Cond.static y).before args s = true ∧ True) (hK : lh_K D cT s) (hN : lh_N s) (hW : lh_W D cT S ad A H)
    (hn : As.length = n) (hsz : ls.size = nL) (hst : st0 = As.reverse ++ rest) (hR : (rest.map fun v => v.category).sum ≤ 8) (hdg : decode cc pc = .ok (.invokestatic index, 3)) (hf : cells + mc ≤ R.cells ∧ slots + ms ≤ R.slots) :
    va_Run p l e R s m args below meth c H locs cells slots mc ms (F0 m pc ls st0) rest (Qc As.toArray) A :=
  va_runSN F hM cw ⟨lh_blind, lh_pre hW hK hN⟩ rfl hn hsz hst (lv_room (pc := pc) (ls := ls) (rest := st0) (m := m) hR) hdg hf
theorem lh_ri (F : CallFix p m c cc nL s args Ts own) {k i : Nat} {o : Option Nat} (ho : o = some i) (hM : Met l y ws rm (lh_P D cT S ad A H.size (lh_r ad k (some i) :: As)) Qc mc ms A) (cw : CallB R s args own index y bytes maxL none ws rm mc ms n ∧ y.name = "<init>" ∧ (Cond.instanceMethod y).before args s = true) (hK : lh_K D cT s) (hN : lh_N s) (hW : lh_W D cT S ad A H)
    (hn : As.length = n) (hsz : ls.size = nL) (hst : st0 = As.reverse ++ lh_r ad k o :: rest) (hR : (rest.map fun v => v.category).sum ≤ 8) (hdg : decode cc pc = .ok (.invokespecial index, 3)) (hf : cells + mc ≤ R.cells ∧ slots + ms ≤ R.slots) :
    va_Run p l e R s m args below meth c H locs cells slots mc ms (F0 m pc ls st0) rest (Qc (lh_r ad k (some i) :: As).toArray) A := by
  subst ho
  exact va_runI F hM cw ⟨lh_blind, lh_pre hW hK hN⟩ rfl hn hsz hst (lv_room (pc := pc) (ls := ls) (rest := st0) (m := m) hR) hdg hf
theorem lh_rin {host : String} (F : CallFix p m c cc nL s args Ts own) {k i : Nat} {o : Option Nat} (ho : o = some i) (hM : Met l y ws rm (lh_P D cT S ad A H.size (lh_r ad k (some i) :: As)) Qc mc ms A) (cw : va_CN R s args own index y host bytes maxL none ws rm mc ms n ∧ y.name = "<init>" ∧ (Cond.instanceMethod y).before args s = true) (hK : lh_K D cT s) (hN : lh_N s) (hW : lh_W D cT S ad A H)
    (hn : As.length = n) (hsz : ls.size = nL) (hst : st0 = As.reverse ++ lh_r ad k o :: rest) (hR : (rest.map fun v => v.category).sum ≤ 8) (hdg : decode cc pc = .ok (.invokespecial index, 3)) (hf : cells + mc ≤ R.cells ∧ slots + ms ≤ R.slots) :
    va_Run p l e R s m args below meth c H locs cells slots mc ms (F0 m pc ls st0) rest (Qc (lh_r ad k (some i) :: As).toArray) A := by
  subst ho
  exact va_runIN F hM cw ⟨lh_blind, lh_pre hW hK hN⟩ rfl hn hsz hst (lv_room (pc := pc) (ls := ls) (rest := st0) (m := m) hR) hdg hf
end LH3
-- the words of a decompiled method: each tells what its success says
def dc_nn {α : Type} (o : Option Nat) (f : Nat → Option α) : Option α := match o with
  | none => none
  | some a => f a
def dc_gd {α : Type} (c : Prop) [Decidable c] (x : Option α) : Option α := if c then none else x
def dc_if {α : Type} (c : Prop) [Decidable c] (x y : Option α) : Option α := if c then x else y
def dc_bd {α β : Type} (x : Option (α × lh_S)) (f : α → lh_S → Option β) : Option β := match x with
  | none => none
  | some a => f a.1 a.2
def dc_let {α β : Type} (x : α) (f : α → Option β) : Option β := f x
theorem dc_nn_ok {α : Type} {o : Option Nat} {f : Nat → Option α} {z : α} (h : dc_nn o f = some z) : ∃ a, o = some a ∧ f a = some z := by
  cases o with
  | none => cases h
  | some a => exact ⟨a, rfl, h⟩
theorem dc_gd_ok {α : Type} {c : Prop} [Decidable c] {x : Option α} {z : α} (h : dc_gd c x = some z) : ¬ c ∧ x = some z := by
  unfold dc_gd at h
  by_cases hc : c
  · rw [if_pos hc] at h; cases h
  · rw [if_neg hc] at h; exact ⟨hc, h⟩
theorem dc_if_t {α : Type} {c : Prop} [Decidable c] {x y : Option α} {z : α} (hc : c) (h : dc_if c x y = some z) : x = some z := by
  unfold dc_if at h; rw [if_pos hc] at h; exact h
theorem dc_if_f {α : Type} {c : Prop} [Decidable c] {x y : Option α} {z : α} (hc : ¬ c) (h : dc_if c x y = some z) : y = some z := by
  unfold dc_if at h; rw [if_neg hc] at h; exact h
theorem dc_bd_ok {α β : Type} {x : Option (α × lh_S)} {f : α → lh_S → Option β} {z : β} (h : dc_bd x f = some z) : ∃ (a : α) (S : lh_S), x = some (a, S) ∧ f a S = some z := by
  cases x with
  | none => cases h
  | some a => exact ⟨a.1, a.2, rfl, h⟩
theorem dc_let_ok {α β : Type} {x : α} {f : α → Option β} {z : β} (h : dc_let x f = some z) : ∃ a : α, a = x ∧ f a = some z := ⟨x, rfl, h⟩
theorem dc_ret {α : Type} {x y : α} {S T : lh_S} (h : some (x, S) = some (y, T)) : x = y ∧ S = T := by cases h; exact ⟨rfl, rfl⟩
theorem dc_let_e {α β : Type} {a x : α} {f : α → Option β} {z : β} (e : a = x) (h : dc_let x f = some z) : f a = some z := by rw [e]; exact h
theorem lh_W_ok {D : va_G} {cT : Nat → ClassId} {S : lh_S} {ad : Nat → Nat → Nat} {A : Nat → Prop} {H : Heap} (h : lh_W D cT S ad A H) : lh_ok S := by
  obtain ⟨ws, hP, hD, h1, h2, hok⟩ := h
  exact hok
theorem lh_rE {S : lh_S} {ad ad' : Nat → Nat → Nat} {k : Nat} {o : Option Nat} (hE : lh_E S ad ad') (L : ∀ j, o = some j → j < gvN S k) : lh_r ad k o = lh_r ad' k o := by
  cases o with
  | none => rfl
  | some j =>
    show va_rf (some (ad k j)) = va_rf (some (ad' k j))
    rw [hE k j (L j rfl)]
theorem lh_E.trans {S S1 : lh_S} {ad ad1 ad2 : Nat → Nat → Nat} (h1 : lh_E S ad ad1) (hm : ∀ b, gvN S b ≤ gvN S1 b) (h2 : lh_E S1 ad1 ad2) : lh_E S ad ad2 := fun b j hj => by rw [h2 b j (Nat.lt_of_lt_of_le hj (hm b)), h1 b j hj]
theorem lh_E.rf {S : lh_S} {ad : Nat → Nat → Nat} : lh_E S ad ad := fun _ _ _ => rfl
theorem lh_ls {n x : Nat} (h : x < n) : ∀ j, some x = some j → j < n := fun j e => by cases e; exact h
theorem lh_mI {S : lh_S} {a b c : Nat} {v : Int32} : ∀ q, gvN S q ≤ gvN (pvI S a b c v) q := fun _ => Nat.le_refl _
theorem lh_mJ {S : lh_S} {a b c : Nat} {v : Int64} : ∀ q, gvN S q ≤ gvN (pvJ S a b c v) q := fun _ => Nat.le_refl _
theorem lh_mR {S : lh_S} {a b c : Nat} {v : Option Nat} : ∀ q, gvN S q ≤ gvN (pvR S a b c v) q := fun _ => Nat.le_refl _
theorem lh_mN {S : lh_S} {a n : Nat} : ∀ q, gvN S q ≤ gvN (pvN S a n) q := fun q => by rw [lh_pvN_n]; split <;> (try subst_vars) <;> omega
theorem lh_nN {S : lh_S} {a n : Nat} : gvN S a < gvN (pvN S a n) a := by rw [lh_pvN_n, if_pos rfl]; omega
theorem lh_le_trans {S S1 S2 : lh_S} (h1 : ∀ b, gvN S b ≤ gvN S1 b) (h2 : ∀ b, gvN S1 b ≤ gvN S2 b) : ∀ b, gvN S b ≤ gvN S2 b := fun b => Nat.le_trans (h1 b) (h2 b)
/-- the locals behind a store: what was in the place is gone -/
theorem lh_nar_b {v : Int32} (h : v = 0 ∨ v = 1) : narrow .boolean (.int v) = .int v := lh_nar_z h
theorem lh_fit_b {v : Int32} (h : v = 0 ∨ v = 1) : fits .boolean (.int v) = true := by rcases h with rfl | rfl <;> rfl
