def f_X9_failed (n : Nat) (S : lh_S) (p1 : Int32) : Option (Int32 × lh_S) :=
  some ((-10 : Int32) - p1, S)
set_option maxHeartbeats 1000000 in
theorem m_X9_failed {n : Nat} {S : lh_S} {p1 : Int32} {r : Int32} {S' : lh_S} (hf : f_X9_failed n S p1 = some (r, S')) : ∀ b, gvN S b ≤ gvN S' b := by
  have hm : ∀ b, gvN S b ≤ gvN S b := fun _ => Nat.le_refl _
  unfold f_X9_failed at hf
  obtain ⟨_, rfl⟩ := dc_ret hf
  exact hm
set_option maxHeartbeats 1000000 in
theorem k_X9_failed {n : Nat} {S : lh_S} {p1 : Int32} {r : Int32} {S' : lh_S} (hf : f_X9_failed n S p1 = some (r, S')) : lh_sm9 S S' := by
  have hm : lh_sm9 S S := lh_sm9_rf
  unfold f_X9_failed at hf
  obtain ⟨_, rfl⟩ := dc_ret hf
  exact hm
set_option maxHeartbeats 4000000 in
set_option maxRecDepth 100000 in
theorem c_X9_failed (l : Launch) (D : va_G) (cT : Nat → ClassId) (n : Nat) (S : lh_S) (ad : Nat → Nat → Nat) (A : Nat → Prop) (sz : Nat) (hA : ∀ q, sz ≤ q → A q) (p1 : Int32) (r : Int32) (S' : lh_S) (hf : f_X9_failed n S p1 = some (r, S')) : Met l yX9_failed wsX9_failed ({ frames := 0, cells := 0, slots := 0, locals := 0 } : Room) (lh_P D cT S ad A sz [.int p1]) (lh_Q D cT S' ad A ((∀ b, gvN S b ≤ gvN S' b) ∧ True) (some (.int r))) 0 0 A := by
  refine Met.ofW (cc := cX9_failed) (maxL := 1) (ret := (some .int)) (by decide) rfl ?_
  intro p e s m args below meth c s₁ B hml hv
  obtain ⟨hargs, hsz, hW, hK, hN⟩ := hv
  have hx := B.exec
  have hb := B.bytes
  have hr := B.returns
  have hts := atoms_spec (ws := wsX9_failed) B.pre
  have hown : s.vm.findClass RX9 = some m.cls := findClass_of_methodNamed B.named
  have hlocks := B.notSynchronized
  have hA : ∀ q, s.heap.size ≤ q → A q := fun q h => hA q (by rw [← hsz]; exact h)
  have ok := lh_W_ok hW
  have hm : ∀ b, gvN S b ≤ gvN S b := fun _ => Nat.le_refl _
  obtain ⟨ls, hent, hl⟩ := lh_entry m args [.int p1] 1 [(0, .int p1)] hargs (by simp [lv_args, lh_cat_r, lh_cat_i, lh_cat_j]) (by simp [lg_sl, lh_cat_r, lh_cat_i, lh_cat_j])
  rw [hent]
  generalize hH : s.heap = H at hW ⊢
  have hS : va_S A s.heap H [] := by rw [← hH]; exact va_S.rf
  unfold f_X9_failed at hf
  refine lv_bipush (v := -10) hx hb dX9_failed_0 (by decide) ?_
  refine lv_iload_n hx hb dX9_failed_2 rfl (lv_at hl 0 rfl) ?_
  refine lv_isub hx hb dX9_failed_3 ?_
  obtain ⟨rfl, rfl⟩ := dc_ret hf
  exact W.iret (v := (-10 : Int32) - p1) hx hb hr (fun t9 ht9 hW9 => ⟨⟨rfl, ⟨hm, trivial⟩, by rw [ht9]; exact hW⟩, hS.F ht9⟩) hS.2.2 dX9_failed_4
def f_X9_isName (n : Nat) (S : lh_S) (p1 : Int32) : Option (Int32 × lh_S) :=
  dc_if (p1 < 0) (
  some ((0 : Int32), S)) (
  dc_if ((40 : Int32) ≤ p1) (
  some ((0 : Int32), S)) (
  some ((1 : Int32), S)))
set_option maxHeartbeats 1000000 in
theorem m_X9_isName {n : Nat} {S : lh_S} {p1 : Int32} {r : Int32} {S' : lh_S} (hf : f_X9_isName n S p1 = some (r, S')) : ∀ b, gvN S b ≤ gvN S' b := by
  have hm : ∀ b, gvN S b ≤ gvN S b := fun _ => Nat.le_refl _
  unfold f_X9_isName at hf
  by_cases c1 : p1 < 0
  · replace hf := dc_if_t c1 hf
    obtain ⟨_, rfl⟩ := dc_ret hf
    exact hm
  · replace hf := dc_if_f c1 hf
    by_cases c2 : (40 : Int32) ≤ p1
    · replace hf := dc_if_t c2 hf
      obtain ⟨_, rfl⟩ := dc_ret hf
      exact hm
    · replace hf := dc_if_f c2 hf
      obtain ⟨_, rfl⟩ := dc_ret hf
      exact hm
set_option maxHeartbeats 1000000 in
theorem k_X9_isName {n : Nat} {S : lh_S} {p1 : Int32} {r : Int32} {S' : lh_S} (hf : f_X9_isName n S p1 = some (r, S')) : lh_sm9 S S' := by
  have hm : lh_sm9 S S := lh_sm9_rf
  unfold f_X9_isName at hf
  by_cases c1 : p1 < 0
  · replace hf := dc_if_t c1 hf
    obtain ⟨_, rfl⟩ := dc_ret hf
    exact hm
  · replace hf := dc_if_f c1 hf
    by_cases c2 : (40 : Int32) ≤ p1
    · replace hf := dc_if_t c2 hf
      obtain ⟨_, rfl⟩ := dc_ret hf
      exact hm
    · replace hf := dc_if_f c2 hf
      obtain ⟨_, rfl⟩ := dc_ret hf
      exact hm
set_option maxHeartbeats 4000000 in
set_option maxRecDepth 100000 in
theorem c_X9_isName (l : Launch) (D : va_G) (cT : Nat → ClassId) (n : Nat) (S : lh_S) (ad : Nat → Nat → Nat) (A : Nat → Prop) (sz : Nat) (hA : ∀ q, sz ≤ q → A q) (p1 : Int32) (r : Int32) (S' : lh_S) (hf : f_X9_isName n S p1 = some (r, S')) : Met l yX9_isName wsX9_isName ({ frames := 0, cells := 0, slots := 0, locals := 0 } : Room) (lh_P D cT S ad A sz [.int p1]) (lh_Q D cT S' ad A ((∀ b, gvN S b ≤ gvN S' b) ∧ (r = 0 ∨ r = 1)) (some (.int r))) 0 0 A := by
  refine Met.ofW (cc := cX9_isName) (maxL := 1) (ret := (some .boolean)) (by decide) rfl ?_
  intro p e s m args below meth c s₁ B hml hv
  obtain ⟨hargs, hsz, hW, hK, hN⟩ := hv
  have hx := B.exec
  have hb := B.bytes
  have hr := B.returns
  have hts := atoms_spec (ws := wsX9_isName) B.pre
  have hown : s.vm.findClass RX9 = some m.cls := findClass_of_methodNamed B.named
  have hlocks := B.notSynchronized
  have hA : ∀ q, s.heap.size ≤ q → A q := fun q h => hA q (by rw [← hsz]; exact h)
  have ok := lh_W_ok hW
  have hm : ∀ b, gvN S b ≤ gvN S b := fun _ => Nat.le_refl _
  obtain ⟨ls, hent, hl⟩ := lh_entry m args [.int p1] 1 [(0, .int p1)] hargs (by simp [lv_args, lh_cat_r, lh_cat_i, lh_cat_j]) (by simp [lg_sl, lh_cat_r, lh_cat_i, lh_cat_j])
  rw [hent]
  generalize hH : s.heap = H at hW ⊢
  have hS : va_S A s.heap H [] := by rw [← hH]; exact va_S.rf
  unfold f_X9_isName at hf
  refine lv_iload_n hx hb dX9_isName_0 rfl (lv_at hl 0 rfl) ?_
  refine lv_if_lt (tgt := 14) hx hb dX9_isName_1 (by decide) (fun c1 => ?_) (fun c1 => ?_)
  · replace hf := dc_if_t c1 hf
    refine lv_iconst (v := 0) hx hb dX9_isName_14 (by decide) ?_
    obtain ⟨rfl, rfl⟩ := dc_ret hf
    exact W.zret (v := (0 : Int32)) hx hb hr (lh_nar_z (Or.inl rfl)) (fun t9 ht9 hW9 => ⟨⟨rfl, ⟨hm, (Or.inl rfl)⟩, by rw [ht9]; exact hW⟩, hS.F ht9⟩) hS.2.2 dX9_isName_15
  · replace hf := dc_if_f c1 hf
    refine lv_iload_n hx hb dX9_isName_4 rfl (lv_at hl 0 rfl) ?_
    refine lv_bipush (v := 40) hx hb dX9_isName_5 (by decide) ?_
    refine lv_icmp_ge (tgt := 14) hx hb dX9_isName_7 (by decide) (fun c2 => ?_) (fun c2 => ?_)
    · replace hf := dc_if_t c2 hf
      refine lv_iconst (v := 0) hx hb dX9_isName_14 (by decide) ?_
      obtain ⟨rfl, rfl⟩ := dc_ret hf
      exact W.zret (v := (0 : Int32)) hx hb hr (lh_nar_z (Or.inl rfl)) (fun t9 ht9 hW9 => ⟨⟨rfl, ⟨hm, (Or.inl rfl)⟩, by rw [ht9]; exact hW⟩, hS.F ht9⟩) hS.2.2 dX9_isName_15
    · replace hf := dc_if_f c2 hf
      refine lv_iconst (v := 1) hx hb dX9_isName_10 (by decide) ?_
      refine lv_goto (tgt := 15) hx hb dX9_isName_11 (by decide) ?_
      obtain ⟨rfl, rfl⟩ := dc_ret hf
      exact W.zret (v := (1 : Int32)) hx hb hr (lh_nar_z (Or.inr rfl)) (fun t9 ht9 hW9 => ⟨⟨rfl, ⟨hm, (Or.inr rfl)⟩, by rw [ht9]; exact hW⟩, hS.F ht9⟩) hS.2.2 dX9_isName_15
def f_X9_isMethod (n : Nat) (S : lh_S) (p1 : Int32) : Option (Int32 × lh_S) :=
  dc_if (p1 < 0) (
  some ((0 : Int32), S)) (
  dc_if ((4 : Int32) ≤ p1) (
  some ((0 : Int32), S)) (
  some ((1 : Int32), S)))
set_option maxHeartbeats 1000000 in
theorem m_X9_isMethod {n : Nat} {S : lh_S} {p1 : Int32} {r : Int32} {S' : lh_S} (hf : f_X9_isMethod n S p1 = some (r, S')) : ∀ b, gvN S b ≤ gvN S' b := by
  have hm : ∀ b, gvN S b ≤ gvN S b := fun _ => Nat.le_refl _
  unfold f_X9_isMethod at hf
  by_cases c1 : p1 < 0
  · replace hf := dc_if_t c1 hf
    obtain ⟨_, rfl⟩ := dc_ret hf
    exact hm
  · replace hf := dc_if_f c1 hf
    by_cases c2 : (4 : Int32) ≤ p1
    · replace hf := dc_if_t c2 hf
      obtain ⟨_, rfl⟩ := dc_ret hf
      exact hm
    · replace hf := dc_if_f c2 hf
      obtain ⟨_, rfl⟩ := dc_ret hf
      exact hm
set_option maxHeartbeats 1000000 in
theorem k_X9_isMethod {n : Nat} {S : lh_S} {p1 : Int32} {r : Int32} {S' : lh_S} (hf : f_X9_isMethod n S p1 = some (r, S')) : lh_sm9 S S' := by
  have hm : lh_sm9 S S := lh_sm9_rf
  unfold f_X9_isMethod at hf
  by_cases c1 : p1 < 0
  · replace hf := dc_if_t c1 hf
    obtain ⟨_, rfl⟩ := dc_ret hf
    exact hm
  · replace hf := dc_if_f c1 hf
    by_cases c2 : (4 : Int32) ≤ p1
    · replace hf := dc_if_t c2 hf
      obtain ⟨_, rfl⟩ := dc_ret hf
      exact hm
    · replace hf := dc_if_f c2 hf
      obtain ⟨_, rfl⟩ := dc_ret hf
      exact hm
set_option maxHeartbeats 4000000 in
set_option maxRecDepth 100000 in
theorem c_X9_isMethod (l : Launch) (D : va_G) (cT : Nat → ClassId) (n : Nat) (S : lh_S) (ad : Nat → Nat → Nat) (A : Nat → Prop) (sz : Nat) (hA : ∀ q, sz ≤ q → A q) (p1 : Int32) (r : Int32) (S' : lh_S) (hf : f_X9_isMethod n S p1 = some (r, S')) : Met l yX9_isMethod wsX9_isMethod ({ frames := 0, cells := 0, slots := 0, locals := 0 } : Room) (lh_P D cT S ad A sz [.int p1]) (lh_Q D cT S' ad A ((∀ b, gvN S b ≤ gvN S' b) ∧ (r = 0 ∨ r = 1)) (some (.int r))) 0 0 A := by
  refine Met.ofW (cc := cX9_isMethod) (maxL := 1) (ret := (some .boolean)) (by decide) rfl ?_
  intro p e s m args below meth c s₁ B hml hv
  obtain ⟨hargs, hsz, hW, hK, hN⟩ := hv
  have hx := B.exec
  have hb := B.bytes
  have hr := B.returns
  have hts := atoms_spec (ws := wsX9_isMethod) B.pre
  have hown : s.vm.findClass RX9 = some m.cls := findClass_of_methodNamed B.named
  have hlocks := B.notSynchronized
  have hA : ∀ q, s.heap.size ≤ q → A q := fun q h => hA q (by rw [← hsz]; exact h)
  have ok := lh_W_ok hW
  have hm : ∀ b, gvN S b ≤ gvN S b := fun _ => Nat.le_refl _
  obtain ⟨ls, hent, hl⟩ := lh_entry m args [.int p1] 1 [(0, .int p1)] hargs (by simp [lv_args, lh_cat_r, lh_cat_i, lh_cat_j]) (by simp [lg_sl, lh_cat_r, lh_cat_i, lh_cat_j])
  rw [hent]
  generalize hH : s.heap = H at hW ⊢
  have hS : va_S A s.heap H [] := by rw [← hH]; exact va_S.rf
  unfold f_X9_isMethod at hf
  refine lv_iload_n hx hb dX9_isMethod_0 rfl (lv_at hl 0 rfl) ?_
  refine lv_if_lt (tgt := 13) hx hb dX9_isMethod_1 (by decide) (fun c1 => ?_) (fun c1 => ?_)
  · replace hf := dc_if_t c1 hf
    refine lv_iconst (v := 0) hx hb dX9_isMethod_13 (by decide) ?_
    obtain ⟨rfl, rfl⟩ := dc_ret hf
    exact W.zret (v := (0 : Int32)) hx hb hr (lh_nar_z (Or.inl rfl)) (fun t9 ht9 hW9 => ⟨⟨rfl, ⟨hm, (Or.inl rfl)⟩, by rw [ht9]; exact hW⟩, hS.F ht9⟩) hS.2.2 dX9_isMethod_14
  · replace hf := dc_if_f c1 hf
    refine lv_iload_n hx hb dX9_isMethod_4 rfl (lv_at hl 0 rfl) ?_
    refine lv_iconst (v := 4) hx hb dX9_isMethod_5 (by decide) ?_
    refine lv_icmp_ge (tgt := 13) hx hb dX9_isMethod_6 (by decide) (fun c2 => ?_) (fun c2 => ?_)
    · replace hf := dc_if_t c2 hf
      refine lv_iconst (v := 0) hx hb dX9_isMethod_13 (by decide) ?_
      obtain ⟨rfl, rfl⟩ := dc_ret hf
      exact W.zret (v := (0 : Int32)) hx hb hr (lh_nar_z (Or.inl rfl)) (fun t9 ht9 hW9 => ⟨⟨rfl, ⟨hm, (Or.inl rfl)⟩, by rw [ht9]; exact hW⟩, hS.F ht9⟩) hS.2.2 dX9_isMethod_14
    · replace hf := dc_if_f c2 hf
      refine lv_iconst (v := 1) hx hb dX9_isMethod_9 (by decide) ?_
      refine lv_goto (tgt := 14) hx hb dX9_isMethod_10 (by decide) ?_
      obtain ⟨rfl, rfl⟩ := dc_ret hf
      exact W.zret (v := (1 : Int32)) hx hb hr (lh_nar_z (Or.inr rfl)) (fun t9 ht9 hW9 => ⟨⟨rfl, ⟨hm, (Or.inr rfl)⟩, by rw [ht9]; exact hW⟩, hS.F ht9⟩) hS.2.2 dX9_isMethod_14
def f_X9_numberOf (n : Nat) (S : lh_S) (p1 : Option Nat) : Option (Int32 × lh_S) :=
  dc_if (p1 = none) (
  some ((-1 : Int32), S)) (
  dc_nn p1 fun x2 =>
  some (gvI S 5 x2 0, S))
set_option maxHeartbeats 1000000 in
theorem m_X9_numberOf {n : Nat} {S : lh_S} {p1 : Option Nat} {r : Int32} {S' : lh_S} (hf : f_X9_numberOf n S p1 = some (r, S')) : ∀ b, gvN S b ≤ gvN S' b := by
  have hm : ∀ b, gvN S b ≤ gvN S b := fun _ => Nat.le_refl _
  unfold f_X9_numberOf at hf
  by_cases c1 : p1 = none
  · replace hf := dc_if_t c1 hf
    obtain ⟨_, rfl⟩ := dc_ret hf
    exact hm
  · replace hf := dc_if_f c1 hf
    obtain ⟨x2, hx2, hf⟩ := dc_nn_ok hf
    obtain ⟨_, rfl⟩ := dc_ret hf
    exact hm
set_option maxHeartbeats 1000000 in
theorem k_X9_numberOf {n : Nat} {S : lh_S} {p1 : Option Nat} {r : Int32} {S' : lh_S} (hf : f_X9_numberOf n S p1 = some (r, S')) : lh_sm9 S S' := by
  have hm : lh_sm9 S S := lh_sm9_rf
  unfold f_X9_numberOf at hf
  by_cases c1 : p1 = none
  · replace hf := dc_if_t c1 hf
    obtain ⟨_, rfl⟩ := dc_ret hf
    exact hm
  · replace hf := dc_if_f c1 hf
    obtain ⟨x2, hx2, hf⟩ := dc_nn_ok hf
    obtain ⟨_, rfl⟩ := dc_ret hf
    exact hm
set_option maxHeartbeats 4000000 in
set_option maxRecDepth 100000 in
theorem c_X9_numberOf (l : Launch) (D : va_G) (cT : Nat → ClassId) (n : Nat) (S : lh_S) (ad : Nat → Nat → Nat) (A : Nat → Prop) (sz : Nat) (hA : ∀ q, sz ≤ q → A q) (p1 : Option Nat) (r : Int32) (S' : lh_S) (hf : f_X9_numberOf n S p1 = some (r, S')) (L_p1 : ∀ j, p1 = some j → j < gvN S 5) : Met l yX9_numberOf wsX9_numberOf ({ frames := 0, cells := 0, slots := 0, locals := 0 } : Room) (lh_P D cT S ad A sz [lh_r ad 5 p1]) (lh_Q D cT S' ad A ((∀ b, gvN S b ≤ gvN S' b) ∧ True) (some (.int r))) 0 0 A := by
  refine Met.ofW (cc := cX9_numberOf) (maxL := 1) (ret := (some .int)) (by decide) rfl ?_
  intro p e s m args below meth c s₁ B hml hv
  obtain ⟨hargs, hsz, hW, hK, hN⟩ := hv
  have hx := B.exec
  have hb := B.bytes
  have hr := B.returns
  have hts := atoms_spec (ws := wsX9_numberOf) B.pre
  have hown : s.vm.findClass RX9 = some m.cls := findClass_of_methodNamed B.named
  have hlocks := B.notSynchronized
  have hA : ∀ q, s.heap.size ≤ q → A q := fun q h => hA q (by rw [← hsz]; exact h)
  have ok := lh_W_ok hW
  have hm : ∀ b, gvN S b ≤ gvN S b := fun _ => Nat.le_refl _
  obtain ⟨ls, hent, hl⟩ := lh_entry m args [lh_r ad 5 p1] 1 [(0, lh_r ad 5 p1)] hargs (by simp [lv_args, lh_cat_r, lh_cat_i, lh_cat_j]) (by simp [lg_sl, lh_cat_r, lh_cat_i, lh_cat_j])
  rw [hent]
  generalize hH : s.heap = H at hW ⊢
  have hS : va_S A s.heap H [] := by rw [← hH]; exact va_S.rf
  unfold f_X9_numberOf at hf
  refine lh_aload_n hx hb dX9_numberOf_0 rfl (lv_at hl 0 rfl) ?_
  refine lh_ifnonnull (tgt := 8) hx hb dX9_numberOf_1 (by decide) (fun c1 => ?_) (fun c1 => ?_)
  · replace hf := dc_if_f c1 hf
    refine lh_aload_n hx hb dX9_numberOf_8 rfl (lv_at hl 0 rfl) ?_
    obtain ⟨x2, hx2, hf⟩ := dc_nn_ok hf
    refine lh_get (a := 5) (k := 0) (N := 6) (C := RX5) (T := TX5) (own := RX9) (ref := "LoaderModels$Model") hx hb hts (fun _ h => (List.mem_cons_of_mem _ (List.mem_append_right _ h))) hown hK hW hx2 (L_p1 _ hx2) rfl rfl rfl (by decide) (hts (.fieldLink RX9 219 "LoaderModels$Model" "number" "I") (List.mem_cons_of_mem _ (List.mem_append_left _ (List.mem_of_getElem? (i := 0) rfl)))) (fun _ h9 => h9) dX9_numberOf_9 (v := .int (gvI S 5 x2 0)) rfl ?_
    obtain ⟨rfl, rfl⟩ := dc_ret hf
    exact W.iret (v := gvI S 5 x2 0) hx hb hr (fun t9 ht9 hW9 => ⟨⟨rfl, ⟨hm, trivial⟩, by rw [ht9]; exact hW⟩, hS.F ht9⟩) hS.2.2 dX9_numberOf_12
  · replace hf := dc_if_t c1 hf
    refine lv_iconst (v := -1) hx hb dX9_numberOf_4 (by decide) ?_
    refine lv_goto (tgt := 12) hx hb dX9_numberOf_5 (by decide) ?_
    obtain ⟨rfl, rfl⟩ := dc_ret hf
    exact W.iret (v := (-1 : Int32)) hx hb hr (fun t9 ht9 hW9 => ⟨⟨rfl, ⟨hm, trivial⟩, by rw [ht9]; exact hW⟩, hS.F ht9⟩) hS.2.2 dX9_numberOf_12
def f_X9_fileAt (n : Nat) (S : lh_S) (t : Nat) (p1 : Int32) : Option (Option Nat × lh_S) :=
  dc_if (p1 < 0) (
  some ((none : Option Nat), S)) (
  dc_if ((gvI S 9 t 1) ≤ p1) (
  some ((none : Option Nat), S)) (
  dc_nn (gvR S 9 t 0) fun x6 =>
  dc_gd (p1 < 0 ∨ gvL S 21 x6 ≤ (p1).toNatClampNeg) (
  some (gvR S 21 x6 (p1).toNatClampNeg, S))))
set_option maxHeartbeats 1000000 in
theorem m_X9_fileAt {n : Nat} {S : lh_S} {t : Nat} {p1 : Int32} {r : Option Nat} {S' : lh_S} (hf : f_X9_fileAt n S t p1 = some (r, S')) : ∀ b, gvN S b ≤ gvN S' b := by
  have hm : ∀ b, gvN S b ≤ gvN S b := fun _ => Nat.le_refl _
  unfold f_X9_fileAt at hf
  by_cases c1 : p1 < 0
  · replace hf := dc_if_t c1 hf
    obtain ⟨_, rfl⟩ := dc_ret hf
    exact hm
  · replace hf := dc_if_f c1 hf
    by_cases c3 : (gvI S 9 t 1) ≤ p1
    · replace hf := dc_if_t c3 hf
      obtain ⟨_, rfl⟩ := dc_ret hf
      exact hm
    · replace hf := dc_if_f c3 hf
      obtain ⟨x6, hx6, hf⟩ := dc_nn_ok hf
      obtain ⟨g7, hf⟩ := dc_gd_ok hf
      obtain ⟨_, rfl⟩ := dc_ret hf
      exact hm
set_option maxHeartbeats 1000000 in
theorem k_X9_fileAt {n : Nat} {S : lh_S} {t : Nat} {p1 : Int32} {r : Option Nat} {S' : lh_S} (hf : f_X9_fileAt n S t p1 = some (r, S')) : lh_sm9 S S' := by
  have hm : lh_sm9 S S := lh_sm9_rf
  unfold f_X9_fileAt at hf
  by_cases c1 : p1 < 0
  · replace hf := dc_if_t c1 hf
    obtain ⟨_, rfl⟩ := dc_ret hf
    exact hm
  · replace hf := dc_if_f c1 hf
    by_cases c3 : (gvI S 9 t 1) ≤ p1
    · replace hf := dc_if_t c3 hf
      obtain ⟨_, rfl⟩ := dc_ret hf
      exact hm
    · replace hf := dc_if_f c3 hf
      obtain ⟨x6, hx6, hf⟩ := dc_nn_ok hf
      obtain ⟨g7, hf⟩ := dc_gd_ok hf
      obtain ⟨_, rfl⟩ := dc_ret hf
      exact hm
set_option maxHeartbeats 4000000 in
set_option maxRecDepth 100000 in
theorem c_X9_fileAt (l : Launch) (D : va_G) (cT : Nat → ClassId) (n : Nat) (S : lh_S) (ad : Nat → Nat → Nat) (A : Nat → Prop) (sz : Nat) (hA : ∀ q, sz ≤ q → A q) (t : Nat) (p1 : Int32) (r : Option Nat) (S' : lh_S) (hf : f_X9_fileAt n S t p1 = some (r, S')) (L_t : ∀ j, some t = some j → j < gvN S 9) : Met l yX9_fileAt wsX9_fileAt ({ frames := 0, cells := 0, slots := 0, locals := 0 } : Room) (lh_P D cT S ad A sz [lh_r ad 9 (some t), .int p1]) (lh_Q D cT S' ad A ((∀ b, gvN S b ≤ gvN S' b) ∧ (∀ j, r = some j → j < gvN S' 1)) (some (lh_r ad 1 r))) 0 0 A := by
  refine Met.ofW (cc := cX9_fileAt) (maxL := 2) (ret := (some (.object "LoaderModels$ClassFile"))) (by decide) rfl ?_
  intro p e s m args below meth c s₁ B hml hv
  obtain ⟨hargs, hsz, hW, hK, hN⟩ := hv
  have hx := B.exec
  have hb := B.bytes
  have hr := B.returns
  have hts := atoms_spec (ws := wsX9_fileAt) B.pre
  have hown : s.vm.findClass RX9 = some m.cls := findClass_of_methodNamed B.named
  have hlocks := B.notSynchronized
  have hA : ∀ q, s.heap.size ≤ q → A q := fun q h => hA q (by rw [← hsz]; exact h)
  have ok := lh_W_ok hW
  have hm : ∀ b, gvN S b ≤ gvN S b := fun _ => Nat.le_refl _
  obtain ⟨ls, hent, hl⟩ := lh_entry m args [lh_r ad 9 (some t), .int p1] 2 [(0, lh_r ad 9 (some t)), (1, .int p1)] hargs (by simp [lv_args, lh_cat_r, lh_cat_i, lh_cat_j]) (by simp [lg_sl, lh_cat_r, lh_cat_i, lh_cat_j])
  rw [hent]
  generalize hH : s.heap = H at hW ⊢
  have hS : va_S A s.heap H [] := by rw [← hH]; exact va_S.rf
  unfold f_X9_fileAt at hf
  refine lv_iload_n hx hb dX9_fileAt_0 rfl (lv_at hl 1 rfl) ?_
  refine lv_if_lt (tgt := 21) hx hb dX9_fileAt_1 (by decide) (fun c1 => ?_) (fun c1 => ?_)
  · replace hf := dc_if_t c1 hf
    have L2 : ∀ j, (none : Option Nat) = some j → j < gvN S 1 := fun j h => by cases h
    refine lh_null hx hb ad 1 dX9_fileAt_21 ?_
    obtain ⟨rfl, rfl⟩ := dc_ret hf
    exact W.aret (v := lh_r ad 1 (none : Option Nat)) hx hb hr (Or.inl ⟨_, rfl⟩) (lh_rf_or) (fun t9 ht9 hW9 => ⟨⟨rfl, ⟨hm, L2⟩, by rw [ht9]; exact hW⟩, hS.F ht9⟩) hS.2.2 dX9_fileAt_22
  · replace hf := dc_if_f c1 hf
    refine lv_iload_n hx hb dX9_fileAt_4 rfl (lv_at hl 1 rfl) ?_
    refine lh_aload_n hx hb dX9_fileAt_5 rfl (lv_at hl 0 rfl) ?_
    refine lh_get (a := 9) (k := 1) (N := 10) (C := RX9) (T := TX9) (own := RX9) (ref := "LoaderModels") hx hb hts (fun _ h => (List.mem_cons_of_mem _ (List.mem_append_right _ h))) hown hK hW rfl (L_t _ rfl) rfl rfl rfl (by decide) (hts (.fieldLink RX9 58 "LoaderModels" "fileCount" "I") (List.mem_cons_of_mem _ (List.mem_append_left _ (List.mem_of_getElem? (i := 0) rfl)))) (fun _ h9 => h9) dX9_fileAt_6 (v := .int (gvI S 9 t 1)) rfl ?_
    refine lv_icmp_ge (tgt := 21) hx hb dX9_fileAt_9 (by decide) (fun c3 => ?_) (fun c3 => ?_)
    · replace hf := dc_if_t c3 hf
      have L4 : ∀ j, (none : Option Nat) = some j → j < gvN S 1 := fun j h => by cases h
      refine lh_null hx hb ad 1 dX9_fileAt_21 ?_
      obtain ⟨rfl, rfl⟩ := dc_ret hf
      exact W.aret (v := lh_r ad 1 (none : Option Nat)) hx hb hr (Or.inl ⟨_, rfl⟩) (lh_rf_or) (fun t9 ht9 hW9 => ⟨⟨rfl, ⟨hm, L4⟩, by rw [ht9]; exact hW⟩, hS.F ht9⟩) hS.2.2 dX9_fileAt_22
    · replace hf := dc_if_f c3 hf
      refine lh_aload_n hx hb dX9_fileAt_12 rfl (lv_at hl 0 rfl) ?_
      have L5 : ∀ j, gvR S 9 t 0 = some j → j < gvN S 21 := fun j h => ok _ _ _ _ j (L_t _ rfl) rfl h
      refine lh_get (a := 9) (k := 0) (N := 10) (C := RX9) (T := TX9) (own := RX9) (ref := "LoaderModels") hx hb hts (fun _ h => (List.mem_cons_of_mem _ (List.mem_append_right _ h))) hown hK hW rfl (L_t _ rfl) rfl rfl rfl (by decide) (hts (.fieldLink RX9 13 "LoaderModels" "files" "[LLoaderModels$ClassFile;") (List.mem_cons_of_mem _ (List.mem_append_left _ (List.mem_of_getElem? (i := 1) rfl)))) (fun _ h9 => h9) dX9_fileAt_13 (v := lh_r ad 21 (gvR S 9 t 0)) rfl ?_
      refine lv_iload_n hx hb dX9_fileAt_16 rfl (lv_at hl 1 rfl) ?_
      obtain ⟨x6, hx6, hf⟩ := dc_nn_ok hf
      obtain ⟨g7, hf⟩ := dc_gd_ok hf
      have L8 : ∀ j, gvR S 21 x6 (p1).toNatClampNeg = some j → j < gvN S 1 := fun j h => ok 21 _ _ 1 j (L5 _ hx6) rfl h
      refine lh_ald_r (a := 21) (t0 := 4) (t := 1) hx hb hK hW hx6 (L5 _ hx6) rfl rfl rfl g7 dX9_fileAt_17 ?_
      refine lv_goto (tgt := 22) hx hb dX9_fileAt_18 (by decide) ?_
      obtain ⟨rfl, rfl⟩ := dc_ret hf
      exact W.aret (v := lh_r ad 1 (gvR S 21 x6 (p1).toNatClampNeg)) hx hb hr (Or.inl ⟨_, rfl⟩) (lh_rf_or) (fun t9 ht9 hW9 => ⟨⟨rfl, ⟨hm, L8⟩, by rw [ht9]; exact hW⟩, hS.F ht9⟩) hS.2.2 dX9_fileAt_22
def f_X9_classOfObject (n : Nat) (S : lh_S) (t : Nat) (p1 : Int32) : Option (Option Nat × lh_S) :=
  dc_if (p1 < 0) (
  some ((none : Option Nat), S)) (
  dc_if ((gvI S 9 t 5) ≤ p1) (
  some ((none : Option Nat), S)) (
  dc_nn (gvR S 9 t 4) fun x6 =>
  dc_gd (p1 < 0 ∨ gvL S 22 x6 ≤ (p1).toNatClampNeg) (
  some (gvR S 22 x6 (p1).toNatClampNeg, S))))
set_option maxHeartbeats 1000000 in
theorem m_X9_classOfObject {n : Nat} {S : lh_S} {t : Nat} {p1 : Int32} {r : Option Nat} {S' : lh_S} (hf : f_X9_classOfObject n S t p1 = some (r, S')) : ∀ b, gvN S b ≤ gvN S' b := by
  have hm : ∀ b, gvN S b ≤ gvN S b := fun _ => Nat.le_refl _
  unfold f_X9_classOfObject at hf
  by_cases c1 : p1 < 0
  · replace hf := dc_if_t c1 hf
    obtain ⟨_, rfl⟩ := dc_ret hf
    exact hm
  · replace hf := dc_if_f c1 hf
    by_cases c3 : (gvI S 9 t 5) ≤ p1
    · replace hf := dc_if_t c3 hf
      obtain ⟨_, rfl⟩ := dc_ret hf
      exact hm
    · replace hf := dc_if_f c3 hf
      obtain ⟨x6, hx6, hf⟩ := dc_nn_ok hf
      obtain ⟨g7, hf⟩ := dc_gd_ok hf
      obtain ⟨_, rfl⟩ := dc_ret hf
      exact hm
set_option maxHeartbeats 1000000 in
theorem k_X9_classOfObject {n : Nat} {S : lh_S} {t : Nat} {p1 : Int32} {r : Option Nat} {S' : lh_S} (hf : f_X9_classOfObject n S t p1 = some (r, S')) : lh_sm9 S S' := by
  have hm : lh_sm9 S S := lh_sm9_rf
  unfold f_X9_classOfObject at hf
  by_cases c1 : p1 < 0
  · replace hf := dc_if_t c1 hf
    obtain ⟨_, rfl⟩ := dc_ret hf
    exact hm
  · replace hf := dc_if_f c1 hf
    by_cases c3 : (gvI S 9 t 5) ≤ p1
    · replace hf := dc_if_t c3 hf
      obtain ⟨_, rfl⟩ := dc_ret hf
      exact hm
    · replace hf := dc_if_f c3 hf
      obtain ⟨x6, hx6, hf⟩ := dc_nn_ok hf
      obtain ⟨g7, hf⟩ := dc_gd_ok hf
      obtain ⟨_, rfl⟩ := dc_ret hf
      exact hm
set_option maxHeartbeats 4000000 in
set_option maxRecDepth 100000 in
theorem c_X9_classOfObject (l : Launch) (D : va_G) (cT : Nat → ClassId) (n : Nat) (S : lh_S) (ad : Nat → Nat → Nat) (A : Nat → Prop) (sz : Nat) (hA : ∀ q, sz ≤ q → A q) (t : Nat) (p1 : Int32) (r : Option Nat) (S' : lh_S) (hf : f_X9_classOfObject n S t p1 = some (r, S')) (L_t : ∀ j, some t = some j → j < gvN S 9) : Met l yX9_classOfObject wsX9_classOfObject ({ frames := 0, cells := 0, slots := 0, locals := 0 } : Room) (lh_P D cT S ad A sz [lh_r ad 9 (some t), .int p1]) (lh_Q D cT S' ad A ((∀ b, gvN S b ≤ gvN S' b) ∧ (∀ j, r = some j → j < gvN S' 5)) (some (lh_r ad 5 r))) 0 0 A := by
  refine Met.ofW (cc := cX9_classOfObject) (maxL := 2) (ret := (some (.object "LoaderModels$Model"))) (by decide) rfl ?_
  intro p e s m args below meth c s₁ B hml hv
  obtain ⟨hargs, hsz, hW, hK, hN⟩ := hv
  have hx := B.exec
  have hb := B.bytes
  have hr := B.returns
  have hts := atoms_spec (ws := wsX9_classOfObject) B.pre
  have hown : s.vm.findClass RX9 = some m.cls := findClass_of_methodNamed B.named
  have hlocks := B.notSynchronized
  have hA : ∀ q, s.heap.size ≤ q → A q := fun q h => hA q (by rw [← hsz]; exact h)
  have ok := lh_W_ok hW
  have hm : ∀ b, gvN S b ≤ gvN S b := fun _ => Nat.le_refl _
  obtain ⟨ls, hent, hl⟩ := lh_entry m args [lh_r ad 9 (some t), .int p1] 2 [(0, lh_r ad 9 (some t)), (1, .int p1)] hargs (by simp [lv_args, lh_cat_r, lh_cat_i, lh_cat_j]) (by simp [lg_sl, lh_cat_r, lh_cat_i, lh_cat_j])
  rw [hent]
  generalize hH : s.heap = H at hW ⊢
  have hS : va_S A s.heap H [] := by rw [← hH]; exact va_S.rf
  unfold f_X9_classOfObject at hf
  refine lv_iload_n hx hb dX9_classOfObject_0 rfl (lv_at hl 1 rfl) ?_
  refine lv_if_lt (tgt := 21) hx hb dX9_classOfObject_1 (by decide) (fun c1 => ?_) (fun c1 => ?_)
  · replace hf := dc_if_t c1 hf
    have L2 : ∀ j, (none : Option Nat) = some j → j < gvN S 5 := fun j h => by cases h
    refine lh_null hx hb ad 5 dX9_classOfObject_21 ?_
    obtain ⟨rfl, rfl⟩ := dc_ret hf
    exact W.aret (v := lh_r ad 5 (none : Option Nat)) hx hb hr (Or.inl ⟨_, rfl⟩) (lh_rf_or) (fun t9 ht9 hW9 => ⟨⟨rfl, ⟨hm, L2⟩, by rw [ht9]; exact hW⟩, hS.F ht9⟩) hS.2.2 dX9_classOfObject_22
  · replace hf := dc_if_f c1 hf
    refine lv_iload_n hx hb dX9_classOfObject_4 rfl (lv_at hl 1 rfl) ?_
    refine lh_aload_n hx hb dX9_classOfObject_5 rfl (lv_at hl 0 rfl) ?_
    refine lh_get (a := 9) (k := 5) (N := 10) (C := RX9) (T := TX9) (own := RX9) (ref := "LoaderModels") hx hb hts (fun _ h => (List.mem_cons_of_mem _ (List.mem_append_right _ h))) hown hK hW rfl (L_t _ rfl) rfl rfl rfl (by decide) (hts (.fieldLink RX9 151 "LoaderModels" "objectCount" "I") (List.mem_cons_of_mem _ (List.mem_append_left _ (List.mem_of_getElem? (i := 0) rfl)))) (fun _ h9 => h9) dX9_classOfObject_6 (v := .int (gvI S 9 t 5)) rfl ?_
    refine lv_icmp_ge (tgt := 21) hx hb dX9_classOfObject_9 (by decide) (fun c3 => ?_) (fun c3 => ?_)
    · replace hf := dc_if_t c3 hf
      have L4 : ∀ j, (none : Option Nat) = some j → j < gvN S 5 := fun j h => by cases h
      refine lh_null hx hb ad 5 dX9_classOfObject_21 ?_
      obtain ⟨rfl, rfl⟩ := dc_ret hf
      exact W.aret (v := lh_r ad 5 (none : Option Nat)) hx hb hr (Or.inl ⟨_, rfl⟩) (lh_rf_or) (fun t9 ht9 hW9 => ⟨⟨rfl, ⟨hm, L4⟩, by rw [ht9]; exact hW⟩, hS.F ht9⟩) hS.2.2 dX9_classOfObject_22
    · replace hf := dc_if_f c3 hf
      refine lh_aload_n hx hb dX9_classOfObject_12 rfl (lv_at hl 0 rfl) ?_
      have L5 : ∀ j, gvR S 9 t 4 = some j → j < gvN S 22 := fun j h => ok _ _ _ _ j (L_t _ rfl) rfl h
      refine lh_get (a := 9) (k := 4) (N := 10) (C := RX9) (T := TX9) (own := RX9) (ref := "LoaderModels") hx hb hts (fun _ h => (List.mem_cons_of_mem _ (List.mem_append_right _ h))) hown hK hW rfl (L_t _ rfl) rfl rfl rfl (by decide) (hts (.fieldLink RX9 35 "LoaderModels" "objects" "[LLoaderModels$Model;") (List.mem_cons_of_mem _ (List.mem_append_left _ (List.mem_of_getElem? (i := 1) rfl)))) (fun _ h9 => h9) dX9_classOfObject_13 (v := lh_r ad 22 (gvR S 9 t 4)) rfl ?_
      refine lv_iload_n hx hb dX9_classOfObject_16 rfl (lv_at hl 1 rfl) ?_
      obtain ⟨x6, hx6, hf⟩ := dc_nn_ok hf
      obtain ⟨g7, hf⟩ := dc_gd_ok hf
      have L8 : ∀ j, gvR S 22 x6 (p1).toNatClampNeg = some j → j < gvN S 5 := fun j h => ok 22 _ _ 5 j (L5 _ hx6) rfl h
      refine lh_ald_r (a := 22) (t0 := 6) (t := 5) hx hb hK hW hx6 (L5 _ hx6) rfl rfl rfl g7 dX9_classOfObject_17 ?_
      refine lv_goto (tgt := 22) hx hb dX9_classOfObject_18 (by decide) ?_
      obtain ⟨rfl, rfl⟩ := dc_ret hf
      exact W.aret (v := lh_r ad 5 (gvR S 22 x6 (p1).toNatClampNeg)) hx hb hr (Or.inl ⟨_, rfl⟩) (lh_rf_or) (fun t9 ht9 hW9 => ⟨⟨rfl, ⟨hm, L8⟩, by rw [ht9]; exact hW⟩, hS.F ht9⟩) hS.2.2 dX9_classOfObject_22
def f_X9_rowAt (n : Nat) (S : lh_S) (t : Nat) (p1 : Int32) : Option (Option Nat × lh_S) :=
  dc_if (p1 < 0) (
  some ((none : Option Nat), S)) (
  dc_if ((gvI S 9 t 7) ≤ p1) (
  some ((none : Option Nat), S)) (
  dc_nn (gvR S 9 t 6) fun x6 =>
  dc_gd (p1 < 0 ∨ gvL S 23 x6 ≤ (p1).toNatClampNeg) (
  some (gvR S 23 x6 (p1).toNatClampNeg, S))))
set_option maxHeartbeats 1000000 in
theorem m_X9_rowAt {n : Nat} {S : lh_S} {t : Nat} {p1 : Int32} {r : Option Nat} {S' : lh_S} (hf : f_X9_rowAt n S t p1 = some (r, S')) : ∀ b, gvN S b ≤ gvN S' b := by
  have hm : ∀ b, gvN S b ≤ gvN S b := fun _ => Nat.le_refl _
  unfold f_X9_rowAt at hf
  by_cases c1 : p1 < 0
  · replace hf := dc_if_t c1 hf
    obtain ⟨_, rfl⟩ := dc_ret hf
    exact hm
  · replace hf := dc_if_f c1 hf
    by_cases c3 : (gvI S 9 t 7) ≤ p1
    · replace hf := dc_if_t c3 hf
      obtain ⟨_, rfl⟩ := dc_ret hf
      exact hm
    · replace hf := dc_if_f c3 hf
      obtain ⟨x6, hx6, hf⟩ := dc_nn_ok hf
      obtain ⟨g7, hf⟩ := dc_gd_ok hf
      obtain ⟨_, rfl⟩ := dc_ret hf
      exact hm
set_option maxHeartbeats 1000000 in
theorem k_X9_rowAt {n : Nat} {S : lh_S} {t : Nat} {p1 : Int32} {r : Option Nat} {S' : lh_S} (hf : f_X9_rowAt n S t p1 = some (r, S')) : lh_sm9 S S' := by
  have hm : lh_sm9 S S := lh_sm9_rf
  unfold f_X9_rowAt at hf
  by_cases c1 : p1 < 0
  · replace hf := dc_if_t c1 hf
    obtain ⟨_, rfl⟩ := dc_ret hf
    exact hm
  · replace hf := dc_if_f c1 hf
    by_cases c3 : (gvI S 9 t 7) ≤ p1
    · replace hf := dc_if_t c3 hf
      obtain ⟨_, rfl⟩ := dc_ret hf
      exact hm
    · replace hf := dc_if_f c3 hf
      obtain ⟨x6, hx6, hf⟩ := dc_nn_ok hf
      obtain ⟨g7, hf⟩ := dc_gd_ok hf
      obtain ⟨_, rfl⟩ := dc_ret hf
      exact hm
set_option maxHeartbeats 4000000 in
set_option maxRecDepth 100000 in
theorem c_X9_rowAt (l : Launch) (D : va_G) (cT : Nat → ClassId) (n : Nat) (S : lh_S) (ad : Nat → Nat → Nat) (A : Nat → Prop) (sz : Nat) (hA : ∀ q, sz ≤ q → A q) (t : Nat) (p1 : Int32) (r : Option Nat) (S' : lh_S) (hf : f_X9_rowAt n S t p1 = some (r, S')) (L_t : ∀ j, some t = some j → j < gvN S 9) : Met l yX9_rowAt wsX9_rowAt ({ frames := 0, cells := 0, slots := 0, locals := 0 } : Room) (lh_P D cT S ad A sz [lh_r ad 9 (some t), .int p1]) (lh_Q D cT S' ad A ((∀ b, gvN S b ≤ gvN S' b) ∧ (∀ j, r = some j → j < gvN S' 7)) (some (lh_r ad 7 r))) 0 0 A := by
  refine Met.ofW (cc := cX9_rowAt) (maxL := 2) (ret := (some (.object "LoaderModels$Row"))) (by decide) rfl ?_
  intro p e s m args below meth c s₁ B hml hv
  obtain ⟨hargs, hsz, hW, hK, hN⟩ := hv
  have hx := B.exec
  have hb := B.bytes
  have hr := B.returns
  have hts := atoms_spec (ws := wsX9_rowAt) B.pre
  have hown : s.vm.findClass RX9 = some m.cls := findClass_of_methodNamed B.named
  have hlocks := B.notSynchronized
  have hA : ∀ q, s.heap.size ≤ q → A q := fun q h => hA q (by rw [← hsz]; exact h)
  have ok := lh_W_ok hW
  have hm : ∀ b, gvN S b ≤ gvN S b := fun _ => Nat.le_refl _
  obtain ⟨ls, hent, hl⟩ := lh_entry m args [lh_r ad 9 (some t), .int p1] 2 [(0, lh_r ad 9 (some t)), (1, .int p1)] hargs (by simp [lv_args, lh_cat_r, lh_cat_i, lh_cat_j]) (by simp [lg_sl, lh_cat_r, lh_cat_i, lh_cat_j])
  rw [hent]
  generalize hH : s.heap = H at hW ⊢
  have hS : va_S A s.heap H [] := by rw [← hH]; exact va_S.rf
  unfold f_X9_rowAt at hf
  refine lv_iload_n hx hb dX9_rowAt_0 rfl (lv_at hl 1 rfl) ?_
  refine lv_if_lt (tgt := 21) hx hb dX9_rowAt_1 (by decide) (fun c1 => ?_) (fun c1 => ?_)
  · replace hf := dc_if_t c1 hf
    have L2 : ∀ j, (none : Option Nat) = some j → j < gvN S 7 := fun j h => by cases h
    refine lh_null hx hb ad 7 dX9_rowAt_21 ?_
    obtain ⟨rfl, rfl⟩ := dc_ret hf
    exact W.aret (v := lh_r ad 7 (none : Option Nat)) hx hb hr (Or.inl ⟨_, rfl⟩) (lh_rf_or) (fun t9 ht9 hW9 => ⟨⟨rfl, ⟨hm, L2⟩, by rw [ht9]; exact hW⟩, hS.F ht9⟩) hS.2.2 dX9_rowAt_22
  · replace hf := dc_if_f c1 hf
    refine lv_iload_n hx hb dX9_rowAt_4 rfl (lv_at hl 1 rfl) ?_
    refine lh_aload_n hx hb dX9_rowAt_5 rfl (lv_at hl 0 rfl) ?_
    refine lh_get (a := 9) (k := 7) (N := 10) (C := RX9) (T := TX9) (own := RX9) (ref := "LoaderModels") hx hb hts (fun _ h => (List.mem_cons_of_mem _ (List.mem_append_right _ h))) hown hK hW rfl (L_t _ rfl) rfl rfl rfl (by decide) (hts (.fieldLink RX9 161 "LoaderModels" "rowCount" "I") (List.mem_cons_of_mem _ (List.mem_append_left _ (List.mem_of_getElem? (i := 0) rfl)))) (fun _ h9 => h9) dX9_rowAt_6 (v := .int (gvI S 9 t 7)) rfl ?_
    refine lv_icmp_ge (tgt := 21) hx hb dX9_rowAt_9 (by decide) (fun c3 => ?_) (fun c3 => ?_)
    · replace hf := dc_if_t c3 hf
      have L4 : ∀ j, (none : Option Nat) = some j → j < gvN S 7 := fun j h => by cases h
      refine lh_null hx hb ad 7 dX9_rowAt_21 ?_
      obtain ⟨rfl, rfl⟩ := dc_ret hf
      exact W.aret (v := lh_r ad 7 (none : Option Nat)) hx hb hr (Or.inl ⟨_, rfl⟩) (lh_rf_or) (fun t9 ht9 hW9 => ⟨⟨rfl, ⟨hm, L4⟩, by rw [ht9]; exact hW⟩, hS.F ht9⟩) hS.2.2 dX9_rowAt_22
    · replace hf := dc_if_f c3 hf
      refine lh_aload_n hx hb dX9_rowAt_12 rfl (lv_at hl 0 rfl) ?_
      have L5 : ∀ j, gvR S 9 t 6 = some j → j < gvN S 23 := fun j h => ok _ _ _ _ j (L_t _ rfl) rfl h
      refine lh_get (a := 9) (k := 6) (N := 10) (C := RX9) (T := TX9) (own := RX9) (ref := "LoaderModels") hx hb hts (fun _ h => (List.mem_cons_of_mem _ (List.mem_append_right _ h))) hown hK hW rfl (L_t _ rfl) rfl rfl rfl (by decide) (hts (.fieldLink RX9 41 "LoaderModels" "rows" "[LLoaderModels$Row;") (List.mem_cons_of_mem _ (List.mem_append_left _ (List.mem_of_getElem? (i := 1) rfl)))) (fun _ h9 => h9) dX9_rowAt_13 (v := lh_r ad 23 (gvR S 9 t 6)) rfl ?_
      refine lv_iload_n hx hb dX9_rowAt_16 rfl (lv_at hl 1 rfl) ?_
      obtain ⟨x6, hx6, hf⟩ := dc_nn_ok hf
      obtain ⟨g7, hf⟩ := dc_gd_ok hf
      have L8 : ∀ j, gvR S 23 x6 (p1).toNatClampNeg = some j → j < gvN S 7 := fun j h => ok 23 _ _ 7 j (L5 _ hx6) rfl h
      refine lh_ald_r (a := 23) (t0 := 7) (t := 7) hx hb hK hW hx6 (L5 _ hx6) rfl rfl rfl g7 dX9_rowAt_17 ?_
      refine lv_goto (tgt := 22) hx hb dX9_rowAt_18 (by decide) ?_
      obtain ⟨rfl, rfl⟩ := dc_ret hf
      exact W.aret (v := lh_r ad 7 (gvR S 23 x6 (p1).toNatClampNeg)) hx hb hr (Or.inl ⟨_, rfl⟩) (lh_rf_or) (fun t9 ht9 hW9 => ⟨⟨rfl, ⟨hm, L8⟩, by rw [ht9]; exact hW⟩, hS.F ht9⟩) hS.2.2 dX9_rowAt_22
def f_X9_answered (n : Nat) (S : lh_S) (t : Nat) (p1 : Int32) : Option (Int32 × lh_S) :=
  dc_if ((-10 : Int32) ≤ p1) (
  some (p1, S)) (
  dc_let (pvI S 9 t 9 ((-10 : Int32) - p1)) fun S2 =>
  some (p1, S2))
set_option maxHeartbeats 1000000 in
theorem m_X9_answered {n : Nat} {S : lh_S} {t : Nat} {p1 : Int32} {r : Int32} {S' : lh_S} (hf : f_X9_answered n S t p1 = some (r, S')) : ∀ b, gvN S b ≤ gvN S' b := by
  have hm : ∀ b, gvN S b ≤ gvN S b := fun _ => Nat.le_refl _
  unfold f_X9_answered at hf
  by_cases c1 : (-10 : Int32) ≤ p1
  · replace hf := dc_if_t c1 hf
    obtain ⟨_, rfl⟩ := dc_ret hf
    exact hm
  · replace hf := dc_if_f c1 hf
    obtain ⟨S2, eS2, hf⟩ := dc_let_ok hf
    have hm := lh_le_trans hm (show ∀ b, gvN S b ≤ gvN S2 b from by rw [eS2]; exact lh_mI)
    obtain ⟨_, rfl⟩ := dc_ret hf
    exact hm
set_option maxHeartbeats 1000000 in
theorem k_X9_answered {n : Nat} {S : lh_S} {t : Nat} {p1 : Int32} {r : Int32} {S' : lh_S} (hf : f_X9_answered n S t p1 = some (r, S')) : lh_sm9 S S' := by
  have hm : lh_sm9 S S := lh_sm9_rf
  unfold f_X9_answered at hf
  by_cases c1 : (-10 : Int32) ≤ p1
  · replace hf := dc_if_t c1 hf
    obtain ⟨_, rfl⟩ := dc_ret hf
    exact hm
  · replace hf := dc_if_f c1 hf
    obtain ⟨S2, eS2, hf⟩ := dc_let_ok hf
    have hm := lh_sm9_trans hm (show lh_sm9 S S2 from by rw [eS2]; exact (lh_sm9I (by decide)))
    obtain ⟨_, rfl⟩ := dc_ret hf
    exact hm
set_option maxHeartbeats 4000000 in
set_option maxRecDepth 100000 in
theorem c_X9_answered (l : Launch) (D : va_G) (cT : Nat → ClassId) (n : Nat) (S : lh_S) (ad : Nat → Nat → Nat) (A : Nat → Prop) (sz : Nat) (hA : ∀ q, sz ≤ q → A q) (t : Nat) (p1 : Int32) (r : Int32) (S' : lh_S) (hf : f_X9_answered n S t p1 = some (r, S')) (L_t : ∀ j, some t = some j → j < gvN S 9) : Met l yX9_answered wsX9_answered ({ frames := 0, cells := 0, slots := 0, locals := 0 } : Room) (lh_P D cT S ad A sz [lh_r ad 9 (some t), .int p1]) (lh_Q D cT S' ad A ((∀ b, gvN S b ≤ gvN S' b) ∧ True) (some (.int r))) 0 0 A := by
  refine Met.ofW (cc := cX9_answered) (maxL := 2) (ret := (some .int)) (by decide) rfl ?_
  intro p e s m args below meth c s₁ B hml hv
  obtain ⟨hargs, hsz, hW, hK, hN⟩ := hv
  have hx := B.exec
  have hb := B.bytes
  have hr := B.returns
  have hts := atoms_spec (ws := wsX9_answered) B.pre
  have hown : s.vm.findClass RX9 = some m.cls := findClass_of_methodNamed B.named
  have hlocks := B.notSynchronized
  have hA : ∀ q, s.heap.size ≤ q → A q := fun q h => hA q (by rw [← hsz]; exact h)
  have ok := lh_W_ok hW
  have hm : ∀ b, gvN S b ≤ gvN S b := fun _ => Nat.le_refl _
  obtain ⟨ls, hent, hl⟩ := lh_entry m args [lh_r ad 9 (some t), .int p1] 2 [(0, lh_r ad 9 (some t)), (1, .int p1)] hargs (by simp [lv_args, lh_cat_r, lh_cat_i, lh_cat_j]) (by simp [lg_sl, lh_cat_r, lh_cat_i, lh_cat_j])
  rw [hent]
  generalize hH : s.heap = H at hW ⊢
  have hS : va_S A s.heap H [] := by rw [← hH]; exact va_S.rf
  unfold f_X9_answered at hf
  refine lv_iload_n hx hb dX9_answered_0 rfl (lv_at hl 1 rfl) ?_
  refine lv_bipush (v := -10) hx hb dX9_answered_1 (by decide) ?_
  refine lv_icmp_ge (tgt := 14) hx hb dX9_answered_3 (by decide) (fun c1 => ?_) (fun c1 => ?_)
  · replace hf := dc_if_t c1 hf
    refine lv_iload_n hx hb dX9_answered_14 rfl (lv_at hl 1 rfl) ?_
    obtain ⟨rfl, rfl⟩ := dc_ret hf
    exact W.iret (v := p1) hx hb hr (fun t9 ht9 hW9 => ⟨⟨rfl, ⟨hm, trivial⟩, by rw [ht9]; exact hW⟩, hS.F ht9⟩) hS.2.2 dX9_answered_15
  · replace hf := dc_if_f c1 hf
    refine lh_aload_n hx hb dX9_answered_6 rfl (lv_at hl 0 rfl) ?_
    refine lv_bipush (v := -10) hx hb dX9_answered_7 (by decide) ?_
    refine lv_iload_n hx hb dX9_answered_9 rfl (lv_at hl 1 rfl) ?_
    refine lv_isub hx hb dX9_answered_10 ?_
    obtain ⟨S2, eS2, hf⟩ := dc_let_ok hf
    refine lh_put (S' := S2) (a := 9) (k := 9) (N := 10) (C := RX9) (T := TX9) (own := RX9) (ref := "LoaderModels") (ty := .int) hx hb hts (fun _ h => (List.mem_cons_of_mem _ (List.mem_append_right _ h))) tyX9 tyX9_ok nmX9 hown hK hW hS rfl (L_t _ rfl) rfl rfl rfl (by decide) (hts (.fieldLink RX9 216 "LoaderModels" "latestFailure" "I") (List.mem_cons_of_mem _ (List.mem_append_left _ (List.mem_of_getElem? (i := 0) rfl)))) (fun _ h9 => h9) (Or.inl rfl) (by decide +kernel) rfl rfl (fun q9 => by rw [eS2]; exact lh_chI rfl q9) dX9_answered_11 (fun H locs hW hS => ?_)
    have m3 : ∀ b, gvN S b ≤ gvN S2 b := by rw [eS2]; exact lh_mI
    have L_t : ∀ j, some t = some j → j < gvN S2 9 := fun j h => Nat.lt_of_lt_of_le (L_t j h) (m3 _)
    have hm : ∀ b, gvN S b ≤ gvN S2 b := lh_le_trans hm m3
    have ok := lh_W_ok hW
    refine lv_iload_n hx hb dX9_answered_14 rfl (lv_at hl 1 rfl) ?_
    obtain ⟨rfl, rfl⟩ := dc_ret hf
    exact W.iret (v := p1) hx hb hr (fun t9 ht9 hW9 => ⟨⟨rfl, ⟨hm, trivial⟩, by rw [ht9]; exact hW⟩, hS.F ht9⟩) hS.2.2 dX9_answered_15
def f_X9_product (n : Nat) (S : lh_S) (p1 : Option Nat) (p2 : Option Nat) (p3 : Int64) : Option (Int64 × lh_S) :=
  dc_nn p2 fun x1 =>
  dc_if ((gvI S 0 x1 0) = (2 : Int32)) (
  dc_nn p1 fun x3 =>
  dc_let ((gvJ S 5 x3 5) + ((gvJ S 0 x1 1) * p3)) fun v4 =>
  dc_let (pvJ S 5 x3 5 v4) fun S5 =>
  some (gvJ S5 5 x3 5, S5)) (
  some ((gvJ S 0 x1 1) * p3, S))
set_option maxHeartbeats 1000000 in
theorem m_X9_product {n : Nat} {S : lh_S} {p1 : Option Nat} {p2 : Option Nat} {p3 : Int64} {r : Int64} {S' : lh_S} (hf : f_X9_product n S p1 p2 p3 = some (r, S')) : ∀ b, gvN S b ≤ gvN S' b := by
  have hm : ∀ b, gvN S b ≤ gvN S b := fun _ => Nat.le_refl _
  unfold f_X9_product at hf
  obtain ⟨x1, hx1, hf⟩ := dc_nn_ok hf
  by_cases c2 : (gvI S 0 x1 0) = (2 : Int32)
  · replace hf := dc_if_t c2 hf
    obtain ⟨x3, hx3, hf⟩ := dc_nn_ok hf
    obtain ⟨v4, hv4, hf⟩ := dc_let_ok hf
    obtain ⟨S5, eS5, hf⟩ := dc_let_ok hf
    have hm := lh_le_trans hm (show ∀ b, gvN S b ≤ gvN S5 b from by rw [eS5]; exact lh_mJ)
    obtain ⟨_, rfl⟩ := dc_ret hf
    exact hm
  · replace hf := dc_if_f c2 hf
    obtain ⟨_, rfl⟩ := dc_ret hf
    exact hm
set_option maxHeartbeats 1000000 in
theorem k_X9_product {n : Nat} {S : lh_S} {p1 : Option Nat} {p2 : Option Nat} {p3 : Int64} {r : Int64} {S' : lh_S} (hf : f_X9_product n S p1 p2 p3 = some (r, S')) : lh_sm9 S S' := by
  have hm : lh_sm9 S S := lh_sm9_rf
  unfold f_X9_product at hf
  obtain ⟨x1, hx1, hf⟩ := dc_nn_ok hf
  by_cases c2 : (gvI S 0 x1 0) = (2 : Int32)
  · replace hf := dc_if_t c2 hf
    obtain ⟨x3, hx3, hf⟩ := dc_nn_ok hf
    obtain ⟨v4, hv4, hf⟩ := dc_let_ok hf
    obtain ⟨S5, eS5, hf⟩ := dc_let_ok hf
    have hm := lh_sm9_trans hm (show lh_sm9 S S5 from by rw [eS5]; exact (lh_sm9J (by decide)))
    obtain ⟨_, rfl⟩ := dc_ret hf
    exact hm
  · replace hf := dc_if_f c2 hf
    obtain ⟨_, rfl⟩ := dc_ret hf
    exact hm
set_option maxHeartbeats 4000000 in
set_option maxRecDepth 100000 in
theorem c_X9_product (l : Launch) (D : va_G) (cT : Nat → ClassId) (n : Nat) (S : lh_S) (ad : Nat → Nat → Nat) (A : Nat → Prop) (sz : Nat) (hA : ∀ q, sz ≤ q → A q) (p1 : Option Nat) (p2 : Option Nat) (p3 : Int64) (r : Int64) (S' : lh_S) (hf : f_X9_product n S p1 p2 p3 = some (r, S')) (L_p1 : ∀ j, p1 = some j → j < gvN S 5) (L_p2 : ∀ j, p2 = some j → j < gvN S 0) : Met l yX9_product wsX9_product ({ frames := 0, cells := 0, slots := 0, locals := 0 } : Room) (lh_P D cT S ad A sz [lh_r ad 5 p1, lh_r ad 0 p2, .long p3]) (lh_Q D cT S' ad A ((∀ b, gvN S b ≤ gvN S' b) ∧ True) (some (.long r))) 0 0 A := by
  refine Met.ofW (cc := cX9_product) (maxL := 4) (ret := (some .long)) (by decide) rfl ?_
  intro p e s m args below meth c s₁ B hml hv
  obtain ⟨hargs, hsz, hW, hK, hN⟩ := hv
  have hx := B.exec
  have hb := B.bytes
  have hr := B.returns
  have hts := atoms_spec (ws := wsX9_product) B.pre
  have hown : s.vm.findClass RX9 = some m.cls := findClass_of_methodNamed B.named
  have hlocks := B.notSynchronized
  have hA : ∀ q, s.heap.size ≤ q → A q := fun q h => hA q (by rw [← hsz]; exact h)
  have ok := lh_W_ok hW
  have hm : ∀ b, gvN S b ≤ gvN S b := fun _ => Nat.le_refl _
  obtain ⟨ls, hent, hl⟩ := lh_entry m args [lh_r ad 5 p1, lh_r ad 0 p2, .long p3] 4 [(0, lh_r ad 5 p1), (1, lh_r ad 0 p2), (2, .long p3)] hargs (by simp [lv_args, lh_cat_r, lh_cat_i, lh_cat_j]) (by simp [lg_sl, lh_cat_r, lh_cat_i, lh_cat_j])
  rw [hent]
  generalize hH : s.heap = H at hW ⊢
  have hS : va_S A s.heap H [] := by rw [← hH]; exact va_S.rf
  unfold f_X9_product at hf
  refine lh_aload_n hx hb dX9_product_0 rfl (lv_at hl 1 rfl) ?_
  obtain ⟨x1, hx1, hf⟩ := dc_nn_ok hf
  refine lh_get (a := 0) (k := 0) (N := 3) (C := RX0) (T := TX0) (own := RX9) (ref := "LoaderModels$Body") hx hb hts (fun _ h => (List.mem_cons_of_mem _ (List.mem_append_left _ (List.mem_append_right _ h)))) hown hK hW hx1 (L_p2 _ hx1) rfl rfl rfl (by decide) (hts (.fieldLink RX9 187 "LoaderModels$Body" "kind" "I") (List.mem_cons_of_mem _ (List.mem_append_left _ (List.mem_append_left _ (List.mem_of_getElem? (i := 0) rfl))))) (fun _ h9 => h9) dX9_product_1 (v := .int (gvI S 0 x1 0)) rfl ?_
  refine lv_iconst (v := 2) hx hb dX9_product_4 (by decide) ?_
  refine lv_icmp_eq (tgt := 15) hx hb dX9_product_5 (by decide) (fun c2 => ?_) (fun c2 => ?_)
  · replace hf := dc_if_t c2 hf
    refine lh_aload_n hx hb dX9_product_15 rfl (lv_at hl 0 rfl) ?_
    refine lv_dup hx hb dX9_product_16 lh_cat_r ?_
    obtain ⟨x3, hx3, hf⟩ := dc_nn_ok hf
    refine lh_get (a := 5) (k := 5) (N := 6) (C := RX5) (T := TX5) (own := RX9) (ref := "LoaderModels$Model") hx hb hts (fun _ h => (List.mem_cons_of_mem _ (List.mem_append_right _ h))) hown hK hW hx3 (L_p1 _ hx3) rfl rfl rfl (by decide) (hts (.fieldLink RX9 145 "LoaderModels$Model" "held" "J") (List.mem_cons_of_mem _ (List.mem_append_left _ (List.mem_append_left _ (List.mem_of_getElem? (i := 2) rfl))))) (fun _ h9 => h9) dX9_product_17 (v := .long (gvJ S 5 x3 5)) rfl ?_
    refine lh_aload_n hx hb dX9_product_20 rfl (lv_at hl 1 rfl) ?_
    refine lh_get (a := 0) (k := 1) (N := 3) (C := RX0) (T := TX0) (own := RX9) (ref := "LoaderModels$Body") hx hb hts (fun _ h => (List.mem_cons_of_mem _ (List.mem_append_left _ (List.mem_append_right _ h)))) hown hK hW hx1 (L_p2 _ hx1) rfl rfl rfl (by decide) (hts (.fieldLink RX9 223 "LoaderModels$Body" "a" "J") (List.mem_cons_of_mem _ (List.mem_append_left _ (List.mem_append_left _ (List.mem_of_getElem? (i := 1) rfl))))) (fun _ h9 => h9) dX9_product_21 (v := .long (gvJ S 0 x1 1)) rfl ?_
    refine lv_lload_n hx hb dX9_product_24 rfl (lv_at hl 2 rfl) ?_
    refine lv_lmul hx hb dX9_product_25 ?_
    refine lv_ladd hx hb dX9_product_26 ?_
    refine lv_topl (fun v4 hv4 => ?_)
    replace hf := dc_let_e hv4 hf
    obtain ⟨S5, eS5, hf⟩ := dc_let_ok hf
    refine lh_put (S' := S5) (a := 5) (k := 5) (N := 6) (C := RX5) (T := TX5) (own := RX9) (ref := "LoaderModels$Model") (ty := .long) hx hb hts (fun _ h => (List.mem_cons_of_mem _ (List.mem_append_right _ h))) tyX5 tyX5_ok nmX5 hown hK hW hS hx3 (L_p1 _ hx3) rfl rfl rfl (by decide) (hts (.fieldLink RX9 145 "LoaderModels$Model" "held" "J") (List.mem_cons_of_mem _ (List.mem_append_left _ (List.mem_append_left _ (List.mem_of_getElem? (i := 2) rfl))))) (fun _ h9 => h9) (Or.inl rfl) (by decide +kernel) rfl rfl (fun q9 => by rw [eS5]; exact lh_chJ rfl q9) dX9_product_27 (fun H locs hW hS => ?_)
    have m6 : ∀ b, gvN S b ≤ gvN S5 b := by rw [eS5]; exact lh_mJ
    have L_p1 : ∀ j, p1 = some j → j < gvN S5 5 := fun j h => Nat.lt_of_lt_of_le (L_p1 j h) (m6 _)
    have L_p2 : ∀ j, p2 = some j → j < gvN S5 0 := fun j h => Nat.lt_of_lt_of_le (L_p2 j h) (m6 _)
    have hm : ∀ b, gvN S b ≤ gvN S5 b := lh_le_trans hm m6
    have ok := lh_W_ok hW
    refine lh_aload_n hx hb dX9_product_30 rfl (lv_at hl 0 rfl) ?_
    refine lh_get (a := 5) (k := 5) (N := 6) (C := RX5) (T := TX5) (own := RX9) (ref := "LoaderModels$Model") hx hb hts (fun _ h => (List.mem_cons_of_mem _ (List.mem_append_right _ h))) hown hK hW hx3 (L_p1 _ hx3) rfl rfl rfl (by decide) (hts (.fieldLink RX9 145 "LoaderModels$Model" "held" "J") (List.mem_cons_of_mem _ (List.mem_append_left _ (List.mem_append_left _ (List.mem_of_getElem? (i := 2) rfl))))) (fun _ h9 => h9) dX9_product_31 (v := .long (gvJ S5 5 x3 5)) rfl ?_
    obtain ⟨rfl, rfl⟩ := dc_ret hf
    exact W.lret (v := gvJ S5 5 x3 5) hx hb hr (fun t9 ht9 hW9 => ⟨⟨rfl, ⟨hm, trivial⟩, by rw [ht9]; exact hW⟩, hS.F ht9⟩) hS.2.2 dX9_product_34
  · replace hf := dc_if_f c2 hf
    refine lh_aload_n hx hb dX9_product_8 rfl (lv_at hl 1 rfl) ?_
    refine lh_get (a := 0) (k := 1) (N := 3) (C := RX0) (T := TX0) (own := RX9) (ref := "LoaderModels$Body") hx hb hts (fun _ h => (List.mem_cons_of_mem _ (List.mem_append_left _ (List.mem_append_right _ h)))) hown hK hW hx1 (L_p2 _ hx1) rfl rfl rfl (by decide) (hts (.fieldLink RX9 223 "LoaderModels$Body" "a" "J") (List.mem_cons_of_mem _ (List.mem_append_left _ (List.mem_append_left _ (List.mem_of_getElem? (i := 1) rfl))))) (fun _ h9 => h9) dX9_product_9 (v := .long (gvJ S 0 x1 1)) rfl ?_
    refine lv_lload_n hx hb dX9_product_12 rfl (lv_at hl 2 rfl) ?_
    refine lv_lmul hx hb dX9_product_13 ?_
    obtain ⟨rfl, rfl⟩ := dc_ret hf
    exact W.lret (v := (gvJ S 0 x1 1) * p3) hx hb hr (fun t9 ht9 hW9 => ⟨⟨rfl, ⟨hm, trivial⟩, by rw [ht9]; exact hW⟩, hS.F ht9⟩) hS.2.2 dX9_product_14
def f_X9_started_L63 (n : Nat) (t : Nat) (p1 : Option Nat) : Nat → lh_S → Int32 → Option Nat → Int32 → Int32 → Option (Int32 × lh_S)
  | 0, _, _, _, _, _ => none
  | g + 1, S7, v8, o9, v11, v12 =>
  dc_if (v12 < 0) (
  dc_if (v11 = 0) (
  some ((1 : Int32), S7)) (
  dc_bd (f_X9_failed n S7 v11) fun r15 S16 =>
  some (r15, S16))) (
  dc_nn (gvR S7 9 t 8) fun x20 =>
  dc_gd (v12 < 0 ∨ gvL S7 24 x20 ≤ (v12).toNatClampNeg) (
  dc_nn (gvR S7 24 x20 (v12).toNatClampNeg) fun x23 =>
  dc_bd (f_X5_startAfter n S7 x23 v11) fun r24 S25 =>
  f_X9_started_L63 n t p1 g S25 v8 o9 r24 (v12 + (-1 : Int32))))
theorem m_X9_started_L63 {n : Nat} {t : Nat} {p1 : Option Nat} {r : Int32} {S' : lh_S} : ∀ (g : Nat) (S7 : lh_S) (v8 : Int32) (o9 : Option Nat) (v11 : Int32) (v12 : Int32), f_X9_started_L63 n t p1 g S7 v8 o9 v11 v12 = some (r, S') → ∀ b, gvN S7 b ≤ gvN S' b := by
    intro g
    induction g with
    | zero => intro S7 v8 o9 v11 v12 hf; rw [f_X9_started_L63] at hf; cases hf
    | succ g ih =>
      intro S7 v8 o9 v11 v12 hf
      rw [f_X9_started_L63] at hf
      have hm : ∀ b, gvN S7 b ≤ gvN S7 b := fun _ => Nat.le_refl _
      by_cases c13 : v12 < 0
      · replace hf := dc_if_t c13 hf
        by_cases c14 : v11 = 0
        · replace hf := dc_if_t c14 hf
          obtain ⟨_, rfl⟩ := dc_ret hf
          exact hm
        · replace hf := dc_if_f c14 hf
          obtain ⟨r15, S16, k17, hf⟩ := dc_bd_ok hf
          have hm := lh_le_trans hm (show ∀ b, gvN S7 b ≤ gvN S16 b from m_X9_failed k17)
          obtain ⟨_, rfl⟩ := dc_ret hf
          exact hm
      · replace hf := dc_if_f c13 hf
        obtain ⟨x20, hx20, hf⟩ := dc_nn_ok hf
        obtain ⟨g21, hf⟩ := dc_gd_ok hf
        obtain ⟨x23, hx23, hf⟩ := dc_nn_ok hf
        obtain ⟨r24, S25, k26, hf⟩ := dc_bd_ok hf
        have hm := lh_le_trans hm (show ∀ b, gvN S7 b ≤ gvN S25 b from m_X5_startAfter k26)
        exact lh_le_trans hm (ih S25 v8 o9 r24 (v12 + (-1 : Int32)) hf)
theorem k_X9_started_L63 {n : Nat} {t : Nat} {p1 : Option Nat} {r : Int32} {S' : lh_S} : ∀ (g : Nat) (S7 : lh_S) (v8 : Int32) (o9 : Option Nat) (v11 : Int32) (v12 : Int32), f_X9_started_L63 n t p1 g S7 v8 o9 v11 v12 = some (r, S') → lh_sm9 S7 S' := by
    intro g
    induction g with
    | zero => intro S7 v8 o9 v11 v12 hf; rw [f_X9_started_L63] at hf; cases hf
    | succ g ih =>
      intro S7 v8 o9 v11 v12 hf
      rw [f_X9_started_L63] at hf
      have hm : lh_sm9 S7 S7 := lh_sm9_rf
      by_cases c13 : v12 < 0
      · replace hf := dc_if_t c13 hf
        by_cases c14 : v11 = 0
        · replace hf := dc_if_t c14 hf
          obtain ⟨_, rfl⟩ := dc_ret hf
          exact hm
        · replace hf := dc_if_f c14 hf
          obtain ⟨r15, S16, k17, hf⟩ := dc_bd_ok hf
          have hm := lh_sm9_trans hm (show lh_sm9 S7 S16 from k_X9_failed k17)
          obtain ⟨_, rfl⟩ := dc_ret hf
          exact hm
      · replace hf := dc_if_f c13 hf
        obtain ⟨x20, hx20, hf⟩ := dc_nn_ok hf
        obtain ⟨g21, hf⟩ := dc_gd_ok hf
        obtain ⟨x23, hx23, hf⟩ := dc_nn_ok hf
        obtain ⟨r24, S25, k26, hf⟩ := dc_bd_ok hf
        have hm := lh_sm9_trans hm (show lh_sm9 S7 S25 from k_X5_startAfter k26)
        exact lh_sm9_trans hm (ih S25 v8 o9 r24 (v12 + (-1 : Int32)) hf)
def f_X9_started_L4 (n : Nat) (t : Nat) (p1 : Option Nat) : Nat → lh_S → Int32 → Option Nat → Option (Int32 × lh_S)
  | 0, _, _, _ => none
  | g + 1, S1, v2, o3 =>
  dc_if (o3 = none) (
  dc_if (o3 = none) (
  f_X9_started_L63 n t p1 n S1 v2 o3 (0 : Int32) (v2 - (1 : Int32))) (
  dc_nn o3 fun x28 =>
  dc_if ((gvI S1 5 x28 4) = (2 : Int32)) (
  f_X9_started_L63 n t p1 n S1 v2 o3 (2 : Int32) (v2 - (1 : Int32))) (
  f_X9_started_L63 n t p1 n S1 v2 o3 (0 : Int32) (v2 - (1 : Int32))))) (
  dc_nn o3 fun x30 =>
  dc_if ((gvI S1 5 x30 4) = 0) (
  dc_if ((40 : Int32) ≤ v2) (
  dc_if (o3 = none) (
  f_X9_started_L63 n t p1 n S1 v2 o3 (0 : Int32) (v2 - (1 : Int32))) (
  dc_if ((gvI S1 5 x30 4) = (2 : Int32)) (
  f_X9_started_L63 n t p1 n S1 v2 o3 (2 : Int32) (v2 - (1 : Int32))) (
  f_X9_started_L63 n t p1 n S1 v2 o3 (0 : Int32) (v2 - (1 : Int32))))) (
  dc_nn (gvR S1 9 t 8) fun x38 =>
  dc_gd (v2 < 0 ∨ gvL S1 24 x38 ≤ (v2).toNatClampNeg) (
  dc_let (pvR S1 24 x38 (v2).toNatClampNeg o3) fun S40 =>
  f_X9_started_L4 n t p1 g S40 (v2 + (1 : Int32)) (gvR S40 5 x30 3)))) (
  dc_if (o3 = none) (
  f_X9_started_L63 n t p1 n S1 v2 o3 (0 : Int32) (v2 - (1 : Int32))) (
  dc_if ((gvI S1 5 x30 4) = (2 : Int32)) (
  f_X9_started_L63 n t p1 n S1 v2 o3 (2 : Int32) (v2 - (1 : Int32))) (
  f_X9_started_L63 n t p1 n S1 v2 o3 (0 : Int32) (v2 - (1 : Int32))))))
theorem m_X9_started_L4 {n : Nat} {t : Nat} {p1 : Option Nat} {r : Int32} {S' : lh_S} : ∀ (g : Nat) (S1 : lh_S) (v2 : Int32) (o3 : Option Nat), f_X9_started_L4 n t p1 g S1 v2 o3 = some (r, S') → ∀ b, gvN S1 b ≤ gvN S' b := by
    intro g
    induction g with
    | zero => intro S1 v2 o3 hf; rw [f_X9_started_L4] at hf; cases hf
    | succ g ih =>
      intro S1 v2 o3 hf
      rw [f_X9_started_L4] at hf
      have hm : ∀ b, gvN S1 b ≤ gvN S1 b := fun _ => Nat.le_refl _
      by_cases c5 : o3 = none
      · replace hf := dc_if_t c5 hf
        by_cases c6 : o3 = none
        · replace hf := dc_if_t c6 hf
          exact lh_le_trans hm (m_X9_started_L63 n S1 v2 o3 (0 : Int32) (v2 - (1 : Int32)) hf)
        · replace hf := dc_if_f c6 hf
          obtain ⟨x28, hx28, hf⟩ := dc_nn_ok hf
          by_cases c29 : (gvI S1 5 x28 4) = (2 : Int32)
          · replace hf := dc_if_t c29 hf
            exact lh_le_trans hm (m_X9_started_L63 n S1 v2 o3 (2 : Int32) (v2 - (1 : Int32)) hf)
          · replace hf := dc_if_f c29 hf
            exact lh_le_trans hm (m_X9_started_L63 n S1 v2 o3 (0 : Int32) (v2 - (1 : Int32)) hf)
      · replace hf := dc_if_f c5 hf
        obtain ⟨x30, hx30, hf⟩ := dc_nn_ok hf
        by_cases c31 : (gvI S1 5 x30 4) = 0
        · replace hf := dc_if_t c31 hf
          by_cases c34 : (40 : Int32) ≤ v2
          · replace hf := dc_if_t c34 hf
            by_cases c35 : o3 = none
            · replace hf := dc_if_t c35 hf
              exact lh_le_trans hm (m_X9_started_L63 n S1 v2 o3 (0 : Int32) (v2 - (1 : Int32)) hf)
            · replace hf := dc_if_f c35 hf
              by_cases c36 : (gvI S1 5 x30 4) = (2 : Int32)
              · replace hf := dc_if_t c36 hf
                exact lh_le_trans hm (m_X9_started_L63 n S1 v2 o3 (2 : Int32) (v2 - (1 : Int32)) hf)
              · replace hf := dc_if_f c36 hf
                exact lh_le_trans hm (m_X9_started_L63 n S1 v2 o3 (0 : Int32) (v2 - (1 : Int32)) hf)
          · replace hf := dc_if_f c34 hf
            obtain ⟨x38, hx38, hf⟩ := dc_nn_ok hf
            obtain ⟨g39, hf⟩ := dc_gd_ok hf
            obtain ⟨S40, eS40, hf⟩ := dc_let_ok hf
            have hm := lh_le_trans hm (show ∀ b, gvN S1 b ≤ gvN S40 b from by rw [eS40]; exact lh_mR)
            exact lh_le_trans hm (ih S40 (v2 + (1 : Int32)) (gvR S40 5 x30 3) hf)
        · replace hf := dc_if_f c31 hf
          by_cases c32 : o3 = none
          · replace hf := dc_if_t c32 hf
            exact lh_le_trans hm (m_X9_started_L63 n S1 v2 o3 (0 : Int32) (v2 - (1 : Int32)) hf)
          · replace hf := dc_if_f c32 hf
            by_cases c33 : (gvI S1 5 x30 4) = (2 : Int32)
            · replace hf := dc_if_t c33 hf
              exact lh_le_trans hm (m_X9_started_L63 n S1 v2 o3 (2 : Int32) (v2 - (1 : Int32)) hf)
            · replace hf := dc_if_f c33 hf
              exact lh_le_trans hm (m_X9_started_L63 n S1 v2 o3 (0 : Int32) (v2 - (1 : Int32)) hf)
theorem k_X9_started_L4 {n : Nat} {t : Nat} {p1 : Option Nat} {r : Int32} {S' : lh_S} : ∀ (g : Nat) (S1 : lh_S) (v2 : Int32) (o3 : Option Nat), f_X9_started_L4 n t p1 g S1 v2 o3 = some (r, S') → lh_sm9 S1 S' := by
    intro g
    induction g with
    | zero => intro S1 v2 o3 hf; rw [f_X9_started_L4] at hf; cases hf
    | succ g ih =>
      intro S1 v2 o3 hf
      rw [f_X9_started_L4] at hf
      have hm : lh_sm9 S1 S1 := lh_sm9_rf
      by_cases c5 : o3 = none
      · replace hf := dc_if_t c5 hf
        by_cases c6 : o3 = none
        · replace hf := dc_if_t c6 hf
          exact lh_sm9_trans hm (k_X9_started_L63 n S1 v2 o3 (0 : Int32) (v2 - (1 : Int32)) hf)
        · replace hf := dc_if_f c6 hf
          obtain ⟨x28, hx28, hf⟩ := dc_nn_ok hf
          by_cases c29 : (gvI S1 5 x28 4) = (2 : Int32)
          · replace hf := dc_if_t c29 hf
            exact lh_sm9_trans hm (k_X9_started_L63 n S1 v2 o3 (2 : Int32) (v2 - (1 : Int32)) hf)
          · replace hf := dc_if_f c29 hf
            exact lh_sm9_trans hm (k_X9_started_L63 n S1 v2 o3 (0 : Int32) (v2 - (1 : Int32)) hf)
      · replace hf := dc_if_f c5 hf
        obtain ⟨x30, hx30, hf⟩ := dc_nn_ok hf
        by_cases c31 : (gvI S1 5 x30 4) = 0
        · replace hf := dc_if_t c31 hf
          by_cases c34 : (40 : Int32) ≤ v2
          · replace hf := dc_if_t c34 hf
            by_cases c35 : o3 = none
            · replace hf := dc_if_t c35 hf
              exact lh_sm9_trans hm (k_X9_started_L63 n S1 v2 o3 (0 : Int32) (v2 - (1 : Int32)) hf)
            · replace hf := dc_if_f c35 hf
              by_cases c36 : (gvI S1 5 x30 4) = (2 : Int32)
              · replace hf := dc_if_t c36 hf
                exact lh_sm9_trans hm (k_X9_started_L63 n S1 v2 o3 (2 : Int32) (v2 - (1 : Int32)) hf)
              · replace hf := dc_if_f c36 hf
                exact lh_sm9_trans hm (k_X9_started_L63 n S1 v2 o3 (0 : Int32) (v2 - (1 : Int32)) hf)
          · replace hf := dc_if_f c34 hf
            obtain ⟨x38, hx38, hf⟩ := dc_nn_ok hf
            obtain ⟨g39, hf⟩ := dc_gd_ok hf
            obtain ⟨S40, eS40, hf⟩ := dc_let_ok hf
            have hm := lh_sm9_trans hm (show lh_sm9 S1 S40 from by rw [eS40]; exact (lh_sm9R (by decide)))
            exact lh_sm9_trans hm (ih S40 (v2 + (1 : Int32)) (gvR S40 5 x30 3) hf)
        · replace hf := dc_if_f c31 hf
          by_cases c32 : o3 = none
          · replace hf := dc_if_t c32 hf
            exact lh_sm9_trans hm (k_X9_started_L63 n S1 v2 o3 (0 : Int32) (v2 - (1 : Int32)) hf)
          · replace hf := dc_if_f c32 hf
            by_cases c33 : (gvI S1 5 x30 4) = (2 : Int32)
            · replace hf := dc_if_t c33 hf
              exact lh_sm9_trans hm (k_X9_started_L63 n S1 v2 o3 (2 : Int32) (v2 - (1 : Int32)) hf)
            · replace hf := dc_if_f c33 hf
              exact lh_sm9_trans hm (k_X9_started_L63 n S1 v2 o3 (0 : Int32) (v2 - (1 : Int32)) hf)
def f_X9_started (n : Nat) (S : lh_S) (t : Nat) (p1 : Option Nat) : Option (Int32 × lh_S) :=
  f_X9_started_L4 n t p1 n S (0 : Int32) p1
set_option maxHeartbeats 1000000 in
theorem m_X9_started {n : Nat} {S : lh_S} {t : Nat} {p1 : Option Nat} {r : Int32} {S' : lh_S} (hf : f_X9_started n S t p1 = some (r, S')) : ∀ b, gvN S b ≤ gvN S' b := by
  have hm : ∀ b, gvN S b ≤ gvN S b := fun _ => Nat.le_refl _
  unfold f_X9_started at hf
  exact lh_le_trans hm (m_X9_started_L4 n S (0 : Int32) p1 hf)
set_option maxHeartbeats 1000000 in
theorem k_X9_started {n : Nat} {S : lh_S} {t : Nat} {p1 : Option Nat} {r : Int32} {S' : lh_S} (hf : f_X9_started n S t p1 = some (r, S')) : lh_sm9 S S' := by
  have hm : lh_sm9 S S := lh_sm9_rf
  unfold f_X9_started at hf
  exact lh_sm9_trans hm (k_X9_started_L4 n S (0 : Int32) p1 hf)
set_option maxHeartbeats 4000000 in
set_option maxRecDepth 100000 in
theorem c_X9_started (l : Launch) (D : va_G) (cT : Nat → ClassId) (n : Nat) (S : lh_S) (ad : Nat → Nat → Nat) (A : Nat → Prop) (sz : Nat) (hA : ∀ q, sz ≤ q → A q) (t : Nat) (p1 : Option Nat) (r : Int32) (S' : lh_S) (hf : f_X9_started n S t p1 = some (r, S')) (L_t : ∀ j, some t = some j → j < gvN S 9) (L_p1 : ∀ j, p1 = some j → j < gvN S 5) : Met l yX9_started wsX9_started ({ frames := 1, cells := 0, slots := 0, locals := 22 } : Room) (lh_P D cT S ad A sz [lh_r ad 9 (some t), lh_r ad 5 p1]) (lh_Q D cT S' ad A ((∀ b, gvN S b ≤ gvN S' b) ∧ True) (some (.int r))) 0 0 A := by
  refine Met.ofW (cc := cX9_started) (maxL := 6) (ret := (some .int)) (by decide) rfl ?_
  intro p e s m args below meth c s₁ B hml hv
  obtain ⟨hargs, hsz, hW, hK, hN⟩ := hv
  have hx := B.exec
  have hb := B.bytes
  have hr := B.returns
  have hts := atoms_spec (ws := wsX9_started) B.pre
  have hown : s.vm.findClass RX9 = some m.cls := findClass_of_methodNamed B.named
  have hlocks := B.notSynchronized
  have hA : ∀ q, s.heap.size ≤ q → A q := fun q h => hA q (by rw [← hsz]; exact h)
  have L63 : ∀ (g : Nat) (S7 : lh_S) (v8 : Int32) (o9 : Option Nat) (v11 : Int32) (v12 : Int32), f_X9_started_L63 n t p1 g S7 v8 o9 v11 v12 = some (r, S') → (∀ b, gvN S b ≤ gvN S7 b) → (∀ j, o9 = some j → j < gvN S7 5) → ∀ (H : Heap) (locs : List Loc), lh_W D cT S7 ad A H → va_S A s.heap H locs → ∀ (ls : Array Slot), lv_has ls 6 [(0, lh_r ad 9 (some t)), (1, lh_r ad 5 p1), (2, .int v8), (3, lh_r ad 5 o9), (4, .int v11), (5, .int v12)] → W p l e (headSpec wsX9_started ({ frames := 1, cells := 0, slots := 0, locals := 22 } : Room)).room s m args below meth c H locs 0 0 (MQ below (lh_Q D cT S' ad A ((∀ b, gvN S b ≤ gvN S' b) ∧ True) (some (.int r))) args s 0 0 A) (F0 m 63 ls []) := by
    intro g
    induction g with
    | zero => intro S7 v8 o9 v11 v12 hf; rw [f_X9_started_L63] at hf; cases hf
    | succ g ih =>
      intro S7 v8 o9 v11 v12 hf hm L10 H locs hW hS ls hl
      rw [f_X9_started_L63] at hf
      have ok := lh_W_ok hW
      have L_t : ∀ j, some t = some j → j < gvN S7 9 := fun j h => Nat.lt_of_lt_of_le (L_t j h) (hm _)
      have L_p1 : ∀ j, p1 = some j → j < gvN S7 5 := fun j h => Nat.lt_of_lt_of_le (L_p1 j h) (hm _)
      refine lv_iload hx hb dX9_started_63 (lv_at hl 5 rfl) ?_
      refine lv_if_lt (tgt := 88) hx hb dX9_started_65 (by decide) (fun c13 => ?_) (fun c13 => ?_)
      · replace hf := dc_if_t c13 hf
        refine lv_iload hx hb dX9_started_88 (lv_at hl 4 rfl) ?_
        refine lv_if_ne (tgt := 97) hx hb dX9_started_90 (by decide) (fun c14 => ?_) (fun c14 => ?_)
        · replace hf := dc_if_f c14 hf
          refine lv_iload hx hb dX9_started_97 (lv_at hl 4 rfl) ?_
          obtain ⟨r15, S16, k17, hf⟩ := dc_bd_ok hf
          refine lh_call (S' := S16) (lh_rs ⟨hx, hb, hml, hown, hts⟩ (As := [.int v11]) (rest := []) (c_X9_failed l D cT n S7 ad A H.size (fun q9 h9 => hA q9 (Nat.le_trans hS.1 h9)) v11 r15 S16 k17 ) (va_cwS 1 hts gX9_started_X9_failed rfl rfl rfl (by decide +kernel) ⟨Nat.le_of_ble_eq_true rfl, Nat.le_of_ble_eq_true rfl⟩) hK hN hW rfl hl.1 rfl (by simp [lh_cat_r, lh_cat_i, lh_cat_j]) dX9_started_99 ⟨Nat.le_of_ble_eq_true rfl, Nat.le_of_ble_eq_true rfl⟩) hS (fun H locs hX hW hS => ?_)
          refine W.widen (k := 0) (n := 0) (by omega) (by omega) ?_
          show W _ _ _ _ _ _ _ _ _ _ _ _ _ _ _ (F0 m 102 ls [.int r15])
          have m18 : ∀ b, gvN S7 b ≤ gvN S16 b := hX.1
          have L_t : ∀ j, some t = some j → j < gvN S16 9 := fun j h => Nat.lt_of_lt_of_le (L_t j h) (m18 _)
          have L_p1 : ∀ j, p1 = some j → j < gvN S16 5 := fun j h => Nat.lt_of_lt_of_le (L_p1 j h) (m18 _)
          have L10 : ∀ j, o9 = some j → j < gvN S16 5 := fun j h => Nat.lt_of_lt_of_le (L10 j h) (m18 _)
          have hm : ∀ b, gvN S b ≤ gvN S16 b := lh_le_trans hm m18
          have ok := lh_W_ok hW
          obtain ⟨rfl, rfl⟩ := dc_ret hf
          exact W.iret (v := r15) hx hb hr (fun t9 ht9 hW9 => ⟨⟨rfl, ⟨hm, trivial⟩, by rw [ht9]; exact hW⟩, hS.F ht9⟩) hS.2.2 dX9_started_102
        · replace hf := dc_if_t c14 hf
          refine lv_iconst (v := 1) hx hb dX9_started_93 (by decide) ?_
          refine lv_goto (tgt := 102) hx hb dX9_started_94 (by decide) ?_
          obtain ⟨rfl, rfl⟩ := dc_ret hf
          exact W.iret (v := (1 : Int32)) hx hb hr (fun t9 ht9 hW9 => ⟨⟨rfl, ⟨hm, trivial⟩, by rw [ht9]; exact hW⟩, hS.F ht9⟩) hS.2.2 dX9_started_102
      · replace hf := dc_if_f c13 hf
        refine lh_aload_n hx hb dX9_started_68 rfl (lv_at hl 0 rfl) ?_
        have L19 : ∀ j, gvR S7 9 t 8 = some j → j < gvN S7 24 := fun j h => ok _ _ _ _ j (L_t _ rfl) rfl h
        refine lh_get (a := 9) (k := 8) (N := 10) (C := RX9) (T := TX9) (own := RX9) (ref := "LoaderModels") hx hb hts (fun _ h => (List.mem_cons_of_mem _ (List.mem_append_left _ (List.mem_append_right _ h)))) hown hK hW rfl (L_t _ rfl) rfl rfl rfl (by decide) (hts (.fieldLink RX9 45 "LoaderModels" "toStart" "[LLoaderModels$Model;") (List.mem_cons_of_mem _ (List.mem_append_left _ (List.mem_append_left _ (List.mem_append_left _ (List.mem_of_getElem? (i := 1) rfl)))))) (fun _ h9 => h9) dX9_started_69 (v := lh_r ad 24 (gvR S7 9 t 8)) rfl ?_
        refine lv_iload hx hb dX9_started_72 (lv_at hl 5 rfl) ?_
        obtain ⟨x20, hx20, hf⟩ := dc_nn_ok hf
        obtain ⟨g21, hf⟩ := dc_gd_ok hf
        have L22 : ∀ j, gvR S7 24 x20 (v12).toNatClampNeg = some j → j < gvN S7 5 := fun j h => ok 24 _ _ 5 j (L19 _ hx20) rfl h
        refine lh_ald_r (a := 24) (t0 := 6) (t := 5) hx hb hK hW hx20 (L19 _ hx20) rfl rfl rfl g21 dX9_started_74 ?_
        refine lv_iload hx hb dX9_started_75 (lv_at hl 4 rfl) ?_
        obtain ⟨x23, hx23, hf⟩ := dc_nn_ok hf
        obtain ⟨r24, S25, k26, hf⟩ := dc_bd_ok hf
        refine lh_call (S' := S25) (lh_rv ⟨hx, hb, hml, hown, hts⟩ hx23 (As := [.int v11]) (rest := []) (k := 5) (c_X5_startAfter l D cT n S7 ad A H.size (fun q9 h9 => hA q9 (Nat.le_trans hS.1 h9)) x23 v11 r24 S25 k26 (lh_ls (L22 _ hx23))) (cwV 1 hts gX9_started_X5_startAfter rfl rfl rfl (by decide +kernel) ⟨Nat.le_of_ble_eq_true rfl, Nat.le_of_ble_eq_true rfl⟩) hK hN hW (L22 _ hx23) rfl rfl rfl hl.1 rfl (by simp [lh_cat_r, lh_cat_i, lh_cat_j]) dX9_started_77 ⟨Nat.le_of_ble_eq_true rfl, Nat.le_of_ble_eq_true rfl⟩) hS (fun H locs hX hW hS => ?_)
        refine W.widen (k := 0) (n := 0) (by omega) (by omega) ?_
        show W _ _ _ _ _ _ _ _ _ _ _ _ _ _ _ (F0 m 80 ls [.int r24])
        have m27 : ∀ b, gvN S7 b ≤ gvN S25 b := hX.1
        have L_t : ∀ j, some t = some j → j < gvN S25 9 := fun j h => Nat.lt_of_lt_of_le (L_t j h) (m27 _)
        have L_p1 : ∀ j, p1 = some j → j < gvN S25 5 := fun j h => Nat.lt_of_lt_of_le (L_p1 j h) (m27 _)
        have L10 : ∀ j, o9 = some j → j < gvN S25 5 := fun j h => Nat.lt_of_lt_of_le (L10 j h) (m27 _)
        have hm : ∀ b, gvN S b ≤ gvN S25 b := lh_le_trans hm m27
        have ok := lh_W_ok hW
        refine lv_istore (i := 4) (lv' := [(4, .int r24), (0, lh_r ad 9 (some t)), (1, lh_r ad 5 p1), (2, .int v8), (3, lh_r ad 5 o9), (5, .int v12)]) hx hb dX9_started_80 hl (by decide) (by first | rfl | simp [lh_cat_r, lh_cat_i, lh_cat_j]) (fun ls hl => ?_)
        refine lv_iinc (v := v12 + (-1 : Int32)) (lv' := [(5, .int (v12 + (-1 : Int32))), (4, .int r24), (0, lh_r ad 9 (some t)), (1, lh_r ad 5 p1), (2, .int v8), (3, lh_r ad 5 o9)]) hx hb dX9_started_82 hl (k := 5) rfl (by first | rfl | decide) (by decide) (by first | rfl | simp [lh_cat_r, lh_cat_i, lh_cat_j]) (fun ls hl => ?_)
        refine lv_goto (tgt := 63) hx hb dX9_started_85 (by decide) ?_
        exact ih S25 v8 o9 r24 (v12 + (-1 : Int32)) hf hm L10 _ _ hW hS _ (lv_sub hl [2, 3, 4, 5, 1, 0] (by first | rfl | simp [lv_pick]))
  have L4 : ∀ (g : Nat) (S1 : lh_S) (v2 : Int32) (o3 : Option Nat), f_X9_started_L4 n t p1 g S1 v2 o3 = some (r, S') → (∀ b, gvN S b ≤ gvN S1 b) → (∀ j, o3 = some j → j < gvN S1 5) → ∀ (H : Heap) (locs : List Loc), lh_W D cT S1 ad A H → va_S A s.heap H locs → ∀ (ls : Array Slot), lv_has ls 6 [(0, lh_r ad 9 (some t)), (1, lh_r ad 5 p1), (2, .int v2), (3, lh_r ad 5 o3)] → W p l e (headSpec wsX9_started ({ frames := 1, cells := 0, slots := 0, locals := 22 } : Room)).room s m args below meth c H locs 0 0 (MQ below (lh_Q D cT S' ad A ((∀ b, gvN S b ≤ gvN S' b) ∧ True) (some (.int r))) args s 0 0 A) (F0 m 4 ls []) := by
    intro g
    induction g with
    | zero => intro S1 v2 o3 hf; rw [f_X9_started_L4] at hf; cases hf
    | succ g ih =>
      intro S1 v2 o3 hf hm L4 H locs hW hS ls hl
      rw [f_X9_started_L4] at hf
      have ok := lh_W_ok hW
      have L_t : ∀ j, some t = some j → j < gvN S1 9 := fun j h => Nat.lt_of_lt_of_le (L_t j h) (hm _)
      have L_p1 : ∀ j, p1 = some j → j < gvN S1 5 := fun j h => Nat.lt_of_lt_of_le (L_p1 j h) (hm _)
      refine lh_aload_n hx hb dX9_started_4 rfl (lv_at hl 3 rfl) ?_
      refine lh_ifnull (tgt := 39) hx hb dX9_started_5 (by decide) (fun c5 => ?_) (fun c5 => ?_)
      · replace hf := dc_if_t c5 hf
        refine lh_aload_n hx hb dX9_started_39 rfl (lv_at hl 3 rfl) ?_
        refine lh_ifnull (tgt := 55) hx hb dX9_started_40 (by decide) (fun c6 => ?_) (fun c6 => ?_)
        · replace hf := dc_if_t c6 hf
          refine lv_iconst (v := 0) hx hb dX9_started_55 (by decide) ?_
          refine lv_istore (i := 4) (lv' := [(4, .int (0 : Int32)), (0, lh_r ad 9 (some t)), (1, lh_r ad 5 p1), (2, .int v2), (3, lh_r ad 5 o3)]) hx hb dX9_started_56 hl (by decide) (by first | rfl | simp [lh_cat_r, lh_cat_i, lh_cat_j]) (fun ls hl => ?_)
          refine lv_iload_n hx hb dX9_started_58 rfl (lv_at hl 3 rfl) ?_
          refine lv_iconst (v := 1) hx hb dX9_started_59 (by decide) ?_
          refine lv_isub hx hb dX9_started_60 ?_
          refine lv_istore (i := 5) (lv' := [(5, .int (v2 - (1 : Int32))), (4, .int (0 : Int32)), (0, lh_r ad 9 (some t)), (1, lh_r ad 5 p1), (2, .int v2), (3, lh_r ad 5 o3)]) hx hb dX9_started_61 hl (by decide) (by first | rfl | simp [lh_cat_r, lh_cat_i, lh_cat_j]) (fun ls hl => ?_)
          exact L63 n S1 v2 o3 (0 : Int32) (v2 - (1 : Int32)) hf hm L4 _ _ hW hS _ (lv_sub hl [2, 3, 4, 5, 1, 0] (by first | rfl | simp [lv_pick]))
        · replace hf := dc_if_f c6 hf
          refine lh_aload_n hx hb dX9_started_43 rfl (lv_at hl 3 rfl) ?_
          obtain ⟨x28, hx28, hf⟩ := dc_nn_ok hf
          refine lh_get (a := 5) (k := 4) (N := 6) (C := RX5) (T := TX5) (own := RX9) (ref := "LoaderModels$Model") hx hb hts (fun _ h => (List.mem_cons_of_mem _ (List.mem_append_left _ (List.mem_append_left _ (List.mem_append_right _ h))))) hown hK hW hx28 (L4 _ hx28) rfl rfl rfl (by decide) (hts (.fieldLink RX9 198 "LoaderModels$Model" "state" "I") (List.mem_cons_of_mem _ (List.mem_append_left _ (List.mem_append_left _ (List.mem_append_left _ (List.mem_of_getElem? (i := 0) rfl)))))) (fun _ h9 => h9) dX9_started_44 (v := .int (gvI S1 5 x28 4)) rfl ?_
          refine lv_iconst (v := 2) hx hb dX9_started_47 (by decide) ?_
          refine lv_icmp_ne (tgt := 55) hx hb dX9_started_48 (by decide) (fun c29 => ?_) (fun c29 => ?_)
          · replace hf := dc_if_f c29 hf
            refine lv_iconst (v := 0) hx hb dX9_started_55 (by decide) ?_
            refine lv_istore (i := 4) (lv' := [(4, .int (0 : Int32)), (0, lh_r ad 9 (some t)), (1, lh_r ad 5 p1), (2, .int v2), (3, lh_r ad 5 o3)]) hx hb dX9_started_56 hl (by decide) (by first | rfl | simp [lh_cat_r, lh_cat_i, lh_cat_j]) (fun ls hl => ?_)
            refine lv_iload_n hx hb dX9_started_58 rfl (lv_at hl 3 rfl) ?_
            refine lv_iconst (v := 1) hx hb dX9_started_59 (by decide) ?_
            refine lv_isub hx hb dX9_started_60 ?_
            refine lv_istore (i := 5) (lv' := [(5, .int (v2 - (1 : Int32))), (4, .int (0 : Int32)), (0, lh_r ad 9 (some t)), (1, lh_r ad 5 p1), (2, .int v2), (3, lh_r ad 5 o3)]) hx hb dX9_started_61 hl (by decide) (by first | rfl | simp [lh_cat_r, lh_cat_i, lh_cat_j]) (fun ls hl => ?_)
            exact L63 n S1 v2 o3 (0 : Int32) (v2 - (1 : Int32)) hf hm L4 _ _ hW hS _ (lv_sub hl [2, 3, 4, 5, 1, 0] (by first | rfl | simp [lv_pick]))
          · replace hf := dc_if_t c29 hf
            refine lv_iconst (v := 2) hx hb dX9_started_51 (by decide) ?_
            refine lv_goto (tgt := 56) hx hb dX9_started_52 (by decide) ?_
            refine lv_istore (i := 4) (lv' := [(4, .int (2 : Int32)), (0, lh_r ad 9 (some t)), (1, lh_r ad 5 p1), (2, .int v2), (3, lh_r ad 5 o3)]) hx hb dX9_started_56 hl (by decide) (by first | rfl | simp [lh_cat_r, lh_cat_i, lh_cat_j]) (fun ls hl => ?_)
            refine lv_iload_n hx hb dX9_started_58 rfl (lv_at hl 3 rfl) ?_
            refine lv_iconst (v := 1) hx hb dX9_started_59 (by decide) ?_
            refine lv_isub hx hb dX9_started_60 ?_
            refine lv_istore (i := 5) (lv' := [(5, .int (v2 - (1 : Int32))), (4, .int (2 : Int32)), (0, lh_r ad 9 (some t)), (1, lh_r ad 5 p1), (2, .int v2), (3, lh_r ad 5 o3)]) hx hb dX9_started_61 hl (by decide) (by first | rfl | simp [lh_cat_r, lh_cat_i, lh_cat_j]) (fun ls hl => ?_)
            exact L63 n S1 v2 o3 (2 : Int32) (v2 - (1 : Int32)) hf hm L4 _ _ hW hS _ (lv_sub hl [2, 3, 4, 5, 1, 0] (by first | rfl | simp [lv_pick]))
      · replace hf := dc_if_f c5 hf
        refine lh_aload_n hx hb dX9_started_8 rfl (lv_at hl 3 rfl) ?_
        obtain ⟨x30, hx30, hf⟩ := dc_nn_ok hf
        refine lh_get (a := 5) (k := 4) (N := 6) (C := RX5) (T := TX5) (own := RX9) (ref := "LoaderModels$Model") hx hb hts (fun _ h => (List.mem_cons_of_mem _ (List.mem_append_left _ (List.mem_append_left _ (List.mem_append_right _ h))))) hown hK hW hx30 (L4 _ hx30) rfl rfl rfl (by decide) (hts (.fieldLink RX9 198 "LoaderModels$Model" "state" "I") (List.mem_cons_of_mem _ (List.mem_append_left _ (List.mem_append_left _ (List.mem_append_left _ (List.mem_of_getElem? (i := 0) rfl)))))) (fun _ h9 => h9) dX9_started_9 (v := .int (gvI S1 5 x30 4)) rfl ?_
        refine lv_if_ne (tgt := 39) hx hb dX9_started_12 (by decide) (fun c31 => ?_) (fun c31 => ?_)
        · replace hf := dc_if_f c31 hf
          refine lh_aload_n hx hb dX9_started_39 rfl (lv_at hl 3 rfl) ?_
          refine lh_ifnull (tgt := 55) hx hb dX9_started_40 (by decide) (fun c32 => ?_) (fun c32 => ?_)
          · replace hf := dc_if_t c32 hf
            refine lv_iconst (v := 0) hx hb dX9_started_55 (by decide) ?_
            refine lv_istore (i := 4) (lv' := [(4, .int (0 : Int32)), (0, lh_r ad 9 (some t)), (1, lh_r ad 5 p1), (2, .int v2), (3, lh_r ad 5 o3)]) hx hb dX9_started_56 hl (by decide) (by first | rfl | simp [lh_cat_r, lh_cat_i, lh_cat_j]) (fun ls hl => ?_)
            refine lv_iload_n hx hb dX9_started_58 rfl (lv_at hl 3 rfl) ?_
            refine lv_iconst (v := 1) hx hb dX9_started_59 (by decide) ?_
            refine lv_isub hx hb dX9_started_60 ?_
            refine lv_istore (i := 5) (lv' := [(5, .int (v2 - (1 : Int32))), (4, .int (0 : Int32)), (0, lh_r ad 9 (some t)), (1, lh_r ad 5 p1), (2, .int v2), (3, lh_r ad 5 o3)]) hx hb dX9_started_61 hl (by decide) (by first | rfl | simp [lh_cat_r, lh_cat_i, lh_cat_j]) (fun ls hl => ?_)
            exact L63 n S1 v2 o3 (0 : Int32) (v2 - (1 : Int32)) hf hm L4 _ _ hW hS _ (lv_sub hl [2, 3, 4, 5, 1, 0] (by first | rfl | simp [lv_pick]))
          · replace hf := dc_if_f c32 hf
            refine lh_aload_n hx hb dX9_started_43 rfl (lv_at hl 3 rfl) ?_
            refine lh_get (a := 5) (k := 4) (N := 6) (C := RX5) (T := TX5) (own := RX9) (ref := "LoaderModels$Model") hx hb hts (fun _ h => (List.mem_cons_of_mem _ (List.mem_append_left _ (List.mem_append_left _ (List.mem_append_right _ h))))) hown hK hW hx30 (L4 _ hx30) rfl rfl rfl (by decide) (hts (.fieldLink RX9 198 "LoaderModels$Model" "state" "I") (List.mem_cons_of_mem _ (List.mem_append_left _ (List.mem_append_left _ (List.mem_append_left _ (List.mem_of_getElem? (i := 0) rfl)))))) (fun _ h9 => h9) dX9_started_44 (v := .int (gvI S1 5 x30 4)) rfl ?_
            refine lv_iconst (v := 2) hx hb dX9_started_47 (by decide) ?_
            refine lv_icmp_ne (tgt := 55) hx hb dX9_started_48 (by decide) (fun c33 => ?_) (fun c33 => ?_)
            · replace hf := dc_if_f c33 hf
              refine lv_iconst (v := 0) hx hb dX9_started_55 (by decide) ?_
              refine lv_istore (i := 4) (lv' := [(4, .int (0 : Int32)), (0, lh_r ad 9 (some t)), (1, lh_r ad 5 p1), (2, .int v2), (3, lh_r ad 5 o3)]) hx hb dX9_started_56 hl (by decide) (by first | rfl | simp [lh_cat_r, lh_cat_i, lh_cat_j]) (fun ls hl => ?_)
              refine lv_iload_n hx hb dX9_started_58 rfl (lv_at hl 3 rfl) ?_
              refine lv_iconst (v := 1) hx hb dX9_started_59 (by decide) ?_
              refine lv_isub hx hb dX9_started_60 ?_
              refine lv_istore (i := 5) (lv' := [(5, .int (v2 - (1 : Int32))), (4, .int (0 : Int32)), (0, lh_r ad 9 (some t)), (1, lh_r ad 5 p1), (2, .int v2), (3, lh_r ad 5 o3)]) hx hb dX9_started_61 hl (by decide) (by first | rfl | simp [lh_cat_r, lh_cat_i, lh_cat_j]) (fun ls hl => ?_)
              exact L63 n S1 v2 o3 (0 : Int32) (v2 - (1 : Int32)) hf hm L4 _ _ hW hS _ (lv_sub hl [2, 3, 4, 5, 1, 0] (by first | rfl | simp [lv_pick]))
            · replace hf := dc_if_t c33 hf
              refine lv_iconst (v := 2) hx hb dX9_started_51 (by decide) ?_
              refine lv_goto (tgt := 56) hx hb dX9_started_52 (by decide) ?_
              refine lv_istore (i := 4) (lv' := [(4, .int (2 : Int32)), (0, lh_r ad 9 (some t)), (1, lh_r ad 5 p1), (2, .int v2), (3, lh_r ad 5 o3)]) hx hb dX9_started_56 hl (by decide) (by first | rfl | simp [lh_cat_r, lh_cat_i, lh_cat_j]) (fun ls hl => ?_)
              refine lv_iload_n hx hb dX9_started_58 rfl (lv_at hl 3 rfl) ?_
              refine lv_iconst (v := 1) hx hb dX9_started_59 (by decide) ?_
              refine lv_isub hx hb dX9_started_60 ?_
              refine lv_istore (i := 5) (lv' := [(5, .int (v2 - (1 : Int32))), (4, .int (2 : Int32)), (0, lh_r ad 9 (some t)), (1, lh_r ad 5 p1), (2, .int v2), (3, lh_r ad 5 o3)]) hx hb dX9_started_61 hl (by decide) (by first | rfl | simp [lh_cat_r, lh_cat_i, lh_cat_j]) (fun ls hl => ?_)
              exact L63 n S1 v2 o3 (2 : Int32) (v2 - (1 : Int32)) hf hm L4 _ _ hW hS _ (lv_sub hl [2, 3, 4, 5, 1, 0] (by first | rfl | simp [lv_pick]))
        · replace hf := dc_if_t c31 hf
          refine lv_iload_n hx hb dX9_started_15 rfl (lv_at hl 2 rfl) ?_
          refine lv_bipush (v := 40) hx hb dX9_started_16 (by decide) ?_
          refine lv_icmp_ge (tgt := 39) hx hb dX9_started_18 (by decide) (fun c34 => ?_) (fun c34 => ?_)
          · replace hf := dc_if_t c34 hf
            refine lh_aload_n hx hb dX9_started_39 rfl (lv_at hl 3 rfl) ?_
            refine lh_ifnull (tgt := 55) hx hb dX9_started_40 (by decide) (fun c35 => ?_) (fun c35 => ?_)
            · replace hf := dc_if_t c35 hf
              refine lv_iconst (v := 0) hx hb dX9_started_55 (by decide) ?_
              refine lv_istore (i := 4) (lv' := [(4, .int (0 : Int32)), (0, lh_r ad 9 (some t)), (1, lh_r ad 5 p1), (2, .int v2), (3, lh_r ad 5 o3)]) hx hb dX9_started_56 hl (by decide) (by first | rfl | simp [lh_cat_r, lh_cat_i, lh_cat_j]) (fun ls hl => ?_)
              refine lv_iload_n hx hb dX9_started_58 rfl (lv_at hl 3 rfl) ?_
              refine lv_iconst (v := 1) hx hb dX9_started_59 (by decide) ?_
              refine lv_isub hx hb dX9_started_60 ?_
              refine lv_istore (i := 5) (lv' := [(5, .int (v2 - (1 : Int32))), (4, .int (0 : Int32)), (0, lh_r ad 9 (some t)), (1, lh_r ad 5 p1), (2, .int v2), (3, lh_r ad 5 o3)]) hx hb dX9_started_61 hl (by decide) (by first | rfl | simp [lh_cat_r, lh_cat_i, lh_cat_j]) (fun ls hl => ?_)
              exact L63 n S1 v2 o3 (0 : Int32) (v2 - (1 : Int32)) hf hm L4 _ _ hW hS _ (lv_sub hl [2, 3, 4, 5, 1, 0] (by first | rfl | simp [lv_pick]))
            · replace hf := dc_if_f c35 hf
              refine lh_aload_n hx hb dX9_started_43 rfl (lv_at hl 3 rfl) ?_
              refine lh_get (a := 5) (k := 4) (N := 6) (C := RX5) (T := TX5) (own := RX9) (ref := "LoaderModels$Model") hx hb hts (fun _ h => (List.mem_cons_of_mem _ (List.mem_append_left _ (List.mem_append_left _ (List.mem_append_right _ h))))) hown hK hW hx30 (L4 _ hx30) rfl rfl rfl (by decide) (hts (.fieldLink RX9 198 "LoaderModels$Model" "state" "I") (List.mem_cons_of_mem _ (List.mem_append_left _ (List.mem_append_left _ (List.mem_append_left _ (List.mem_of_getElem? (i := 0) rfl)))))) (fun _ h9 => h9) dX9_started_44 (v := .int (gvI S1 5 x30 4)) rfl ?_
              refine lv_iconst (v := 2) hx hb dX9_started_47 (by decide) ?_
              refine lv_icmp_ne (tgt := 55) hx hb dX9_started_48 (by decide) (fun c36 => ?_) (fun c36 => ?_)
              · replace hf := dc_if_f c36 hf
                refine lv_iconst (v := 0) hx hb dX9_started_55 (by decide) ?_
                refine lv_istore (i := 4) (lv' := [(4, .int (0 : Int32)), (0, lh_r ad 9 (some t)), (1, lh_r ad 5 p1), (2, .int v2), (3, lh_r ad 5 o3)]) hx hb dX9_started_56 hl (by decide) (by first | rfl | simp [lh_cat_r, lh_cat_i, lh_cat_j]) (fun ls hl => ?_)
                refine lv_iload_n hx hb dX9_started_58 rfl (lv_at hl 3 rfl) ?_
                refine lv_iconst (v := 1) hx hb dX9_started_59 (by decide) ?_
                refine lv_isub hx hb dX9_started_60 ?_
                refine lv_istore (i := 5) (lv' := [(5, .int (v2 - (1 : Int32))), (4, .int (0 : Int32)), (0, lh_r ad 9 (some t)), (1, lh_r ad 5 p1), (2, .int v2), (3, lh_r ad 5 o3)]) hx hb dX9_started_61 hl (by decide) (by first | rfl | simp [lh_cat_r, lh_cat_i, lh_cat_j]) (fun ls hl => ?_)
                exact L63 n S1 v2 o3 (0 : Int32) (v2 - (1 : Int32)) hf hm L4 _ _ hW hS _ (lv_sub hl [2, 3, 4, 5, 1, 0] (by first | rfl | simp [lv_pick]))
              · replace hf := dc_if_t c36 hf
                refine lv_iconst (v := 2) hx hb dX9_started_51 (by decide) ?_
                refine lv_goto (tgt := 56) hx hb dX9_started_52 (by decide) ?_
                refine lv_istore (i := 4) (lv' := [(4, .int (2 : Int32)), (0, lh_r ad 9 (some t)), (1, lh_r ad 5 p1), (2, .int v2), (3, lh_r ad 5 o3)]) hx hb dX9_started_56 hl (by decide) (by first | rfl | simp [lh_cat_r, lh_cat_i, lh_cat_j]) (fun ls hl => ?_)
                refine lv_iload_n hx hb dX9_started_58 rfl (lv_at hl 3 rfl) ?_
                refine lv_iconst (v := 1) hx hb dX9_started_59 (by decide) ?_
                refine lv_isub hx hb dX9_started_60 ?_
                refine lv_istore (i := 5) (lv' := [(5, .int (v2 - (1 : Int32))), (4, .int (2 : Int32)), (0, lh_r ad 9 (some t)), (1, lh_r ad 5 p1), (2, .int v2), (3, lh_r ad 5 o3)]) hx hb dX9_started_61 hl (by decide) (by first | rfl | simp [lh_cat_r, lh_cat_i, lh_cat_j]) (fun ls hl => ?_)
                exact L63 n S1 v2 o3 (2 : Int32) (v2 - (1 : Int32)) hf hm L4 _ _ hW hS _ (lv_sub hl [2, 3, 4, 5, 1, 0] (by first | rfl | simp [lv_pick]))
          · replace hf := dc_if_f c34 hf
            refine lh_aload_n hx hb dX9_started_21 rfl (lv_at hl 0 rfl) ?_
            have L37 : ∀ j, gvR S1 9 t 8 = some j → j < gvN S1 24 := fun j h => ok _ _ _ _ j (L_t _ rfl) rfl h
            refine lh_get (a := 9) (k := 8) (N := 10) (C := RX9) (T := TX9) (own := RX9) (ref := "LoaderModels") hx hb hts (fun _ h => (List.mem_cons_of_mem _ (List.mem_append_left _ (List.mem_append_right _ h)))) hown hK hW rfl (L_t _ rfl) rfl rfl rfl (by decide) (hts (.fieldLink RX9 45 "LoaderModels" "toStart" "[LLoaderModels$Model;") (List.mem_cons_of_mem _ (List.mem_append_left _ (List.mem_append_left _ (List.mem_append_left _ (List.mem_of_getElem? (i := 1) rfl)))))) (fun _ h9 => h9) dX9_started_22 (v := lh_r ad 24 (gvR S1 9 t 8)) rfl ?_
            refine lv_iload_n hx hb dX9_started_25 rfl (lv_at hl 2 rfl) ?_
            refine lv_iinc (v := v2 + (1 : Int32)) (lv' := [(2, .int (v2 + (1 : Int32))), (0, lh_r ad 9 (some t)), (1, lh_r ad 5 p1), (3, lh_r ad 5 o3)]) hx hb dX9_started_26 hl (k := 2) rfl (by first | rfl | decide) (by decide) (by first | rfl | simp [lh_cat_r, lh_cat_i, lh_cat_j]) (fun ls hl => ?_)
            refine lh_aload_n hx hb dX9_started_29 rfl (lv_at hl 3 rfl) ?_
            obtain ⟨x38, hx38, hf⟩ := dc_nn_ok hf
            obtain ⟨g39, hf⟩ := dc_gd_ok hf
            obtain ⟨S40, eS40, hf⟩ := dc_let_ok hf
            refine lh_ast_r (a := 24) (t0 := 6) (t := 5) hx hb hK hW hS hx38 (L37 _ hx38) rfl rfl (fun _ => rfl) rfl rfl L4 g39 dX9_started_30 (fun H locs hW hS => ?_)
            rw [← eS40] at hW
            have m41 : ∀ b, gvN S1 b ≤ gvN S40 b := by rw [eS40]; exact lh_mR
            have L_t : ∀ j, some t = some j → j < gvN S40 9 := fun j h => Nat.lt_of_lt_of_le (L_t j h) (m41 _)
            have L_p1 : ∀ j, p1 = some j → j < gvN S40 5 := fun j h => Nat.lt_of_lt_of_le (L_p1 j h) (m41 _)
            have L4 : ∀ j, o3 = some j → j < gvN S40 5 := fun j h => Nat.lt_of_lt_of_le (L4 j h) (m41 _)
            have hm : ∀ b, gvN S b ≤ gvN S40 b := lh_le_trans hm m41
            have ok := lh_W_ok hW
            refine lh_aload_n hx hb dX9_started_31 rfl (lv_at hl 3 rfl) ?_
            have L42 : ∀ j, gvR S40 5 x30 3 = some j → j < gvN S40 5 := fun j h => ok _ _ _ _ j (L4 _ hx30) rfl h
            refine lh_get (a := 5) (k := 3) (N := 6) (C := RX5) (T := TX5) (own := RX9) (ref := "LoaderModels$Model") hx hb hts (fun _ h => (List.mem_cons_of_mem _ (List.mem_append_left _ (List.mem_append_left _ (List.mem_append_right _ h))))) hown hK hW hx30 (L4 _ hx30) rfl rfl rfl (by decide) (hts (.fieldLink RX9 194 "LoaderModels$Model" "above" "LLoaderModels$Model;") (List.mem_cons_of_mem _ (List.mem_append_left _ (List.mem_append_left _ (List.mem_append_left _ (List.mem_of_getElem? (i := 2) rfl)))))) (fun _ h9 => h9) dX9_started_32 (v := lh_r ad 5 (gvR S40 5 x30 3)) rfl ?_
            refine lh_astore_n (i := 3) (lv' := [(3, lh_r ad 5 (gvR S40 5 x30 3)), (2, .int (v2 + (1 : Int32))), (0, lh_r ad 9 (some t)), (1, lh_r ad 5 p1)]) hx hb dX9_started_35 rfl hl (by decide) (by first | rfl | simp [lh_cat_r, lh_cat_i, lh_cat_j]) (fun ls hl => ?_)
            refine lv_goto (tgt := 4) hx hb dX9_started_36 (by decide) ?_
            exact ih S40 (v2 + (1 : Int32)) (gvR S40 5 x30 3) hf hm L42 _ _ hW hS _ (lv_sub hl [2, 3, 1, 0] (by first | rfl | simp [lv_pick]))
  have ok := lh_W_ok hW
  have hm : ∀ b, gvN S b ≤ gvN S b := fun _ => Nat.le_refl _
  obtain ⟨ls, hent, hl⟩ := lh_entry m args [lh_r ad 9 (some t), lh_r ad 5 p1] 6 [(0, lh_r ad 9 (some t)), (1, lh_r ad 5 p1)] hargs (by simp [lv_args, lh_cat_r, lh_cat_i, lh_cat_j]) (by simp [lg_sl, lh_cat_r, lh_cat_i, lh_cat_j])
  rw [hent]
  generalize hH : s.heap = H at hW ⊢
  have hS : va_S A s.heap H [] := by rw [← hH]; exact va_S.rf
  unfold f_X9_started at hf
  refine lv_iconst (v := 0) hx hb dX9_started_0 (by decide) ?_
  refine lv_istore_n (i := 2) (lv' := [(2, .int (0 : Int32)), (0, lh_r ad 9 (some t)), (1, lh_r ad 5 p1)]) hx hb dX9_started_1 rfl hl (by decide) (by first | rfl | simp [lh_cat_r, lh_cat_i, lh_cat_j]) (fun ls hl => ?_)
  refine lh_aload_n hx hb dX9_started_2 rfl (lv_at hl 2 rfl) ?_
  refine lh_astore_n (i := 3) (lv' := [(3, lh_r ad 5 p1), (2, .int (0 : Int32)), (0, lh_r ad 9 (some t)), (1, lh_r ad 5 p1)]) hx hb dX9_started_3 rfl hl (by decide) (by first | rfl | simp [lh_cat_r, lh_cat_i, lh_cat_j]) (fun ls hl => ?_)
  exact L4 n S (0 : Int32) p1 hf hm L_p1 _ _ hW hS _ (lv_sub hl [2, 3, 1, 0] (by first | rfl | simp [lv_pick]))
