def f_X3_at (n : Nat) (S : lh_S) (t : Nat) (p1 : Int32) : Option (Option Nat × lh_S) :=
  dc_if (p1 < 0) (
  some ((none : Option Nat), S)) (
  dc_if ((gvI S 3 t 1) ≤ p1) (
  some ((none : Option Nat), S)) (
  dc_nn (gvR S 3 t 0) fun x6 =>
  dc_gd (p1 < 0 ∨ gvL S 16 x6 ≤ (p1).toNatClampNeg) (
  some (gvR S 16 x6 (p1).toNatClampNeg, S))))
set_option maxHeartbeats 1000000 in
theorem m_X3_at {n : Nat} {S : lh_S} {t : Nat} {p1 : Int32} {r : Option Nat} {S' : lh_S} (hf : f_X3_at n S t p1 = some (r, S')) : ∀ b, gvN S b ≤ gvN S' b := by
  have hm : ∀ b, gvN S b ≤ gvN S b := fun _ => Nat.le_refl _
  unfold f_X3_at at hf
  by_cases c1 : p1 < 0
  · replace hf := dc_if_t c1 hf
    obtain ⟨_, rfl⟩ := dc_ret hf
    exact hm
  · replace hf := dc_if_f c1 hf
    by_cases c3 : (gvI S 3 t 1) ≤ p1
    · replace hf := dc_if_t c3 hf
      obtain ⟨_, rfl⟩ := dc_ret hf
      exact hm
    · replace hf := dc_if_f c3 hf
      obtain ⟨x6, hx6, hf⟩ := dc_nn_ok hf
      obtain ⟨g7, hf⟩ := dc_gd_ok hf
      obtain ⟨_, rfl⟩ := dc_ret hf
      exact hm
set_option maxHeartbeats 1000000 in
theorem k_X3_at {n : Nat} {S : lh_S} {t : Nat} {p1 : Int32} {r : Option Nat} {S' : lh_S} (hf : f_X3_at n S t p1 = some (r, S')) : lh_sm9 S S' := by
  have hm : lh_sm9 S S := lh_sm9_rf
  unfold f_X3_at at hf
  by_cases c1 : p1 < 0
  · replace hf := dc_if_t c1 hf
    obtain ⟨_, rfl⟩ := dc_ret hf
    exact hm
  · replace hf := dc_if_f c1 hf
    by_cases c3 : (gvI S 3 t 1) ≤ p1
    · replace hf := dc_if_t c3 hf
      obtain ⟨_, rfl⟩ := dc_ret hf
      exact hm
    · replace hf := dc_if_f c3 hf
      obtain ⟨x6, hx6, hf⟩ := dc_nn_ok hf
      obtain ⟨g7, hf⟩ := dc_gd_ok hf
      obtain ⟨_, rfl⟩ := dc_ret hf
      exact hm
set_option maxHeartbeats 4000000 in
set_option maxRecDepth 100000 in
theorem c_X3_at (l : Launch) (D : va_G) (cT : Nat → ClassId) (n : Nat) (S : lh_S) (ad : Nat → Nat → Nat) (A : Nat → Prop) (sz : Nat) (hA : ∀ q, sz ≤ q → A q) (t : Nat) (p1 : Int32) (r : Option Nat) (S' : lh_S) (hf : f_X3_at n S t p1 = some (r, S')) (L_t : ∀ j, some t = some j → j < gvN S 3) : Met l yX3_at wsX3_at ({ frames := 0, cells := 0, slots := 0, locals := 0 } : Room) (lh_P D cT S ad A sz [lh_r ad 3 (some t), .int p1]) (lh_Q D cT S' ad A ((∀ b, gvN S b ≤ gvN S' b) ∧ (∀ j, r = some j → j < gvN S' 2)) (some (lh_r ad 2 r))) 0 0 A := by
  refine Met.ofW (cc := cX3_at) (maxL := 2) (ret := (some (.object "LoaderModels$Loader"))) (by decide) rfl ?_
  intro p e s m args below meth c s₁ B hml hv
  obtain ⟨hargs, hsz, hW, hK, hN⟩ := hv
  have hx := B.exec
  have hb := B.bytes
  have hr := B.returns
  have hts := atoms_spec (ws := wsX3_at) B.pre
  have hown : s.vm.findClass RX3 = some m.cls := findClass_of_methodNamed B.named
  have hlocks := B.notSynchronized
  have hA : ∀ q, s.heap.size ≤ q → A q := fun q h => hA q (by rw [← hsz]; exact h)
  have ok := lh_W_ok hW
  have hm : ∀ b, gvN S b ≤ gvN S b := fun _ => Nat.le_refl _
  obtain ⟨ls, hent, hl⟩ := lh_entry m args [lh_r ad 3 (some t), .int p1] 2 [(0, lh_r ad 3 (some t)), (1, .int p1)] hargs (by simp [lv_args, lh_cat_r, lh_cat_i, lh_cat_j]) (by simp [lg_sl, lh_cat_r, lh_cat_i, lh_cat_j])
  rw [hent]
  generalize hH : s.heap = H at hW ⊢
  have hS : va_S A s.heap H [] := by rw [← hH]; exact va_S.rf
  unfold f_X3_at at hf
  refine lv_iload_n hx hb dX3_at_0 rfl (lv_at hl 1 rfl) ?_
  refine lv_if_lt (tgt := 21) hx hb dX3_at_1 (by decide) (fun c1 => ?_) (fun c1 => ?_)
  · replace hf := dc_if_t c1 hf
    have L2 : ∀ j, (none : Option Nat) = some j → j < gvN S 2 := fun j h => by cases h
    refine lh_null hx hb ad 2 dX3_at_21 ?_
    obtain ⟨rfl, rfl⟩ := dc_ret hf
    exact W.aret (v := lh_r ad 2 (none : Option Nat)) hx hb hr (Or.inl ⟨_, rfl⟩) (lh_rf_or) (fun t9 ht9 hW9 => ⟨⟨rfl, ⟨hm, L2⟩, by rw [ht9]; exact hW⟩, hS.F ht9⟩) hS.2.2 dX3_at_22
  · replace hf := dc_if_f c1 hf
    refine lv_iload_n hx hb dX3_at_4 rfl (lv_at hl 1 rfl) ?_
    refine lh_aload_n hx hb dX3_at_5 rfl (lv_at hl 0 rfl) ?_
    refine lh_get (a := 3) (k := 1) (N := 2) (C := RX3) (T := TX3) (own := RX3) (ref := "LoaderModels$Loaders") hx hb hts (fun _ h => (List.mem_cons_of_mem _ (List.mem_append_right _ h))) hown hK hW rfl (L_t _ rfl) rfl rfl rfl (by decide) (hts (.fieldLink RX3 17 "LoaderModels$Loaders" "count" "I") (List.mem_cons_of_mem _ (List.mem_append_left _ (List.mem_of_getElem? (i := 0) rfl)))) (fun _ h9 => h9) dX3_at_6 (v := .int (gvI S 3 t 1)) rfl ?_
    refine lv_icmp_ge (tgt := 21) hx hb dX3_at_9 (by decide) (fun c3 => ?_) (fun c3 => ?_)
    · replace hf := dc_if_t c3 hf
      have L4 : ∀ j, (none : Option Nat) = some j → j < gvN S 2 := fun j h => by cases h
      refine lh_null hx hb ad 2 dX3_at_21 ?_
      obtain ⟨rfl, rfl⟩ := dc_ret hf
      exact W.aret (v := lh_r ad 2 (none : Option Nat)) hx hb hr (Or.inl ⟨_, rfl⟩) (lh_rf_or) (fun t9 ht9 hW9 => ⟨⟨rfl, ⟨hm, L4⟩, by rw [ht9]; exact hW⟩, hS.F ht9⟩) hS.2.2 dX3_at_22
    · replace hf := dc_if_f c3 hf
      refine lh_aload_n hx hb dX3_at_12 rfl (lv_at hl 0 rfl) ?_
      have L5 : ∀ j, gvR S 3 t 0 = some j → j < gvN S 16 := fun j h => ok _ _ _ _ j (L_t _ rfl) rfl h
      refine lh_get (a := 3) (k := 0) (N := 2) (C := RX3) (T := TX3) (own := RX3) (ref := "LoaderModels$Loaders") hx hb hts (fun _ h => (List.mem_cons_of_mem _ (List.mem_append_right _ h))) hown hK hW rfl (L_t _ rfl) rfl rfl rfl (by decide) (hts (.fieldLink RX3 11 "LoaderModels$Loaders" "items" "[LLoaderModels$Loader;") (List.mem_cons_of_mem _ (List.mem_append_left _ (List.mem_of_getElem? (i := 1) rfl)))) (fun _ h9 => h9) dX3_at_13 (v := lh_r ad 16 (gvR S 3 t 0)) rfl ?_
      refine lv_iload_n hx hb dX3_at_16 rfl (lv_at hl 1 rfl) ?_
      obtain ⟨x6, hx6, hf⟩ := dc_nn_ok hf
      obtain ⟨g7, hf⟩ := dc_gd_ok hf
      have L8 : ∀ j, gvR S 16 x6 (p1).toNatClampNeg = some j → j < gvN S 2 := fun j h => ok 16 _ _ 2 j (L5 _ hx6) rfl h
      refine lh_ald_r (a := 16) (t0 := 5) (t := 2) hx hb hK hW hx6 (L5 _ hx6) rfl rfl rfl g7 dX3_at_17 ?_
      refine lv_goto (tgt := 22) hx hb dX3_at_18 (by decide) ?_
      obtain ⟨rfl, rfl⟩ := dc_ret hf
      exact W.aret (v := lh_r ad 2 (gvR S 16 x6 (p1).toNatClampNeg)) hx hb hr (Or.inl ⟨_, rfl⟩) (lh_rf_or) (fun t9 ht9 hW9 => ⟨⟨rfl, ⟨hm, L8⟩, by rw [ht9]; exact hW⟩, hS.F ht9⟩) hS.2.2 dX3_at_22
def f_X2_isMachine (n : Nat) (S : lh_S) (t : Nat) : Option (Int32 × lh_S) :=
  dc_if ((gvR S 2 t 1) = none) (
  some ((1 : Int32), S)) (
  some ((0 : Int32), S))
set_option maxHeartbeats 1000000 in
theorem m_X2_isMachine {n : Nat} {S : lh_S} {t : Nat} {r : Int32} {S' : lh_S} (hf : f_X2_isMachine n S t = some (r, S')) : ∀ b, gvN S b ≤ gvN S' b := by
  have hm : ∀ b, gvN S b ≤ gvN S b := fun _ => Nat.le_refl _
  unfold f_X2_isMachine at hf
  by_cases c2 : (gvR S 2 t 1) = none
  · replace hf := dc_if_t c2 hf
    obtain ⟨_, rfl⟩ := dc_ret hf
    exact hm
  · replace hf := dc_if_f c2 hf
    obtain ⟨_, rfl⟩ := dc_ret hf
    exact hm
set_option maxHeartbeats 1000000 in
theorem k_X2_isMachine {n : Nat} {S : lh_S} {t : Nat} {r : Int32} {S' : lh_S} (hf : f_X2_isMachine n S t = some (r, S')) : lh_sm9 S S' := by
  have hm : lh_sm9 S S := lh_sm9_rf
  unfold f_X2_isMachine at hf
  by_cases c2 : (gvR S 2 t 1) = none
  · replace hf := dc_if_t c2 hf
    obtain ⟨_, rfl⟩ := dc_ret hf
    exact hm
  · replace hf := dc_if_f c2 hf
    obtain ⟨_, rfl⟩ := dc_ret hf
    exact hm
set_option maxHeartbeats 4000000 in
set_option maxRecDepth 100000 in
theorem c_X2_isMachine (l : Launch) (D : va_G) (cT : Nat → ClassId) (n : Nat) (S : lh_S) (ad : Nat → Nat → Nat) (A : Nat → Prop) (sz : Nat) (hA : ∀ q, sz ≤ q → A q) (t : Nat) (r : Int32) (S' : lh_S) (hf : f_X2_isMachine n S t = some (r, S')) (L_t : ∀ j, some t = some j → j < gvN S 2) : Met l yX2_isMachine wsX2_isMachine ({ frames := 0, cells := 0, slots := 0, locals := 0 } : Room) (lh_P D cT S ad A sz [lh_r ad 2 (some t)]) (lh_Q D cT S' ad A ((∀ b, gvN S b ≤ gvN S' b) ∧ (r = 0 ∨ r = 1)) (some (.int r))) 0 0 A := by
  refine Met.ofW (cc := cX2_isMachine) (maxL := 1) (ret := (some .boolean)) (by decide) rfl ?_
  intro p e s m args below meth c s₁ B hml hv
  obtain ⟨hargs, hsz, hW, hK, hN⟩ := hv
  have hx := B.exec
  have hb := B.bytes
  have hr := B.returns
  have hts := atoms_spec (ws := wsX2_isMachine) B.pre
  have hown : s.vm.findClass RX2 = some m.cls := findClass_of_methodNamed B.named
  have hlocks := B.notSynchronized
  have hA : ∀ q, s.heap.size ≤ q → A q := fun q h => hA q (by rw [← hsz]; exact h)
  have ok := lh_W_ok hW
  have hm : ∀ b, gvN S b ≤ gvN S b := fun _ => Nat.le_refl _
  obtain ⟨ls, hent, hl⟩ := lh_entry m args [lh_r ad 2 (some t)] 1 [(0, lh_r ad 2 (some t))] hargs (by simp [lv_args, lh_cat_r, lh_cat_i, lh_cat_j]) (by simp [lg_sl, lh_cat_r, lh_cat_i, lh_cat_j])
  rw [hent]
  generalize hH : s.heap = H at hW ⊢
  have hS : va_S A s.heap H [] := by rw [← hH]; exact va_S.rf
  unfold f_X2_isMachine at hf
  refine lh_aload_n hx hb dX2_isMachine_0 rfl (lv_at hl 0 rfl) ?_
  have L1 : ∀ j, gvR S 2 t 1 = some j → j < gvN S 2 := fun j h => ok _ _ _ _ j (L_t _ rfl) rfl h
  refine lh_get (a := 2) (k := 1) (N := 7) (C := RX2) (T := TX2) (own := RX2) (ref := "LoaderModels$Loader") hx hb hts (fun _ h => (List.mem_cons_of_mem _ (List.mem_append_right _ h))) hown hK hW rfl (L_t _ rfl) rfl rfl rfl (by decide) (hts (.fieldLink RX2 35 "LoaderModels$Loader" "parent" "LLoaderModels$Loader;") (List.mem_cons_of_mem _ (List.mem_append_left _ (List.mem_of_getElem? (i := 0) rfl)))) (fun _ h9 => h9) dX2_isMachine_1 (v := lh_r ad 2 (gvR S 2 t 1)) rfl ?_
  refine lh_ifnonnull (tgt := 11) hx hb dX2_isMachine_4 (by decide) (fun c2 => ?_) (fun c2 => ?_)
  · replace hf := dc_if_f c2 hf
    refine lv_iconst (v := 0) hx hb dX2_isMachine_11 (by decide) ?_
    obtain ⟨rfl, rfl⟩ := dc_ret hf
    exact W.zret (v := (0 : Int32)) hx hb hr (lh_nar_z (Or.inl rfl)) (fun t9 ht9 hW9 => ⟨⟨rfl, ⟨hm, (Or.inl rfl)⟩, by rw [ht9]; exact hW⟩, hS.F ht9⟩) hS.2.2 dX2_isMachine_12
  · replace hf := dc_if_t c2 hf
    refine lv_iconst (v := 1) hx hb dX2_isMachine_7 (by decide) ?_
    refine lv_goto (tgt := 12) hx hb dX2_isMachine_8 (by decide) ?_
    obtain ⟨rfl, rfl⟩ := dc_ret hf
    exact W.zret (v := (1 : Int32)) hx hb hr (lh_nar_z (Or.inr rfl)) (fun t9 ht9 hW9 => ⟨⟨rfl, ⟨hm, (Or.inr rfl)⟩, by rw [ht9]; exact hW⟩, hS.F ht9⟩) hS.2.2 dX2_isMachine_12
def f_X2_asksParentFirst (n : Nat) (S : lh_S) (t : Nat) (p1 : Int32) : Option (Int32 × lh_S) :=
  dc_if ((gvR S 2 t 1) = none) (
  some ((0 : Int32), S)) (
  dc_if ((gvI S 2 t 2) ≤ p1) (
  some ((0 : Int32), S)) (
  some ((1 : Int32), S)))
set_option maxHeartbeats 1000000 in
theorem m_X2_asksParentFirst {n : Nat} {S : lh_S} {t : Nat} {p1 : Int32} {r : Int32} {S' : lh_S} (hf : f_X2_asksParentFirst n S t p1 = some (r, S')) : ∀ b, gvN S b ≤ gvN S' b := by
  have hm : ∀ b, gvN S b ≤ gvN S b := fun _ => Nat.le_refl _
  unfold f_X2_asksParentFirst at hf
  by_cases c2 : (gvR S 2 t 1) = none
  · replace hf := dc_if_t c2 hf
    obtain ⟨_, rfl⟩ := dc_ret hf
    exact hm
  · replace hf := dc_if_f c2 hf
    by_cases c3 : (gvI S 2 t 2) ≤ p1
    · replace hf := dc_if_t c3 hf
      obtain ⟨_, rfl⟩ := dc_ret hf
      exact hm
    · replace hf := dc_if_f c3 hf
      obtain ⟨_, rfl⟩ := dc_ret hf
      exact hm
set_option maxHeartbeats 1000000 in
theorem k_X2_asksParentFirst {n : Nat} {S : lh_S} {t : Nat} {p1 : Int32} {r : Int32} {S' : lh_S} (hf : f_X2_asksParentFirst n S t p1 = some (r, S')) : lh_sm9 S S' := by
  have hm : lh_sm9 S S := lh_sm9_rf
  unfold f_X2_asksParentFirst at hf
  by_cases c2 : (gvR S 2 t 1) = none
  · replace hf := dc_if_t c2 hf
    obtain ⟨_, rfl⟩ := dc_ret hf
    exact hm
  · replace hf := dc_if_f c2 hf
    by_cases c3 : (gvI S 2 t 2) ≤ p1
    · replace hf := dc_if_t c3 hf
      obtain ⟨_, rfl⟩ := dc_ret hf
      exact hm
    · replace hf := dc_if_f c3 hf
      obtain ⟨_, rfl⟩ := dc_ret hf
      exact hm
set_option maxHeartbeats 4000000 in
set_option maxRecDepth 100000 in
theorem c_X2_asksParentFirst (l : Launch) (D : va_G) (cT : Nat → ClassId) (n : Nat) (S : lh_S) (ad : Nat → Nat → Nat) (A : Nat → Prop) (sz : Nat) (hA : ∀ q, sz ≤ q → A q) (t : Nat) (p1 : Int32) (r : Int32) (S' : lh_S) (hf : f_X2_asksParentFirst n S t p1 = some (r, S')) (L_t : ∀ j, some t = some j → j < gvN S 2) : Met l yX2_asksParentFirst wsX2_asksParentFirst ({ frames := 0, cells := 0, slots := 0, locals := 0 } : Room) (lh_P D cT S ad A sz [lh_r ad 2 (some t), .int p1]) (lh_Q D cT S' ad A ((∀ b, gvN S b ≤ gvN S' b) ∧ (r = 0 ∨ r = 1)) (some (.int r))) 0 0 A := by
  refine Met.ofW (cc := cX2_asksParentFirst) (maxL := 2) (ret := (some .boolean)) (by decide) rfl ?_
  intro p e s m args below meth c s₁ B hml hv
  obtain ⟨hargs, hsz, hW, hK, hN⟩ := hv
  have hx := B.exec
  have hb := B.bytes
  have hr := B.returns
  have hts := atoms_spec (ws := wsX2_asksParentFirst) B.pre
  have hown : s.vm.findClass RX2 = some m.cls := findClass_of_methodNamed B.named
  have hlocks := B.notSynchronized
  have hA : ∀ q, s.heap.size ≤ q → A q := fun q h => hA q (by rw [← hsz]; exact h)
  have ok := lh_W_ok hW
  have hm : ∀ b, gvN S b ≤ gvN S b := fun _ => Nat.le_refl _
  obtain ⟨ls, hent, hl⟩ := lh_entry m args [lh_r ad 2 (some t), .int p1] 2 [(0, lh_r ad 2 (some t)), (1, .int p1)] hargs (by simp [lv_args, lh_cat_r, lh_cat_i, lh_cat_j]) (by simp [lg_sl, lh_cat_r, lh_cat_i, lh_cat_j])
  rw [hent]
  generalize hH : s.heap = H at hW ⊢
  have hS : va_S A s.heap H [] := by rw [← hH]; exact va_S.rf
  unfold f_X2_asksParentFirst at hf
  refine lh_aload_n hx hb dX2_asksParentFirst_0 rfl (lv_at hl 0 rfl) ?_
  have L1 : ∀ j, gvR S 2 t 1 = some j → j < gvN S 2 := fun j h => ok _ _ _ _ j (L_t _ rfl) rfl h
  refine lh_get (a := 2) (k := 1) (N := 7) (C := RX2) (T := TX2) (own := RX2) (ref := "LoaderModels$Loader") hx hb hts (fun _ h => (List.mem_cons_of_mem _ (List.mem_append_right _ h))) hown hK hW rfl (L_t _ rfl) rfl rfl rfl (by decide) (hts (.fieldLink RX2 35 "LoaderModels$Loader" "parent" "LLoaderModels$Loader;") (List.mem_cons_of_mem _ (List.mem_append_left _ (List.mem_of_getElem? (i := 0) rfl)))) (fun _ h9 => h9) dX2_asksParentFirst_1 (v := lh_r ad 2 (gvR S 2 t 1)) rfl ?_
  refine lh_ifnull (tgt := 19) hx hb dX2_asksParentFirst_4 (by decide) (fun c2 => ?_) (fun c2 => ?_)
  · replace hf := dc_if_t c2 hf
    refine lv_iconst (v := 0) hx hb dX2_asksParentFirst_19 (by decide) ?_
    obtain ⟨rfl, rfl⟩ := dc_ret hf
    exact W.zret (v := (0 : Int32)) hx hb hr (lh_nar_z (Or.inl rfl)) (fun t9 ht9 hW9 => ⟨⟨rfl, ⟨hm, (Or.inl rfl)⟩, by rw [ht9]; exact hW⟩, hS.F ht9⟩) hS.2.2 dX2_asksParentFirst_20
  · replace hf := dc_if_f c2 hf
    refine lv_iload_n hx hb dX2_asksParentFirst_7 rfl (lv_at hl 1 rfl) ?_
    refine lh_aload_n hx hb dX2_asksParentFirst_8 rfl (lv_at hl 0 rfl) ?_
    refine lh_get (a := 2) (k := 2) (N := 7) (C := RX2) (T := TX2) (own := RX2) (ref := "LoaderModels$Loader") hx hb hts (fun _ h => (List.mem_cons_of_mem _ (List.mem_append_right _ h))) hown hK hW rfl (L_t _ rfl) rfl rfl rfl (by decide) (hts (.fieldLink RX2 39 "LoaderModels$Loader" "bound" "I") (List.mem_cons_of_mem _ (List.mem_append_left _ (List.mem_of_getElem? (i := 1) rfl)))) (fun _ h9 => h9) dX2_asksParentFirst_9 (v := .int (gvI S 2 t 2)) rfl ?_
    refine lv_icmp_ge (tgt := 19) hx hb dX2_asksParentFirst_12 (by decide) (fun c3 => ?_) (fun c3 => ?_)
    · replace hf := dc_if_t c3 hf
      refine lv_iconst (v := 0) hx hb dX2_asksParentFirst_19 (by decide) ?_
      obtain ⟨rfl, rfl⟩ := dc_ret hf
      exact W.zret (v := (0 : Int32)) hx hb hr (lh_nar_z (Or.inl rfl)) (fun t9 ht9 hW9 => ⟨⟨rfl, ⟨hm, (Or.inl rfl)⟩, by rw [ht9]; exact hW⟩, hS.F ht9⟩) hS.2.2 dX2_asksParentFirst_20
    · replace hf := dc_if_f c3 hf
      refine lv_iconst (v := 1) hx hb dX2_asksParentFirst_15 (by decide) ?_
      refine lv_goto (tgt := 20) hx hb dX2_asksParentFirst_16 (by decide) ?_
      obtain ⟨rfl, rfl⟩ := dc_ret hf
      exact W.zret (v := (1 : Int32)) hx hb hr (lh_nar_z (Or.inr rfl)) (fun t9 ht9 hW9 => ⟨⟨rfl, ⟨hm, (Or.inr rfl)⟩, by rw [ht9]; exact hW⟩, hS.F ht9⟩) hS.2.2 dX2_asksParentFirst_20
def f_X3_knowsAnother_L3 (n : Nat) (t : Nat) (p1 : Int32) (p2 : Int32) (p3 : Option Nat) : Nat → lh_S → Int32 → Option (Int32 × lh_S)
  | 0, _, _ => none
  | g + 1, S1, v2 =>
  dc_if ((gvI S1 3 t 1) ≤ v2) (
  some ((0 : Int32), S1)) (
  dc_nn (gvR S1 3 t 0) fun x5 =>
  dc_gd (v2 < 0 ∨ gvL S1 16 x5 ≤ (v2).toNatClampNeg) (
  dc_nn (gvR S1 16 x5 (v2).toNatClampNeg) fun x8 =>
  dc_nn (gvR S1 2 x8 4) fun x10 =>
  dc_gd (p2 < 0 ∨ gvL S1 13 x10 ≤ (p2).toNatClampNeg) (
  dc_let ((p1 >>> (v2 &&& 31)) &&& (1 : Int32)) fun v13 =>
  dc_if (v13 = (1 : Int32)) (
  dc_if ((gvR S1 13 x10 (p2).toNatClampNeg) = none) (
  f_X3_knowsAnother_L3 n t p1 p2 p3 g S1 (v2 + (1 : Int32))) (
  dc_if ((gvR S1 13 x10 (p2).toNatClampNeg) = p3) (
  f_X3_knowsAnother_L3 n t p1 p2 p3 g S1 (v2 + (1 : Int32))) (
  some ((1 : Int32), S1)))) (
  f_X3_knowsAnother_L3 n t p1 p2 p3 g S1 (v2 + (1 : Int32))))))
theorem m_X3_knowsAnother_L3 {n : Nat} {t : Nat} {p1 : Int32} {p2 : Int32} {p3 : Option Nat} {r : Int32} {S' : lh_S} : ∀ (g : Nat) (S1 : lh_S) (v2 : Int32), f_X3_knowsAnother_L3 n t p1 p2 p3 g S1 v2 = some (r, S') → ∀ b, gvN S1 b ≤ gvN S' b := by
    intro g
    induction g with
    | zero => intro S1 v2 hf; rw [f_X3_knowsAnother_L3] at hf; cases hf
    | succ g ih =>
      intro S1 v2 hf
      rw [f_X3_knowsAnother_L3] at hf
      have hm : ∀ b, gvN S1 b ≤ gvN S1 b := fun _ => Nat.le_refl _
      by_cases c3 : (gvI S1 3 t 1) ≤ v2
      · replace hf := dc_if_t c3 hf
        obtain ⟨_, rfl⟩ := dc_ret hf
        exact hm
      · replace hf := dc_if_f c3 hf
        obtain ⟨x5, hx5, hf⟩ := dc_nn_ok hf
        obtain ⟨g6, hf⟩ := dc_gd_ok hf
        obtain ⟨x8, hx8, hf⟩ := dc_nn_ok hf
        obtain ⟨x10, hx10, hf⟩ := dc_nn_ok hf
        obtain ⟨g11, hf⟩ := dc_gd_ok hf
        obtain ⟨v13, hv13, hf⟩ := dc_let_ok hf
        by_cases c14 : v13 = (1 : Int32)
        · replace hf := dc_if_t c14 hf
          by_cases c15 : (gvR S1 13 x10 (p2).toNatClampNeg) = none
          · replace hf := dc_if_t c15 hf
            exact lh_le_trans hm (ih S1 (v2 + (1 : Int32)) hf)
          · replace hf := dc_if_f c15 hf
            by_cases c16 : (gvR S1 13 x10 (p2).toNatClampNeg) = p3
            · replace hf := dc_if_t c16 hf
              exact lh_le_trans hm (ih S1 (v2 + (1 : Int32)) hf)
            · replace hf := dc_if_f c16 hf
              obtain ⟨_, rfl⟩ := dc_ret hf
              exact hm
        · replace hf := dc_if_f c14 hf
          exact lh_le_trans hm (ih S1 (v2 + (1 : Int32)) hf)
theorem k_X3_knowsAnother_L3 {n : Nat} {t : Nat} {p1 : Int32} {p2 : Int32} {p3 : Option Nat} {r : Int32} {S' : lh_S} : ∀ (g : Nat) (S1 : lh_S) (v2 : Int32), f_X3_knowsAnother_L3 n t p1 p2 p3 g S1 v2 = some (r, S') → lh_sm9 S1 S' := by
    intro g
    induction g with
    | zero => intro S1 v2 hf; rw [f_X3_knowsAnother_L3] at hf; cases hf
    | succ g ih =>
      intro S1 v2 hf
      rw [f_X3_knowsAnother_L3] at hf
      have hm : lh_sm9 S1 S1 := lh_sm9_rf
      by_cases c3 : (gvI S1 3 t 1) ≤ v2
      · replace hf := dc_if_t c3 hf
        obtain ⟨_, rfl⟩ := dc_ret hf
        exact hm
      · replace hf := dc_if_f c3 hf
        obtain ⟨x5, hx5, hf⟩ := dc_nn_ok hf
        obtain ⟨g6, hf⟩ := dc_gd_ok hf
        obtain ⟨x8, hx8, hf⟩ := dc_nn_ok hf
        obtain ⟨x10, hx10, hf⟩ := dc_nn_ok hf
        obtain ⟨g11, hf⟩ := dc_gd_ok hf
        obtain ⟨v13, hv13, hf⟩ := dc_let_ok hf
        by_cases c14 : v13 = (1 : Int32)
        · replace hf := dc_if_t c14 hf
          by_cases c15 : (gvR S1 13 x10 (p2).toNatClampNeg) = none
          · replace hf := dc_if_t c15 hf
            exact lh_sm9_trans hm (ih S1 (v2 + (1 : Int32)) hf)
          · replace hf := dc_if_f c15 hf
            by_cases c16 : (gvR S1 13 x10 (p2).toNatClampNeg) = p3
            · replace hf := dc_if_t c16 hf
              exact lh_sm9_trans hm (ih S1 (v2 + (1 : Int32)) hf)
            · replace hf := dc_if_f c16 hf
              obtain ⟨_, rfl⟩ := dc_ret hf
              exact hm
        · replace hf := dc_if_f c14 hf
          exact lh_sm9_trans hm (ih S1 (v2 + (1 : Int32)) hf)
def f_X3_knowsAnother (n : Nat) (S : lh_S) (t : Nat) (p1 : Int32) (p2 : Int32) (p3 : Option Nat) : Option (Int32 × lh_S) :=
  f_X3_knowsAnother_L3 n t p1 p2 p3 n S (0 : Int32)
set_option maxHeartbeats 1000000 in
theorem m_X3_knowsAnother {n : Nat} {S : lh_S} {t : Nat} {p1 : Int32} {p2 : Int32} {p3 : Option Nat} {r : Int32} {S' : lh_S} (hf : f_X3_knowsAnother n S t p1 p2 p3 = some (r, S')) : ∀ b, gvN S b ≤ gvN S' b := by
  have hm : ∀ b, gvN S b ≤ gvN S b := fun _ => Nat.le_refl _
  unfold f_X3_knowsAnother at hf
  exact lh_le_trans hm (m_X3_knowsAnother_L3 n S (0 : Int32) hf)
set_option maxHeartbeats 1000000 in
theorem k_X3_knowsAnother {n : Nat} {S : lh_S} {t : Nat} {p1 : Int32} {p2 : Int32} {p3 : Option Nat} {r : Int32} {S' : lh_S} (hf : f_X3_knowsAnother n S t p1 p2 p3 = some (r, S')) : lh_sm9 S S' := by
  have hm : lh_sm9 S S := lh_sm9_rf
  unfold f_X3_knowsAnother at hf
  exact lh_sm9_trans hm (k_X3_knowsAnother_L3 n S (0 : Int32) hf)
set_option maxHeartbeats 4000000 in
set_option maxRecDepth 100000 in
theorem c_X3_knowsAnother (l : Launch) (D : va_G) (cT : Nat → ClassId) (n : Nat) (S : lh_S) (ad : Nat → Nat → Nat) (A : Nat → Prop) (sz : Nat) (hA : ∀ q, sz ≤ q → A q) (t : Nat) (p1 : Int32) (p2 : Int32) (p3 : Option Nat) (r : Int32) (S' : lh_S) (hf : f_X3_knowsAnother n S t p1 p2 p3 = some (r, S')) (L_t : ∀ j, some t = some j → j < gvN S 3) (L_p3 : ∀ j, p3 = some j → j < gvN S 5) : Met l yX3_knowsAnother wsX3_knowsAnother ({ frames := 0, cells := 0, slots := 0, locals := 0 } : Room) (lh_P D cT S ad A sz [lh_r ad 3 (some t), .int p1, .int p2, lh_r ad 5 p3]) (lh_Q D cT S' ad A ((∀ b, gvN S b ≤ gvN S' b) ∧ (r = 0 ∨ r = 1)) (some (.int r))) 0 0 A := by
  refine Met.ofW (cc := cX3_knowsAnother) (maxL := 6) (ret := (some .boolean)) (by decide) rfl ?_
  intro p e s m args below meth c s₁ B hml hv
  obtain ⟨hargs, hsz, hW, hK, hN⟩ := hv
  have hx := B.exec
  have hb := B.bytes
  have hr := B.returns
  have hts := atoms_spec (ws := wsX3_knowsAnother) B.pre
  have hown : s.vm.findClass RX3 = some m.cls := findClass_of_methodNamed B.named
  have hlocks := B.notSynchronized
  have hA : ∀ q, s.heap.size ≤ q → A q := fun q h => hA q (by rw [← hsz]; exact h)
  have L3 : ∀ (g : Nat) (S1 : lh_S) (v2 : Int32), f_X3_knowsAnother_L3 n t p1 p2 p3 g S1 v2 = some (r, S') → (∀ b, gvN S b ≤ gvN S1 b) → ∀ (H : Heap) (locs : List Loc), lh_W D cT S1 ad A H → va_S A s.heap H locs → ∀ (ls : Array Slot), lv_has ls 6 [(0, lh_r ad 3 (some t)), (1, .int p1), (2, .int p2), (3, lh_r ad 5 p3), (4, .int v2)] → W p l e (headSpec wsX3_knowsAnother ({ frames := 0, cells := 0, slots := 0, locals := 0 } : Room)).room s m args below meth c H locs 0 0 (MQ below (lh_Q D cT S' ad A ((∀ b, gvN S b ≤ gvN S' b) ∧ (r = 0 ∨ r = 1)) (some (.int r))) args s 0 0 A) (F0 m 3 ls []) := by
    intro g
    induction g with
    | zero => intro S1 v2 hf; rw [f_X3_knowsAnother_L3] at hf; cases hf
    | succ g ih =>
      intro S1 v2 hf hm H locs hW hS ls hl
      rw [f_X3_knowsAnother_L3] at hf
      have ok := lh_W_ok hW
      have L_t : ∀ j, some t = some j → j < gvN S1 3 := fun j h => Nat.lt_of_lt_of_le (L_t j h) (hm _)
      have L_p3 : ∀ j, p3 = some j → j < gvN S1 5 := fun j h => Nat.lt_of_lt_of_le (L_p3 j h) (hm _)
      refine lv_iload hx hb dX3_knowsAnother_3 (lv_at hl 4 rfl) ?_
      refine lh_aload_n hx hb dX3_knowsAnother_5 rfl (lv_at hl 0 rfl) ?_
      refine lh_get (a := 3) (k := 1) (N := 2) (C := RX3) (T := TX3) (own := RX3) (ref := "LoaderModels$Loaders") hx hb hts (fun _ h => (List.mem_cons_of_mem _ (List.mem_append_left _ (List.mem_append_right _ h)))) hown hK hW rfl (L_t _ rfl) rfl rfl rfl (by decide) (hts (.fieldLink RX3 17 "LoaderModels$Loaders" "count" "I") (List.mem_cons_of_mem _ (List.mem_append_left _ (List.mem_append_left _ (List.mem_of_getElem? (i := 0) rfl))))) (fun _ h9 => h9) dX3_knowsAnother_6 (v := .int (gvI S1 3 t 1)) rfl ?_
      refine lv_icmp_ge (tgt := 55) hx hb dX3_knowsAnother_9 (by decide) (fun c3 => ?_) (fun c3 => ?_)
      · replace hf := dc_if_t c3 hf
        refine lv_iconst (v := 0) hx hb dX3_knowsAnother_55 (by decide) ?_
        obtain ⟨rfl, rfl⟩ := dc_ret hf
        exact W.zret (v := (0 : Int32)) hx hb hr (lh_nar_z (Or.inl rfl)) (fun t9 ht9 hW9 => ⟨⟨rfl, ⟨hm, (Or.inl rfl)⟩, by rw [ht9]; exact hW⟩, hS.F ht9⟩) hS.2.2 dX3_knowsAnother_56
      · replace hf := dc_if_f c3 hf
        refine lh_aload_n hx hb dX3_knowsAnother_12 rfl (lv_at hl 0 rfl) ?_
        have L4 : ∀ j, gvR S1 3 t 0 = some j → j < gvN S1 16 := fun j h => ok _ _ _ _ j (L_t _ rfl) rfl h
        refine lh_get (a := 3) (k := 0) (N := 2) (C := RX3) (T := TX3) (own := RX3) (ref := "LoaderModels$Loaders") hx hb hts (fun _ h => (List.mem_cons_of_mem _ (List.mem_append_left _ (List.mem_append_right _ h)))) hown hK hW rfl (L_t _ rfl) rfl rfl rfl (by decide) (hts (.fieldLink RX3 11 "LoaderModels$Loaders" "items" "[LLoaderModels$Loader;") (List.mem_cons_of_mem _ (List.mem_append_left _ (List.mem_append_left _ (List.mem_of_getElem? (i := 1) rfl))))) (fun _ h9 => h9) dX3_knowsAnother_13 (v := lh_r ad 16 (gvR S1 3 t 0)) rfl ?_
        refine lv_iload hx hb dX3_knowsAnother_16 (lv_at hl 4 rfl) ?_
        obtain ⟨x5, hx5, hf⟩ := dc_nn_ok hf
        obtain ⟨g6, hf⟩ := dc_gd_ok hf
        have L7 : ∀ j, gvR S1 16 x5 (v2).toNatClampNeg = some j → j < gvN S1 2 := fun j h => ok 16 _ _ 2 j (L4 _ hx5) rfl h
        refine lh_ald_r (a := 16) (t0 := 5) (t := 2) hx hb hK hW hx5 (L4 _ hx5) rfl rfl rfl g6 dX3_knowsAnother_18 ?_
        obtain ⟨x8, hx8, hf⟩ := dc_nn_ok hf
        have L9 : ∀ j, gvR S1 2 x8 4 = some j → j < gvN S1 13 := fun j h => ok _ _ _ _ j (L7 _ hx8) rfl h
        refine lh_get (a := 2) (k := 4) (N := 7) (C := RX2) (T := TX2) (own := RX3) (ref := "LoaderModels$Loader") hx hb hts (fun _ h => (List.mem_cons_of_mem _ (List.mem_append_right _ h))) hown hK hW hx8 (L7 _ hx8) rfl rfl rfl (by decide) (hts (.fieldLink RX3 24 "LoaderModels$Loader" "knows" "[LLoaderModels$Model;") (List.mem_cons_of_mem _ (List.mem_append_left _ (List.mem_append_left _ (List.mem_of_getElem? (i := 2) rfl))))) (fun _ h9 => h9) dX3_knowsAnother_19 (v := lh_r ad 13 (gvR S1 2 x8 4)) rfl ?_
        refine lv_iload_n hx hb dX3_knowsAnother_22 rfl (lv_at hl 2 rfl) ?_
        obtain ⟨x10, hx10, hf⟩ := dc_nn_ok hf
        obtain ⟨g11, hf⟩ := dc_gd_ok hf
        have L12 : ∀ j, gvR S1 13 x10 (p2).toNatClampNeg = some j → j < gvN S1 5 := fun j h => ok 13 _ _ 5 j (L9 _ hx10) rfl h
        refine lh_ald_r (a := 13) (t0 := 6) (t := 5) hx hb hK hW hx10 (L9 _ hx10) rfl rfl rfl g11 dX3_knowsAnother_23 ?_
        refine lh_astore (i := 5) (lv' := [(5, lh_r ad 5 (gvR S1 13 x10 (p2).toNatClampNeg)), (0, lh_r ad 3 (some t)), (1, .int p1), (2, .int p2), (3, lh_r ad 5 p3), (4, .int v2)]) hx hb dX3_knowsAnother_24 hl (by decide) (by first | rfl | simp [lh_cat_r, lh_cat_i, lh_cat_j]) (fun ls hl => ?_)
        refine lv_iload_n hx hb dX3_knowsAnother_26 rfl (lv_at hl 2 rfl) ?_
        refine lv_iload hx hb dX3_knowsAnother_27 (lv_at hl 5 rfl) ?_
        refine lv_ishr hx hb dX3_knowsAnother_29 ?_
        refine lv_iconst (v := 1) hx hb dX3_knowsAnother_30 (by decide) ?_
        refine lv_iand hx hb dX3_knowsAnother_31 ?_
        refine lv_topi (fun v13 hv13 => ?_)
        replace hf := dc_let_e hv13 hf
        refine lv_iconst (v := 1) hx hb dX3_knowsAnother_32 (by decide) ?_
        refine lv_icmp_ne (tgt := 49) hx hb dX3_knowsAnother_33 (by decide) (fun c14 => ?_) (fun c14 => ?_)
        · replace hf := dc_if_f c14 hf
          refine lv_iinc (v := v2 + (1 : Int32)) (lv' := [(4, .int (v2 + (1 : Int32))), (5, lh_r ad 5 (gvR S1 13 x10 (p2).toNatClampNeg)), (0, lh_r ad 3 (some t)), (1, .int p1), (2, .int p2), (3, lh_r ad 5 p3)]) hx hb dX3_knowsAnother_49 hl (k := 5) rfl (by first | rfl | decide) (by decide) (by first | rfl | simp [lh_cat_r, lh_cat_i, lh_cat_j]) (fun ls hl => ?_)
          refine lv_goto (tgt := 3) hx hb dX3_knowsAnother_52 (by decide) ?_
          exact ih S1 (v2 + (1 : Int32)) hf hm _ _ hW hS _ (lv_sub hl [2, 3, 4, 5, 0] (by first | rfl | simp [lv_pick]))
        · replace hf := dc_if_t c14 hf
          refine lh_aload hx hb dX3_knowsAnother_36 (lv_at hl 0 rfl) ?_
          refine lh_ifnull (tgt := 49) hx hb dX3_knowsAnother_38 (by decide) (fun c15 => ?_) (fun c15 => ?_)
          · replace hf := dc_if_t c15 hf
            refine lv_iinc (v := v2 + (1 : Int32)) (lv' := [(4, .int (v2 + (1 : Int32))), (5, lh_r ad 5 (gvR S1 13 x10 (p2).toNatClampNeg)), (0, lh_r ad 3 (some t)), (1, .int p1), (2, .int p2), (3, lh_r ad 5 p3)]) hx hb dX3_knowsAnother_49 hl (k := 5) rfl (by first | rfl | decide) (by decide) (by first | rfl | simp [lh_cat_r, lh_cat_i, lh_cat_j]) (fun ls hl => ?_)
            refine lv_goto (tgt := 3) hx hb dX3_knowsAnother_52 (by decide) ?_
            exact ih S1 (v2 + (1 : Int32)) hf hm _ _ hW hS _ (lv_sub hl [2, 3, 4, 5, 0] (by first | rfl | simp [lv_pick]))
          · replace hf := dc_if_f c15 hf
            refine lh_aload hx hb dX3_knowsAnother_41 (lv_at hl 0 rfl) ?_
            refine lh_aload_n hx hb dX3_knowsAnother_43 rfl (lv_at hl 4 rfl) ?_
            refine lh_acmp_eq (tgt := 49) hx hb hW L12 L_p3 dX3_knowsAnother_44 (by decide) (fun c16 => ?_) (fun c16 => ?_)
            · replace hf := dc_if_t c16 hf
              refine lv_iinc (v := v2 + (1 : Int32)) (lv' := [(4, .int (v2 + (1 : Int32))), (5, lh_r ad 5 (gvR S1 13 x10 (p2).toNatClampNeg)), (0, lh_r ad 3 (some t)), (1, .int p1), (2, .int p2), (3, lh_r ad 5 p3)]) hx hb dX3_knowsAnother_49 hl (k := 5) rfl (by first | rfl | decide) (by decide) (by first | rfl | simp [lh_cat_r, lh_cat_i, lh_cat_j]) (fun ls hl => ?_)
              refine lv_goto (tgt := 3) hx hb dX3_knowsAnother_52 (by decide) ?_
              exact ih S1 (v2 + (1 : Int32)) hf hm _ _ hW hS _ (lv_sub hl [2, 3, 4, 5, 0] (by first | rfl | simp [lv_pick]))
            · replace hf := dc_if_f c16 hf
              refine lv_iconst (v := 1) hx hb dX3_knowsAnother_47 (by decide) ?_
              obtain ⟨rfl, rfl⟩ := dc_ret hf
              exact W.zret (v := (1 : Int32)) hx hb hr (lh_nar_z (Or.inr rfl)) (fun t9 ht9 hW9 => ⟨⟨rfl, ⟨hm, (Or.inr rfl)⟩, by rw [ht9]; exact hW⟩, hS.F ht9⟩) hS.2.2 dX3_knowsAnother_48
  have ok := lh_W_ok hW
  have hm : ∀ b, gvN S b ≤ gvN S b := fun _ => Nat.le_refl _
  obtain ⟨ls, hent, hl⟩ := lh_entry m args [lh_r ad 3 (some t), .int p1, .int p2, lh_r ad 5 p3] 6 [(0, lh_r ad 3 (some t)), (1, .int p1), (2, .int p2), (3, lh_r ad 5 p3)] hargs (by simp [lv_args, lh_cat_r, lh_cat_i, lh_cat_j]) (by simp [lg_sl, lh_cat_r, lh_cat_i, lh_cat_j])
  rw [hent]
  generalize hH : s.heap = H at hW ⊢
  have hS : va_S A s.heap H [] := by rw [← hH]; exact va_S.rf
  unfold f_X3_knowsAnother at hf
  refine lv_iconst (v := 0) hx hb dX3_knowsAnother_0 (by decide) ?_
  refine lv_istore (i := 4) (lv' := [(4, .int (0 : Int32)), (0, lh_r ad 3 (some t)), (1, .int p1), (2, .int p2), (3, lh_r ad 5 p3)]) hx hb dX3_knowsAnother_1 hl (by decide) (by first | rfl | simp [lh_cat_r, lh_cat_i, lh_cat_j]) (fun ls hl => ?_)
  exact L3 n S (0 : Int32) hf hm _ _ hW hS _ (lv_sub hl [1, 2, 3, 4, 0] (by first | rfl | simp [lv_pick]))
def f_X6_add (n : Nat) (S : lh_S) (t : Nat) (p1 : Int32) (p2 : Int32) : Option (Unit × lh_S) :=
  dc_nn (gvR S 6 t 0) fun x2 =>
  dc_gd ((gvI S 6 t 1) < 0 ∨ gvL S 19 x2 ≤ ((gvI S 6 t 1)).toNatClampNeg) (
  dc_let (pvI S 19 x2 ((gvI S 6 t 1)).toNatClampNeg (((64 : Int32) * p1) + p2)) fun S4 =>
  dc_let (((gvI S4 6 t 1) + (1 : Int32)) - ((gvI S4 6 t 1) + (1 : Int32)) / (30 : Int32) * (30 : Int32)) fun v6 =>
  dc_let (pvI S4 6 t 1 v6) fun S7 =>
  dc_let (if (30 : Int32) < ((gvI S7 6 t 2) + (1 : Int32)) then (30 : Int32) else ((gvI S7 6 t 2) + (1 : Int32))) fun v9 =>
  dc_let (pvI S7 6 t 2 v9) fun S10 =>
  dc_let ((gvI S10 6 t 3) + (1 : Int32)) fun v12 =>
  dc_let (pvI S10 6 t 3 v12) fun S13 =>
  some ((), S13))
set_option maxHeartbeats 1000000 in
theorem m_X6_add {n : Nat} {S : lh_S} {t : Nat} {p1 : Int32} {p2 : Int32} {r : Unit} {S' : lh_S} (hf : f_X6_add n S t p1 p2 = some (r, S')) : ∀ b, gvN S b ≤ gvN S' b := by
  have hm : ∀ b, gvN S b ≤ gvN S b := fun _ => Nat.le_refl _
  unfold f_X6_add at hf
  obtain ⟨x2, hx2, hf⟩ := dc_nn_ok hf
  obtain ⟨g3, hf⟩ := dc_gd_ok hf
  obtain ⟨S4, eS4, hf⟩ := dc_let_ok hf
  have hm := lh_le_trans hm (show ∀ b, gvN S b ≤ gvN S4 b from by rw [eS4]; exact lh_mI)
  obtain ⟨v6, hv6, hf⟩ := dc_let_ok hf
  obtain ⟨S7, eS7, hf⟩ := dc_let_ok hf
  have hm := lh_le_trans hm (show ∀ b, gvN S4 b ≤ gvN S7 b from by rw [eS7]; exact lh_mI)
  obtain ⟨v9, hv9, hf⟩ := dc_let_ok hf
  obtain ⟨S10, eS10, hf⟩ := dc_let_ok hf
  have hm := lh_le_trans hm (show ∀ b, gvN S7 b ≤ gvN S10 b from by rw [eS10]; exact lh_mI)
  obtain ⟨v12, hv12, hf⟩ := dc_let_ok hf
  obtain ⟨S13, eS13, hf⟩ := dc_let_ok hf
  have hm := lh_le_trans hm (show ∀ b, gvN S10 b ≤ gvN S13 b from by rw [eS13]; exact lh_mI)
  obtain ⟨_, rfl⟩ := dc_ret hf
  exact hm
set_option maxHeartbeats 1000000 in
theorem k_X6_add {n : Nat} {S : lh_S} {t : Nat} {p1 : Int32} {p2 : Int32} {r : Unit} {S' : lh_S} (hf : f_X6_add n S t p1 p2 = some (r, S')) : lh_sm9 S S' := by
  have hm : lh_sm9 S S := lh_sm9_rf
  unfold f_X6_add at hf
  obtain ⟨x2, hx2, hf⟩ := dc_nn_ok hf
  obtain ⟨g3, hf⟩ := dc_gd_ok hf
  obtain ⟨S4, eS4, hf⟩ := dc_let_ok hf
  have hm := lh_sm9_trans hm (show lh_sm9 S S4 from by rw [eS4]; exact (lh_sm9I (by decide)))
  obtain ⟨v6, hv6, hf⟩ := dc_let_ok hf
  obtain ⟨S7, eS7, hf⟩ := dc_let_ok hf
  have hm := lh_sm9_trans hm (show lh_sm9 S4 S7 from by rw [eS7]; exact (lh_sm9I (by decide)))
  obtain ⟨v9, hv9, hf⟩ := dc_let_ok hf
  obtain ⟨S10, eS10, hf⟩ := dc_let_ok hf
  have hm := lh_sm9_trans hm (show lh_sm9 S7 S10 from by rw [eS10]; exact (lh_sm9I (by decide)))
  obtain ⟨v12, hv12, hf⟩ := dc_let_ok hf
  obtain ⟨S13, eS13, hf⟩ := dc_let_ok hf
  have hm := lh_sm9_trans hm (show lh_sm9 S10 S13 from by rw [eS13]; exact (lh_sm9I (by decide)))
  obtain ⟨_, rfl⟩ := dc_ret hf
  exact hm
set_option maxHeartbeats 4000000 in
set_option maxRecDepth 100000 in
theorem c_X6_add (l : Launch) (D : va_G) (cT : Nat → ClassId) (n : Nat) (S : lh_S) (ad : Nat → Nat → Nat) (A : Nat → Prop) (sz : Nat) (hA : ∀ q, sz ≤ q → A q) (t : Nat) (p1 : Int32) (p2 : Int32) (r : Unit) (S' : lh_S) (hf : f_X6_add n S t p1 p2 = some (r, S')) (L_t : ∀ j, some t = some j → j < gvN S 6) : Met l yX6_add wsX6_add ({ frames := 1, cells := 0, slots := 0, locals := 21 } : Room) (lh_P D cT S ad A sz [lh_r ad 6 (some t), .int p1, .int p2]) (lh_Q D cT S' ad A ((∀ b, gvN S b ≤ gvN S' b) ∧ True) (none)) 0 0 A := by
  refine Met.ofW (cc := cX6_add) (maxL := 3) (ret := none) (by decide) rfl ?_
  intro p e s m args below meth c s₁ B hml hv
  obtain ⟨hargs, hsz, hW, hK, hN⟩ := hv
  have hx := B.exec
  have hb := B.bytes
  have hr := B.returns
  have hts := atoms_spec (ws := wsX6_add) B.pre
  have hown : s.vm.findClass RX6 = some m.cls := findClass_of_methodNamed B.named
  have hlocks := B.notSynchronized
  have hA : ∀ q, s.heap.size ≤ q → A q := fun q h => hA q (by rw [← hsz]; exact h)
  have ok := lh_W_ok hW
  have hm : ∀ b, gvN S b ≤ gvN S b := fun _ => Nat.le_refl _
  obtain ⟨ls, hent, hl⟩ := lh_entry m args [lh_r ad 6 (some t), .int p1, .int p2] 3 [(0, lh_r ad 6 (some t)), (1, .int p1), (2, .int p2)] hargs (by simp [lv_args, lh_cat_r, lh_cat_i, lh_cat_j]) (by simp [lg_sl, lh_cat_r, lh_cat_i, lh_cat_j])
  rw [hent]
  generalize hH : s.heap = H at hW ⊢
  have hS : va_S A s.heap H [] := by rw [← hH]; exact va_S.rf
  unfold f_X6_add at hf
  refine lh_aload_n hx hb dX6_add_0 rfl (lv_at hl 0 rfl) ?_
  have L1 : ∀ j, gvR S 6 t 0 = some j → j < gvN S 19 := fun j h => ok _ _ _ _ j (L_t _ rfl) rfl h
  refine lh_get (a := 6) (k := 0) (N := 4) (C := RX6) (T := TX6) (own := RX6) (ref := "LoaderModels$Notes") hx hb hts (fun _ h => (List.mem_cons_of_mem _ (List.mem_append_right _ h))) hown hK hW rfl (L_t _ rfl) rfl rfl rfl (by decide) (hts (.fieldLink RX6 9 "LoaderModels$Notes" "ring" "[I") (List.mem_cons_of_mem _ (List.mem_append_left _ (List.mem_of_getElem? (i := 0) rfl)))) (fun _ h9 => h9) dX6_add_1 (v := lh_r ad 19 (gvR S 6 t 0)) rfl ?_
  refine lh_aload_n hx hb dX6_add_4 rfl (lv_at hl 0 rfl) ?_
  refine lh_get (a := 6) (k := 1) (N := 4) (C := RX6) (T := TX6) (own := RX6) (ref := "LoaderModels$Notes") hx hb hts (fun _ h => (List.mem_cons_of_mem _ (List.mem_append_right _ h))) hown hK hW rfl (L_t _ rfl) rfl rfl rfl (by decide) (hts (.fieldLink RX6 15 "LoaderModels$Notes" "next" "I") (List.mem_cons_of_mem _ (List.mem_append_left _ (List.mem_of_getElem? (i := 1) rfl)))) (fun _ h9 => h9) dX6_add_5 (v := .int (gvI S 6 t 1)) rfl ?_
  refine lv_bipush (v := 64) hx hb dX6_add_8 (by decide) ?_
  refine lv_iload_n hx hb dX6_add_10 rfl (lv_at hl 1 rfl) ?_
  refine lv_imul hx hb dX6_add_11 ?_
  refine lv_iload_n hx hb dX6_add_12 rfl (lv_at hl 2 rfl) ?_
  refine lv_iadd hx hb dX6_add_13 ?_
  obtain ⟨x2, hx2, hf⟩ := dc_nn_ok hf
  obtain ⟨g3, hf⟩ := dc_gd_ok hf
  obtain ⟨S4, eS4, hf⟩ := dc_let_ok hf
  refine lh_ast_i (a := 19) hx hb hK hW hS hx2 (L1 _ hx2) rfl (fun _ => rfl) g3 dX6_add_14 (fun H locs hW hS => ?_)
  rw [← eS4] at hW
  have m5 : ∀ b, gvN S b ≤ gvN S4 b := by rw [eS4]; exact lh_mI
  have L_t : ∀ j, some t = some j → j < gvN S4 6 := fun j h => Nat.lt_of_lt_of_le (L_t j h) (m5 _)
  have hm : ∀ b, gvN S b ≤ gvN S4 b := lh_le_trans hm m5
  have ok := lh_W_ok hW
  refine lh_aload_n hx hb dX6_add_15 rfl (lv_at hl 0 rfl) ?_
  refine lh_aload_n hx hb dX6_add_16 rfl (lv_at hl 0 rfl) ?_
  refine lh_get (a := 6) (k := 1) (N := 4) (C := RX6) (T := TX6) (own := RX6) (ref := "LoaderModels$Notes") hx hb hts (fun _ h => (List.mem_cons_of_mem _ (List.mem_append_right _ h))) hown hK hW rfl (L_t _ rfl) rfl rfl rfl (by decide) (hts (.fieldLink RX6 15 "LoaderModels$Notes" "next" "I") (List.mem_cons_of_mem _ (List.mem_append_left _ (List.mem_of_getElem? (i := 1) rfl)))) (fun _ h9 => h9) dX6_add_17 (v := .int (gvI S4 6 t 1)) rfl ?_
  refine lv_iconst (v := 1) hx hb dX6_add_20 (by decide) ?_
  refine lv_iadd hx hb dX6_add_21 ?_
  refine lv_bipush (v := 30) hx hb dX6_add_22 (by decide) ?_
  refine lv_irem hx hb dX6_add_24 (by decide) ?_
  refine lv_topi (fun v6 hv6 => ?_)
  replace hf := dc_let_e hv6 hf
  obtain ⟨S7, eS7, hf⟩ := dc_let_ok hf
  refine lh_put (S' := S7) (a := 6) (k := 1) (N := 4) (C := RX6) (T := TX6) (own := RX6) (ref := "LoaderModels$Notes") (ty := .int) hx hb hts (fun _ h => (List.mem_cons_of_mem _ (List.mem_append_right _ h))) tyX6 tyX6_ok nmX6 hown hK hW hS rfl (L_t _ rfl) rfl rfl rfl (by decide) (hts (.fieldLink RX6 15 "LoaderModels$Notes" "next" "I") (List.mem_cons_of_mem _ (List.mem_append_left _ (List.mem_of_getElem? (i := 1) rfl)))) (fun _ h9 => h9) (Or.inl rfl) (by decide +kernel) rfl rfl (fun q9 => by rw [eS7]; exact lh_chI rfl q9) dX6_add_25 (fun H locs hW hS => ?_)
  have m8 : ∀ b, gvN S4 b ≤ gvN S7 b := by rw [eS7]; exact lh_mI
  have L_t : ∀ j, some t = some j → j < gvN S7 6 := fun j h => Nat.lt_of_lt_of_le (L_t j h) (m8 _)
  have hm : ∀ b, gvN S b ≤ gvN S7 b := lh_le_trans hm m8
  have ok := lh_W_ok hW
  refine lh_aload_n hx hb dX6_add_28 rfl (lv_at hl 0 rfl) ?_
  refine lh_aload_n hx hb dX6_add_29 rfl (lv_at hl 0 rfl) ?_
  refine lh_get (a := 6) (k := 2) (N := 4) (C := RX6) (T := TX6) (own := RX6) (ref := "LoaderModels$Notes") hx hb hts (fun _ h => (List.mem_cons_of_mem _ (List.mem_append_right _ h))) hown hK hW rfl (L_t _ rfl) rfl rfl rfl (by decide) (hts (.fieldLink RX6 19 "LoaderModels$Notes" "kept" "I") (List.mem_cons_of_mem _ (List.mem_append_left _ (List.mem_of_getElem? (i := 2) rfl)))) (fun _ h9 => h9) dX6_add_30 (v := .int (gvI S7 6 t 2)) rfl ?_
  refine lv_iconst (v := 1) hx hb dX6_add_33 (by decide) ?_
  refine lv_iadd hx hb dX6_add_34 ?_
  refine lv_bipush (v := 30) hx hb dX6_add_35 (by decide) ?_
  refine va_mmin hx hb (by rw [hml]; exact hl.1.symm) hown (hts (.methodLink RX6 22 Lib.Math.min.name) (List.mem_cons_of_mem _ (List.mem_append_left _ (List.mem_of_getElem? (i := 3) rfl)))) (hts (.static Lib.Math.min.name) (List.mem_cons_of_mem _ (List.mem_append_left _ (List.mem_of_getElem? (i := 4) rfl)))) (hts (.initialized "java/lang/Math") (List.mem_cons_of_mem _ (List.mem_append_left _ (List.mem_of_getElem? (i := 5) rfl)))) (hts (.code Lib.Math.min.name Lib.Math.min.code 2 (some .int)) (List.mem_cons_of_mem _ (List.mem_append_left _ (List.mem_of_getElem? (i := 6) rfl)))) (Nat.le_of_ble_eq_true rfl) (by simp [lh_cat_r, lh_cat_i, lh_cat_j]; decide) (Nat.le_of_ble_eq_true rfl) (Nat.le_of_ble_eq_true rfl) dX6_add_37 ?_
  refine lv_topi (fun v9 hv9 => ?_)
  replace hf := dc_let_e hv9 hf
  obtain ⟨S10, eS10, hf⟩ := dc_let_ok hf
  refine lh_put (S' := S10) (a := 6) (k := 2) (N := 4) (C := RX6) (T := TX6) (own := RX6) (ref := "LoaderModels$Notes") (ty := .int) hx hb hts (fun _ h => (List.mem_cons_of_mem _ (List.mem_append_right _ h))) tyX6 tyX6_ok nmX6 hown hK hW hS rfl (L_t _ rfl) rfl rfl rfl (by decide) (hts (.fieldLink RX6 19 "LoaderModels$Notes" "kept" "I") (List.mem_cons_of_mem _ (List.mem_append_left _ (List.mem_of_getElem? (i := 2) rfl)))) (fun _ h9 => h9) (Or.inl rfl) (by decide +kernel) rfl rfl (fun q9 => by rw [eS10]; exact lh_chI rfl q9) dX6_add_40 (fun H locs hW hS => ?_)
  have m11 : ∀ b, gvN S7 b ≤ gvN S10 b := by rw [eS10]; exact lh_mI
  have L_t : ∀ j, some t = some j → j < gvN S10 6 := fun j h => Nat.lt_of_lt_of_le (L_t j h) (m11 _)
  have hm : ∀ b, gvN S b ≤ gvN S10 b := lh_le_trans hm m11
  have ok := lh_W_ok hW
  refine lh_aload_n hx hb dX6_add_43 rfl (lv_at hl 0 rfl) ?_
  refine lv_dup hx hb dX6_add_44 lh_cat_r ?_
  refine lh_get (a := 6) (k := 3) (N := 4) (C := RX6) (T := TX6) (own := RX6) (ref := "LoaderModels$Notes") hx hb hts (fun _ h => (List.mem_cons_of_mem _ (List.mem_append_right _ h))) hown hK hW rfl (L_t _ rfl) rfl rfl rfl (by decide) (hts (.fieldLink RX6 28 "LoaderModels$Notes" "ever" "I") (List.mem_cons_of_mem _ (List.mem_append_left _ (List.mem_of_getElem? (i := 7) rfl)))) (fun _ h9 => h9) dX6_add_45 (v := .int (gvI S10 6 t 3)) rfl ?_
  refine lv_iconst (v := 1) hx hb dX6_add_48 (by decide) ?_
  refine lv_iadd hx hb dX6_add_49 ?_
  refine lv_topi (fun v12 hv12 => ?_)
  replace hf := dc_let_e hv12 hf
  obtain ⟨S13, eS13, hf⟩ := dc_let_ok hf
  refine lh_put (S' := S13) (a := 6) (k := 3) (N := 4) (C := RX6) (T := TX6) (own := RX6) (ref := "LoaderModels$Notes") (ty := .int) hx hb hts (fun _ h => (List.mem_cons_of_mem _ (List.mem_append_right _ h))) tyX6 tyX6_ok nmX6 hown hK hW hS rfl (L_t _ rfl) rfl rfl rfl (by decide) (hts (.fieldLink RX6 28 "LoaderModels$Notes" "ever" "I") (List.mem_cons_of_mem _ (List.mem_append_left _ (List.mem_of_getElem? (i := 7) rfl)))) (fun _ h9 => h9) (Or.inl rfl) (by decide +kernel) rfl rfl (fun q9 => by rw [eS13]; exact lh_chI rfl q9) dX6_add_50 (fun H locs hW hS => ?_)
  have m14 : ∀ b, gvN S10 b ≤ gvN S13 b := by rw [eS13]; exact lh_mI
  have L_t : ∀ j, some t = some j → j < gvN S13 6 := fun j h => Nat.lt_of_lt_of_le (L_t j h) (m14 _)
  have hm : ∀ b, gvN S b ≤ gvN S13 b := lh_le_trans hm m14
  have ok := lh_W_ok hW
  obtain ⟨rfl, rfl⟩ := dc_ret hf
  exact W.vret hx hb hr (fun t9 ht9 hW9 => ⟨⟨rfl, ⟨hm, trivial⟩, by rw [ht9]; exact hW⟩, hS.F ht9⟩) hS.2.2 dX6_add_53
def f_X6_latest (n : Nat) (S : lh_S) (t : Nat) (p1 : Int32) : Option (Int32 × lh_S) :=
  dc_if (p1 < 0) (
  some ((-1 : Int32), S)) (
  dc_if (p1 < (gvI S 6 t 2)) (
  dc_let (((gvI S 6 t 1) + (30 : Int32)) - (1 : Int32)) fun v4 =>
  dc_let ((v4 - p1) - (v4 - p1) / (30 : Int32) * (30 : Int32)) fun v5 =>
  dc_nn (gvR S 6 t 0) fun x6 =>
  dc_gd (v5 < 0 ∨ gvL S 19 x6 ≤ (v5).toNatClampNeg) (
  some (gvI S 19 x6 (v5).toNatClampNeg, S))) (
  some ((-1 : Int32), S)))
set_option maxHeartbeats 1000000 in
theorem m_X6_latest {n : Nat} {S : lh_S} {t : Nat} {p1 : Int32} {r : Int32} {S' : lh_S} (hf : f_X6_latest n S t p1 = some (r, S')) : ∀ b, gvN S b ≤ gvN S' b := by
  have hm : ∀ b, gvN S b ≤ gvN S b := fun _ => Nat.le_refl _
  unfold f_X6_latest at hf
  by_cases c1 : p1 < 0
  · replace hf := dc_if_t c1 hf
    obtain ⟨_, rfl⟩ := dc_ret hf
    exact hm
  · replace hf := dc_if_f c1 hf
    by_cases c2 : p1 < (gvI S 6 t 2)
    · replace hf := dc_if_t c2 hf
      obtain ⟨v4, hv4, hf⟩ := dc_let_ok hf
      obtain ⟨v5, hv5, hf⟩ := dc_let_ok hf
      obtain ⟨x6, hx6, hf⟩ := dc_nn_ok hf
      obtain ⟨g7, hf⟩ := dc_gd_ok hf
      obtain ⟨_, rfl⟩ := dc_ret hf
      exact hm
    · replace hf := dc_if_f c2 hf
      obtain ⟨_, rfl⟩ := dc_ret hf
      exact hm
set_option maxHeartbeats 1000000 in
theorem k_X6_latest {n : Nat} {S : lh_S} {t : Nat} {p1 : Int32} {r : Int32} {S' : lh_S} (hf : f_X6_latest n S t p1 = some (r, S')) : lh_sm9 S S' := by
  have hm : lh_sm9 S S := lh_sm9_rf
  unfold f_X6_latest at hf
  by_cases c1 : p1 < 0
  · replace hf := dc_if_t c1 hf
    obtain ⟨_, rfl⟩ := dc_ret hf
    exact hm
  · replace hf := dc_if_f c1 hf
    by_cases c2 : p1 < (gvI S 6 t 2)
    · replace hf := dc_if_t c2 hf
      obtain ⟨v4, hv4, hf⟩ := dc_let_ok hf
      obtain ⟨v5, hv5, hf⟩ := dc_let_ok hf
      obtain ⟨x6, hx6, hf⟩ := dc_nn_ok hf
      obtain ⟨g7, hf⟩ := dc_gd_ok hf
      obtain ⟨_, rfl⟩ := dc_ret hf
      exact hm
    · replace hf := dc_if_f c2 hf
      obtain ⟨_, rfl⟩ := dc_ret hf
      exact hm
set_option maxHeartbeats 4000000 in
set_option maxRecDepth 100000 in
theorem c_X6_latest (l : Launch) (D : va_G) (cT : Nat → ClassId) (n : Nat) (S : lh_S) (ad : Nat → Nat → Nat) (A : Nat → Prop) (sz : Nat) (hA : ∀ q, sz ≤ q → A q) (t : Nat) (p1 : Int32) (r : Int32) (S' : lh_S) (hf : f_X6_latest n S t p1 = some (r, S')) (L_t : ∀ j, some t = some j → j < gvN S 6) : Met l yX6_latest wsX6_latest ({ frames := 0, cells := 0, slots := 0, locals := 0 } : Room) (lh_P D cT S ad A sz [lh_r ad 6 (some t), .int p1]) (lh_Q D cT S' ad A ((∀ b, gvN S b ≤ gvN S' b) ∧ True) (some (.int r))) 0 0 A := by
  refine Met.ofW (cc := cX6_latest) (maxL := 2) (ret := (some .int)) (by decide) rfl ?_
  intro p e s m args below meth c s₁ B hml hv
  obtain ⟨hargs, hsz, hW, hK, hN⟩ := hv
  have hx := B.exec
  have hb := B.bytes
  have hr := B.returns
  have hts := atoms_spec (ws := wsX6_latest) B.pre
  have hown : s.vm.findClass RX6 = some m.cls := findClass_of_methodNamed B.named
  have hlocks := B.notSynchronized
  have hA : ∀ q, s.heap.size ≤ q → A q := fun q h => hA q (by rw [← hsz]; exact h)
  have ok := lh_W_ok hW
  have hm : ∀ b, gvN S b ≤ gvN S b := fun _ => Nat.le_refl _
  obtain ⟨ls, hent, hl⟩ := lh_entry m args [lh_r ad 6 (some t), .int p1] 2 [(0, lh_r ad 6 (some t)), (1, .int p1)] hargs (by simp [lv_args, lh_cat_r, lh_cat_i, lh_cat_j]) (by simp [lg_sl, lh_cat_r, lh_cat_i, lh_cat_j])
  rw [hent]
  generalize hH : s.heap = H at hW ⊢
  have hS : va_S A s.heap H [] := by rw [← hH]; exact va_S.rf
  unfold f_X6_latest at hf
  refine lv_iload_n hx hb dX6_latest_0 rfl (lv_at hl 1 rfl) ?_
  refine lv_if_lt (tgt := 12) hx hb dX6_latest_1 (by decide) (fun c1 => ?_) (fun c1 => ?_)
  · replace hf := dc_if_t c1 hf
    refine lv_iconst (v := -1) hx hb dX6_latest_12 (by decide) ?_
    obtain ⟨rfl, rfl⟩ := dc_ret hf
    exact W.iret (v := (-1 : Int32)) hx hb hr (fun t9 ht9 hW9 => ⟨⟨rfl, ⟨hm, trivial⟩, by rw [ht9]; exact hW⟩, hS.F ht9⟩) hS.2.2 dX6_latest_13
  · replace hf := dc_if_f c1 hf
    refine lv_iload_n hx hb dX6_latest_4 rfl (lv_at hl 1 rfl) ?_
    refine lh_aload_n hx hb dX6_latest_5 rfl (lv_at hl 0 rfl) ?_
    refine lh_get (a := 6) (k := 2) (N := 4) (C := RX6) (T := TX6) (own := RX6) (ref := "LoaderModels$Notes") hx hb hts (fun _ h => (List.mem_cons_of_mem _ (List.mem_append_right _ h))) hown hK hW rfl (L_t _ rfl) rfl rfl rfl (by decide) (hts (.fieldLink RX6 19 "LoaderModels$Notes" "kept" "I") (List.mem_cons_of_mem _ (List.mem_append_left _ (List.mem_of_getElem? (i := 0) rfl)))) (fun _ h9 => h9) dX6_latest_6 (v := .int (gvI S 6 t 2)) rfl ?_
    refine lv_icmp_lt (tgt := 14) hx hb dX6_latest_9 (by decide) (fun c2 => ?_) (fun c2 => ?_)
    · replace hf := dc_if_t c2 hf
      refine lh_aload_n hx hb dX6_latest_14 rfl (lv_at hl 0 rfl) ?_
      have L3 : ∀ j, gvR S 6 t 0 = some j → j < gvN S 19 := fun j h => ok _ _ _ _ j (L_t _ rfl) rfl h
      refine lh_get (a := 6) (k := 0) (N := 4) (C := RX6) (T := TX6) (own := RX6) (ref := "LoaderModels$Notes") hx hb hts (fun _ h => (List.mem_cons_of_mem _ (List.mem_append_right _ h))) hown hK hW rfl (L_t _ rfl) rfl rfl rfl (by decide) (hts (.fieldLink RX6 9 "LoaderModels$Notes" "ring" "[I") (List.mem_cons_of_mem _ (List.mem_append_left _ (List.mem_of_getElem? (i := 1) rfl)))) (fun _ h9 => h9) dX6_latest_15 (v := lh_r ad 19 (gvR S 6 t 0)) rfl ?_
      refine lh_aload_n hx hb dX6_latest_18 rfl (lv_at hl 0 rfl) ?_
      refine lh_get (a := 6) (k := 1) (N := 4) (C := RX6) (T := TX6) (own := RX6) (ref := "LoaderModels$Notes") hx hb hts (fun _ h => (List.mem_cons_of_mem _ (List.mem_append_right _ h))) hown hK hW rfl (L_t _ rfl) rfl rfl rfl (by decide) (hts (.fieldLink RX6 15 "LoaderModels$Notes" "next" "I") (List.mem_cons_of_mem _ (List.mem_append_left _ (List.mem_of_getElem? (i := 2) rfl)))) (fun _ h9 => h9) dX6_latest_19 (v := .int (gvI S 6 t 1)) rfl ?_
      refine lv_bipush (v := 30) hx hb dX6_latest_22 (by decide) ?_
      refine lv_iadd hx hb dX6_latest_24 ?_
      refine lv_iconst (v := 1) hx hb dX6_latest_25 (by decide) ?_
      refine lv_isub hx hb dX6_latest_26 ?_
      refine lv_topi (fun v4 hv4 => ?_)
      replace hf := dc_let_e hv4 hf
      refine lv_iload_n hx hb dX6_latest_27 rfl (lv_at hl 1 rfl) ?_
      refine lv_isub hx hb dX6_latest_28 ?_
      refine lv_bipush (v := 30) hx hb dX6_latest_29 (by decide) ?_
      refine lv_irem hx hb dX6_latest_31 (by decide) ?_
      refine lv_topi (fun v5 hv5 => ?_)
      replace hf := dc_let_e hv5 hf
      obtain ⟨x6, hx6, hf⟩ := dc_nn_ok hf
      obtain ⟨g7, hf⟩ := dc_gd_ok hf
      refine lh_ald_i (a := 19) hx hb hK hW hx6 (L3 _ hx6) rfl rfl g7 dX6_latest_32 ?_
      obtain ⟨rfl, rfl⟩ := dc_ret hf
      exact W.iret (v := gvI S 19 x6 (v5).toNatClampNeg) hx hb hr (fun t9 ht9 hW9 => ⟨⟨rfl, ⟨hm, trivial⟩, by rw [ht9]; exact hW⟩, hS.F ht9⟩) hS.2.2 dX6_latest_33
    · replace hf := dc_if_f c2 hf
      refine lv_iconst (v := -1) hx hb dX6_latest_12 (by decide) ?_
      obtain ⟨rfl, rfl⟩ := dc_ret hf
      exact W.iret (v := (-1 : Int32)) hx hb hr (fun t9 ht9 hW9 => ⟨⟨rfl, ⟨hm, trivial⟩, by rw [ht9]; exact hW⟩, hS.F ht9⟩) hS.2.2 dX6_latest_13
def f_X5_isOf_L2 (n : Nat) (t : Nat) (p1 : Option Nat) : Nat → lh_S → Option Nat → Option (Int32 × lh_S)
  | 0, _, _ => none
  | g + 1, S1, o2 =>
  dc_if (o2 = none) (
  some ((0 : Int32), S1)) (
  dc_if (o2 = p1) (
  some ((1 : Int32), S1)) (
  dc_nn o2 fun x6 =>
  f_X5_isOf_L2 n t p1 g S1 (gvR S1 5 x6 3)))
theorem m_X5_isOf_L2 {n : Nat} {t : Nat} {p1 : Option Nat} {r : Int32} {S' : lh_S} : ∀ (g : Nat) (S1 : lh_S) (o2 : Option Nat), f_X5_isOf_L2 n t p1 g S1 o2 = some (r, S') → ∀ b, gvN S1 b ≤ gvN S' b := by
    intro g
    induction g with
    | zero => intro S1 o2 hf; rw [f_X5_isOf_L2] at hf; cases hf
    | succ g ih =>
      intro S1 o2 hf
      rw [f_X5_isOf_L2] at hf
      have hm : ∀ b, gvN S1 b ≤ gvN S1 b := fun _ => Nat.le_refl _
      by_cases c4 : o2 = none
      · replace hf := dc_if_t c4 hf
        obtain ⟨_, rfl⟩ := dc_ret hf
        exact hm
      · replace hf := dc_if_f c4 hf
        by_cases c5 : o2 = p1
        · replace hf := dc_if_t c5 hf
          obtain ⟨_, rfl⟩ := dc_ret hf
          exact hm
        · replace hf := dc_if_f c5 hf
          obtain ⟨x6, hx6, hf⟩ := dc_nn_ok hf
          exact lh_le_trans hm (ih S1 (gvR S1 5 x6 3) hf)
theorem k_X5_isOf_L2 {n : Nat} {t : Nat} {p1 : Option Nat} {r : Int32} {S' : lh_S} : ∀ (g : Nat) (S1 : lh_S) (o2 : Option Nat), f_X5_isOf_L2 n t p1 g S1 o2 = some (r, S') → lh_sm9 S1 S' := by
    intro g
    induction g with
    | zero => intro S1 o2 hf; rw [f_X5_isOf_L2] at hf; cases hf
    | succ g ih =>
      intro S1 o2 hf
      rw [f_X5_isOf_L2] at hf
      have hm : lh_sm9 S1 S1 := lh_sm9_rf
      by_cases c4 : o2 = none
      · replace hf := dc_if_t c4 hf
        obtain ⟨_, rfl⟩ := dc_ret hf
        exact hm
      · replace hf := dc_if_f c4 hf
        by_cases c5 : o2 = p1
        · replace hf := dc_if_t c5 hf
          obtain ⟨_, rfl⟩ := dc_ret hf
          exact hm
        · replace hf := dc_if_f c5 hf
          obtain ⟨x6, hx6, hf⟩ := dc_nn_ok hf
          exact lh_sm9_trans hm (ih S1 (gvR S1 5 x6 3) hf)
def f_X5_isOf (n : Nat) (S : lh_S) (t : Nat) (p1 : Option Nat) : Option (Int32 × lh_S) :=
  f_X5_isOf_L2 n t p1 n S (some t)
set_option maxHeartbeats 1000000 in
theorem m_X5_isOf {n : Nat} {S : lh_S} {t : Nat} {p1 : Option Nat} {r : Int32} {S' : lh_S} (hf : f_X5_isOf n S t p1 = some (r, S')) : ∀ b, gvN S b ≤ gvN S' b := by
  have hm : ∀ b, gvN S b ≤ gvN S b := fun _ => Nat.le_refl _
  unfold f_X5_isOf at hf
  exact lh_le_trans hm (m_X5_isOf_L2 n S (some t) hf)
set_option maxHeartbeats 1000000 in
theorem k_X5_isOf {n : Nat} {S : lh_S} {t : Nat} {p1 : Option Nat} {r : Int32} {S' : lh_S} (hf : f_X5_isOf n S t p1 = some (r, S')) : lh_sm9 S S' := by
  have hm : lh_sm9 S S := lh_sm9_rf
  unfold f_X5_isOf at hf
  exact lh_sm9_trans hm (k_X5_isOf_L2 n S (some t) hf)
set_option maxHeartbeats 4000000 in
set_option maxRecDepth 100000 in
theorem c_X5_isOf (l : Launch) (D : va_G) (cT : Nat → ClassId) (n : Nat) (S : lh_S) (ad : Nat → Nat → Nat) (A : Nat → Prop) (sz : Nat) (hA : ∀ q, sz ≤ q → A q) (t : Nat) (p1 : Option Nat) (r : Int32) (S' : lh_S) (hf : f_X5_isOf n S t p1 = some (r, S')) (L_t : ∀ j, some t = some j → j < gvN S 5) (L_p1 : ∀ j, p1 = some j → j < gvN S 5) : Met l yX5_isOf wsX5_isOf ({ frames := 0, cells := 0, slots := 0, locals := 0 } : Room) (lh_P D cT S ad A sz [lh_r ad 5 (some t), lh_r ad 5 p1]) (lh_Q D cT S' ad A ((∀ b, gvN S b ≤ gvN S' b) ∧ (r = 0 ∨ r = 1)) (some (.int r))) 0 0 A := by
  refine Met.ofW (cc := cX5_isOf) (maxL := 3) (ret := (some .boolean)) (by decide) rfl ?_
  intro p e s m args below meth c s₁ B hml hv
  obtain ⟨hargs, hsz, hW, hK, hN⟩ := hv
  have hx := B.exec
  have hb := B.bytes
  have hr := B.returns
  have hts := atoms_spec (ws := wsX5_isOf) B.pre
  have hown : s.vm.findClass RX5 = some m.cls := findClass_of_methodNamed B.named
  have hlocks := B.notSynchronized
  have hA : ∀ q, s.heap.size ≤ q → A q := fun q h => hA q (by rw [← hsz]; exact h)
  have L2 : ∀ (g : Nat) (S1 : lh_S) (o2 : Option Nat), f_X5_isOf_L2 n t p1 g S1 o2 = some (r, S') → (∀ b, gvN S b ≤ gvN S1 b) → (∀ j, o2 = some j → j < gvN S1 5) → ∀ (H : Heap) (locs : List Loc), lh_W D cT S1 ad A H → va_S A s.heap H locs → ∀ (ls : Array Slot), lv_has ls 3 [(0, lh_r ad 5 (some t)), (1, lh_r ad 5 p1), (2, lh_r ad 5 o2)] → W p l e (headSpec wsX5_isOf ({ frames := 0, cells := 0, slots := 0, locals := 0 } : Room)).room s m args below meth c H locs 0 0 (MQ below (lh_Q D cT S' ad A ((∀ b, gvN S b ≤ gvN S' b) ∧ (r = 0 ∨ r = 1)) (some (.int r))) args s 0 0 A) (F0 m 2 ls []) := by
    intro g
    induction g with
    | zero => intro S1 o2 hf; rw [f_X5_isOf_L2] at hf; cases hf
    | succ g ih =>
      intro S1 o2 hf hm L3 H locs hW hS ls hl
      rw [f_X5_isOf_L2] at hf
      have ok := lh_W_ok hW
      have L_t : ∀ j, some t = some j → j < gvN S1 5 := fun j h => Nat.lt_of_lt_of_le (L_t j h) (hm _)
      have L_p1 : ∀ j, p1 = some j → j < gvN S1 5 := fun j h => Nat.lt_of_lt_of_le (L_p1 j h) (hm _)
      refine lh_aload_n hx hb dX5_isOf_2 rfl (lv_at hl 2 rfl) ?_
      refine lh_ifnull (tgt := 21) hx hb dX5_isOf_3 (by decide) (fun c4 => ?_) (fun c4 => ?_)
      · replace hf := dc_if_t c4 hf
        refine lv_iconst (v := 0) hx hb dX5_isOf_21 (by decide) ?_
        obtain ⟨rfl, rfl⟩ := dc_ret hf
        exact W.zret (v := (0 : Int32)) hx hb hr (lh_nar_z (Or.inl rfl)) (fun t9 ht9 hW9 => ⟨⟨rfl, ⟨hm, (Or.inl rfl)⟩, by rw [ht9]; exact hW⟩, hS.F ht9⟩) hS.2.2 dX5_isOf_22
      · replace hf := dc_if_f c4 hf
        refine lh_aload_n hx hb dX5_isOf_6 rfl (lv_at hl 2 rfl) ?_
        refine lh_aload_n hx hb dX5_isOf_7 rfl (lv_at hl 1 rfl) ?_
        refine lh_acmp_ne (tgt := 13) hx hb hW L3 L_p1 dX5_isOf_8 (by decide) (fun c5 => ?_) (fun c5 => ?_)
        · replace hf := dc_if_f c5 hf
          refine lh_aload_n hx hb dX5_isOf_13 rfl (lv_at hl 2 rfl) ?_
          obtain ⟨x6, hx6, hf⟩ := dc_nn_ok hf
          have L7 : ∀ j, gvR S1 5 x6 3 = some j → j < gvN S1 5 := fun j h => ok _ _ _ _ j (L3 _ hx6) rfl h
          refine lh_get (a := 5) (k := 3) (N := 6) (C := RX5) (T := TX5) (own := RX5) (ref := "LoaderModels$Model") hx hb hts (fun _ h => (List.mem_cons_of_mem _ (List.mem_append_right _ h))) hown hK hW hx6 (L3 _ hx6) rfl rfl rfl (by decide) (hts (.fieldLink RX5 26 "LoaderModels$Model" "above" "LLoaderModels$Model;") (List.mem_cons_of_mem _ (List.mem_append_left _ (List.mem_of_getElem? (i := 0) rfl)))) (fun _ h9 => h9) dX5_isOf_14 (v := lh_r ad 5 (gvR S1 5 x6 3)) rfl ?_
          refine lh_astore_n (i := 2) (lv' := [(2, lh_r ad 5 (gvR S1 5 x6 3)), (0, lh_r ad 5 (some t)), (1, lh_r ad 5 p1)]) hx hb dX5_isOf_17 rfl hl (by decide) (by first | rfl | simp [lh_cat_r, lh_cat_i, lh_cat_j]) (fun ls hl => ?_)
          refine lv_goto (tgt := 2) hx hb dX5_isOf_18 (by decide) ?_
          exact ih S1 (gvR S1 5 x6 3) hf hm L7 _ _ hW hS _ (lv_sub hl [1, 2, 0] (by first | rfl | simp [lv_pick]))
        · replace hf := dc_if_t c5 hf
          refine lv_iconst (v := 1) hx hb dX5_isOf_11 (by decide) ?_
          obtain ⟨rfl, rfl⟩ := dc_ret hf
          exact W.zret (v := (1 : Int32)) hx hb hr (lh_nar_z (Or.inr rfl)) (fun t9 ht9 hW9 => ⟨⟨rfl, ⟨hm, (Or.inr rfl)⟩, by rw [ht9]; exact hW⟩, hS.F ht9⟩) hS.2.2 dX5_isOf_12
  have ok := lh_W_ok hW
  have hm : ∀ b, gvN S b ≤ gvN S b := fun _ => Nat.le_refl _
  obtain ⟨ls, hent, hl⟩ := lh_entry m args [lh_r ad 5 (some t), lh_r ad 5 p1] 3 [(0, lh_r ad 5 (some t)), (1, lh_r ad 5 p1)] hargs (by simp [lv_args, lh_cat_r, lh_cat_i, lh_cat_j]) (by simp [lg_sl, lh_cat_r, lh_cat_i, lh_cat_j])
  rw [hent]
  generalize hH : s.heap = H at hW ⊢
  have hS : va_S A s.heap H [] := by rw [← hH]; exact va_S.rf
  unfold f_X5_isOf at hf
  refine lh_aload_n hx hb dX5_isOf_0 rfl (lv_at hl 0 rfl) ?_
  refine lh_astore_n (i := 2) (lv' := [(2, lh_r ad 5 (some t)), (0, lh_r ad 5 (some t)), (1, lh_r ad 5 p1)]) hx hb dX5_isOf_1 rfl hl (by decide) (by first | rfl | simp [lh_cat_r, lh_cat_i, lh_cat_j]) (fun ls hl => ?_)
  exact L2 n S (some t) hf hm L_t _ _ hW hS _ (lv_sub hl [1, 2, 0] (by first | rfl | simp [lv_pick]))
def f_X5_startAfter (n : Nat) (S : lh_S) (t : Nat) (p1 : Int32) : Option (Int32 × lh_S) :=
  dc_nn (gvR S 5 t 2) fun x2 =>
  dc_if (p1 = 0) (
  dc_if ((gvI S 1 x2 4) = 0) (
  dc_let (pvI S 5 t 4 (2 : Int32)) fun S14 =>
  dc_if (p1 = 0) (
  some ((9 : Int32), S14)) (
  some (p1, S14))) (
  dc_let (pvI S 5 t 4 (1 : Int32)) fun S8 =>
  dc_gd ((gvI S 1 x2 4) = 0) (
  dc_let ((1000 : Int32) / (gvI S 1 x2 4)) fun v11 =>
  dc_let (pvJ S8 5 t 5 v11.toInt64) fun S12 =>
  some ((0 : Int32), S12)))) (
  dc_let (pvI S 5 t 4 (2 : Int32)) fun S4 =>
  dc_if (p1 = 0) (
  some ((9 : Int32), S4)) (
  some (p1, S4)))
set_option maxHeartbeats 1000000 in
theorem m_X5_startAfter {n : Nat} {S : lh_S} {t : Nat} {p1 : Int32} {r : Int32} {S' : lh_S} (hf : f_X5_startAfter n S t p1 = some (r, S')) : ∀ b, gvN S b ≤ gvN S' b := by
  have hm : ∀ b, gvN S b ≤ gvN S b := fun _ => Nat.le_refl _
  unfold f_X5_startAfter at hf
  obtain ⟨x2, hx2, hf⟩ := dc_nn_ok hf
  by_cases c3 : p1 = 0
  · replace hf := dc_if_t c3 hf
    by_cases c7 : (gvI S 1 x2 4) = 0
    · replace hf := dc_if_t c7 hf
      obtain ⟨S14, eS14, hf⟩ := dc_let_ok hf
      have hm := lh_le_trans hm (show ∀ b, gvN S b ≤ gvN S14 b from by rw [eS14]; exact lh_mI)
      by_cases c16 : p1 = 0
      · replace hf := dc_if_t c16 hf
        obtain ⟨_, rfl⟩ := dc_ret hf
        exact hm
      · replace hf := dc_if_f c16 hf
        obtain ⟨_, rfl⟩ := dc_ret hf
        exact hm
    · replace hf := dc_if_f c7 hf
      obtain ⟨S8, eS8, hf⟩ := dc_let_ok hf
      have hm := lh_le_trans hm (show ∀ b, gvN S b ≤ gvN S8 b from by rw [eS8]; exact lh_mI)
      obtain ⟨g10, hf⟩ := dc_gd_ok hf
      obtain ⟨v11, hv11, hf⟩ := dc_let_ok hf
      obtain ⟨S12, eS12, hf⟩ := dc_let_ok hf
      have hm := lh_le_trans hm (show ∀ b, gvN S8 b ≤ gvN S12 b from by rw [eS12]; exact lh_mJ)
      obtain ⟨_, rfl⟩ := dc_ret hf
      exact hm
  · replace hf := dc_if_f c3 hf
    obtain ⟨S4, eS4, hf⟩ := dc_let_ok hf
    have hm := lh_le_trans hm (show ∀ b, gvN S b ≤ gvN S4 b from by rw [eS4]; exact lh_mI)
    by_cases c6 : p1 = 0
    · replace hf := dc_if_t c6 hf
      obtain ⟨_, rfl⟩ := dc_ret hf
      exact hm
    · replace hf := dc_if_f c6 hf
      obtain ⟨_, rfl⟩ := dc_ret hf
      exact hm
set_option maxHeartbeats 1000000 in
theorem k_X5_startAfter {n : Nat} {S : lh_S} {t : Nat} {p1 : Int32} {r : Int32} {S' : lh_S} (hf : f_X5_startAfter n S t p1 = some (r, S')) : lh_sm9 S S' := by
  have hm : lh_sm9 S S := lh_sm9_rf
  unfold f_X5_startAfter at hf
  obtain ⟨x2, hx2, hf⟩ := dc_nn_ok hf
  by_cases c3 : p1 = 0
  · replace hf := dc_if_t c3 hf
    by_cases c7 : (gvI S 1 x2 4) = 0
    · replace hf := dc_if_t c7 hf
      obtain ⟨S14, eS14, hf⟩ := dc_let_ok hf
      have hm := lh_sm9_trans hm (show lh_sm9 S S14 from by rw [eS14]; exact (lh_sm9I (by decide)))
      by_cases c16 : p1 = 0
      · replace hf := dc_if_t c16 hf
        obtain ⟨_, rfl⟩ := dc_ret hf
        exact hm
      · replace hf := dc_if_f c16 hf
        obtain ⟨_, rfl⟩ := dc_ret hf
        exact hm
    · replace hf := dc_if_f c7 hf
      obtain ⟨S8, eS8, hf⟩ := dc_let_ok hf
      have hm := lh_sm9_trans hm (show lh_sm9 S S8 from by rw [eS8]; exact (lh_sm9I (by decide)))
      obtain ⟨g10, hf⟩ := dc_gd_ok hf
      obtain ⟨v11, hv11, hf⟩ := dc_let_ok hf
      obtain ⟨S12, eS12, hf⟩ := dc_let_ok hf
      have hm := lh_sm9_trans hm (show lh_sm9 S8 S12 from by rw [eS12]; exact (lh_sm9J (by decide)))
      obtain ⟨_, rfl⟩ := dc_ret hf
      exact hm
  · replace hf := dc_if_f c3 hf
    obtain ⟨S4, eS4, hf⟩ := dc_let_ok hf
    have hm := lh_sm9_trans hm (show lh_sm9 S S4 from by rw [eS4]; exact (lh_sm9I (by decide)))
    by_cases c6 : p1 = 0
    · replace hf := dc_if_t c6 hf
      obtain ⟨_, rfl⟩ := dc_ret hf
      exact hm
    · replace hf := dc_if_f c6 hf
      obtain ⟨_, rfl⟩ := dc_ret hf
      exact hm
set_option maxHeartbeats 4000000 in
set_option maxRecDepth 100000 in
theorem c_X5_startAfter (l : Launch) (D : va_G) (cT : Nat → ClassId) (n : Nat) (S : lh_S) (ad : Nat → Nat → Nat) (A : Nat → Prop) (sz : Nat) (hA : ∀ q, sz ≤ q → A q) (t : Nat) (p1 : Int32) (r : Int32) (S' : lh_S) (hf : f_X5_startAfter n S t p1 = some (r, S')) (L_t : ∀ j, some t = some j → j < gvN S 5) : Met l yX5_startAfter wsX5_startAfter ({ frames := 0, cells := 0, slots := 0, locals := 0 } : Room) (lh_P D cT S ad A sz [lh_r ad 5 (some t), .int p1]) (lh_Q D cT S' ad A ((∀ b, gvN S b ≤ gvN S' b) ∧ True) (some (.int r))) 0 0 A := by
  refine Met.ofW (cc := cX5_startAfter) (maxL := 3) (ret := (some .int)) (by decide) rfl ?_
  intro p e s m args below meth c s₁ B hml hv
  obtain ⟨hargs, hsz, hW, hK, hN⟩ := hv
  have hx := B.exec
  have hb := B.bytes
  have hr := B.returns
  have hts := atoms_spec (ws := wsX5_startAfter) B.pre
  have hown : s.vm.findClass RX5 = some m.cls := findClass_of_methodNamed B.named
  have hlocks := B.notSynchronized
  have hA : ∀ q, s.heap.size ≤ q → A q := fun q h => hA q (by rw [← hsz]; exact h)
  have ok := lh_W_ok hW
  have hm : ∀ b, gvN S b ≤ gvN S b := fun _ => Nat.le_refl _
  obtain ⟨ls, hent, hl⟩ := lh_entry m args [lh_r ad 5 (some t), .int p1] 3 [(0, lh_r ad 5 (some t)), (1, .int p1)] hargs (by simp [lv_args, lh_cat_r, lh_cat_i, lh_cat_j]) (by simp [lg_sl, lh_cat_r, lh_cat_i, lh_cat_j])
  rw [hent]
  generalize hH : s.heap = H at hW ⊢
  have hS : va_S A s.heap H [] := by rw [← hH]; exact va_S.rf
  unfold f_X5_startAfter at hf
  refine lh_aload_n hx hb dX5_startAfter_0 rfl (lv_at hl 0 rfl) ?_
  have L1 : ∀ j, gvR S 5 t 2 = some j → j < gvN S 1 := fun j h => ok _ _ _ _ j (L_t _ rfl) rfl h
  refine lh_get (a := 5) (k := 2) (N := 6) (C := RX5) (T := TX5) (own := RX5) (ref := "LoaderModels$Model") hx hb hts (fun _ h => (List.mem_cons_of_mem _ (List.mem_append_left _ (List.mem_append_right _ h)))) hown hK hW rfl (L_t _ rfl) rfl rfl rfl (by decide) (hts (.fieldLink RX5 22 "LoaderModels$Model" "file" "LLoaderModels$ClassFile;") (List.mem_cons_of_mem _ (List.mem_append_left _ (List.mem_append_left _ (List.mem_of_getElem? (i := 0) rfl))))) (fun _ h9 => h9) dX5_startAfter_1 (v := lh_r ad 1 (gvR S 5 t 2)) rfl ?_
  obtain ⟨x2, hx2, hf⟩ := dc_nn_ok hf
  refine lh_get (a := 1) (k := 4) (N := 7) (C := RX1) (T := TX1) (own := RX5) (ref := "LoaderModels$ClassFile") hx hb hts (fun _ h => (List.mem_cons_of_mem _ (List.mem_append_right _ h))) hown hK hW hx2 (L1 _ hx2) rfl rfl rfl (by decide) (hts (.fieldLink RX5 30 "LoaderModels$ClassFile" "content" "I") (List.mem_cons_of_mem _ (List.mem_append_left _ (List.mem_append_left _ (List.mem_of_getElem? (i := 1) rfl))))) (fun _ h9 => h9) dX5_startAfter_4 (v := .int (gvI S 1 x2 4)) rfl ?_
  refine lv_istore_n (i := 2) (lv' := [(2, .int (gvI S 1 x2 4)), (0, lh_r ad 5 (some t)), (1, .int p1)]) hx hb dX5_startAfter_7 rfl hl (by decide) (by first | rfl | simp [lh_cat_r, lh_cat_i, lh_cat_j]) (fun ls hl => ?_)
  refine lv_iload_n hx hb dX5_startAfter_8 rfl (lv_at hl 2 rfl) ?_
  refine lv_if_ne (tgt := 16) hx hb dX5_startAfter_9 (by decide) (fun c3 => ?_) (fun c3 => ?_)
  · replace hf := dc_if_f c3 hf
    refine lh_aload_n hx hb dX5_startAfter_16 rfl (lv_at hl 1 rfl) ?_
    refine lv_iconst (v := 2) hx hb dX5_startAfter_17 (by decide) ?_
    obtain ⟨S4, eS4, hf⟩ := dc_let_ok hf
    refine lh_put (S' := S4) (a := 5) (k := 4) (N := 6) (C := RX5) (T := TX5) (own := RX5) (ref := "LoaderModels$Model") (ty := .int) hx hb hts (fun _ h => (List.mem_cons_of_mem _ (List.mem_append_left _ (List.mem_append_right _ h)))) tyX5 tyX5_ok nmX5 hown hK hW hS rfl (L_t _ rfl) rfl rfl rfl (by decide) (hts (.fieldLink RX5 9 "LoaderModels$Model" "state" "I") (List.mem_cons_of_mem _ (List.mem_append_left _ (List.mem_append_left _ (List.mem_of_getElem? (i := 2) rfl))))) (fun _ h9 => h9) (Or.inl rfl) (by decide +kernel) rfl rfl (fun q9 => by rw [eS4]; exact lh_chI rfl q9) dX5_startAfter_18 (fun H locs hW hS => ?_)
    have m5 : ∀ b, gvN S b ≤ gvN S4 b := by rw [eS4]; exact lh_mI
    have L_t : ∀ j, some t = some j → j < gvN S4 5 := fun j h => Nat.lt_of_lt_of_le (L_t j h) (m5 _)
    have hm : ∀ b, gvN S b ≤ gvN S4 b := lh_le_trans hm m5
    have ok := lh_W_ok hW
    refine lv_iload_n hx hb dX5_startAfter_21 rfl (lv_at hl 2 rfl) ?_
    refine lv_if_eq (tgt := 29) hx hb dX5_startAfter_22 (by decide) (fun c6 => ?_) (fun c6 => ?_)
    · replace hf := dc_if_t c6 hf
      refine lv_bipush (v := 9) hx hb dX5_startAfter_29 (by decide) ?_
      obtain ⟨rfl, rfl⟩ := dc_ret hf
      exact W.iret (v := (9 : Int32)) hx hb hr (fun t9 ht9 hW9 => ⟨⟨rfl, ⟨hm, trivial⟩, by rw [ht9]; exact hW⟩, hS.F ht9⟩) hS.2.2 dX5_startAfter_31
    · replace hf := dc_if_f c6 hf
      refine lv_iload_n hx hb dX5_startAfter_25 rfl (lv_at hl 2 rfl) ?_
      refine lv_goto (tgt := 31) hx hb dX5_startAfter_26 (by decide) ?_
      obtain ⟨rfl, rfl⟩ := dc_ret hf
      exact W.iret (v := p1) hx hb hr (fun t9 ht9 hW9 => ⟨⟨rfl, ⟨hm, trivial⟩, by rw [ht9]; exact hW⟩, hS.F ht9⟩) hS.2.2 dX5_startAfter_31
  · replace hf := dc_if_t c3 hf
    refine lv_iload_n hx hb dX5_startAfter_12 rfl (lv_at hl 0 rfl) ?_
    refine lv_if_ne (tgt := 32) hx hb dX5_startAfter_13 (by decide) (fun c7 => ?_) (fun c7 => ?_)
    · replace hf := dc_if_f c7 hf
      refine lh_aload_n hx hb dX5_startAfter_32 rfl (lv_at hl 1 rfl) ?_
      refine lv_iconst (v := 1) hx hb dX5_startAfter_33 (by decide) ?_
      obtain ⟨S8, eS8, hf⟩ := dc_let_ok hf
      refine lh_put (S' := S8) (a := 5) (k := 4) (N := 6) (C := RX5) (T := TX5) (own := RX5) (ref := "LoaderModels$Model") (ty := .int) hx hb hts (fun _ h => (List.mem_cons_of_mem _ (List.mem_append_left _ (List.mem_append_right _ h)))) tyX5 tyX5_ok nmX5 hown hK hW hS rfl (L_t _ rfl) rfl rfl rfl (by decide) (hts (.fieldLink RX5 9 "LoaderModels$Model" "state" "I") (List.mem_cons_of_mem _ (List.mem_append_left _ (List.mem_append_left _ (List.mem_of_getElem? (i := 2) rfl))))) (fun _ h9 => h9) (Or.inl rfl) (by decide +kernel) rfl rfl (fun q9 => by rw [eS8]; exact lh_chI rfl q9) dX5_startAfter_34 (fun H locs hW hS => ?_)
      have m9 : ∀ b, gvN S b ≤ gvN S8 b := by rw [eS8]; exact lh_mI
      have L_t : ∀ j, some t = some j → j < gvN S8 5 := fun j h => Nat.lt_of_lt_of_le (L_t j h) (m9 _)
      have hm : ∀ b, gvN S b ≤ gvN S8 b := lh_le_trans hm m9
      have ok := lh_W_ok hW
      refine lh_aload_n hx hb dX5_startAfter_37 rfl (lv_at hl 1 rfl) ?_
      refine lv_sipush (v := 1000) hx hb dX5_startAfter_38 (by decide) ?_
      refine lv_iload_n hx hb dX5_startAfter_41 rfl (lv_at hl 0 rfl) ?_
      obtain ⟨g10, hf⟩ := dc_gd_ok hf
      refine lv_idiv hx hb dX5_startAfter_42 g10 ?_
      refine lv_topi (fun v11 hv11 => ?_)
      replace hf := dc_let_e hv11 hf
      refine lv_i2l (v := v11.toInt64) hx hb dX5_startAfter_43 rfl ?_
      obtain ⟨S12, eS12, hf⟩ := dc_let_ok hf
      refine lh_put (S' := S12) (a := 5) (k := 5) (N := 6) (C := RX5) (T := TX5) (own := RX5) (ref := "LoaderModels$Model") (ty := .long) hx hb hts (fun _ h => (List.mem_cons_of_mem _ (List.mem_append_left _ (List.mem_append_right _ h)))) tyX5 tyX5_ok nmX5 hown hK hW hS rfl (L_t _ rfl) rfl rfl rfl (by decide) (hts (.fieldLink RX5 35 "LoaderModels$Model" "held" "J") (List.mem_cons_of_mem _ (List.mem_append_left _ (List.mem_append_left _ (List.mem_of_getElem? (i := 3) rfl))))) (fun _ h9 => h9) (Or.inl rfl) (by decide +kernel) rfl rfl (fun q9 => by rw [eS12]; exact lh_chJ rfl q9) dX5_startAfter_44 (fun H locs hW hS => ?_)
      have m13 : ∀ b, gvN S8 b ≤ gvN S12 b := by rw [eS12]; exact lh_mJ
      have L_t : ∀ j, some t = some j → j < gvN S12 5 := fun j h => Nat.lt_of_lt_of_le (L_t j h) (m13 _)
      have hm : ∀ b, gvN S b ≤ gvN S12 b := lh_le_trans hm m13
      have ok := lh_W_ok hW
      refine lv_iconst (v := 0) hx hb dX5_startAfter_47 (by decide) ?_
      obtain ⟨rfl, rfl⟩ := dc_ret hf
      exact W.iret (v := (0 : Int32)) hx hb hr (fun t9 ht9 hW9 => ⟨⟨rfl, ⟨hm, trivial⟩, by rw [ht9]; exact hW⟩, hS.F ht9⟩) hS.2.2 dX5_startAfter_48
    · replace hf := dc_if_t c7 hf
      refine lh_aload_n hx hb dX5_startAfter_16 rfl (lv_at hl 1 rfl) ?_
      refine lv_iconst (v := 2) hx hb dX5_startAfter_17 (by decide) ?_
      obtain ⟨S14, eS14, hf⟩ := dc_let_ok hf
      refine lh_put (S' := S14) (a := 5) (k := 4) (N := 6) (C := RX5) (T := TX5) (own := RX5) (ref := "LoaderModels$Model") (ty := .int) hx hb hts (fun _ h => (List.mem_cons_of_mem _ (List.mem_append_left _ (List.mem_append_right _ h)))) tyX5 tyX5_ok nmX5 hown hK hW hS rfl (L_t _ rfl) rfl rfl rfl (by decide) (hts (.fieldLink RX5 9 "LoaderModels$Model" "state" "I") (List.mem_cons_of_mem _ (List.mem_append_left _ (List.mem_append_left _ (List.mem_of_getElem? (i := 2) rfl))))) (fun _ h9 => h9) (Or.inl rfl) (by decide +kernel) rfl rfl (fun q9 => by rw [eS14]; exact lh_chI rfl q9) dX5_startAfter_18 (fun H locs hW hS => ?_)
      have m15 : ∀ b, gvN S b ≤ gvN S14 b := by rw [eS14]; exact lh_mI
      have L_t : ∀ j, some t = some j → j < gvN S14 5 := fun j h => Nat.lt_of_lt_of_le (L_t j h) (m15 _)
      have hm : ∀ b, gvN S b ≤ gvN S14 b := lh_le_trans hm m15
      have ok := lh_W_ok hW
      refine lv_iload_n hx hb dX5_startAfter_21 rfl (lv_at hl 2 rfl) ?_
      refine lv_if_eq (tgt := 29) hx hb dX5_startAfter_22 (by decide) (fun c16 => ?_) (fun c16 => ?_)
      · replace hf := dc_if_t c16 hf
        refine lv_bipush (v := 9) hx hb dX5_startAfter_29 (by decide) ?_
        obtain ⟨rfl, rfl⟩ := dc_ret hf
        exact W.iret (v := (9 : Int32)) hx hb hr (fun t9 ht9 hW9 => ⟨⟨rfl, ⟨hm, trivial⟩, by rw [ht9]; exact hW⟩, hS.F ht9⟩) hS.2.2 dX5_startAfter_31
      · replace hf := dc_if_f c16 hf
        refine lv_iload_n hx hb dX5_startAfter_25 rfl (lv_at hl 2 rfl) ?_
        refine lv_goto (tgt := 31) hx hb dX5_startAfter_26 (by decide) ?_
        obtain ⟨rfl, rfl⟩ := dc_ret hf
        exact W.iret (v := p1) hx hb hr (fun t9 ht9 hW9 => ⟨⟨rfl, ⟨hm, trivial⟩, by rw [ht9]; exact hW⟩, hS.F ht9⟩) hS.2.2 dX5_startAfter_31
def f_X7_hasPlace (n : Nat) (S : lh_S) (t : Nat) (p1 : Int32) : Option (Int32 × lh_S) :=
  dc_if (p1 < 0) (
  some ((0 : Int32), S)) (
  dc_nn (gvR S 7 t 1) fun x3 =>
  dc_if ((nI (gvL S 20 x3)) ≤ p1) (
  some ((0 : Int32), S)) (
  some ((1 : Int32), S)))
set_option maxHeartbeats 1000000 in
theorem m_X7_hasPlace {n : Nat} {S : lh_S} {t : Nat} {p1 : Int32} {r : Int32} {S' : lh_S} (hf : f_X7_hasPlace n S t p1 = some (r, S')) : ∀ b, gvN S b ≤ gvN S' b := by
  have hm : ∀ b, gvN S b ≤ gvN S b := fun _ => Nat.le_refl _
  unfold f_X7_hasPlace at hf
  by_cases c1 : p1 < 0
  · replace hf := dc_if_t c1 hf
    obtain ⟨_, rfl⟩ := dc_ret hf
    exact hm
  · replace hf := dc_if_f c1 hf
    obtain ⟨x3, hx3, hf⟩ := dc_nn_ok hf
    by_cases c4 : (nI (gvL S 20 x3)) ≤ p1
    · replace hf := dc_if_t c4 hf
      obtain ⟨_, rfl⟩ := dc_ret hf
      exact hm
    · replace hf := dc_if_f c4 hf
      obtain ⟨_, rfl⟩ := dc_ret hf
      exact hm
set_option maxHeartbeats 1000000 in
theorem k_X7_hasPlace {n : Nat} {S : lh_S} {t : Nat} {p1 : Int32} {r : Int32} {S' : lh_S} (hf : f_X7_hasPlace n S t p1 = some (r, S')) : lh_sm9 S S' := by
  have hm : lh_sm9 S S := lh_sm9_rf
  unfold f_X7_hasPlace at hf
  by_cases c1 : p1 < 0
  · replace hf := dc_if_t c1 hf
    obtain ⟨_, rfl⟩ := dc_ret hf
    exact hm
  · replace hf := dc_if_f c1 hf
    obtain ⟨x3, hx3, hf⟩ := dc_nn_ok hf
    by_cases c4 : (nI (gvL S 20 x3)) ≤ p1
    · replace hf := dc_if_t c4 hf
      obtain ⟨_, rfl⟩ := dc_ret hf
      exact hm
    · replace hf := dc_if_f c4 hf
      obtain ⟨_, rfl⟩ := dc_ret hf
      exact hm
set_option maxHeartbeats 4000000 in
set_option maxRecDepth 100000 in
theorem c_X7_hasPlace (l : Launch) (D : va_G) (cT : Nat → ClassId) (n : Nat) (S : lh_S) (ad : Nat → Nat → Nat) (A : Nat → Prop) (sz : Nat) (hA : ∀ q, sz ≤ q → A q) (t : Nat) (p1 : Int32) (r : Int32) (S' : lh_S) (hf : f_X7_hasPlace n S t p1 = some (r, S')) (L_t : ∀ j, some t = some j → j < gvN S 7) : Met l yX7_hasPlace wsX7_hasPlace ({ frames := 0, cells := 0, slots := 0, locals := 0 } : Room) (lh_P D cT S ad A sz [lh_r ad 7 (some t), .int p1]) (lh_Q D cT S' ad A ((∀ b, gvN S b ≤ gvN S' b) ∧ (r = 0 ∨ r = 1)) (some (.int r))) 0 0 A := by
  refine Met.ofW (cc := cX7_hasPlace) (maxL := 2) (ret := (some .boolean)) (by decide) rfl ?_
  intro p e s m args below meth c s₁ B hml hv
  obtain ⟨hargs, hsz, hW, hK, hN⟩ := hv
  have hx := B.exec
  have hb := B.bytes
  have hr := B.returns
  have hts := atoms_spec (ws := wsX7_hasPlace) B.pre
  have hown : s.vm.findClass RX7 = some m.cls := findClass_of_methodNamed B.named
  have hlocks := B.notSynchronized
  have hA : ∀ q, s.heap.size ≤ q → A q := fun q h => hA q (by rw [← hsz]; exact h)
  have ok := lh_W_ok hW
  have hm : ∀ b, gvN S b ≤ gvN S b := fun _ => Nat.le_refl _
  obtain ⟨ls, hent, hl⟩ := lh_entry m args [lh_r ad 7 (some t), .int p1] 2 [(0, lh_r ad 7 (some t)), (1, .int p1)] hargs (by simp [lv_args, lh_cat_r, lh_cat_i, lh_cat_j]) (by simp [lg_sl, lh_cat_r, lh_cat_i, lh_cat_j])
  rw [hent]
  generalize hH : s.heap = H at hW ⊢
  have hS : va_S A s.heap H [] := by rw [← hH]; exact va_S.rf
  unfold f_X7_hasPlace at hf
  refine lv_iload_n hx hb dX7_hasPlace_0 rfl (lv_at hl 1 rfl) ?_
  refine lv_if_lt (tgt := 17) hx hb dX7_hasPlace_1 (by decide) (fun c1 => ?_) (fun c1 => ?_)
  · replace hf := dc_if_t c1 hf
    refine lv_iconst (v := 0) hx hb dX7_hasPlace_17 (by decide) ?_
    obtain ⟨rfl, rfl⟩ := dc_ret hf
    exact W.zret (v := (0 : Int32)) hx hb hr (lh_nar_z (Or.inl rfl)) (fun t9 ht9 hW9 => ⟨⟨rfl, ⟨hm, (Or.inl rfl)⟩, by rw [ht9]; exact hW⟩, hS.F ht9⟩) hS.2.2 dX7_hasPlace_18
  · replace hf := dc_if_f c1 hf
    refine lv_iload_n hx hb dX7_hasPlace_4 rfl (lv_at hl 1 rfl) ?_
    refine lh_aload_n hx hb dX7_hasPlace_5 rfl (lv_at hl 0 rfl) ?_
    have L2 : ∀ j, gvR S 7 t 1 = some j → j < gvN S 20 := fun j h => ok _ _ _ _ j (L_t _ rfl) rfl h
    refine lh_get (a := 7) (k := 1) (N := 2) (C := RX7) (T := TX7) (own := RX7) (ref := "LoaderModels$Row") hx hb hts (fun _ h => (List.mem_cons_of_mem _ (List.mem_append_right _ h))) hown hK hW rfl (L_t _ rfl) rfl rfl rfl (by decide) (hts (.fieldLink RX7 15 "LoaderModels$Row" "items" "[I") (List.mem_cons_of_mem _ (List.mem_append_left _ (List.mem_of_getElem? (i := 0) rfl)))) (fun _ h9 => h9) dX7_hasPlace_6 (v := lh_r ad 20 (gvR S 7 t 1)) rfl ?_
    obtain ⟨x3, hx3, hf⟩ := dc_nn_ok hf
    refine lh_alen (a := 20) (t0 := 0) hx hb hK hW hx3 (L2 _ hx3) rfl rfl dX7_hasPlace_9 ?_
    refine lv_icmp_ge (tgt := 17) hx hb dX7_hasPlace_10 (by decide) (fun c4 => ?_) (fun c4 => ?_)
    · replace hf := dc_if_t c4 hf
      refine lv_iconst (v := 0) hx hb dX7_hasPlace_17 (by decide) ?_
      obtain ⟨rfl, rfl⟩ := dc_ret hf
      exact W.zret (v := (0 : Int32)) hx hb hr (lh_nar_z (Or.inl rfl)) (fun t9 ht9 hW9 => ⟨⟨rfl, ⟨hm, (Or.inl rfl)⟩, by rw [ht9]; exact hW⟩, hS.F ht9⟩) hS.2.2 dX7_hasPlace_18
    · replace hf := dc_if_f c4 hf
      refine lv_iconst (v := 1) hx hb dX7_hasPlace_13 (by decide) ?_
      refine lv_goto (tgt := 18) hx hb dX7_hasPlace_14 (by decide) ?_
      obtain ⟨rfl, rfl⟩ := dc_ret hf
      exact W.zret (v := (1 : Int32)) hx hb hr (lh_nar_z (Or.inr rfl)) (fun t9 ht9 hW9 => ⟨⟨rfl, ⟨hm, (Or.inr rfl)⟩, by rw [ht9]; exact hW⟩, hS.F ht9⟩) hS.2.2 dX7_hasPlace_18
