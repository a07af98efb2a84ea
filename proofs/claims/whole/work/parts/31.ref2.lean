def f_X10_push (n : Nat) (S : lh_S) (t : Nat) (p1 : Int32) (p2 : Int32) (p3 : Int32) : Option (Unit × lh_S) :=
  dc_nn (gvR S 10 t 27) fun x2 =>
  dc_gd ((gvI S 10 t 32) < 0 ∨ gvL S 57 x2 ≤ ((gvI S 10 t 32)).toNatClampNeg) (
  dc_let (pvI S 57 x2 ((gvI S 10 t 32)).toNatClampNeg p1) fun S4 =>
  dc_nn (gvR S4 10 t 28) fun x7 =>
  dc_gd ((gvI S4 10 t 32) < 0 ∨ gvL S4 58 x7 ≤ ((gvI S4 10 t 32)).toNatClampNeg) (
  dc_let (pvI S4 58 x7 ((gvI S4 10 t 32)).toNatClampNeg p2) fun S9 =>
  dc_nn (gvR S9 10 t 29) fun x12 =>
  dc_gd ((gvI S9 10 t 32) < 0 ∨ gvL S9 59 x12 ≤ ((gvI S9 10 t 32)).toNatClampNeg) (
  dc_let (pvI S9 59 x12 ((gvI S9 10 t 32)).toNatClampNeg p3) fun S14 =>
  dc_nn (gvR S14 10 t 30) fun x17 =>
  dc_gd ((gvI S14 10 t 32) < 0 ∨ gvL S14 60 x17 ≤ ((gvI S14 10 t 32)).toNatClampNeg) (
  dc_let (pvI S14 60 x17 ((gvI S14 10 t 32)).toNatClampNeg (0 : Int32)) fun S19 =>
  dc_nn (gvR S19 10 t 31) fun x22 =>
  dc_gd ((gvI S19 10 t 32) < 0 ∨ gvL S19 61 x22 ≤ ((gvI S19 10 t 32)).toNatClampNeg) (
  dc_let (pvI S19 61 x22 ((gvI S19 10 t 32)).toNatClampNeg (0 : Int32)) fun S24 =>
  dc_let ((gvI S24 10 t 32) + (1 : Int32)) fun v26 =>
  dc_let (pvI S24 10 t 32 v26) fun S27 =>
  some ((), S27))))))
set_option maxHeartbeats 1000000 in
theorem m_X10_push {n : Nat} {S : lh_S} {t : Nat} {p1 : Int32} {p2 : Int32} {p3 : Int32} {r : Unit} {S' : lh_S} (hf : f_X10_push n S t p1 p2 p3 = some (r, S')) : ∀ b, gvN S b ≤ gvN S' b := by
  have hm : ∀ b, gvN S b ≤ gvN S b := fun _ => Nat.le_refl _
  unfold f_X10_push at hf
  obtain ⟨x2, hx2, hf⟩ := dc_nn_ok hf
  obtain ⟨g3, hf⟩ := dc_gd_ok hf
  obtain ⟨S4, eS4, hf⟩ := dc_let_ok hf
  have hm := lh_le_trans hm (show ∀ b, gvN S b ≤ gvN S4 b from by rw [eS4]; exact lh_mI)
  obtain ⟨x7, hx7, hf⟩ := dc_nn_ok hf
  obtain ⟨g8, hf⟩ := dc_gd_ok hf
  obtain ⟨S9, eS9, hf⟩ := dc_let_ok hf
  have hm := lh_le_trans hm (show ∀ b, gvN S4 b ≤ gvN S9 b from by rw [eS9]; exact lh_mI)
  obtain ⟨x12, hx12, hf⟩ := dc_nn_ok hf
  obtain ⟨g13, hf⟩ := dc_gd_ok hf
  obtain ⟨S14, eS14, hf⟩ := dc_let_ok hf
  have hm := lh_le_trans hm (show ∀ b, gvN S9 b ≤ gvN S14 b from by rw [eS14]; exact lh_mI)
  obtain ⟨x17, hx17, hf⟩ := dc_nn_ok hf
  obtain ⟨g18, hf⟩ := dc_gd_ok hf
  obtain ⟨S19, eS19, hf⟩ := dc_let_ok hf
  have hm := lh_le_trans hm (show ∀ b, gvN S14 b ≤ gvN S19 b from by rw [eS19]; exact lh_mI)
  obtain ⟨x22, hx22, hf⟩ := dc_nn_ok hf
  obtain ⟨g23, hf⟩ := dc_gd_ok hf
  obtain ⟨S24, eS24, hf⟩ := dc_let_ok hf
  have hm := lh_le_trans hm (show ∀ b, gvN S19 b ≤ gvN S24 b from by rw [eS24]; exact lh_mI)
  obtain ⟨v26, hv26, hf⟩ := dc_let_ok hf
  obtain ⟨S27, eS27, hf⟩ := dc_let_ok hf
  have hm := lh_le_trans hm (show ∀ b, gvN S24 b ≤ gvN S27 b from by rw [eS27]; exact lh_mI)
  obtain ⟨_, rfl⟩ := dc_ret hf
  exact hm
set_option maxHeartbeats 1000000 in
theorem k_X10_push {n : Nat} {S : lh_S} {t : Nat} {p1 : Int32} {p2 : Int32} {p3 : Int32} {r : Unit} {S' : lh_S} (hf : f_X10_push n S t p1 p2 p3 = some (r, S')) : lh_sm10 S S' := by
  have hm : lh_sm10 S S := lh_sm10_rf
  unfold f_X10_push at hf
  obtain ⟨x2, hx2, hf⟩ := dc_nn_ok hf
  obtain ⟨g3, hf⟩ := dc_gd_ok hf
  obtain ⟨S4, eS4, hf⟩ := dc_let_ok hf
  have hm := lh_sm10_trans hm (show lh_sm10 S S4 from by rw [eS4]; exact (lh_sm10I (by decide)))
  obtain ⟨x7, hx7, hf⟩ := dc_nn_ok hf
  obtain ⟨g8, hf⟩ := dc_gd_ok hf
  obtain ⟨S9, eS9, hf⟩ := dc_let_ok hf
  have hm := lh_sm10_trans hm (show lh_sm10 S4 S9 from by rw [eS9]; exact (lh_sm10I (by decide)))
  obtain ⟨x12, hx12, hf⟩ := dc_nn_ok hf
  obtain ⟨g13, hf⟩ := dc_gd_ok hf
  obtain ⟨S14, eS14, hf⟩ := dc_let_ok hf
  have hm := lh_sm10_trans hm (show lh_sm10 S9 S14 from by rw [eS14]; exact (lh_sm10I (by decide)))
  obtain ⟨x17, hx17, hf⟩ := dc_nn_ok hf
  obtain ⟨g18, hf⟩ := dc_gd_ok hf
  obtain ⟨S19, eS19, hf⟩ := dc_let_ok hf
  have hm := lh_sm10_trans hm (show lh_sm10 S14 S19 from by rw [eS19]; exact (lh_sm10I (by decide)))
  obtain ⟨x22, hx22, hf⟩ := dc_nn_ok hf
  obtain ⟨g23, hf⟩ := dc_gd_ok hf
  obtain ⟨S24, eS24, hf⟩ := dc_let_ok hf
  have hm := lh_sm10_trans hm (show lh_sm10 S19 S24 from by rw [eS24]; exact (lh_sm10I (by decide)))
  obtain ⟨v26, hv26, hf⟩ := dc_let_ok hf
  obtain ⟨S27, eS27, hf⟩ := dc_let_ok hf
  have hm := lh_sm10_trans hm (show lh_sm10 S24 S27 from by rw [eS27]; exact (lh_sm10I (by decide)))
  obtain ⟨_, rfl⟩ := dc_ret hf
  exact hm
set_option maxHeartbeats 4000000 in
set_option maxRecDepth 100000 in
theorem c_X10_push (l : Launch) (D : va_G) (cT : Nat → ClassId) (n : Nat) (S : lh_S) (ad : Nat → Nat → Nat) (A : Nat → Prop) (sz : Nat) (hA : ∀ q, sz ≤ q → A q) (t : Nat) (p1 : Int32) (p2 : Int32) (p3 : Int32) (r : Unit) (S' : lh_S) (hf : f_X10_push n S t p1 p2 p3 = some (r, S')) (L_t : ∀ j, some t = some j → j < gvN S 10) : Met l yX10_push wsX10_push ({ frames := 0, cells := 0, slots := 0, locals := 0 } : Room) (lh_P D cT S ad A sz [lh_r ad 10 (some t), .int p1, .int p2, .int p3]) (lh_Q D cT S' ad A ((∀ b, gvN S b ≤ gvN S' b) ∧ True) (none)) 0 0 A := by
  refine Met.ofW (cc := cX10_push) (maxL := 4) (ret := none) (by decide) rfl ?_
  intro p e s m args below meth c s₁ B hml hv
  obtain ⟨hargs, hsz, hW, hK, hN⟩ := hv
  have hx := B.exec
  have hb := B.bytes
  have hr := B.returns
  have hts := atoms_spec (ws := wsX10_push) B.pre
  have hown : s.vm.findClass RX10 = some m.cls := findClass_of_methodNamed B.named
  have hlocks := B.notSynchronized
  have hA : ∀ q, s.heap.size ≤ q → A q := fun q h => hA q (by rw [← hsz]; exact h)
  have ok := lh_W_ok hW
  have hm : ∀ b, gvN S b ≤ gvN S b := fun _ => Nat.le_refl _
  obtain ⟨ls, hent, hl⟩ := lh_entry m args [lh_r ad 10 (some t), .int p1, .int p2, .int p3] 4 [(0, lh_r ad 10 (some t)), (1, .int p1), (2, .int p2), (3, .int p3)] hargs (by simp [lv_args, lh_cat_r, lh_cat_i, lh_cat_j]) (by simp [lg_sl, lh_cat_r, lh_cat_i, lh_cat_j])
  rw [hent]
  generalize hH : s.heap = H at hW ⊢
  have hS : va_S A s.heap H [] := by rw [← hH]; exact va_S.rf
  unfold f_X10_push at hf
  refine lh_aload_n hx hb dX10_push_0 rfl (lv_at hl 0 rfl) ?_
  have L1 : ∀ j, gvR S 10 t 27 = some j → j < gvN S 57 := fun j h => ok _ _ _ _ j (L_t _ rfl) rfl h
  refine lh_get (a := 10) (k := 27) (N := 42) (C := RX10) (T := TX10) (own := RX10) (ref := "LoaderModelsModel") hx hb hts (fun _ h => (List.mem_cons_of_mem _ (List.mem_append_right _ h))) hown hK hW rfl (L_t _ rfl) rfl rfl rfl (by decide) (hts (.fieldLink RX10 79 "LoaderModelsModel" "sort" "[I") (List.mem_cons_of_mem _ (List.mem_append_left _ (List.mem_of_getElem? (i := 0) rfl)))) (fun _ h9 => h9) dX10_push_1 (v := lh_r ad 57 (gvR S 10 t 27)) rfl ?_
  refine lh_aload_n hx hb dX10_push_4 rfl (lv_at hl 0 rfl) ?_
  refine lh_get (a := 10) (k := 32) (N := 42) (C := RX10) (T := TX10) (own := RX10) (ref := "LoaderModelsModel") hx hb hts (fun _ h => (List.mem_cons_of_mem _ (List.mem_append_right _ h))) hown hK hW rfl (L_t _ rfl) rfl rfl rfl (by decide) (hts (.fieldLink RX10 151 "LoaderModelsModel" "open" "I") (List.mem_cons_of_mem _ (List.mem_append_left _ (List.mem_of_getElem? (i := 1) rfl)))) (fun _ h9 => h9) dX10_push_5 (v := .int (gvI S 10 t 32)) rfl ?_
  refine lv_iload_n hx hb dX10_push_8 rfl (lv_at hl 1 rfl) ?_
  obtain ⟨x2, hx2, hf⟩ := dc_nn_ok hf
  obtain ⟨g3, hf⟩ := dc_gd_ok hf
  obtain ⟨S4, eS4, hf⟩ := dc_let_ok hf
  refine lh_ast_i (a := 57) hx hb hK hW hS hx2 (L1 _ hx2) rfl (fun _ => rfl) g3 dX10_push_9 (fun H locs hW hS => ?_)
  rw [← eS4] at hW
  have m5 : ∀ b, gvN S b ≤ gvN S4 b := by rw [eS4]; exact lh_mI
  have L_t : ∀ j, some t = some j → j < gvN S4 10 := fun j h => Nat.lt_of_lt_of_le (L_t j h) (m5 _)
  have hm : ∀ b, gvN S b ≤ gvN S4 b := lh_le_trans hm m5
  have ok := lh_W_ok hW
  refine lh_aload_n hx hb dX10_push_10 rfl (lv_at hl 0 rfl) ?_
  have L6 : ∀ j, gvR S4 10 t 28 = some j → j < gvN S4 58 := fun j h => ok _ _ _ _ j (L_t _ rfl) rfl h
  refine lh_get (a := 10) (k := 28) (N := 42) (C := RX10) (T := TX10) (own := RX10) (ref := "LoaderModelsModel") hx hb hts (fun _ h => (List.mem_cons_of_mem _ (List.mem_append_right _ h))) hown hK hW rfl (L_t _ rfl) rfl rfl rfl (by decide) (hts (.fieldLink RX10 82 "LoaderModelsModel" "by" "[I") (List.mem_cons_of_mem _ (List.mem_append_left _ (List.mem_of_getElem? (i := 2) rfl)))) (fun _ h9 => h9) dX10_push_11 (v := lh_r ad 58 (gvR S4 10 t 28)) rfl ?_
  refine lh_aload_n hx hb dX10_push_14 rfl (lv_at hl 0 rfl) ?_
  refine lh_get (a := 10) (k := 32) (N := 42) (C := RX10) (T := TX10) (own := RX10) (ref := "LoaderModelsModel") hx hb hts (fun _ h => (List.mem_cons_of_mem _ (List.mem_append_right _ h))) hown hK hW rfl (L_t _ rfl) rfl rfl rfl (by decide) (hts (.fieldLink RX10 151 "LoaderModelsModel" "open" "I") (List.mem_cons_of_mem _ (List.mem_append_left _ (List.mem_of_getElem? (i := 1) rfl)))) (fun _ h9 => h9) dX10_push_15 (v := .int (gvI S4 10 t 32)) rfl ?_
  refine lv_iload_n hx hb dX10_push_18 rfl (lv_at hl 2 rfl) ?_
  obtain ⟨x7, hx7, hf⟩ := dc_nn_ok hf
  obtain ⟨g8, hf⟩ := dc_gd_ok hf
  obtain ⟨S9, eS9, hf⟩ := dc_let_ok hf
  refine lh_ast_i (a := 58) hx hb hK hW hS hx7 (L6 _ hx7) rfl (fun _ => rfl) g8 dX10_push_19 (fun H locs hW hS => ?_)
  rw [← eS9] at hW
  have m10 : ∀ b, gvN S4 b ≤ gvN S9 b := by rw [eS9]; exact lh_mI
  have L_t : ∀ j, some t = some j → j < gvN S9 10 := fun j h => Nat.lt_of_lt_of_le (L_t j h) (m10 _)
  have hm : ∀ b, gvN S b ≤ gvN S9 b := lh_le_trans hm m10
  have ok := lh_W_ok hW
  refine lh_aload_n hx hb dX10_push_20 rfl (lv_at hl 0 rfl) ?_
  have L11 : ∀ j, gvR S9 10 t 29 = some j → j < gvN S9 59 := fun j h => ok _ _ _ _ j (L_t _ rfl) rfl h
  refine lh_get (a := 10) (k := 29) (N := 42) (C := RX10) (T := TX10) (own := RX10) (ref := "LoaderModelsModel") hx hb hts (fun _ h => (List.mem_cons_of_mem _ (List.mem_append_right _ h))) hown hK hW rfl (L_t _ rfl) rfl rfl rfl (by decide) (hts (.fieldLink RX10 85 "LoaderModelsModel" "what" "[I") (List.mem_cons_of_mem _ (List.mem_append_left _ (List.mem_of_getElem? (i := 3) rfl)))) (fun _ h9 => h9) dX10_push_21 (v := lh_r ad 59 (gvR S9 10 t 29)) rfl ?_
  refine lh_aload_n hx hb dX10_push_24 rfl (lv_at hl 0 rfl) ?_
  refine lh_get (a := 10) (k := 32) (N := 42) (C := RX10) (T := TX10) (own := RX10) (ref := "LoaderModelsModel") hx hb hts (fun _ h => (List.mem_cons_of_mem _ (List.mem_append_right _ h))) hown hK hW rfl (L_t _ rfl) rfl rfl rfl (by decide) (hts (.fieldLink RX10 151 "LoaderModelsModel" "open" "I") (List.mem_cons_of_mem _ (List.mem_append_left _ (List.mem_of_getElem? (i := 1) rfl)))) (fun _ h9 => h9) dX10_push_25 (v := .int (gvI S9 10 t 32)) rfl ?_
  refine lv_iload_n hx hb dX10_push_28 rfl (lv_at hl 3 rfl) ?_
  obtain ⟨x12, hx12, hf⟩ := dc_nn_ok hf
  obtain ⟨g13, hf⟩ := dc_gd_ok hf
  obtain ⟨S14, eS14, hf⟩ := dc_let_ok hf
  refine lh_ast_i (a := 59) hx hb hK hW hS hx12 (L11 _ hx12) rfl (fun _ => rfl) g13 dX10_push_29 (fun H locs hW hS => ?_)
  rw [← eS14] at hW
  have m15 : ∀ b, gvN S9 b ≤ gvN S14 b := by rw [eS14]; exact lh_mI
  have L_t : ∀ j, some t = some j → j < gvN S14 10 := fun j h => Nat.lt_of_lt_of_le (L_t j h) (m15 _)
  have hm : ∀ b, gvN S b ≤ gvN S14 b := lh_le_trans hm m15
  have ok := lh_W_ok hW
  refine lh_aload_n hx hb dX10_push_30 rfl (lv_at hl 0 rfl) ?_
  have L16 : ∀ j, gvR S14 10 t 30 = some j → j < gvN S14 60 := fun j h => ok _ _ _ _ j (L_t _ rfl) rfl h
  refine lh_get (a := 10) (k := 30) (N := 42) (C := RX10) (T := TX10) (own := RX10) (ref := "LoaderModelsModel") hx hb hts (fun _ h => (List.mem_cons_of_mem _ (List.mem_append_right _ h))) hown hK hW rfl (L_t _ rfl) rfl rfl rfl (by decide) (hts (.fieldLink RX10 88 "LoaderModelsModel" "stage" "[I") (List.mem_cons_of_mem _ (List.mem_append_left _ (List.mem_of_getElem? (i := 4) rfl)))) (fun _ h9 => h9) dX10_push_31 (v := lh_r ad 60 (gvR S14 10 t 30)) rfl ?_
  refine lh_aload_n hx hb dX10_push_34 rfl (lv_at hl 0 rfl) ?_
  refine lh_get (a := 10) (k := 32) (N := 42) (C := RX10) (T := TX10) (own := RX10) (ref := "LoaderModelsModel") hx hb hts (fun _ h => (List.mem_cons_of_mem _ (List.mem_append_right _ h))) hown hK hW rfl (L_t _ rfl) rfl rfl rfl (by decide) (hts (.fieldLink RX10 151 "LoaderModelsModel" "open" "I") (List.mem_cons_of_mem _ (List.mem_append_left _ (List.mem_of_getElem? (i := 1) rfl)))) (fun _ h9 => h9) dX10_push_35 (v := .int (gvI S14 10 t 32)) rfl ?_
  refine lv_iconst (v := 0) hx hb dX10_push_38 (by decide) ?_
  obtain ⟨x17, hx17, hf⟩ := dc_nn_ok hf
  obtain ⟨g18, hf⟩ := dc_gd_ok hf
  obtain ⟨S19, eS19, hf⟩ := dc_let_ok hf
  refine lh_ast_i (a := 60) hx hb hK hW hS hx17 (L16 _ hx17) rfl (fun _ => rfl) g18 dX10_push_39 (fun H locs hW hS => ?_)
  rw [← eS19] at hW
  have m20 : ∀ b, gvN S14 b ≤ gvN S19 b := by rw [eS19]; exact lh_mI
  have L_t : ∀ j, some t = some j → j < gvN S19 10 := fun j h => Nat.lt_of_lt_of_le (L_t j h) (m20 _)
  have hm : ∀ b, gvN S b ≤ gvN S19 b := lh_le_trans hm m20
  have ok := lh_W_ok hW
  refine lh_aload_n hx hb dX10_push_40 rfl (lv_at hl 0 rfl) ?_
  have L21 : ∀ j, gvR S19 10 t 31 = some j → j < gvN S19 61 := fun j h => ok _ _ _ _ j (L_t _ rfl) rfl h
  refine lh_get (a := 10) (k := 31) (N := 42) (C := RX10) (T := TX10) (own := RX10) (ref := "LoaderModelsModel") hx hb hts (fun _ h => (List.mem_cons_of_mem _ (List.mem_append_right _ h))) hown hK hW rfl (L_t _ rfl) rfl rfl rfl (by decide) (hts (.fieldLink RX10 91 "LoaderModelsModel" "turn" "[I") (List.mem_cons_of_mem _ (List.mem_append_left _ (List.mem_of_getElem? (i := 5) rfl)))) (fun _ h9 => h9) dX10_push_41 (v := lh_r ad 61 (gvR S19 10 t 31)) rfl ?_
  refine lh_aload_n hx hb dX10_push_44 rfl (lv_at hl 0 rfl) ?_
  refine lh_get (a := 10) (k := 32) (N := 42) (C := RX10) (T := TX10) (own := RX10) (ref := "LoaderModelsModel") hx hb hts (fun _ h => (List.mem_cons_of_mem _ (List.mem_append_right _ h))) hown hK hW rfl (L_t _ rfl) rfl rfl rfl (by decide) (hts (.fieldLink RX10 151 "LoaderModelsModel" "open" "I") (List.mem_cons_of_mem _ (List.mem_append_left _ (List.mem_of_getElem? (i := 1) rfl)))) (fun _ h9 => h9) dX10_push_45 (v := .int (gvI S19 10 t 32)) rfl ?_
  refine lv_iconst (v := 0) hx hb dX10_push_48 (by decide) ?_
  obtain ⟨x22, hx22, hf⟩ := dc_nn_ok hf
  obtain ⟨g23, hf⟩ := dc_gd_ok hf
  obtain ⟨S24, eS24, hf⟩ := dc_let_ok hf
  refine lh_ast_i (a := 61) hx hb hK hW hS hx22 (L21 _ hx22) rfl (fun _ => rfl) g23 dX10_push_49 (fun H locs hW hS => ?_)
  rw [← eS24] at hW
  have m25 : ∀ b, gvN S19 b ≤ gvN S24 b := by rw [eS24]; exact lh_mI
  have L_t : ∀ j, some t = some j → j < gvN S24 10 := fun j h => Nat.lt_of_lt_of_le (L_t j h) (m25 _)
  have hm : ∀ b, gvN S b ≤ gvN S24 b := lh_le_trans hm m25
  have ok := lh_W_ok hW
  refine lh_aload_n hx hb dX10_push_50 rfl (lv_at hl 0 rfl) ?_
  refine lv_dup hx hb dX10_push_51 lh_cat_r ?_
  refine lh_get (a := 10) (k := 32) (N := 42) (C := RX10) (T := TX10) (own := RX10) (ref := "LoaderModelsModel") hx hb hts (fun _ h => (List.mem_cons_of_mem _ (List.mem_append_right _ h))) hown hK hW rfl (L_t _ rfl) rfl rfl rfl (by decide) (hts (.fieldLink RX10 151 "LoaderModelsModel" "open" "I") (List.mem_cons_of_mem _ (List.mem_append_left _ (List.mem_of_getElem? (i := 1) rfl)))) (fun _ h9 => h9) dX10_push_52 (v := .int (gvI S24 10 t 32)) rfl ?_
  refine lv_iconst (v := 1) hx hb dX10_push_55 (by decide) ?_
  refine lv_iadd hx hb dX10_push_56 ?_
  refine lv_topi (fun v26 hv26 => ?_)
  replace hf := dc_let_e hv26 hf
  obtain ⟨S27, eS27, hf⟩ := dc_let_ok hf
  refine lh_put (S' := S27) (a := 10) (k := 32) (N := 42) (C := RX10) (T := TX10) (own := RX10) (ref := "LoaderModelsModel") (ty := .int) hx hb hts (fun _ h => (List.mem_cons_of_mem _ (List.mem_append_right _ h))) tyX10 tyX10_ok nmX10 hown hK hW hS rfl (L_t _ rfl) rfl rfl rfl (by decide) (hts (.fieldLink RX10 151 "LoaderModelsModel" "open" "I") (List.mem_cons_of_mem _ (List.mem_append_left _ (List.mem_of_getElem? (i := 1) rfl)))) (fun _ h9 => h9) (Or.inl rfl) (by decide +kernel) rfl rfl (fun q9 => by rw [eS27]; exact lh_chI rfl q9) dX10_push_57 (fun H locs hW hS => ?_)
  have m28 : ∀ b, gvN S24 b ≤ gvN S27 b := by rw [eS27]; exact lh_mI
  have L_t : ∀ j, some t = some j → j < gvN S27 10 := fun j h => Nat.lt_of_lt_of_le (L_t j h) (m28 _)
  have hm : ∀ b, gvN S b ≤ gvN S27 b := lh_le_trans hm m28
  have ok := lh_W_ok hW
  obtain ⟨rfl, rfl⟩ := dc_ret hf
  exact W.vret hx hb hr (fun t9 ht9 hW9 => ⟨⟨rfl, ⟨hm, trivial⟩, by rw [ht9]; exact hW⟩, hS.F ht9⟩) hS.2.2 dX10_push_60
def f_X10_ends (n : Nat) (S : lh_S) (t : Nat) (p1 : Int32) : Option (Unit × lh_S) :=
  dc_let ((gvI S 10 t 32) - (1 : Int32)) fun v1 =>
  dc_let (pvI S 10 t 32 v1) fun S2 =>
  dc_let (pvI S2 10 t 34 p1) fun S4 =>
  some ((), S4)
set_option maxHeartbeats 1000000 in
theorem m_X10_ends {n : Nat} {S : lh_S} {t : Nat} {p1 : Int32} {r : Unit} {S' : lh_S} (hf : f_X10_ends n S t p1 = some (r, S')) : ∀ b, gvN S b ≤ gvN S' b := by
  have hm : ∀ b, gvN S b ≤ gvN S b := fun _ => Nat.le_refl _
  unfold f_X10_ends at hf
  obtain ⟨v1, hv1, hf⟩ := dc_let_ok hf
  obtain ⟨S2, eS2, hf⟩ := dc_let_ok hf
  have hm := lh_le_trans hm (show ∀ b, gvN S b ≤ gvN S2 b from by rw [eS2]; exact lh_mI)
  obtain ⟨S4, eS4, hf⟩ := dc_let_ok hf
  have hm := lh_le_trans hm (show ∀ b, gvN S2 b ≤ gvN S4 b from by rw [eS4]; exact lh_mI)
  obtain ⟨_, rfl⟩ := dc_ret hf
  exact hm
set_option maxHeartbeats 1000000 in
theorem k_X10_ends {n : Nat} {S : lh_S} {t : Nat} {p1 : Int32} {r : Unit} {S' : lh_S} (hf : f_X10_ends n S t p1 = some (r, S')) : lh_sm10 S S' := by
  have hm : lh_sm10 S S := lh_sm10_rf
  unfold f_X10_ends at hf
  obtain ⟨v1, hv1, hf⟩ := dc_let_ok hf
  obtain ⟨S2, eS2, hf⟩ := dc_let_ok hf
  have hm := lh_sm10_trans hm (show lh_sm10 S S2 from by rw [eS2]; exact (lh_sm10I (by decide)))
  obtain ⟨S4, eS4, hf⟩ := dc_let_ok hf
  have hm := lh_sm10_trans hm (show lh_sm10 S2 S4 from by rw [eS4]; exact (lh_sm10I (by decide)))
  obtain ⟨_, rfl⟩ := dc_ret hf
  exact hm
set_option maxHeartbeats 4000000 in
set_option maxRecDepth 100000 in
theorem c_X10_ends (l : Launch) (D : va_G) (cT : Nat → ClassId) (n : Nat) (S : lh_S) (ad : Nat → Nat → Nat) (A : Nat → Prop) (sz : Nat) (hA : ∀ q, sz ≤ q → A q) (t : Nat) (p1 : Int32) (r : Unit) (S' : lh_S) (hf : f_X10_ends n S t p1 = some (r, S')) (L_t : ∀ j, some t = some j → j < gvN S 10) : Met l yX10_ends wsX10_ends ({ frames := 0, cells := 0, slots := 0, locals := 0 } : Room) (lh_P D cT S ad A sz [lh_r ad 10 (some t), .int p1]) (lh_Q D cT S' ad A ((∀ b, gvN S b ≤ gvN S' b) ∧ True) (none)) 0 0 A := by
  refine Met.ofW (cc := cX10_ends) (maxL := 2) (ret := none) (by decide) rfl ?_
  intro p e s m args below meth c s₁ B hml hv
  obtain ⟨hargs, hsz, hW, hK, hN⟩ := hv
  have hx := B.exec
  have hb := B.bytes
  have hr := B.returns
  have hts := atoms_spec (ws := wsX10_ends) B.pre
  have hown : s.vm.findClass RX10 = some m.cls := findClass_of_methodNamed B.named
  have hlocks := B.notSynchronized
  have hA : ∀ q, s.heap.size ≤ q → A q := fun q h => hA q (by rw [← hsz]; exact h)
  have ok := lh_W_ok hW
  have hm : ∀ b, gvN S b ≤ gvN S b := fun _ => Nat.le_refl _
  obtain ⟨ls, hent, hl⟩ := lh_entry m args [lh_r ad 10 (some t), .int p1] 2 [(0, lh_r ad 10 (some t)), (1, .int p1)] hargs (by simp [lv_args, lh_cat_r, lh_cat_i, lh_cat_j]) (by simp [lg_sl, lh_cat_r, lh_cat_i, lh_cat_j])
  rw [hent]
  generalize hH : s.heap = H at hW ⊢
  have hS : va_S A s.heap H [] := by rw [← hH]; exact va_S.rf
  unfold f_X10_ends at hf
  refine lh_aload_n hx hb dX10_ends_0 rfl (lv_at hl 0 rfl) ?_
  refine lv_dup hx hb dX10_ends_1 lh_cat_r ?_
  refine lh_get (a := 10) (k := 32) (N := 42) (C := RX10) (T := TX10) (own := RX10) (ref := "LoaderModelsModel") hx hb hts (fun _ h => (List.mem_cons_of_mem _ (List.mem_append_right _ h))) hown hK hW rfl (L_t _ rfl) rfl rfl rfl (by decide) (hts (.fieldLink RX10 151 "LoaderModelsModel" "open" "I") (List.mem_cons_of_mem _ (List.mem_append_left _ (List.mem_of_getElem? (i := 0) rfl)))) (fun _ h9 => h9) dX10_ends_2 (v := .int (gvI S 10 t 32)) rfl ?_
  refine lv_iconst (v := 1) hx hb dX10_ends_5 (by decide) ?_
  refine lv_isub hx hb dX10_ends_6 ?_
  refine lv_topi (fun v1 hv1 => ?_)
  replace hf := dc_let_e hv1 hf
  obtain ⟨S2, eS2, hf⟩ := dc_let_ok hf
  refine lh_put (S' := S2) (a := 10) (k := 32) (N := 42) (C := RX10) (T := TX10) (own := RX10) (ref := "LoaderModelsModel") (ty := .int) hx hb hts (fun _ h => (List.mem_cons_of_mem _ (List.mem_append_right _ h))) tyX10 tyX10_ok nmX10 hown hK hW hS rfl (L_t _ rfl) rfl rfl rfl (by decide) (hts (.fieldLink RX10 151 "LoaderModelsModel" "open" "I") (List.mem_cons_of_mem _ (List.mem_append_left _ (List.mem_of_getElem? (i := 0) rfl)))) (fun _ h9 => h9) (Or.inl rfl) (by decide +kernel) rfl rfl (fun q9 => by rw [eS2]; exact lh_chI rfl q9) dX10_ends_7 (fun H locs hW hS => ?_)
  have m3 : ∀ b, gvN S b ≤ gvN S2 b := by rw [eS2]; exact lh_mI
  have L_t : ∀ j, some t = some j → j < gvN S2 10 := fun j h => Nat.lt_of_lt_of_le (L_t j h) (m3 _)
  have hm : ∀ b, gvN S b ≤ gvN S2 b := lh_le_trans hm m3
  have ok := lh_W_ok hW
  refine lh_aload_n hx hb dX10_ends_10 rfl (lv_at hl 0 rfl) ?_
  refine lv_iload_n hx hb dX10_ends_11 rfl (lv_at hl 1 rfl) ?_
  obtain ⟨S4, eS4, hf⟩ := dc_let_ok hf
  refine lh_put (S' := S4) (a := 10) (k := 34) (N := 42) (C := RX10) (T := TX10) (own := RX10) (ref := "LoaderModelsModel") (ty := .int) hx hb hts (fun _ h => (List.mem_cons_of_mem _ (List.mem_append_right _ h))) tyX10 tyX10_ok nmX10 hown hK hW hS rfl (L_t _ rfl) rfl rfl rfl (by decide) (hts (.fieldLink RX10 154 "LoaderModelsModel" "failure" "I") (List.mem_cons_of_mem _ (List.mem_append_left _ (List.mem_of_getElem? (i := 1) rfl)))) (fun _ h9 => h9) (Or.inl rfl) (by decide +kernel) rfl rfl (fun q9 => by rw [eS4]; exact lh_chI rfl q9) dX10_ends_12 (fun H locs hW hS => ?_)
  have m5 : ∀ b, gvN S2 b ≤ gvN S4 b := by rw [eS4]; exact lh_mI
  have L_t : ∀ j, some t = some j → j < gvN S4 10 := fun j h => Nat.lt_of_lt_of_le (L_t j h) (m5 _)
  have hm : ∀ b, gvN S b ≤ gvN S4 b := lh_le_trans hm m5
  have ok := lh_W_ok hW
  obtain ⟨rfl, rfl⟩ := dc_ret hf
  exact W.vret hx hb hr (fun t9 ht9 hW9 => ⟨⟨rfl, ⟨hm, trivial⟩, by rw [ht9]; exact hW⟩, hS.F ht9⟩) hS.2.2 dX10_ends_15
def f_X10_gives (n : Nat) (S : lh_S) (t : Nat) (p1 : Int32) : Option (Unit × lh_S) :=
  dc_let ((gvI S 10 t 32) - (1 : Int32)) fun v1 =>
  dc_let (pvI S 10 t 32 v1) fun S2 =>
  dc_let (pvI S2 10 t 34 (0 : Int32)) fun S4 =>
  dc_let (pvI S4 10 t 33 p1) fun S6 =>
  some ((), S6)
set_option maxHeartbeats 1000000 in
theorem m_X10_gives {n : Nat} {S : lh_S} {t : Nat} {p1 : Int32} {r : Unit} {S' : lh_S} (hf : f_X10_gives n S t p1 = some (r, S')) : ∀ b, gvN S b ≤ gvN S' b := by
  have hm : ∀ b, gvN S b ≤ gvN S b := fun _ => Nat.le_refl _
  unfold f_X10_gives at hf
  obtain ⟨v1, hv1, hf⟩ := dc_let_ok hf
  obtain ⟨S2, eS2, hf⟩ := dc_let_ok hf
  have hm := lh_le_trans hm (show ∀ b, gvN S b ≤ gvN S2 b from by rw [eS2]; exact lh_mI)
  obtain ⟨S4, eS4, hf⟩ := dc_let_ok hf
  have hm := lh_le_trans hm (show ∀ b, gvN S2 b ≤ gvN S4 b from by rw [eS4]; exact lh_mI)
  obtain ⟨S6, eS6, hf⟩ := dc_let_ok hf
  have hm := lh_le_trans hm (show ∀ b, gvN S4 b ≤ gvN S6 b from by rw [eS6]; exact lh_mI)
  obtain ⟨_, rfl⟩ := dc_ret hf
  exact hm
set_option maxHeartbeats 1000000 in
theorem k_X10_gives {n : Nat} {S : lh_S} {t : Nat} {p1 : Int32} {r : Unit} {S' : lh_S} (hf : f_X10_gives n S t p1 = some (r, S')) : lh_sm10 S S' := by
  have hm : lh_sm10 S S := lh_sm10_rf
  unfold f_X10_gives at hf
  obtain ⟨v1, hv1, hf⟩ := dc_let_ok hf
  obtain ⟨S2, eS2, hf⟩ := dc_let_ok hf
  have hm := lh_sm10_trans hm (show lh_sm10 S S2 from by rw [eS2]; exact (lh_sm10I (by decide)))
  obtain ⟨S4, eS4, hf⟩ := dc_let_ok hf
  have hm := lh_sm10_trans hm (show lh_sm10 S2 S4 from by rw [eS4]; exact (lh_sm10I (by decide)))
  obtain ⟨S6, eS6, hf⟩ := dc_let_ok hf
  have hm := lh_sm10_trans hm (show lh_sm10 S4 S6 from by rw [eS6]; exact (lh_sm10I (by decide)))
  obtain ⟨_, rfl⟩ := dc_ret hf
  exact hm
set_option maxHeartbeats 4000000 in
set_option maxRecDepth 100000 in
theorem c_X10_gives (l : Launch) (D : va_G) (cT : Nat → ClassId) (n : Nat) (S : lh_S) (ad : Nat → Nat → Nat) (A : Nat → Prop) (sz : Nat) (hA : ∀ q, sz ≤ q → A q) (t : Nat) (p1 : Int32) (r : Unit) (S' : lh_S) (hf : f_X10_gives n S t p1 = some (r, S')) (L_t : ∀ j, some t = some j → j < gvN S 10) : Met l yX10_gives wsX10_gives ({ frames := 0, cells := 0, slots := 0, locals := 0 } : Room) (lh_P D cT S ad A sz [lh_r ad 10 (some t), .int p1]) (lh_Q D cT S' ad A ((∀ b, gvN S b ≤ gvN S' b) ∧ True) (none)) 0 0 A := by
  refine Met.ofW (cc := cX10_gives) (maxL := 2) (ret := none) (by decide) rfl ?_
  intro p e s m args below meth c s₁ B hml hv
  obtain ⟨hargs, hsz, hW, hK, hN⟩ := hv
  have hx := B.exec
  have hb := B.bytes
  have hr := B.returns
  have hts := atoms_spec (ws := wsX10_gives) B.pre
  have hown : s.vm.findClass RX10 = some m.cls := findClass_of_methodNamed B.named
  have hlocks := B.notSynchronized
  have hA : ∀ q, s.heap.size ≤ q → A q := fun q h => hA q (by rw [← hsz]; exact h)
  have ok := lh_W_ok hW
  have hm : ∀ b, gvN S b ≤ gvN S b := fun _ => Nat.le_refl _
  obtain ⟨ls, hent, hl⟩ := lh_entry m args [lh_r ad 10 (some t), .int p1] 2 [(0, lh_r ad 10 (some t)), (1, .int p1)] hargs (by simp [lv_args, lh_cat_r, lh_cat_i, lh_cat_j]) (by simp [lg_sl, lh_cat_r, lh_cat_i, lh_cat_j])
  rw [hent]
  generalize hH : s.heap = H at hW ⊢
  have hS : va_S A s.heap H [] := by rw [← hH]; exact va_S.rf
  unfold f_X10_gives at hf
  refine lh_aload_n hx hb dX10_gives_0 rfl (lv_at hl 0 rfl) ?_
  refine lv_dup hx hb dX10_gives_1 lh_cat_r ?_
  refine lh_get (a := 10) (k := 32) (N := 42) (C := RX10) (T := TX10) (own := RX10) (ref := "LoaderModelsModel") hx hb hts (fun _ h => (List.mem_cons_of_mem _ (List.mem_append_right _ h))) hown hK hW rfl (L_t _ rfl) rfl rfl rfl (by decide) (hts (.fieldLink RX10 151 "LoaderModelsModel" "open" "I") (List.mem_cons_of_mem _ (List.mem_append_left _ (List.mem_of_getElem? (i := 0) rfl)))) (fun _ h9 => h9) dX10_gives_2 (v := .int (gvI S 10 t 32)) rfl ?_
  refine lv_iconst (v := 1) hx hb dX10_gives_5 (by decide) ?_
  refine lv_isub hx hb dX10_gives_6 ?_
  refine lv_topi (fun v1 hv1 => ?_)
  replace hf := dc_let_e hv1 hf
  obtain ⟨S2, eS2, hf⟩ := dc_let_ok hf
  refine lh_put (S' := S2) (a := 10) (k := 32) (N := 42) (C := RX10) (T := TX10) (own := RX10) (ref := "LoaderModelsModel") (ty := .int) hx hb hts (fun _ h => (List.mem_cons_of_mem _ (List.mem_append_right _ h))) tyX10 tyX10_ok nmX10 hown hK hW hS rfl (L_t _ rfl) rfl rfl rfl (by decide) (hts (.fieldLink RX10 151 "LoaderModelsModel" "open" "I") (List.mem_cons_of_mem _ (List.mem_append_left _ (List.mem_of_getElem? (i := 0) rfl)))) (fun _ h9 => h9) (Or.inl rfl) (by decide +kernel) rfl rfl (fun q9 => by rw [eS2]; exact lh_chI rfl q9) dX10_gives_7 (fun H locs hW hS => ?_)
  have m3 : ∀ b, gvN S b ≤ gvN S2 b := by rw [eS2]; exact lh_mI
  have L_t : ∀ j, some t = some j → j < gvN S2 10 := fun j h => Nat.lt_of_lt_of_le (L_t j h) (m3 _)
  have hm : ∀ b, gvN S b ≤ gvN S2 b := lh_le_trans hm m3
  have ok := lh_W_ok hW
  refine lh_aload_n hx hb dX10_gives_10 rfl (lv_at hl 0 rfl) ?_
  refine lv_iconst (v := 0) hx hb dX10_gives_11 (by decide) ?_
  obtain ⟨S4, eS4, hf⟩ := dc_let_ok hf
  refine lh_put (S' := S4) (a := 10) (k := 34) (N := 42) (C := RX10) (T := TX10) (own := RX10) (ref := "LoaderModelsModel") (ty := .int) hx hb hts (fun _ h => (List.mem_cons_of_mem _ (List.mem_append_right _ h))) tyX10 tyX10_ok nmX10 hown hK hW hS rfl (L_t _ rfl) rfl rfl rfl (by decide) (hts (.fieldLink RX10 154 "LoaderModelsModel" "failure" "I") (List.mem_cons_of_mem _ (List.mem_append_left _ (List.mem_of_getElem? (i := 1) rfl)))) (fun _ h9 => h9) (Or.inl rfl) (by decide +kernel) rfl rfl (fun q9 => by rw [eS4]; exact lh_chI rfl q9) dX10_gives_12 (fun H locs hW hS => ?_)
  have m5 : ∀ b, gvN S2 b ≤ gvN S4 b := by rw [eS4]; exact lh_mI
  have L_t : ∀ j, some t = some j → j < gvN S4 10 := fun j h => Nat.lt_of_lt_of_le (L_t j h) (m5 _)
  have hm : ∀ b, gvN S b ≤ gvN S4 b := lh_le_trans hm m5
  have ok := lh_W_ok hW
  refine lh_aload_n hx hb dX10_gives_15 rfl (lv_at hl 0 rfl) ?_
  refine lv_iload_n hx hb dX10_gives_16 rfl (lv_at hl 1 rfl) ?_
  obtain ⟨S6, eS6, hf⟩ := dc_let_ok hf
  refine lh_put (S' := S6) (a := 10) (k := 33) (N := 42) (C := RX10) (T := TX10) (own := RX10) (ref := "LoaderModelsModel") (ty := .int) hx hb hts (fun _ h => (List.mem_cons_of_mem _ (List.mem_append_right _ h))) tyX10 tyX10_ok nmX10 hown hK hW hS rfl (L_t _ rfl) rfl rfl rfl (by decide) (hts (.fieldLink RX10 157 "LoaderModelsModel" "came" "I") (List.mem_cons_of_mem _ (List.mem_append_left _ (List.mem_of_getElem? (i := 2) rfl)))) (fun _ h9 => h9) (Or.inl rfl) (by decide +kernel) rfl rfl (fun q9 => by rw [eS6]; exact lh_chI rfl q9) dX10_gives_17 (fun H locs hW hS => ?_)
  have m7 : ∀ b, gvN S4 b ≤ gvN S6 b := by rw [eS6]; exact lh_mI
  have L_t : ∀ j, some t = some j → j < gvN S6 10 := fun j h => Nat.lt_of_lt_of_le (L_t j h) (m7 _)
  have hm : ∀ b, gvN S b ≤ gvN S6 b := lh_le_trans hm m7
  have ok := lh_W_ok hW
  obtain ⟨rfl, rfl⟩ := dc_ret hf
  exact W.vret hx hb hr (fun t9 ht9 hW9 => ⟨⟨rfl, ⟨hm, trivial⟩, by rw [ht9]; exact hW⟩, hS.F ht9⟩) hS.2.2 dX10_gives_20
def f_X10_isBarred_L3 (n : Nat) (t : Nat) (p1 : Int32) (p2 : Int32) (p3 : Int32) : Nat → lh_S → Int32 → Option (Int32 × lh_S)
  | 0, _, _ => none
  | g + 1, S1, v2 =>
  dc_if ((gvI S1 10 t 10) ≤ v2) (
  some ((0 : Int32), S1)) (
  dc_nn (gvR S1 10 t 16) fun x5 =>
  dc_gd ((((40 : Int32) * v2) + p2) < 0 ∨ gvL S1 46 x5 ≤ ((((40 : Int32) * v2) + p2)).toNatClampNeg) (
  dc_gd ((((40 : Int32) * p1) + p2) < 0 ∨ gvL S1 46 x5 ≤ ((((40 : Int32) * p1) + p2)).toNatClampNeg) (
  dc_if ((gvI S1 46 x5 ((((40 : Int32) * v2) + p2)).toNatClampNeg) = (gvI S1 46 x5 ((((40 : Int32) * p1) + p2)).toNatClampNeg)) (
  dc_nn (gvR S1 10 t 14) fun x11 =>
  dc_gd ((((40 : Int32) * v2) + p2) < 0 ∨ gvL S1 44 x11 ≤ ((((40 : Int32) * v2) + p2)).toNatClampNeg) (
  dc_if ((gvI S1 44 x11 ((((40 : Int32) * v2) + p2)).toNatClampNeg) ≤ 0) (
  f_X10_isBarred_L3 n t p1 p2 p3 g S1 (v2 + (1 : Int32))) (
  dc_gd ((((40 : Int32) * v2) + p2) < 0 ∨ gvL S1 44 x11 ≤ ((((40 : Int32) * v2) + p2)).toNatClampNeg) (
  dc_if ((gvI S1 44 x11 ((((40 : Int32) * v2) + p2)).toNatClampNeg) = (p3 + (1 : Int32))) (
  f_X10_isBarred_L3 n t p1 p2 p3 g S1 (v2 + (1 : Int32))) (
  some ((1 : Int32), S1)))))) (
  f_X10_isBarred_L3 n t p1 p2 p3 g S1 (v2 + (1 : Int32))))))
theorem m_X10_isBarred_L3 {n : Nat} {t : Nat} {p1 : Int32} {p2 : Int32} {p3 : Int32} {r : Int32} {S' : lh_S} : ∀ (g : Nat) (S1 : lh_S) (v2 : Int32), f_X10_isBarred_L3 n t p1 p2 p3 g S1 v2 = some (r, S') → ∀ b, gvN S1 b ≤ gvN S' b := by
    intro g
    induction g with
    | zero => intro S1 v2 hf; rw [f_X10_isBarred_L3] at hf; cases hf
    | succ g ih =>
      intro S1 v2 hf
      rw [f_X10_isBarred_L3] at hf
      have hm : ∀ b, gvN S1 b ≤ gvN S1 b := fun _ => Nat.le_refl _
      by_cases c3 : (gvI S1 10 t 10) ≤ v2
      · replace hf := dc_if_t c3 hf
        obtain ⟨_, rfl⟩ := dc_ret hf
        exact hm
      · replace hf := dc_if_f c3 hf
        obtain ⟨x5, hx5, hf⟩ := dc_nn_ok hf
        obtain ⟨g6, hf⟩ := dc_gd_ok hf
        obtain ⟨g8, hf⟩ := dc_gd_ok hf
        by_cases c9 : (gvI S1 46 x5 ((((40 : Int32) * v2) + p2)).toNatClampNeg) = (gvI S1 46 x5 ((((40 : Int32) * p1) + p2)).toNatClampNeg)
        · replace hf := dc_if_t c9 hf
          obtain ⟨x11, hx11, hf⟩ := dc_nn_ok hf
          obtain ⟨g12, hf⟩ := dc_gd_ok hf
          by_cases c13 : (gvI S1 44 x11 ((((40 : Int32) * v2) + p2)).toNatClampNeg) ≤ 0
          · replace hf := dc_if_t c13 hf
            exact lh_le_trans hm (ih S1 (v2 + (1 : Int32)) hf)
          · replace hf := dc_if_f c13 hf
            obtain ⟨g15, hf⟩ := dc_gd_ok hf
            by_cases c16 : (gvI S1 44 x11 ((((40 : Int32) * v2) + p2)).toNatClampNeg) = (p3 + (1 : Int32))
            · replace hf := dc_if_t c16 hf
              exact lh_le_trans hm (ih S1 (v2 + (1 : Int32)) hf)
            · replace hf := dc_if_f c16 hf
              obtain ⟨_, rfl⟩ := dc_ret hf
              exact hm
        · replace hf := dc_if_f c9 hf
          exact lh_le_trans hm (ih S1 (v2 + (1 : Int32)) hf)
theorem k_X10_isBarred_L3 {n : Nat} {t : Nat} {p1 : Int32} {p2 : Int32} {p3 : Int32} {r : Int32} {S' : lh_S} : ∀ (g : Nat) (S1 : lh_S) (v2 : Int32), f_X10_isBarred_L3 n t p1 p2 p3 g S1 v2 = some (r, S') → lh_sm10 S1 S' := by
    intro g
    induction g with
    | zero => intro S1 v2 hf; rw [f_X10_isBarred_L3] at hf; cases hf
    | succ g ih =>
      intro S1 v2 hf
      rw [f_X10_isBarred_L3] at hf
      have hm : lh_sm10 S1 S1 := lh_sm10_rf
      by_cases c3 : (gvI S1 10 t 10) ≤ v2
      · replace hf := dc_if_t c3 hf
        obtain ⟨_, rfl⟩ := dc_ret hf
        exact hm
      · replace hf := dc_if_f c3 hf
        obtain ⟨x5, hx5, hf⟩ := dc_nn_ok hf
        obtain ⟨g6, hf⟩ := dc_gd_ok hf
        obtain ⟨g8, hf⟩ := dc_gd_ok hf
        by_cases c9 : (gvI S1 46 x5 ((((40 : Int32) * v2) + p2)).toNatClampNeg) = (gvI S1 46 x5 ((((40 : Int32) * p1) + p2)).toNatClampNeg)
        · replace hf := dc_if_t c9 hf
          obtain ⟨x11, hx11, hf⟩ := dc_nn_ok hf
          obtain ⟨g12, hf⟩ := dc_gd_ok hf
          by_cases c13 : (gvI S1 44 x11 ((((40 : Int32) * v2) + p2)).toNatClampNeg) ≤ 0
          · replace hf := dc_if_t c13 hf
            exact lh_sm10_trans hm (ih S1 (v2 + (1 : Int32)) hf)
          · replace hf := dc_if_f c13 hf
            obtain ⟨g15, hf⟩ := dc_gd_ok hf
            by_cases c16 : (gvI S1 44 x11 ((((40 : Int32) * v2) + p2)).toNatClampNeg) = (p3 + (1 : Int32))
            · replace hf := dc_if_t c16 hf
              exact lh_sm10_trans hm (ih S1 (v2 + (1 : Int32)) hf)
            · replace hf := dc_if_f c16 hf
              obtain ⟨_, rfl⟩ := dc_ret hf
              exact hm
        · replace hf := dc_if_f c9 hf
          exact lh_sm10_trans hm (ih S1 (v2 + (1 : Int32)) hf)
def f_X10_isBarred (n : Nat) (S : lh_S) (t : Nat) (p1 : Int32) (p2 : Int32) (p3 : Int32) : Option (Int32 × lh_S) :=
  f_X10_isBarred_L3 n t p1 p2 p3 n S (0 : Int32)
set_option maxHeartbeats 1000000 in
theorem m_X10_isBarred {n : Nat} {S : lh_S} {t : Nat} {p1 : Int32} {p2 : Int32} {p3 : Int32} {r : Int32} {S' : lh_S} (hf : f_X10_isBarred n S t p1 p2 p3 = some (r, S')) : ∀ b, gvN S b ≤ gvN S' b := by
  have hm : ∀ b, gvN S b ≤ gvN S b := fun _ => Nat.le_refl _
  unfold f_X10_isBarred at hf
  exact lh_le_trans hm (m_X10_isBarred_L3 n S (0 : Int32) hf)
set_option maxHeartbeats 1000000 in
theorem k_X10_isBarred {n : Nat} {S : lh_S} {t : Nat} {p1 : Int32} {p2 : Int32} {p3 : Int32} {r : Int32} {S' : lh_S} (hf : f_X10_isBarred n S t p1 p2 p3 = some (r, S')) : lh_sm10 S S' := by
  have hm : lh_sm10 S S := lh_sm10_rf
  unfold f_X10_isBarred at hf
  exact lh_sm10_trans hm (k_X10_isBarred_L3 n S (0 : Int32) hf)
set_option maxHeartbeats 4000000 in
set_option maxRecDepth 100000 in
theorem c_X10_isBarred (l : Launch) (D : va_G) (cT : Nat → ClassId) (n : Nat) (S : lh_S) (ad : Nat → Nat → Nat) (A : Nat → Prop) (sz : Nat) (hA : ∀ q, sz ≤ q → A q) (t : Nat) (p1 : Int32) (p2 : Int32) (p3 : Int32) (r : Int32) (S' : lh_S) (hf : f_X10_isBarred n S t p1 p2 p3 = some (r, S')) (L_t : ∀ j, some t = some j → j < gvN S 10) : Met l yX10_isBarred wsX10_isBarred ({ frames := 0, cells := 0, slots := 0, locals := 0 } : Room) (lh_P D cT S ad A sz [lh_r ad 10 (some t), .int p1, .int p2, .int p3]) (lh_Q D cT S' ad A ((∀ b, gvN S b ≤ gvN S' b) ∧ (r = 0 ∨ r = 1)) (some (.int r))) 0 0 A := by
  refine Met.ofW (cc := cX10_isBarred) (maxL := 6) (ret := (some .boolean)) (by decide) rfl ?_
  intro p e s m args below meth c s₁ B hml hv
  obtain ⟨hargs, hsz, hW, hK, hN⟩ := hv
  have hx := B.exec
  have hb := B.bytes
  have hr := B.returns
  have hts := atoms_spec (ws := wsX10_isBarred) B.pre
  have hown : s.vm.findClass RX10 = some m.cls := findClass_of_methodNamed B.named
  have hlocks := B.notSynchronized
  have hA : ∀ q, s.heap.size ≤ q → A q := fun q h => hA q (by rw [← hsz]; exact h)
  have L3 : ∀ (g : Nat) (S1 : lh_S) (v2 : Int32), f_X10_isBarred_L3 n t p1 p2 p3 g S1 v2 = some (r, S') → (∀ b, gvN S b ≤ gvN S1 b) → ∀ (H : Heap) (locs : List Loc), lh_W D cT S1 ad A H → va_S A s.heap H locs → ∀ (ls : Array Slot), lv_has ls 6 [(0, lh_r ad 10 (some t)), (1, .int p1), (2, .int p2), (3, .int p3), (4, .int v2)] → W p l e (headSpec wsX10_isBarred ({ frames := 0, cells := 0, slots := 0, locals := 0 } : Room)).room s m args below meth c H locs 0 0 (MQ below (lh_Q D cT S' ad A ((∀ b, gvN S b ≤ gvN S' b) ∧ (r = 0 ∨ r = 1)) (some (.int r))) args s 0 0 A) (F0 m 3 ls []) := by
    intro g
    induction g with
    | zero => intro S1 v2 hf; rw [f_X10_isBarred_L3] at hf; cases hf
    | succ g ih =>
      intro S1 v2 hf hm H locs hW hS ls hl
      rw [f_X10_isBarred_L3] at hf
      have ok := lh_W_ok hW
      have L_t : ∀ j, some t = some j → j < gvN S1 10 := fun j h => Nat.lt_of_lt_of_le (L_t j h) (hm _)
      refine lv_iload hx hb dX10_isBarred_3 (lv_at hl 4 rfl) ?_
      refine lh_aload_n hx hb dX10_isBarred_5 rfl (lv_at hl 0 rfl) ?_
      refine lh_get (a := 10) (k := 10) (N := 42) (C := RX10) (T := TX10) (own := RX10) (ref := "LoaderModelsModel") hx hb hts (fun _ h => (List.mem_cons_of_mem _ (List.mem_append_right _ h))) hown hK hW rfl (L_t _ rfl) rfl rfl rfl (by decide) (hts (.fieldLink RX10 120 "LoaderModelsModel" "loaders" "I") (List.mem_cons_of_mem _ (List.mem_append_left _ (List.mem_of_getElem? (i := 0) rfl)))) (fun _ h9 => h9) dX10_isBarred_6 (v := .int (gvI S1 10 t 10)) rfl ?_
      refine lv_icmp_ge (tgt := 73) hx hb dX10_isBarred_9 (by decide) (fun c3 => ?_) (fun c3 => ?_)
      · replace hf := dc_if_t c3 hf
        refine lv_iconst (v := 0) hx hb dX10_isBarred_73 (by decide) ?_
        obtain ⟨rfl, rfl⟩ := dc_ret hf
        exact W.zret (v := (0 : Int32)) hx hb hr (lh_nar_z (Or.inl rfl)) (fun t9 ht9 hW9 => ⟨⟨rfl, ⟨hm, (Or.inl rfl)⟩, by rw [ht9]; exact hW⟩, hS.F ht9⟩) hS.2.2 dX10_isBarred_74
      · replace hf := dc_if_f c3 hf
        refine lv_bipush (v := 40) hx hb dX10_isBarred_12 (by decide) ?_
        refine lv_iload hx hb dX10_isBarred_14 (lv_at hl 4 rfl) ?_
        refine lv_imul hx hb dX10_isBarred_16 ?_
        refine lv_iload_n hx hb dX10_isBarred_17 rfl (lv_at hl 2 rfl) ?_
        refine lv_iadd hx hb dX10_isBarred_18 ?_
        refine lv_istore (i := 5) (lv' := [(5, .int (((40 : Int32) * v2) + p2)), (0, lh_r ad 10 (some t)), (1, .int p1), (2, .int p2), (3, .int p3), (4, .int v2)]) hx hb dX10_isBarred_19 hl (by decide) (by first | rfl | simp [lh_cat_r, lh_cat_i, lh_cat_j]) (fun ls hl => ?_)
        refine lh_aload_n hx hb dX10_isBarred_21 rfl (lv_at hl 1 rfl) ?_
        have L4 : ∀ j, gvR S1 10 t 16 = some j → j < gvN S1 46 := fun j h => ok _ _ _ _ j (L_t _ rfl) rfl h
        refine lh_get (a := 10) (k := 16) (N := 42) (C := RX10) (T := TX10) (own := RX10) (ref := "LoaderModelsModel") hx hb hts (fun _ h => (List.mem_cons_of_mem _ (List.mem_append_right _ h))) hown hK hW rfl (L_t _ rfl) rfl rfl rfl (by decide) (hts (.fieldLink RX10 54 "LoaderModelsModel" "group" "[I") (List.mem_cons_of_mem _ (List.mem_append_left _ (List.mem_of_getElem? (i := 1) rfl)))) (fun _ h9 => h9) dX10_isBarred_22 (v := lh_r ad 46 (gvR S1 10 t 16)) rfl ?_
        refine lv_iload hx hb dX10_isBarred_25 (lv_at hl 0 rfl) ?_
        obtain ⟨x5, hx5, hf⟩ := dc_nn_ok hf
        obtain ⟨g6, hf⟩ := dc_gd_ok hf
        refine lh_ald_i (a := 46) hx hb hK hW hx5 (L4 _ hx5) rfl rfl g6 dX10_isBarred_27 ?_
        refine lh_aload_n hx hb dX10_isBarred_28 rfl (lv_at hl 1 rfl) ?_
        have L7 : ∀ j, gvR S1 10 t 16 = some j → j < gvN S1 46 := fun j h => ok _ _ _ _ j (L_t _ rfl) rfl h
        refine lh_get (a := 10) (k := 16) (N := 42) (C := RX10) (T := TX10) (own := RX10) (ref := "LoaderModelsModel") hx hb hts (fun _ h => (List.mem_cons_of_mem _ (List.mem_append_right _ h))) hown hK hW rfl (L_t _ rfl) rfl rfl rfl (by decide) (hts (.fieldLink RX10 54 "LoaderModelsModel" "group" "[I") (List.mem_cons_of_mem _ (List.mem_append_left _ (List.mem_of_getElem? (i := 1) rfl)))) (fun _ h9 => h9) dX10_isBarred_29 (v := lh_r ad 46 (gvR S1 10 t 16)) rfl ?_
        refine lv_bipush (v := 40) hx hb dX10_isBarred_32 (by decide) ?_
        refine lv_iload_n hx hb dX10_isBarred_34 rfl (lv_at hl 2 rfl) ?_
        refine lv_imul hx hb dX10_isBarred_35 ?_
        refine lv_iload_n hx hb dX10_isBarred_36 rfl (lv_at hl 3 rfl) ?_
        refine lv_iadd hx hb dX10_isBarred_37 ?_
        obtain ⟨g8, hf⟩ := dc_gd_ok hf
        refine lh_ald_i (a := 46) hx hb hK hW hx5 (L7 _ hx5) rfl rfl g8 dX10_isBarred_38 ?_
        refine lv_icmp_ne (tgt := 67) hx hb dX10_isBarred_39 (by decide) (fun c9 => ?_) (fun c9 => ?_)
        · replace hf := dc_if_f c9 hf
          refine lv_iinc (v := v2 + (1 : Int32)) (lv' := [(4, .int (v2 + (1 : Int32))), (5, .int (((40 : Int32) * v2) + p2)), (0, lh_r ad 10 (some t)), (1, .int p1), (2, .int p2), (3, .int p3)]) hx hb dX10_isBarred_67 hl (k := 5) rfl (by first | rfl | decide) (by decide) (by first | rfl | simp [lh_cat_r, lh_cat_i, lh_cat_j]) (fun ls hl => ?_)
          refine lv_goto (tgt := 3) hx hb dX10_isBarred_70 (by decide) ?_
          exact ih S1 (v2 + (1 : Int32)) hf hm _ _ hW hS _ (lv_sub hl [2, 3, 4, 5, 0] (by first | rfl | simp [lv_pick]))
        · replace hf := dc_if_t c9 hf
          refine lh_aload_n hx hb dX10_isBarred_42 rfl (lv_at hl 1 rfl) ?_
          have L10 : ∀ j, gvR S1 10 t 14 = some j → j < gvN S1 44 := fun j h => ok _ _ _ _ j (L_t _ rfl) rfl h
          refine lh_get (a := 10) (k := 14) (N := 42) (C := RX10) (T := TX10) (own := RX10) (ref := "LoaderModelsModel") hx hb hts (fun _ h => (List.mem_cons_of_mem _ (List.mem_append_right _ h))) hown hK hW rfl (L_t _ rfl) rfl rfl rfl (by decide) (hts (.fieldLink RX10 48 "LoaderModelsModel" "knows" "[I") (List.mem_cons_of_mem _ (List.mem_append_left _ (List.mem_of_getElem? (i := 2) rfl)))) (fun _ h9 => h9) dX10_isBarred_43 (v := lh_r ad 44 (gvR S1 10 t 14)) rfl ?_
          refine lv_iload hx hb dX10_isBarred_46 (lv_at hl 0 rfl) ?_
          obtain ⟨x11, hx11, hf⟩ := dc_nn_ok hf
          obtain ⟨g12, hf⟩ := dc_gd_ok hf
          refine lh_ald_i (a := 44) hx hb hK hW hx11 (L10 _ hx11) rfl rfl g12 dX10_isBarred_48 ?_
          refine lv_if_le (tgt := 67) hx hb dX10_isBarred_49 (by decide) (fun c13 => ?_) (fun c13 => ?_)
          · replace hf := dc_if_t c13 hf
            refine lv_iinc (v := v2 + (1 : Int32)) (lv' := [(4, .int (v2 + (1 : Int32))), (5, .int (((40 : Int32) * v2) + p2)), (0, lh_r ad 10 (some t)), (1, .int p1), (2, .int p2), (3, .int p3)]) hx hb dX10_isBarred_67 hl (k := 5) rfl (by first | rfl | decide) (by decide) (by first | rfl | simp [lh_cat_r, lh_cat_i, lh_cat_j]) (fun ls hl => ?_)
            refine lv_goto (tgt := 3) hx hb dX10_isBarred_70 (by decide) ?_
            exact ih S1 (v2 + (1 : Int32)) hf hm _ _ hW hS _ (lv_sub hl [2, 3, 4, 5, 0] (by first | rfl | simp [lv_pick]))
          · replace hf := dc_if_f c13 hf
            refine lh_aload_n hx hb dX10_isBarred_52 rfl (lv_at hl 1 rfl) ?_
            have L14 : ∀ j, gvR S1 10 t 14 = some j → j < gvN S1 44 := fun j h => ok _ _ _ _ j (L_t _ rfl) rfl h
            refine lh_get (a := 10) (k := 14) (N := 42) (C := RX10) (T := TX10) (own := RX10) (ref := "LoaderModelsModel") hx hb hts (fun _ h => (List.mem_cons_of_mem _ (List.mem_append_right _ h))) hown hK hW rfl (L_t _ rfl) rfl rfl rfl (by decide) (hts (.fieldLink RX10 48 "LoaderModelsModel" "knows" "[I") (List.mem_cons_of_mem _ (List.mem_append_left _ (List.mem_of_getElem? (i := 2) rfl)))) (fun _ h9 => h9) dX10_isBarred_53 (v := lh_r ad 44 (gvR S1 10 t 14)) rfl ?_
            refine lv_iload hx hb dX10_isBarred_56 (lv_at hl 0 rfl) ?_
            obtain ⟨g15, hf⟩ := dc_gd_ok hf
            refine lh_ald_i (a := 44) hx hb hK hW hx11 (L14 _ hx11) rfl rfl g15 dX10_isBarred_58 ?_
            refine lv_iload_n hx hb dX10_isBarred_59 rfl (lv_at hl 4 rfl) ?_
            refine lv_iconst (v := 1) hx hb dX10_isBarred_60 (by decide) ?_
            refine lv_iadd hx hb dX10_isBarred_61 ?_
            refine lv_icmp_eq (tgt := 67) hx hb dX10_isBarred_62 (by decide) (fun c16 => ?_) (fun c16 => ?_)
            · replace hf := dc_if_t c16 hf
              refine lv_iinc (v := v2 + (1 : Int32)) (lv' := [(4, .int (v2 + (1 : Int32))), (5, .int (((40 : Int32) * v2) + p2)), (0, lh_r ad 10 (some t)), (1, .int p1), (2, .int p2), (3, .int p3)]) hx hb dX10_isBarred_67 hl (k := 5) rfl (by first | rfl | decide) (by decide) (by first | rfl | simp [lh_cat_r, lh_cat_i, lh_cat_j]) (fun ls hl => ?_)
              refine lv_goto (tgt := 3) hx hb dX10_isBarred_70 (by decide) ?_
              exact ih S1 (v2 + (1 : Int32)) hf hm _ _ hW hS _ (lv_sub hl [2, 3, 4, 5, 0] (by first | rfl | simp [lv_pick]))
            · replace hf := dc_if_f c16 hf
              refine lv_iconst (v := 1) hx hb dX10_isBarred_65 (by decide) ?_
              obtain ⟨rfl, rfl⟩ := dc_ret hf
              exact W.zret (v := (1 : Int32)) hx hb hr (lh_nar_z (Or.inr rfl)) (fun t9 ht9 hW9 => ⟨⟨rfl, ⟨hm, (Or.inr rfl)⟩, by rw [ht9]; exact hW⟩, hS.F ht9⟩) hS.2.2 dX10_isBarred_66
  have ok := lh_W_ok hW
  have hm : ∀ b, gvN S b ≤ gvN S b := fun _ => Nat.le_refl _
  obtain ⟨ls, hent, hl⟩ := lh_entry m args [lh_r ad 10 (some t), .int p1, .int p2, .int p3] 6 [(0, lh_r ad 10 (some t)), (1, .int p1), (2, .int p2), (3, .int p3)] hargs (by simp [lv_args, lh_cat_r, lh_cat_i, lh_cat_j]) (by simp [lg_sl, lh_cat_r, lh_cat_i, lh_cat_j])
  rw [hent]
  generalize hH : s.heap = H at hW ⊢
  have hS : va_S A s.heap H [] := by rw [← hH]; exact va_S.rf
  unfold f_X10_isBarred at hf
  refine lv_iconst (v := 0) hx hb dX10_isBarred_0 (by decide) ?_
  refine lv_istore (i := 4) (lv' := [(4, .int (0 : Int32)), (0, lh_r ad 10 (some t)), (1, .int p1), (2, .int p2), (3, .int p3)]) hx hb dX10_isBarred_1 hl (by decide) (by first | rfl | simp [lh_cat_r, lh_cat_i, lh_cat_j]) (fun ls hl => ?_)
  exact L3 n S (0 : Int32) hf hm _ _ hW hS _ (lv_sub hl [1, 2, 3, 4, 0] (by first | rfl | simp [lv_pick]))
def f_X10_makes (n : Nat) (S : lh_S) (t : Nat) (p1 : Int32) (p2 : Int32) (p3 : Int32) : Option (Unit × lh_S) :=
  dc_nn (gvR S 10 t 2) fun x2 =>
  dc_gd (p2 < 0 ∨ gvL S 32 x2 ≤ (p2).toNatClampNeg) (
  dc_bd (f_X10_isBarred n S t p1 (gvI S 32 x2 (p2).toNatClampNeg) (40 : Int32)) fun r4 S5 =>
  dc_if (r4 = 0) (
  dc_if ((gvI S5 10 t 17) = (40 : Int32)) (
  dc_bd (f_X10_ends n S5 t (12 : Int32)) fun r45 S46 =>
  some ((), S46)) (
  dc_let ((gvI S5 10 t 17) + (1 : Int32)) fun v11 =>
  dc_let (pvI S5 10 t 17 v11) fun S12 =>
  dc_nn (gvR S12 10 t 18) fun x15 =>
  dc_gd ((gvI S5 10 t 17) < 0 ∨ gvL S12 48 x15 ≤ ((gvI S5 10 t 17)).toNatClampNeg) (
  dc_let (pvI S12 48 x15 ((gvI S5 10 t 17)).toNatClampNeg (gvI S 32 x2 (p2).toNatClampNeg)) fun S17 =>
  dc_nn (gvR S17 10 t 19) fun x20 =>
  dc_gd ((gvI S5 10 t 17) < 0 ∨ gvL S17 49 x20 ≤ ((gvI S5 10 t 17)).toNatClampNeg) (
  dc_let (pvI S17 49 x20 ((gvI S5 10 t 17)).toNatClampNeg p1) fun S22 =>
  dc_nn (gvR S22 10 t 20) fun x25 =>
  dc_gd ((gvI S5 10 t 17) < 0 ∨ gvL S22 50 x25 ≤ ((gvI S5 10 t 17)).toNatClampNeg) (
  dc_let (pvI S22 50 x25 ((gvI S5 10 t 17)).toNatClampNeg p2) fun S27 =>
  dc_nn (gvR S27 10 t 21) fun x30 =>
  dc_gd ((gvI S5 10 t 17) < 0 ∨ gvL S27 51 x30 ≤ ((gvI S5 10 t 17)).toNatClampNeg) (
  dc_let (pvI S27 51 x30 ((gvI S5 10 t 17)).toNatClampNeg p3) fun S32 =>
  dc_let (((40 : Int32) * p1) + (gvI S 32 x2 (p2).toNatClampNeg)) fun v35 =>
  dc_let ((gvI S5 10 t 17) + (1 : Int32)) fun v36 =>
  dc_nn (gvR S32 10 t 14) fun x37 =>
  dc_gd (v35 < 0 ∨ gvL S32 44 x37 ≤ (v35).toNatClampNeg) (
  dc_let (pvI S32 44 x37 (v35).toNatClampNeg v36) fun S39 =>
  dc_bd (f_X10_gives n S39 t (gvI S5 10 t 17)) fun r41 S42 =>
  some ((), S42)))))))) (
  dc_bd (f_X10_ends n S5 t (3 : Int32)) fun r49 S50 =>
  some ((), S50)))
set_option maxHeartbeats 1000000 in
theorem m_X10_makes {n : Nat} {S : lh_S} {t : Nat} {p1 : Int32} {p2 : Int32} {p3 : Int32} {r : Unit} {S' : lh_S} (hf : f_X10_makes n S t p1 p2 p3 = some (r, S')) : ∀ b, gvN S b ≤ gvN S' b := by
  have hm : ∀ b, gvN S b ≤ gvN S b := fun _ => Nat.le_refl _
  unfold f_X10_makes at hf
  obtain ⟨x2, hx2, hf⟩ := dc_nn_ok hf
  obtain ⟨g3, hf⟩ := dc_gd_ok hf
  obtain ⟨r4, S5, k6, hf⟩ := dc_bd_ok hf
  have hm := lh_le_trans hm (show ∀ b, gvN S b ≤ gvN S5 b from m_X10_isBarred k6)
  by_cases c9 : r4 = 0
  · replace hf := dc_if_t c9 hf
    by_cases c10 : (gvI S5 10 t 17) = (40 : Int32)
    · replace hf := dc_if_t c10 hf
      obtain ⟨r45, S46, k47, hf⟩ := dc_bd_ok hf
      have hm := lh_le_trans hm (show ∀ b, gvN S5 b ≤ gvN S46 b from m_X10_ends k47)
      obtain ⟨_, rfl⟩ := dc_ret hf
      exact hm
    · replace hf := dc_if_f c10 hf
      obtain ⟨v11, hv11, hf⟩ := dc_let_ok hf
      obtain ⟨S12, eS12, hf⟩ := dc_let_ok hf
      have hm := lh_le_trans hm (show ∀ b, gvN S5 b ≤ gvN S12 b from by rw [eS12]; exact lh_mI)
      obtain ⟨x15, hx15, hf⟩ := dc_nn_ok hf
      obtain ⟨g16, hf⟩ := dc_gd_ok hf
      obtain ⟨S17, eS17, hf⟩ := dc_let_ok hf
      have hm := lh_le_trans hm (show ∀ b, gvN S12 b ≤ gvN S17 b from by rw [eS17]; exact lh_mI)
      obtain ⟨x20, hx20, hf⟩ := dc_nn_ok hf
      obtain ⟨g21, hf⟩ := dc_gd_ok hf
      obtain ⟨S22, eS22, hf⟩ := dc_let_ok hf
      have hm := lh_le_trans hm (show ∀ b, gvN S17 b ≤ gvN S22 b from by rw [eS22]; exact lh_mI)
      obtain ⟨x25, hx25, hf⟩ := dc_nn_ok hf
      obtain ⟨g26, hf⟩ := dc_gd_ok hf
      obtain ⟨S27, eS27, hf⟩ := dc_let_ok hf
      have hm := lh_le_trans hm (show ∀ b, gvN S22 b ≤ gvN S27 b from by rw [eS27]; exact lh_mI)
      obtain ⟨x30, hx30, hf⟩ := dc_nn_ok hf
      obtain ⟨g31, hf⟩ := dc_gd_ok hf
      obtain ⟨S32, eS32, hf⟩ := dc_let_ok hf
      have hm := lh_le_trans hm (show ∀ b, gvN S27 b ≤ gvN S32 b from by rw [eS32]; exact lh_mI)
      obtain ⟨v35, hv35, hf⟩ := dc_let_ok hf
      obtain ⟨v36, hv36, hf⟩ := dc_let_ok hf
      obtain ⟨x37, hx37, hf⟩ := dc_nn_ok hf
      obtain ⟨g38, hf⟩ := dc_gd_ok hf
      obtain ⟨S39, eS39, hf⟩ := dc_let_ok hf
      have hm := lh_le_trans hm (show ∀ b, gvN S32 b ≤ gvN S39 b from by rw [eS39]; exact lh_mI)
      obtain ⟨r41, S42, k43, hf⟩ := dc_bd_ok hf
      have hm := lh_le_trans hm (show ∀ b, gvN S39 b ≤ gvN S42 b from m_X10_gives k43)
      obtain ⟨_, rfl⟩ := dc_ret hf
      exact hm
  · replace hf := dc_if_f c9 hf
    obtain ⟨r49, S50, k51, hf⟩ := dc_bd_ok hf
    have hm := lh_le_trans hm (show ∀ b, gvN S5 b ≤ gvN S50 b from m_X10_ends k51)
    obtain ⟨_, rfl⟩ := dc_ret hf
    exact hm
set_option maxHeartbeats 1000000 in
theorem k_X10_makes {n : Nat} {S : lh_S} {t : Nat} {p1 : Int32} {p2 : Int32} {p3 : Int32} {r : Unit} {S' : lh_S} (hf : f_X10_makes n S t p1 p2 p3 = some (r, S')) : lh_sm10 S S' := by
  have hm : lh_sm10 S S := lh_sm10_rf
  unfold f_X10_makes at hf
  obtain ⟨x2, hx2, hf⟩ := dc_nn_ok hf
  obtain ⟨g3, hf⟩ := dc_gd_ok hf
  obtain ⟨r4, S5, k6, hf⟩ := dc_bd_ok hf
  have hm := lh_sm10_trans hm (show lh_sm10 S S5 from k_X10_isBarred k6)
  by_cases c9 : r4 = 0
  · replace hf := dc_if_t c9 hf
    by_cases c10 : (gvI S5 10 t 17) = (40 : Int32)
    · replace hf := dc_if_t c10 hf
      obtain ⟨r45, S46, k47, hf⟩ := dc_bd_ok hf
      have hm := lh_sm10_trans hm (show lh_sm10 S5 S46 from k_X10_ends k47)
      obtain ⟨_, rfl⟩ := dc_ret hf
      exact hm
    · replace hf := dc_if_f c10 hf
      obtain ⟨v11, hv11, hf⟩ := dc_let_ok hf
      obtain ⟨S12, eS12, hf⟩ := dc_let_ok hf
      have hm := lh_sm10_trans hm (show lh_sm10 S5 S12 from by rw [eS12]; exact (lh_sm10I (by decide)))
      obtain ⟨x15, hx15, hf⟩ := dc_nn_ok hf
      obtain ⟨g16, hf⟩ := dc_gd_ok hf
      obtain ⟨S17, eS17, hf⟩ := dc_let_ok hf
      have hm := lh_sm10_trans hm (show lh_sm10 S12 S17 from by rw [eS17]; exact (lh_sm10I (by decide)))
      obtain ⟨x20, hx20, hf⟩ := dc_nn_ok hf
      obtain ⟨g21, hf⟩ := dc_gd_ok hf
      obtain ⟨S22, eS22, hf⟩ := dc_let_ok hf
      have hm := lh_sm10_trans hm (show lh_sm10 S17 S22 from by rw [eS22]; exact (lh_sm10I (by decide)))
      obtain ⟨x25, hx25, hf⟩ := dc_nn_ok hf
      obtain ⟨g26, hf⟩ := dc_gd_ok hf
      obtain ⟨S27, eS27, hf⟩ := dc_let_ok hf
      have hm := lh_sm10_trans hm (show lh_sm10 S22 S27 from by rw [eS27]; exact (lh_sm10I (by decide)))
      obtain ⟨x30, hx30, hf⟩ := dc_nn_ok hf
      obtain ⟨g31, hf⟩ := dc_gd_ok hf
      obtain ⟨S32, eS32, hf⟩ := dc_let_ok hf
      have hm := lh_sm10_trans hm (show lh_sm10 S27 S32 from by rw [eS32]; exact (lh_sm10I (by decide)))
      obtain ⟨v35, hv35, hf⟩ := dc_let_ok hf
      obtain ⟨v36, hv36, hf⟩ := dc_let_ok hf
      obtain ⟨x37, hx37, hf⟩ := dc_nn_ok hf
      obtain ⟨g38, hf⟩ := dc_gd_ok hf
      obtain ⟨S39, eS39, hf⟩ := dc_let_ok hf
      have hm := lh_sm10_trans hm (show lh_sm10 S32 S39 from by rw [eS39]; exact (lh_sm10I (by decide)))
      obtain ⟨r41, S42, k43, hf⟩ := dc_bd_ok hf
      have hm := lh_sm10_trans hm (show lh_sm10 S39 S42 from k_X10_gives k43)
      obtain ⟨_, rfl⟩ := dc_ret hf
      exact hm
  · replace hf := dc_if_f c9 hf
    obtain ⟨r49, S50, k51, hf⟩ := dc_bd_ok hf
    have hm := lh_sm10_trans hm (show lh_sm10 S5 S50 from k_X10_ends k51)
    obtain ⟨_, rfl⟩ := dc_ret hf
    exact hm
set_option maxHeartbeats 4000000 in
set_option maxRecDepth 100000 in
theorem c_X10_makes (l : Launch) (D : va_G) (cT : Nat → ClassId) (n : Nat) (S : lh_S) (ad : Nat → Nat → Nat) (A : Nat → Prop) (sz : Nat) (hA : ∀ q, sz ≤ q → A q) (t : Nat) (p1 : Int32) (p2 : Int32) (p3 : Int32) (r : Unit) (S' : lh_S) (hf : f_X10_makes n S t p1 p2 p3 = some (r, S')) (L_t : ∀ j, some t = some j → j < gvN S 10) : Met l yX10_makes wsX10_makes ({ frames := 1, cells := 0, slots := 0, locals := 25 } : Room) (lh_P D cT S ad A sz [lh_r ad 10 (some t), .int p1, .int p2, .int p3]) (lh_Q D cT S' ad A ((∀ b, gvN S b ≤ gvN S' b) ∧ True) (none)) 0 0 A := by
  refine Met.ofW (cc := cX10_makes) (maxL := 6) (ret := none) (by decide) rfl ?_
  intro p e s m args below meth c s₁ B hml hv
  obtain ⟨hargs, hsz, hW, hK, hN⟩ := hv
  have hx := B.exec
  have hb := B.bytes
  have hr := B.returns
  have hts := atoms_spec (ws := wsX10_makes) B.pre
  have hown : s.vm.findClass RX10 = some m.cls := findClass_of_methodNamed B.named
  have hlocks := B.notSynchronized
  have hA : ∀ q, s.heap.size ≤ q → A q := fun q h => hA q (by rw [← hsz]; exact h)
  have ok := lh_W_ok hW
  have hm : ∀ b, gvN S b ≤ gvN S b := fun _ => Nat.le_refl _
  obtain ⟨ls, hent, hl⟩ := lh_entry m args [lh_r ad 10 (some t), .int p1, .int p2, .int p3] 6 [(0, lh_r ad 10 (some t)), (1, .int p1), (2, .int p2), (3, .int p3)] hargs (by simp [lv_args, lh_cat_r, lh_cat_i, lh_cat_j]) (by simp [lg_sl, lh_cat_r, lh_cat_i, lh_cat_j])
  rw [hent]
  generalize hH : s.heap = H at hW ⊢
  have hS : va_S A s.heap H [] := by rw [← hH]; exact va_S.rf
  unfold f_X10_makes at hf
  refine lh_aload_n hx hb dX10_makes_0 rfl (lv_at hl 0 rfl) ?_
  have L1 : ∀ j, gvR S 10 t 2 = some j → j < gvN S 32 := fun j h => ok _ _ _ _ j (L_t _ rfl) rfl h
  refine lh_get (a := 10) (k := 2) (N := 42) (C := RX10) (T := TX10) (own := RX10) (ref := "LoaderModelsModel") hx hb hts (fun _ h => (List.mem_cons_of_mem _ (List.mem_append_right _ h))) hown hK hW rfl (L_t _ rfl) rfl rfl rfl (by decide) (hts (.fieldLink RX10 13 "LoaderModelsModel" "fileName" "[I") (List.mem_cons_of_mem _ (List.mem_append_left _ (List.mem_append_left _ (List.mem_of_getElem? (i := 0) rfl))))) (fun _ h9 => h9) dX10_makes_1 (v := lh_r ad 32 (gvR S 10 t 2)) rfl ?_
  refine lv_iload_n hx hb dX10_makes_4 rfl (lv_at hl 2 rfl) ?_
  obtain ⟨x2, hx2, hf⟩ := dc_nn_ok hf
  obtain ⟨g3, hf⟩ := dc_gd_ok hf
  refine lh_ald_i (a := 32) hx hb hK hW hx2 (L1 _ hx2) rfl rfl g3 dX10_makes_5 ?_
  refine lv_istore (i := 4) (lv' := [(4, .int (gvI S 32 x2 (p2).toNatClampNeg)), (0, lh_r ad 10 (some t)), (1, .int p1), (2, .int p2), (3, .int p3)]) hx hb dX10_makes_6 hl (by decide) (by first | rfl | simp [lh_cat_r, lh_cat_i, lh_cat_j]) (fun ls hl => ?_)
  refine lh_aload_n hx hb dX10_makes_8 rfl (lv_at hl 1 rfl) ?_
  refine lv_iload_n hx hb dX10_makes_9 rfl (lv_at hl 2 rfl) ?_
  refine lv_iload hx hb dX10_makes_10 (lv_at hl 0 rfl) ?_
  refine lv_bipush (v := 40) hx hb dX10_makes_12 (by decide) ?_
  obtain ⟨r4, S5, k6, hf⟩ := dc_bd_ok hf
  refine lh_call (S' := S5) (lh_rv ⟨hx, hb, hml, hown, hts⟩ rfl (As := [.int p1, .int (gvI S 32 x2 (p2).toNatClampNeg), .int (40 : Int32)]) (rest := []) (k := 10) (c_X10_isBarred l D cT n S ad A H.size (fun q9 h9 => hA q9 (Nat.le_trans hS.1 h9)) t p1 (gvI S 32 x2 (p2).toNatClampNeg) (40 : Int32) r4 S5 k6 L_t) (cwV 3 hts gX10_makes_X10_isBarred rfl rfl rfl (by decide +kernel) ⟨Nat.le_of_ble_eq_true rfl, Nat.le_of_ble_eq_true rfl⟩) hK hN hW (L_t _ rfl) rfl rfl rfl hl.1 rfl (by simp [lh_cat_r, lh_cat_i, lh_cat_j]) dX10_makes_14 ⟨Nat.le_of_ble_eq_true rfl, Nat.le_of_ble_eq_true rfl⟩) hS (fun H locs hX hW hS => ?_)
  refine W.widen (k := 0) (n := 0) (by omega) (by omega) ?_
  show W _ _ _ _ _ _ _ _ _ _ _ _ _ _ _ (F0 m 17 ls [.int r4])
  have m7 : ∀ b, gvN S b ≤ gvN S5 b := hX.1
  have L_t : ∀ j, some t = some j → j < gvN S5 10 := fun j h => Nat.lt_of_lt_of_le (L_t j h) (m7 _)
  have hm : ∀ b, gvN S b ≤ gvN S5 b := lh_le_trans hm m7
  have ok := lh_W_ok hW
  have z8 := hX.2
  refine lv_if_eq (tgt := 28) hx hb dX10_makes_17 (by decide) (fun c9 => ?_) (fun c9 => ?_)
  · replace hf := dc_if_t c9 hf
    refine lh_aload_n hx hb dX10_makes_28 rfl (lv_at hl 1 rfl) ?_
    refine lh_get (a := 10) (k := 17) (N := 42) (C := RX10) (T := TX10) (own := RX10) (ref := "LoaderModelsModel") hx hb hts (fun _ h => (List.mem_cons_of_mem _ (List.mem_append_right _ h))) hown hK hW rfl (L_t _ rfl) rfl rfl rfl (by decide) (hts (.fieldLink RX10 132 "LoaderModelsModel" "classes" "I") (List.mem_cons_of_mem _ (List.mem_append_left _ (List.mem_append_left _ (List.mem_of_getElem? (i := 1) rfl))))) (fun _ h9 => h9) dX10_makes_29 (v := .int (gvI S5 10 t 17)) rfl ?_
    refine lv_bipush (v := 40) hx hb dX10_makes_32 (by decide) ?_
    refine lv_icmp_ne (tgt := 46) hx hb dX10_makes_34 (by decide) (fun c10 => ?_) (fun c10 => ?_)
    · replace hf := dc_if_f c10 hf
      refine lh_aload_n hx hb dX10_makes_46 rfl (lv_at hl 1 rfl) ?_
      refine lh_get (a := 10) (k := 17) (N := 42) (C := RX10) (T := TX10) (own := RX10) (ref := "LoaderModelsModel") hx hb hts (fun _ h => (List.mem_cons_of_mem _ (List.mem_append_right _ h))) hown hK hW rfl (L_t _ rfl) rfl rfl rfl (by decide) (hts (.fieldLink RX10 132 "LoaderModelsModel" "classes" "I") (List.mem_cons_of_mem _ (List.mem_append_left _ (List.mem_append_left _ (List.mem_of_getElem? (i := 1) rfl))))) (fun _ h9 => h9) dX10_makes_47 (v := .int (gvI S5 10 t 17)) rfl ?_
      refine lv_istore (i := 5) (lv' := [(5, .int (gvI S5 10 t 17)), (4, .int (gvI S 32 x2 (p2).toNatClampNeg)), (0, lh_r ad 10 (some t)), (1, .int p1), (2, .int p2), (3, .int p3)]) hx hb dX10_makes_50 hl (by decide) (by first | rfl | simp [lh_cat_r, lh_cat_i, lh_cat_j]) (fun ls hl => ?_)
      refine lh_aload_n hx hb dX10_makes_52 rfl (lv_at hl 2 rfl) ?_
      refine lv_dup hx hb dX10_makes_53 lh_cat_r ?_
      refine lh_get (a := 10) (k := 17) (N := 42) (C := RX10) (T := TX10) (own := RX10) (ref := "LoaderModelsModel") hx hb hts (fun _ h => (List.mem_cons_of_mem _ (List.mem_append_right _ h))) hown hK hW rfl (L_t _ rfl) rfl rfl rfl (by decide) (hts (.fieldLink RX10 132 "LoaderModelsModel" "classes" "I") (List.mem_cons_of_mem _ (List.mem_append_left _ (List.mem_append_left _ (List.mem_of_getElem? (i := 1) rfl))))) (fun _ h9 => h9) dX10_makes_54 (v := .int (gvI S5 10 t 17)) rfl ?_
      refine lv_iconst (v := 1) hx hb dX10_makes_57 (by decide) ?_
      refine lv_iadd hx hb dX10_makes_58 ?_
      refine lv_topi (fun v11 hv11 => ?_)
      replace hf := dc_let_e hv11 hf
      obtain ⟨S12, eS12, hf⟩ := dc_let_ok hf
      refine lh_put (S' := S12) (a := 10) (k := 17) (N := 42) (C := RX10) (T := TX10) (own := RX10) (ref := "LoaderModelsModel") (ty := .int) hx hb hts (fun _ h => (List.mem_cons_of_mem _ (List.mem_append_right _ h))) tyX10 tyX10_ok nmX10 hown hK hW hS rfl (L_t _ rfl) rfl rfl rfl (by decide) (hts (.fieldLink RX10 132 "LoaderModelsModel" "classes" "I") (List.mem_cons_of_mem _ (List.mem_append_left _ (List.mem_append_left _ (List.mem_of_getElem? (i := 1) rfl))))) (fun _ h9 => h9) (Or.inl rfl) (by decide +kernel) rfl rfl (fun q9 => by rw [eS12]; exact lh_chI rfl q9) dX10_makes_59 (fun H locs hW hS => ?_)
      have m13 : ∀ b, gvN S5 b ≤ gvN S12 b := by rw [eS12]; exact lh_mI
      have L_t : ∀ j, some t = some j → j < gvN S12 10 := fun j h => Nat.lt_of_lt_of_le (L_t j h) (m13 _)
      have hm : ∀ b, gvN S b ≤ gvN S12 b := lh_le_trans hm m13
      have ok := lh_W_ok hW
      refine lh_aload_n hx hb dX10_makes_62 rfl (lv_at hl 2 rfl) ?_
      have L14 : ∀ j, gvR S12 10 t 18 = some j → j < gvN S12 48 := fun j h => ok _ _ _ _ j (L_t _ rfl) rfl h
      refine lh_get (a := 10) (k := 18) (N := 42) (C := RX10) (T := TX10) (own := RX10) (ref := "LoaderModelsModel") hx hb hts (fun _ h => (List.mem_cons_of_mem _ (List.mem_append_right _ h))) hown hK hW rfl (L_t _ rfl) rfl rfl rfl (by decide) (hts (.fieldLink RX10 57 "LoaderModelsModel" "className" "[I") (List.mem_cons_of_mem _ (List.mem_append_left _ (List.mem_append_left _ (List.mem_of_getElem? (i := 2) rfl))))) (fun _ h9 => h9) dX10_makes_63 (v := lh_r ad 48 (gvR S12 10 t 18)) rfl ?_
      refine lv_iload hx hb dX10_makes_66 (lv_at hl 0 rfl) ?_
      refine lv_iload hx hb dX10_makes_68 (lv_at hl 1 rfl) ?_
      obtain ⟨x15, hx15, hf⟩ := dc_nn_ok hf
      obtain ⟨g16, hf⟩ := dc_gd_ok hf
      obtain ⟨S17, eS17, hf⟩ := dc_let_ok hf
      refine lh_ast_i (a := 48) hx hb hK hW hS hx15 (L14 _ hx15) rfl (fun _ => rfl) g16 dX10_makes_70 (fun H locs hW hS => ?_)
      rw [← eS17] at hW
      have m18 : ∀ b, gvN S12 b ≤ gvN S17 b := by rw [eS17]; exact lh_mI
      have L_t : ∀ j, some t = some j → j < gvN S17 10 := fun j h => Nat.lt_of_lt_of_le (L_t j h) (m18 _)
      have hm : ∀ b, gvN S b ≤ gvN S17 b := lh_le_trans hm m18
      have ok := lh_W_ok hW
      refine lh_aload_n hx hb dX10_makes_71 rfl (lv_at hl 2 rfl) ?_
      have L19 : ∀ j, gvR S17 10 t 19 = some j → j < gvN S17 49 := fun j h => ok _ _ _ _ j (L_t _ rfl) rfl h
      refine lh_get (a := 10) (k := 19) (N := 42) (C := RX10) (T := TX10) (own := RX10) (ref := "LoaderModelsModel") hx hb hts (fun _ h => (List.mem_cons_of_mem _ (List.mem_append_right _ h))) hown hK hW rfl (L_t _ rfl) rfl rfl rfl (by decide) (hts (.fieldLink RX10 60 "LoaderModelsModel" "classLoader" "[I") (List.mem_cons_of_mem _ (List.mem_append_left _ (List.mem_append_left _ (List.mem_of_getElem? (i := 3) rfl))))) (fun _ h9 => h9) dX10_makes_72 (v := lh_r ad 49 (gvR S17 10 t 19)) rfl ?_
      refine lv_iload hx hb dX10_makes_75 (lv_at hl 0 rfl) ?_
      refine lv_iload_n hx hb dX10_makes_77 rfl (lv_at hl 3 rfl) ?_
      obtain ⟨x20, hx20, hf⟩ := dc_nn_ok hf
      obtain ⟨g21, hf⟩ := dc_gd_ok hf
      obtain ⟨S22, eS22, hf⟩ := dc_let_ok hf
      refine lh_ast_i (a := 49) hx hb hK hW hS hx20 (L19 _ hx20) rfl (fun _ => rfl) g21 dX10_makes_78 (fun H locs hW hS => ?_)
      rw [← eS22] at hW
      have m23 : ∀ b, gvN S17 b ≤ gvN S22 b := by rw [eS22]; exact lh_mI
      have L_t : ∀ j, some t = some j → j < gvN S22 10 := fun j h => Nat.lt_of_lt_of_le (L_t j h) (m23 _)
      have hm : ∀ b, gvN S b ≤ gvN S22 b := lh_le_trans hm m23
      have ok := lh_W_ok hW
      refine lh_aload_n hx hb dX10_makes_79 rfl (lv_at hl 2 rfl) ?_
      have L24 : ∀ j, gvR S22 10 t 20 = some j → j < gvN S22 50 := fun j h => ok _ _ _ _ j (L_t _ rfl) rfl h
      refine lh_get (a := 10) (k := 20) (N := 42) (C := RX10) (T := TX10) (own := RX10) (ref := "LoaderModelsModel") hx hb hts (fun _ h => (List.mem_cons_of_mem _ (List.mem_append_right _ h))) hown hK hW rfl (L_t _ rfl) rfl rfl rfl (by decide) (hts (.fieldLink RX10 63 "LoaderModelsModel" "classFile" "[I") (List.mem_cons_of_mem _ (List.mem_append_left _ (List.mem_append_left _ (List.mem_of_getElem? (i := 4) rfl))))) (fun _ h9 => h9) dX10_makes_80 (v := lh_r ad 50 (gvR S22 10 t 20)) rfl ?_
      refine lv_iload hx hb dX10_makes_83 (lv_at hl 0 rfl) ?_
      refine lv_iload_n hx hb dX10_makes_85 rfl (lv_at hl 4 rfl) ?_
      obtain ⟨x25, hx25, hf⟩ := dc_nn_ok hf
      obtain ⟨g26, hf⟩ := dc_gd_ok hf
      obtain ⟨S27, eS27, hf⟩ := dc_let_ok hf
      refine lh_ast_i (a := 50) hx hb hK hW hS hx25 (L24 _ hx25) rfl (fun _ => rfl) g26 dX10_makes_86 (fun H locs hW hS => ?_)
      rw [← eS27] at hW
      have m28 : ∀ b, gvN S22 b ≤ gvN S27 b := by rw [eS27]; exact lh_mI
      have L_t : ∀ j, some t = some j → j < gvN S27 10 := fun j h => Nat.lt_of_lt_of_le (L_t j h) (m28 _)
      have hm : ∀ b, gvN S b ≤ gvN S27 b := lh_le_trans hm m28
      have ok := lh_W_ok hW
      refine lh_aload_n hx hb dX10_makes_87 rfl (lv_at hl 2 rfl) ?_
      have L29 : ∀ j, gvR S27 10 t 21 = some j → j < gvN S27 51 := fun j h => ok _ _ _ _ j (L_t _ rfl) rfl h
      refine lh_get (a := 10) (k := 21) (N := 42) (C := RX10) (T := TX10) (own := RX10) (ref := "LoaderModelsModel") hx hb hts (fun _ h => (List.mem_cons_of_mem _ (List.mem_append_right _ h))) hown hK hW rfl (L_t _ rfl) rfl rfl rfl (by decide) (hts (.fieldLink RX10 66 "LoaderModelsModel" "classAbove" "[I") (List.mem_cons_of_mem _ (List.mem_append_left _ (List.mem_append_left _ (List.mem_of_getElem? (i := 5) rfl))))) (fun _ h9 => h9) dX10_makes_88 (v := lh_r ad 51 (gvR S27 10 t 21)) rfl ?_
      refine lv_iload hx hb dX10_makes_91 (lv_at hl 0 rfl) ?_
      refine lv_iload_n hx hb dX10_makes_93 rfl (lv_at hl 5 rfl) ?_
      obtain ⟨x30, hx30, hf⟩ := dc_nn_ok hf
      obtain ⟨g31, hf⟩ := dc_gd_ok hf
      obtain ⟨S32, eS32, hf⟩ := dc_let_ok hf
      refine lh_ast_i (a := 51) hx hb hK hW hS hx30 (L29 _ hx30) rfl (fun _ => rfl) g31 dX10_makes_94 (fun H locs hW hS => ?_)
      rw [← eS32] at hW
      have m33 : ∀ b, gvN S27 b ≤ gvN S32 b := by rw [eS32]; exact lh_mI
      have L_t : ∀ j, some t = some j → j < gvN S32 10 := fun j h => Nat.lt_of_lt_of_le (L_t j h) (m33 _)
      have hm : ∀ b, gvN S b ≤ gvN S32 b := lh_le_trans hm m33
      have ok := lh_W_ok hW
      refine lh_aload_n hx hb dX10_makes_95 rfl (lv_at hl 2 rfl) ?_
      have L34 : ∀ j, gvR S32 10 t 14 = some j → j < gvN S32 44 := fun j h => ok _ _ _ _ j (L_t _ rfl) rfl h
      refine lh_get (a := 10) (k := 14) (N := 42) (C := RX10) (T := TX10) (own := RX10) (ref := "LoaderModelsModel") hx hb hts (fun _ h => (List.mem_cons_of_mem _ (List.mem_append_right _ h))) hown hK hW rfl (L_t _ rfl) rfl rfl rfl (by decide) (hts (.fieldLink RX10 48 "LoaderModelsModel" "knows" "[I") (List.mem_cons_of_mem _ (List.mem_append_left _ (List.mem_append_left _ (List.mem_of_getElem? (i := 6) rfl))))) (fun _ h9 => h9) dX10_makes_96 (v := lh_r ad 44 (gvR S32 10 t 14)) rfl ?_
      refine lv_bipush (v := 40) hx hb dX10_makes_99 (by decide) ?_
      refine lv_iload_n hx hb dX10_makes_101 rfl (lv_at hl 3 rfl) ?_
      refine lv_imul hx hb dX10_makes_102 ?_
      refine lv_iload hx hb dX10_makes_103 (lv_at hl 1 rfl) ?_
      refine lv_iadd hx hb dX10_makes_105 ?_
      refine lv_topi (fun v35 hv35 => ?_)
      replace hf := dc_let_e hv35 hf
      refine lv_iload hx hb dX10_makes_106 (lv_at hl 0 rfl) ?_
      refine lv_iconst (v := 1) hx hb dX10_makes_108 (by decide) ?_
      refine lv_iadd hx hb dX10_makes_109 ?_
      refine lv_topi (fun v36 hv36 => ?_)
      replace hf := dc_let_e hv36 hf
      obtain ⟨x37, hx37, hf⟩ := dc_nn_ok hf
      obtain ⟨g38, hf⟩ := dc_gd_ok hf
      obtain ⟨S39, eS39, hf⟩ := dc_let_ok hf
      refine lh_ast_i (a := 44) hx hb hK hW hS hx37 (L34 _ hx37) rfl (fun _ => rfl) g38 dX10_makes_110 (fun H locs hW hS => ?_)
      rw [← eS39] at hW
      have m40 : ∀ b, gvN S32 b ≤ gvN S39 b := by rw [eS39]; exact lh_mI
      have L_t : ∀ j, some t = some j → j < gvN S39 10 := fun j h => Nat.lt_of_lt_of_le (L_t j h) (m40 _)
      have hm : ∀ b, gvN S b ≤ gvN S39 b := lh_le_trans hm m40
      have ok := lh_W_ok hW
      refine lh_aload_n hx hb dX10_makes_111 rfl (lv_at hl 2 rfl) ?_
      refine lv_iload hx hb dX10_makes_112 (lv_at hl 0 rfl) ?_
      obtain ⟨r41, S42, k43, hf⟩ := dc_bd_ok hf
      refine lh_call (S' := S42) (lh_rv ⟨hx, hb, hml, hown, hts⟩ rfl (As := [.int (gvI S5 10 t 17)]) (rest := []) (k := 10) (c_X10_gives l D cT n S39 ad A H.size (fun q9 h9 => hA q9 (Nat.le_trans hS.1 h9)) t (gvI S5 10 t 17) r41 S42 k43 L_t) (cwV 1 hts gX10_makes_X10_gives rfl rfl rfl (by decide +kernel) ⟨Nat.le_of_ble_eq_true rfl, Nat.le_of_ble_eq_true rfl⟩) hK hN hW (L_t _ rfl) rfl rfl rfl hl.1 rfl (by simp [lh_cat_r, lh_cat_i, lh_cat_j]) dX10_makes_114 ⟨Nat.le_of_ble_eq_true rfl, Nat.le_of_ble_eq_true rfl⟩) hS (fun H locs hX hW hS => ?_)
      refine W.widen (k := 0) (n := 0) (by omega) (by omega) ?_
      show W _ _ _ _ _ _ _ _ _ _ _ _ _ _ _ (F0 m 117 ls [])
      have m44 : ∀ b, gvN S39 b ≤ gvN S42 b := hX.1
      have L_t : ∀ j, some t = some j → j < gvN S42 10 := fun j h => Nat.lt_of_lt_of_le (L_t j h) (m44 _)
      have hm : ∀ b, gvN S b ≤ gvN S42 b := lh_le_trans hm m44
      have ok := lh_W_ok hW
      obtain ⟨rfl, rfl⟩ := dc_ret hf
      exact W.vret hx hb hr (fun t9 ht9 hW9 => ⟨⟨rfl, ⟨hm, trivial⟩, by rw [ht9]; exact hW⟩, hS.F ht9⟩) hS.2.2 dX10_makes_117
    · replace hf := dc_if_t c10 hf
      refine lh_aload_n hx hb dX10_makes_37 rfl (lv_at hl 1 rfl) ?_
      refine lv_bipush (v := 12) hx hb dX10_makes_38 (by decide) ?_
      obtain ⟨r45, S46, k47, hf⟩ := dc_bd_ok hf
      refine lh_call (S' := S46) (lh_rv ⟨hx, hb, hml, hown, hts⟩ rfl (As := [.int (12 : Int32)]) (rest := []) (k := 10) (c_X10_ends l D cT n S5 ad A H.size (fun q9 h9 => hA q9 (Nat.le_trans hS.1 h9)) t (12 : Int32) r45 S46 k47 L_t) (cwV 1 hts gX10_makes_X10_ends rfl rfl rfl (by decide +kernel) ⟨Nat.le_of_ble_eq_true rfl, Nat.le_of_ble_eq_true rfl⟩) hK hN hW (L_t _ rfl) rfl rfl rfl hl.1 rfl (by simp [lh_cat_r, lh_cat_i, lh_cat_j]) dX10_makes_40 ⟨Nat.le_of_ble_eq_true rfl, Nat.le_of_ble_eq_true rfl⟩) hS (fun H locs hX hW hS => ?_)
      refine W.widen (k := 0) (n := 0) (by omega) (by omega) ?_
      show W _ _ _ _ _ _ _ _ _ _ _ _ _ _ _ (F0 m 43 ls [])
      have m48 : ∀ b, gvN S5 b ≤ gvN S46 b := hX.1
      have L_t : ∀ j, some t = some j → j < gvN S46 10 := fun j h => Nat.lt_of_lt_of_le (L_t j h) (m48 _)
      have hm : ∀ b, gvN S b ≤ gvN S46 b := lh_le_trans hm m48
      have ok := lh_W_ok hW
      refine lv_goto (tgt := 117) hx hb dX10_makes_43 (by decide) ?_
      obtain ⟨rfl, rfl⟩ := dc_ret hf
      exact W.vret hx hb hr (fun t9 ht9 hW9 => ⟨⟨rfl, ⟨hm, trivial⟩, by rw [ht9]; exact hW⟩, hS.F ht9⟩) hS.2.2 dX10_makes_117
  · replace hf := dc_if_f c9 hf
    refine lh_aload_n hx hb dX10_makes_20 rfl (lv_at hl 1 rfl) ?_
    refine lv_iconst (v := 3) hx hb dX10_makes_21 (by decide) ?_
    obtain ⟨r49, S50, k51, hf⟩ := dc_bd_ok hf
    refine lh_call (S' := S50) (lh_rv ⟨hx, hb, hml, hown, hts⟩ rfl (As := [.int (3 : Int32)]) (rest := []) (k := 10) (c_X10_ends l D cT n S5 ad A H.size (fun q9 h9 => hA q9 (Nat.le_trans hS.1 h9)) t (3 : Int32) r49 S50 k51 L_t) (cwV 1 hts gX10_makes_X10_ends rfl rfl rfl (by decide +kernel) ⟨Nat.le_of_ble_eq_true rfl, Nat.le_of_ble_eq_true rfl⟩) hK hN hW (L_t _ rfl) rfl rfl rfl hl.1 rfl (by simp [lh_cat_r, lh_cat_i, lh_cat_j]) dX10_makes_22 ⟨Nat.le_of_ble_eq_true rfl, Nat.le_of_ble_eq_true rfl⟩) hS (fun H locs hX hW hS => ?_)
    refine W.widen (k := 0) (n := 0) (by omega) (by omega) ?_
    show W _ _ _ _ _ _ _ _ _ _ _ _ _ _ _ (F0 m 25 ls [])
    have m52 : ∀ b, gvN S5 b ≤ gvN S50 b := hX.1
    have L_t : ∀ j, some t = some j → j < gvN S50 10 := fun j h => Nat.lt_of_lt_of_le (L_t j h) (m52 _)
    have hm : ∀ b, gvN S b ≤ gvN S50 b := lh_le_trans hm m52
    have ok := lh_W_ok hW
    refine lv_goto (tgt := 117) hx hb dX10_makes_25 (by decide) ?_
    obtain ⟨rfl, rfl⟩ := dc_ret hf
    exact W.vret hx hb hr (fun t9 ht9 hW9 => ⟨⟨rfl, ⟨hm, trivial⟩, by rw [ht9]; exact hW⟩, hS.F ht9⟩) hS.2.2 dX10_makes_117
def f_X10_oneDefining (n : Nat) (S : lh_S) (t : Nat) (p1 : Int32) : Option (Unit × lh_S) :=
  dc_nn (gvR S 10 t 28) fun x2 =>
  dc_gd (p1 < 0 ∨ gvL S 58 x2 ≤ (p1).toNatClampNeg) (
  dc_nn (gvR S 10 t 29) fun x5 =>
  dc_gd (p1 < 0 ∨ gvL S 59 x5 ≤ (p1).toNatClampNeg) (
  dc_nn (gvR S 10 t 2) fun x8 =>
  dc_gd ((gvI S 59 x5 (p1).toNatClampNeg) < 0 ∨ gvL S 32 x8 ≤ ((gvI S 59 x5 (p1).toNatClampNeg)).toNatClampNeg) (
  dc_let ((40 : Int32) * (gvI S 58 x2 (p1).toNatClampNeg)) fun v10 =>
  dc_let (v10 + (gvI S 32 x8 ((gvI S 59 x5 (p1).toNatClampNeg)).toNatClampNeg)) fun v11 =>
  dc_nn (gvR S 10 t 30) fun x13 =>
  dc_gd (p1 < 0 ∨ gvL S 60 x13 ≤ (p1).toNatClampNeg) (
  dc_if ((gvI S 60 x13 (p1).toNatClampNeg) = 0) (
  dc_if ((5 : Int32) ≤ (gvI S 32 x8 ((gvI S 59 x5 (p1).toNatClampNeg)).toNatClampNeg)) (
  dc_nn (gvR S 10 t 3) fun x48 =>
  dc_gd ((gvI S 59 x5 (p1).toNatClampNeg) < 0 ∨ gvL S 33 x48 ≤ ((gvI S 59 x5 (p1).toNatClampNeg)).toNatClampNeg) (
  dc_if ((gvI S 33 x48 ((gvI S 59 x5 (p1).toNatClampNeg)).toNatClampNeg) = (gvI S 32 x8 ((gvI S 59 x5 (p1).toNatClampNeg)).toNatClampNeg)) (
  dc_nn (gvR S 10 t 14) fun x52 =>
  dc_gd (v11 < 0 ∨ gvL S 44 x52 ≤ (v11).toNatClampNeg) (
  dc_if ((gvI S 44 x52 (v11).toNatClampNeg) ≤ 0) (
  dc_nn (gvR S 10 t 15) fun x56 =>
  dc_gd (v11 < 0 ∨ gvL S 45 x56 ≤ (v11).toNatClampNeg) (
  dc_if ((gvI S 45 x56 (v11).toNatClampNeg) = 0) (
  dc_if ((gvI S 32 x8 ((gvI S 59 x5 (p1).toNatClampNeg)).toNatClampNeg) = 0) (
  dc_bd (f_X10_makes n S t (gvI S 58 x2 (p1).toNatClampNeg) (gvI S 59 x5 (p1).toNatClampNeg) (-1 : Int32)) fun r77 S78 =>
  some ((), S78)) (
  dc_gd (v11 < 0 ∨ gvL S 45 x56 ≤ (v11).toNatClampNeg) (
  dc_let (pvI S 45 x56 (v11).toNatClampNeg (vp_nar .boolean (1 : Int32))) fun S63 =>
  dc_nn (gvR S63 10 t 30) fun x66 =>
  dc_gd (p1 < 0 ∨ gvL S63 60 x66 ≤ (p1).toNatClampNeg) (
  dc_let (pvI S63 60 x66 (p1).toNatClampNeg (1 : Int32)) fun S68 =>
  dc_nn (gvR S68 10 t 4) fun x71 =>
  dc_gd ((gvI S 59 x5 (p1).toNatClampNeg) < 0 ∨ gvL S68 34 x71 ≤ ((gvI S 59 x5 (p1).toNatClampNeg)).toNatClampNeg) (
  dc_bd (f_X10_push n S68 t (0 : Int32) (gvI S 58 x2 (p1).toNatClampNeg) (gvI S68 34 x71 ((gvI S 59 x5 (p1).toNatClampNeg)).toNatClampNeg)) fun r73 S74 =>
  some ((), S74)))))) (
  dc_bd (f_X10_ends n S t (6 : Int32)) fun r82 S83 =>
  some ((), S83)))) (
  dc_bd (f_X10_ends n S t (3 : Int32)) fun r87 S88 =>
  some ((), S88)))) (
  dc_bd (f_X10_ends n S t (2 : Int32)) fun r92 S93 =>
  some ((), S93)))) (
  dc_if ((gvI S 58 x2 (p1).toNatClampNeg) ≤ 0) (
  dc_nn (gvR S 10 t 3) fun x98 =>
  dc_gd ((gvI S 59 x5 (p1).toNatClampNeg) < 0 ∨ gvL S 33 x98 ≤ ((gvI S 59 x5 (p1).toNatClampNeg)).toNatClampNeg) (
  dc_if ((gvI S 33 x98 ((gvI S 59 x5 (p1).toNatClampNeg)).toNatClampNeg) = (gvI S 32 x8 ((gvI S 59 x5 (p1).toNatClampNeg)).toNatClampNeg)) (
  dc_nn (gvR S 10 t 14) fun x102 =>
  dc_gd (v11 < 0 ∨ gvL S 44 x102 ≤ (v11).toNatClampNeg) (
  dc_if ((gvI S 44 x102 (v11).toNatClampNeg) ≤ 0) (
  dc_nn (gvR S 10 t 15) fun x106 =>
  dc_gd (v11 < 0 ∨ gvL S 45 x106 ≤ (v11).toNatClampNeg) (
  dc_if ((gvI S 45 x106 (v11).toNatClampNeg) = 0) (
  dc_if ((gvI S 32 x8 ((gvI S 59 x5 (p1).toNatClampNeg)).toNatClampNeg) = 0) (
  dc_bd (f_X10_makes n S t (gvI S 58 x2 (p1).toNatClampNeg) (gvI S 59 x5 (p1).toNatClampNeg) (-1 : Int32)) fun r127 S128 =>
  some ((), S128)) (
  dc_gd (v11 < 0 ∨ gvL S 45 x106 ≤ (v11).toNatClampNeg) (
  dc_let (pvI S 45 x106 (v11).toNatClampNeg (vp_nar .boolean (1 : Int32))) fun S113 =>
  dc_nn (gvR S113 10 t 30) fun x116 =>
  dc_gd (p1 < 0 ∨ gvL S113 60 x116 ≤ (p1).toNatClampNeg) (
  dc_let (pvI S113 60 x116 (p1).toNatClampNeg (1 : Int32)) fun S118 =>
  dc_nn (gvR S118 10 t 4) fun x121 =>
  dc_gd ((gvI S 59 x5 (p1).toNatClampNeg) < 0 ∨ gvL S118 34 x121 ≤ ((gvI S 59 x5 (p1).toNatClampNeg)).toNatClampNeg) (
  dc_bd (f_X10_push n S118 t (0 : Int32) (gvI S 58 x2 (p1).toNatClampNeg) (gvI S118 34 x121 ((gvI S 59 x5 (p1).toNatClampNeg)).toNatClampNeg)) fun r123 S124 =>
  some ((), S124)))))) (
  dc_bd (f_X10_ends n S t (6 : Int32)) fun r132 S133 =>
  some ((), S133)))) (
  dc_bd (f_X10_ends n S t (3 : Int32)) fun r137 S138 =>
  some ((), S138)))) (
  dc_bd (f_X10_ends n S t (2 : Int32)) fun r142 S143 =>
  some ((), S143)))) (
  dc_bd (f_X10_ends n S t (4 : Int32)) fun r147 S148 =>
  some ((), S148)))) (
  dc_nn (gvR S 10 t 15) fun x17 =>
  dc_gd (v11 < 0 ∨ gvL S 45 x17 ≤ (v11).toNatClampNeg) (
  dc_let (pvI S 45 x17 (v11).toNatClampNeg (vp_nar .boolean (0 : Int32))) fun S19 =>
  dc_if ((gvI S19 10 t 34) ≤ 0) (
  dc_nn (gvR S19 10 t 20) fun x24 =>
  dc_gd ((gvI S19 10 t 33) < 0 ∨ gvL S19 50 x24 ≤ ((gvI S19 10 t 33)).toNatClampNeg) (
  dc_nn (gvR S19 10 t 6) fun x26 =>
  dc_gd ((gvI S19 50 x24 ((gvI S19 10 t 33)).toNatClampNeg) < 0 ∨ gvL S19 36 x26 ≤ ((gvI S19 50 x24 ((gvI S19 10 t 33)).toNatClampNeg)).toNatClampNeg) (
  dc_if ((gvI S19 36 x26 ((gvI S19 50 x24 ((gvI S19 10 t 33)).toNatClampNeg)).toNatClampNeg) = 0) (
  dc_bd (f_X10_makes n S19 t (gvI S 58 x2 (p1).toNatClampNeg) (gvI S 59 x5 (p1).toNatClampNeg) (gvI S19 10 t 33)) fun r29 S30 =>
  some ((), S30)) (
  dc_bd (f_X10_ends n S19 t (7 : Int32)) fun r33 S34 =>
  some ((), S34))))) (
  dc_if ((gvI S19 10 t 34) = (1 : Int32)) (
  dc_bd (f_X10_ends n S19 t (2 : Int32)) fun r42 S43 =>
  some ((), S43)) (
  dc_bd (f_X10_ends n S19 t (gvI S19 10 t 34)) fun r38 S39 =>
  some ((), S39)))))))))
set_option maxHeartbeats 1000000 in
theorem m_X10_oneDefining {n : Nat} {S : lh_S} {t : Nat} {p1 : Int32} {r : Unit} {S' : lh_S} (hf : f_X10_oneDefining n S t p1 = some (r, S')) : ∀ b, gvN S b ≤ gvN S' b := by
  have hm : ∀ b, gvN S b ≤ gvN S b := fun _ => Nat.le_refl _
  unfold f_X10_oneDefining at hf
  obtain ⟨x2, hx2, hf⟩ := dc_nn_ok hf
  obtain ⟨g3, hf⟩ := dc_gd_ok hf
  obtain ⟨x5, hx5, hf⟩ := dc_nn_ok hf
  obtain ⟨g6, hf⟩ := dc_gd_ok hf
  obtain ⟨x8, hx8, hf⟩ := dc_nn_ok hf
  obtain ⟨g9, hf⟩ := dc_gd_ok hf
  obtain ⟨v10, hv10, hf⟩ := dc_let_ok hf
  obtain ⟨v11, hv11, hf⟩ := dc_let_ok hf
  obtain ⟨x13, hx13, hf⟩ := dc_nn_ok hf
  obtain ⟨g14, hf⟩ := dc_gd_ok hf
  by_cases c15 : (gvI S 60 x13 (p1).toNatClampNeg) = 0
  · replace hf := dc_if_t c15 hf
    by_cases c46 : (5 : Int32) ≤ (gvI S 32 x8 ((gvI S 59 x5 (p1).toNatClampNeg)).toNatClampNeg)
    · replace hf := dc_if_t c46 hf
      obtain ⟨x48, hx48, hf⟩ := dc_nn_ok hf
      obtain ⟨g49, hf⟩ := dc_gd_ok hf
      by_cases c50 : (gvI S 33 x48 ((gvI S 59 x5 (p1).toNatClampNeg)).toNatClampNeg) = (gvI S 32 x8 ((gvI S 59 x5 (p1).toNatClampNeg)).toNatClampNeg)
      · replace hf := dc_if_t c50 hf
        obtain ⟨x52, hx52, hf⟩ := dc_nn_ok hf
        obtain ⟨g53, hf⟩ := dc_gd_ok hf
        by_cases c54 : (gvI S 44 x52 (v11).toNatClampNeg) ≤ 0
        · replace hf := dc_if_t c54 hf
          obtain ⟨x56, hx56, hf⟩ := dc_nn_ok hf
          obtain ⟨g57, hf⟩ := dc_gd_ok hf
          by_cases c58 : (gvI S 45 x56 (v11).toNatClampNeg) = 0
          · replace hf := dc_if_t c58 hf
            by_cases c60 : (gvI S 32 x8 ((gvI S 59 x5 (p1).toNatClampNeg)).toNatClampNeg) = 0
            · replace hf := dc_if_t c60 hf
              obtain ⟨r77, S78, k79, hf⟩ := dc_bd_ok hf
              have hm := lh_le_trans hm (show ∀ b, gvN S b ≤ gvN S78 b from m_X10_makes k79)
              obtain ⟨_, rfl⟩ := dc_ret hf
              exact hm
            · replace hf := dc_if_f c60 hf
              obtain ⟨g62, hf⟩ := dc_gd_ok hf
              obtain ⟨S63, eS63, hf⟩ := dc_let_ok hf
              have hm := lh_le_trans hm (show ∀ b, gvN S b ≤ gvN S63 b from by rw [eS63]; exact lh_mI)
              obtain ⟨x66, hx66, hf⟩ := dc_nn_ok hf
              obtain ⟨g67, hf⟩ := dc_gd_ok hf
              obtain ⟨S68, eS68, hf⟩ := dc_let_ok hf
              have hm := lh_le_trans hm (show ∀ b, gvN S63 b ≤ gvN S68 b from by rw [eS68]; exact lh_mI)
              obtain ⟨x71, hx71, hf⟩ := dc_nn_ok hf
              obtain ⟨g72, hf⟩ := dc_gd_ok hf
              obtain ⟨r73, S74, k75, hf⟩ := dc_bd_ok hf
              have hm := lh_le_trans hm (show ∀ b, gvN S68 b ≤ gvN S74 b from m_X10_push k75)
              obtain ⟨_, rfl⟩ := dc_ret hf
              exact hm
          · replace hf := dc_if_f c58 hf
            obtain ⟨r82, S83, k84, hf⟩ := dc_bd_ok hf
            have hm := lh_le_trans hm (show ∀ b, gvN S b ≤ gvN S83 b from m_X10_ends k84)
            obtain ⟨_, rfl⟩ := dc_ret hf
            exact hm
        · replace hf := dc_if_f c54 hf
          obtain ⟨r87, S88, k89, hf⟩ := dc_bd_ok hf
          have hm := lh_le_trans hm (show ∀ b, gvN S b ≤ gvN S88 b from m_X10_ends k89)
          obtain ⟨_, rfl⟩ := dc_ret hf
          exact hm
      · replace hf := dc_if_f c50 hf
        obtain ⟨r92, S93, k94, hf⟩ := dc_bd_ok hf
        have hm := lh_le_trans hm (show ∀ b, gvN S b ≤ gvN S93 b from m_X10_ends k94)
        obtain ⟨_, rfl⟩ := dc_ret hf
        exact hm
    · replace hf := dc_if_f c46 hf
      by_cases c96 : (gvI S 58 x2 (p1).toNatClampNeg) ≤ 0
      · replace hf := dc_if_t c96 hf
        obtain ⟨x98, hx98, hf⟩ := dc_nn_ok hf
        obtain ⟨g99, hf⟩ := dc_gd_ok hf
        by_cases c100 : (gvI S 33 x98 ((gvI S 59 x5 (p1).toNatClampNeg)).toNatClampNeg) = (gvI S 32 x8 ((gvI S 59 x5 (p1).toNatClampNeg)).toNatClampNeg)
        · replace hf := dc_if_t c100 hf
          obtain ⟨x102, hx102, hf⟩ := dc_nn_ok hf
          obtain ⟨g103, hf⟩ := dc_gd_ok hf
          by_cases c104 : (gvI S 44 x102 (v11).toNatClampNeg) ≤ 0
          · replace hf := dc_if_t c104 hf
            obtain ⟨x106, hx106, hf⟩ := dc_nn_ok hf
            obtain ⟨g107, hf⟩ := dc_gd_ok hf
            by_cases c108 : (gvI S 45 x106 (v11).toNatClampNeg) = 0
            · replace hf := dc_if_t c108 hf
              by_cases c110 : (gvI S 32 x8 ((gvI S 59 x5 (p1).toNatClampNeg)).toNatClampNeg) = 0
              · replace hf := dc_if_t c110 hf
                obtain ⟨r127, S128, k129, hf⟩ := dc_bd_ok hf
                have hm := lh_le_trans hm (show ∀ b, gvN S b ≤ gvN S128 b from m_X10_makes k129)
                obtain ⟨_, rfl⟩ := dc_ret hf
                exact hm
              · replace hf := dc_if_f c110 hf
                obtain ⟨g112, hf⟩ := dc_gd_ok hf
                obtain ⟨S113, eS113, hf⟩ := dc_let_ok hf
                have hm := lh_le_trans hm (show ∀ b, gvN S b ≤ gvN S113 b from by rw [eS113]; exact lh_mI)
                obtain ⟨x116, hx116, hf⟩ := dc_nn_ok hf
                obtain ⟨g117, hf⟩ := dc_gd_ok hf
                obtain ⟨S118, eS118, hf⟩ := dc_let_ok hf
                have hm := lh_le_trans hm (show ∀ b, gvN S113 b ≤ gvN S118 b from by rw [eS118]; exact lh_mI)
                obtain ⟨x121, hx121, hf⟩ := dc_nn_ok hf
                obtain ⟨g122, hf⟩ := dc_gd_ok hf
                obtain ⟨r123, S124, k125, hf⟩ := dc_bd_ok hf
                have hm := lh_le_trans hm (show ∀ b, gvN S118 b ≤ gvN S124 b from m_X10_push k125)
                obtain ⟨_, rfl⟩ := dc_ret hf
                exact hm
            · replace hf := dc_if_f c108 hf
              obtain ⟨r132, S133, k134, hf⟩ := dc_bd_ok hf
              have hm := lh_le_trans hm (show ∀ b, gvN S b ≤ gvN S133 b from m_X10_ends k134)
              obtain ⟨_, rfl⟩ := dc_ret hf
              exact hm
          · replace hf := dc_if_f c104 hf
            obtain ⟨r137, S138, k139, hf⟩ := dc_bd_ok hf
            have hm := lh_le_trans hm (show ∀ b, gvN S b ≤ gvN S138 b from m_X10_ends k139)
            obtain ⟨_, rfl⟩ := dc_ret hf
            exact hm
        · replace hf := dc_if_f c100 hf
          obtain ⟨r142, S143, k144, hf⟩ := dc_bd_ok hf
          have hm := lh_le_trans hm (show ∀ b, gvN S b ≤ gvN S143 b from m_X10_ends k144)
          obtain ⟨_, rfl⟩ := dc_ret hf
          exact hm
      · replace hf := dc_if_f c96 hf
        obtain ⟨r147, S148, k149, hf⟩ := dc_bd_ok hf
        have hm := lh_le_trans hm (show ∀ b, gvN S b ≤ gvN S148 b from m_X10_ends k149)
        obtain ⟨_, rfl⟩ := dc_ret hf
        exact hm
  · replace hf := dc_if_f c15 hf
    obtain ⟨x17, hx17, hf⟩ := dc_nn_ok hf
    obtain ⟨g18, hf⟩ := dc_gd_ok hf
    obtain ⟨S19, eS19, hf⟩ := dc_let_ok hf
    have hm := lh_le_trans hm (show ∀ b, gvN S b ≤ gvN S19 b from by rw [eS19]; exact lh_mI)
    by_cases c21 : (gvI S19 10 t 34) ≤ 0
    · replace hf := dc_if_t c21 hf
      obtain ⟨x24, hx24, hf⟩ := dc_nn_ok hf
      obtain ⟨g25, hf⟩ := dc_gd_ok hf
      obtain ⟨x26, hx26, hf⟩ := dc_nn_ok hf
      obtain ⟨g27, hf⟩ := dc_gd_ok hf
      by_cases c28 : (gvI S19 36 x26 ((gvI S19 50 x24 ((gvI S19 10 t 33)).toNatClampNeg)).toNatClampNeg) = 0
      · replace hf := dc_if_t c28 hf
        obtain ⟨r29, S30, k31, hf⟩ := dc_bd_ok hf
        have hm := lh_le_trans hm (show ∀ b, gvN S19 b ≤ gvN S30 b from m_X10_makes k31)
        obtain ⟨_, rfl⟩ := dc_ret hf
        exact hm
      · replace hf := dc_if_f c28 hf
        obtain ⟨r33, S34, k35, hf⟩ := dc_bd_ok hf
        have hm := lh_le_trans hm (show ∀ b, gvN S19 b ≤ gvN S34 b from m_X10_ends k35)
        obtain ⟨_, rfl⟩ := dc_ret hf
        exact hm
    · replace hf := dc_if_f c21 hf
      by_cases c37 : (gvI S19 10 t 34) = (1 : Int32)
      · replace hf := dc_if_t c37 hf
        obtain ⟨r42, S43, k44, hf⟩ := dc_bd_ok hf
        have hm := lh_le_trans hm (show ∀ b, gvN S19 b ≤ gvN S43 b from m_X10_ends k44)
        obtain ⟨_, rfl⟩ := dc_ret hf
        exact hm
      · replace hf := dc_if_f c37 hf
        obtain ⟨r38, S39, k40, hf⟩ := dc_bd_ok hf
        have hm := lh_le_trans hm (show ∀ b, gvN S19 b ≤ gvN S39 b from m_X10_ends k40)
        obtain ⟨_, rfl⟩ := dc_ret hf
        exact hm
set_option maxHeartbeats 1000000 in
theorem k_X10_oneDefining {n : Nat} {S : lh_S} {t : Nat} {p1 : Int32} {r : Unit} {S' : lh_S} (hf : f_X10_oneDefining n S t p1 = some (r, S')) : lh_sm10 S S' := by
  have hm : lh_sm10 S S := lh_sm10_rf
  unfold f_X10_oneDefining at hf
  obtain ⟨x2, hx2, hf⟩ := dc_nn_ok hf
  obtain ⟨g3, hf⟩ := dc_gd_ok hf
  obtain ⟨x5, hx5, hf⟩ := dc_nn_ok hf
  obtain ⟨g6, hf⟩ := dc_gd_ok hf
  obtain ⟨x8, hx8, hf⟩ := dc_nn_ok hf
  obtain ⟨g9, hf⟩ := dc_gd_ok hf
  obtain ⟨v10, hv10, hf⟩ := dc_let_ok hf
  obtain ⟨v11, hv11, hf⟩ := dc_let_ok hf
  obtain ⟨x13, hx13, hf⟩ := dc_nn_ok hf
  obtain ⟨g14, hf⟩ := dc_gd_ok hf
  by_cases c15 : (gvI S 60 x13 (p1).toNatClampNeg) = 0
  · replace hf := dc_if_t c15 hf
    by_cases c46 : (5 : Int32) ≤ (gvI S 32 x8 ((gvI S 59 x5 (p1).toNatClampNeg)).toNatClampNeg)
    · replace hf := dc_if_t c46 hf
      obtain ⟨x48, hx48, hf⟩ := dc_nn_ok hf
      obtain ⟨g49, hf⟩ := dc_gd_ok hf
      by_cases c50 : (gvI S 33 x48 ((gvI S 59 x5 (p1).toNatClampNeg)).toNatClampNeg) = (gvI S 32 x8 ((gvI S 59 x5 (p1).toNatClampNeg)).toNatClampNeg)
      · replace hf := dc_if_t c50 hf
        obtain ⟨x52, hx52, hf⟩ := dc_nn_ok hf
        obtain ⟨g53, hf⟩ := dc_gd_ok hf
        by_cases c54 : (gvI S 44 x52 (v11).toNatClampNeg) ≤ 0
        · replace hf := dc_if_t c54 hf
          obtain ⟨x56, hx56, hf⟩ := dc_nn_ok hf
          obtain ⟨g57, hf⟩ := dc_gd_ok hf
          by_cases c58 : (gvI S 45 x56 (v11).toNatClampNeg) = 0
          · replace hf := dc_if_t c58 hf
            by_cases c60 : (gvI S 32 x8 ((gvI S 59 x5 (p1).toNatClampNeg)).toNatClampNeg) = 0
            · replace hf := dc_if_t c60 hf
              obtain ⟨r77, S78, k79, hf⟩ := dc_bd_ok hf
              have hm := lh_sm10_trans hm (show lh_sm10 S S78 from k_X10_makes k79)
              obtain ⟨_, rfl⟩ := dc_ret hf
              exact hm
            · replace hf := dc_if_f c60 hf
              obtain ⟨g62, hf⟩ := dc_gd_ok hf
              obtain ⟨S63, eS63, hf⟩ := dc_let_ok hf
              have hm := lh_sm10_trans hm (show lh_sm10 S S63 from by rw [eS63]; exact (lh_sm10I (by decide)))
              obtain ⟨x66, hx66, hf⟩ := dc_nn_ok hf
              obtain ⟨g67, hf⟩ := dc_gd_ok hf
              obtain ⟨S68, eS68, hf⟩ := dc_let_ok hf
              have hm := lh_sm10_trans hm (show lh_sm10 S63 S68 from by rw [eS68]; exact (lh_sm10I (by decide)))
              obtain ⟨x71, hx71, hf⟩ := dc_nn_ok hf
              obtain ⟨g72, hf⟩ := dc_gd_ok hf
              obtain ⟨r73, S74, k75, hf⟩ := dc_bd_ok hf
              have hm := lh_sm10_trans hm (show lh_sm10 S68 S74 from k_X10_push k75)
              obtain ⟨_, rfl⟩ := dc_ret hf
              exact hm
          · replace hf := dc_if_f c58 hf
            obtain ⟨r82, S83, k84, hf⟩ := dc_bd_ok hf
            have hm := lh_sm10_trans hm (show lh_sm10 S S83 from k_X10_ends k84)
            obtain ⟨_, rfl⟩ := dc_ret hf
            exact hm
        · replace hf := dc_if_f c54 hf
          obtain ⟨r87, S88, k89, hf⟩ := dc_bd_ok hf
          have hm := lh_sm10_trans hm (show lh_sm10 S S88 from k_X10_ends k89)
          obtain ⟨_, rfl⟩ := dc_ret hf
          exact hm
      · replace hf := dc_if_f c50 hf
        obtain ⟨r92, S93, k94, hf⟩ := dc_bd_ok hf
        have hm := lh_sm10_trans hm (show lh_sm10 S S93 from k_X10_ends k94)
        obtain ⟨_, rfl⟩ := dc_ret hf
        exact hm
    · replace hf := dc_if_f c46 hf
      by_cases c96 : (gvI S 58 x2 (p1).toNatClampNeg) ≤ 0
      · replace hf := dc_if_t c96 hf
        obtain ⟨x98, hx98, hf⟩ := dc_nn_ok hf
        obtain ⟨g99, hf⟩ := dc_gd_ok hf
        by_cases c100 : (gvI S 33 x98 ((gvI S 59 x5 (p1).toNatClampNeg)).toNatClampNeg) = (gvI S 32 x8 ((gvI S 59 x5 (p1).toNatClampNeg)).toNatClampNeg)
        · replace hf := dc_if_t c100 hf
          obtain ⟨x102, hx102, hf⟩ := dc_nn_ok hf
          obtain ⟨g103, hf⟩ := dc_gd_ok hf
          by_cases c104 : (gvI S 44 x102 (v11).toNatClampNeg) ≤ 0
          · replace hf := dc_if_t c104 hf
            obtain ⟨x106, hx106, hf⟩ := dc_nn_ok hf
            obtain ⟨g107, hf⟩ := dc_gd_ok hf
            by_cases c108 : (gvI S 45 x106 (v11).toNatClampNeg) = 0
            · replace hf := dc_if_t c108 hf
              by_cases c110 : (gvI S 32 x8 ((gvI S 59 x5 (p1).toNatClampNeg)).toNatClampNeg) = 0
              · replace hf := dc_if_t c110 hf
                obtain ⟨r127, S128, k129, hf⟩ := dc_bd_ok hf
                have hm := lh_sm10_trans hm (show lh_sm10 S S128 from k_X10_makes k129)
                obtain ⟨_, rfl⟩ := dc_ret hf
                exact hm
              · replace hf := dc_if_f c110 hf
                obtain ⟨g112, hf⟩ := dc_gd_ok hf
                obtain ⟨S113, eS113, hf⟩ := dc_let_ok hf
                have hm := lh_sm10_trans hm (show lh_sm10 S S113 from by rw [eS113]; exact (lh_sm10I (by decide)))
                obtain ⟨x116, hx116, hf⟩ := dc_nn_ok hf
                obtain ⟨g117, hf⟩ := dc_gd_ok hf
                obtain ⟨S118, eS118, hf⟩ := dc_let_ok hf
                have hm := lh_sm10_trans hm (show lh_sm10 S113 S118 from by rw [eS118]; exact (lh_sm10I (by decide)))
                obtain ⟨x121, hx121, hf⟩ := dc_nn_ok hf
                obtain ⟨g122, hf⟩ := dc_gd_ok hf
                obtain ⟨r123, S124, k125, hf⟩ := dc_bd_ok hf
                have hm := lh_sm10_trans hm (show lh_sm10 S118 S124 from k_X10_push k125)
                obtain ⟨_, rfl⟩ := dc_ret hf
                exact hm
            · replace hf := dc_if_f c108 hf
              obtain ⟨r132, S133, k134, hf⟩ := dc_bd_ok hf
              have hm := lh_sm10_trans hm (show lh_sm10 S S133 from k_X10_ends k134)
              obtain ⟨_, rfl⟩ := dc_ret hf
              exact hm
          · replace hf := dc_if_f c104 hf
            obtain ⟨r137, S138, k139, hf⟩ := dc_bd_ok hf
            have hm := lh_sm10_trans hm (show lh_sm10 S S138 from k_X10_ends k139)
            obtain ⟨_, rfl⟩ := dc_ret hf
            exact hm
        · replace hf := dc_if_f c100 hf
          obtain ⟨r142, S143, k144, hf⟩ := dc_bd_ok hf
          have hm := lh_sm10_trans hm (show lh_sm10 S S143 from k_X10_ends k144)
          obtain ⟨_, rfl⟩ := dc_ret hf
          exact hm
      · replace hf := dc_if_f c96 hf
        obtain ⟨r147, S148, k149, hf⟩ := dc_bd_ok hf
        have hm := lh_sm10_trans hm (show lh_sm10 S S148 from k_X10_ends k149)
        obtain ⟨_, rfl⟩ := dc_ret hf
        exact hm
  · replace hf := dc_if_f c15 hf
    obtain ⟨x17, hx17, hf⟩ := dc_nn_ok hf
    obtain ⟨g18, hf⟩ := dc_gd_ok hf
    obtain ⟨S19, eS19, hf⟩ := dc_let_ok hf
    have hm := lh_sm10_trans hm (show lh_sm10 S S19 from by rw [eS19]; exact (lh_sm10I (by decide)))
    by_cases c21 : (gvI S19 10 t 34) ≤ 0
    · replace hf := dc_if_t c21 hf
      obtain ⟨x24, hx24, hf⟩ := dc_nn_ok hf
      obtain ⟨g25, hf⟩ := dc_gd_ok hf
      obtain ⟨x26, hx26, hf⟩ := dc_nn_ok hf
      obtain ⟨g27, hf⟩ := dc_gd_ok hf
      by_cases c28 : (gvI S19 36 x26 ((gvI S19 50 x24 ((gvI S19 10 t 33)).toNatClampNeg)).toNatClampNeg) = 0
      · replace hf := dc_if_t c28 hf
        obtain ⟨r29, S30, k31, hf⟩ := dc_bd_ok hf
        have hm := lh_sm10_trans hm (show lh_sm10 S19 S30 from k_X10_makes k31)
        obtain ⟨_, rfl⟩ := dc_ret hf
        exact hm
      · replace hf := dc_if_f c28 hf
        obtain ⟨r33, S34, k35, hf⟩ := dc_bd_ok hf
        have hm := lh_sm10_trans hm (show lh_sm10 S19 S34 from k_X10_ends k35)
        obtain ⟨_, rfl⟩ := dc_ret hf
        exact hm
    · replace hf := dc_if_f c21 hf
      by_cases c37 : (gvI S19 10 t 34) = (1 : Int32)
      · replace hf := dc_if_t c37 hf
        obtain ⟨r42, S43, k44, hf⟩ := dc_bd_ok hf
        have hm := lh_sm10_trans hm (show lh_sm10 S19 S43 from k_X10_ends k44)
        obtain ⟨_, rfl⟩ := dc_ret hf
        exact hm
      · replace hf := dc_if_f c37 hf
        obtain ⟨r38, S39, k40, hf⟩ := dc_bd_ok hf
        have hm := lh_sm10_trans hm (show lh_sm10 S19 S39 from k_X10_ends k40)
        obtain ⟨_, rfl⟩ := dc_ret hf
        exact hm
set_option maxHeartbeats 4000000 in
set_option maxRecDepth 100000 in
theorem c_X10_oneDefining (l : Launch) (D : va_G) (cT : Nat → ClassId) (n : Nat) (S : lh_S) (ad : Nat → Nat → Nat) (A : Nat → Prop) (sz : Nat) (hA : ∀ q, sz ≤ q → A q) (t : Nat) (p1 : Int32) (r : Unit) (S' : lh_S) (hf : f_X10_oneDefining n S t p1 = some (r, S')) (L_t : ∀ j, some t = some j → j < gvN S 10) : Met l yX10_oneDefining wsX10_oneDefining ({ frames := 2, cells := 0, slots := 0, locals := 50 } : Room) (lh_P D cT S ad A sz [lh_r ad 10 (some t), .int p1]) (lh_Q D cT S' ad A ((∀ b, gvN S b ≤ gvN S' b) ∧ True) (none)) 0 0 A := by
  refine Met.ofW (cc := cX10_oneDefining) (maxL := 7) (ret := none) (by decide) rfl ?_
  intro p e s m args below meth c s₁ B hml hv
  obtain ⟨hargs, hsz, hW, hK, hN⟩ := hv
  have hx := B.exec
  have hb := B.bytes
  have hr := B.returns
  have hts := atoms_spec (ws := wsX10_oneDefining) B.pre
  have hown : s.vm.findClass RX10 = some m.cls := findClass_of_methodNamed B.named
  have hlocks := B.notSynchronized
  have hA : ∀ q, s.heap.size ≤ q → A q := fun q h => hA q (by rw [← hsz]; exact h)
  have ok := lh_W_ok hW
  have hm : ∀ b, gvN S b ≤ gvN S b := fun _ => Nat.le_refl _
  obtain ⟨ls, hent, hl⟩ := lh_entry m args [lh_r ad 10 (some t), .int p1] 7 [(0, lh_r ad 10 (some t)), (1, .int p1)] hargs (by simp [lv_args, lh_cat_r, lh_cat_i, lh_cat_j]) (by simp [lg_sl, lh_cat_r, lh_cat_i, lh_cat_j])
  rw [hent]
  generalize hH : s.heap = H at hW ⊢
  have hS : va_S A s.heap H [] := by rw [← hH]; exact va_S.rf
  unfold f_X10_oneDefining at hf
  refine lh_aload_n hx hb dX10_oneDefining_0 rfl (lv_at hl 0 rfl) ?_
  have L1 : ∀ j, gvR S 10 t 28 = some j → j < gvN S 58 := fun j h => ok _ _ _ _ j (L_t _ rfl) rfl h
  refine lh_get (a := 10) (k := 28) (N := 42) (C := RX10) (T := TX10) (own := RX10) (ref := "LoaderModelsModel") hx hb hts (fun _ h => (List.mem_cons_of_mem _ (List.mem_append_right _ h))) hown hK hW rfl (L_t _ rfl) rfl rfl rfl (by decide) (hts (.fieldLink RX10 82 "LoaderModelsModel" "by" "[I") (List.mem_cons_of_mem _ (List.mem_append_left _ (List.mem_append_left _ (List.mem_of_getElem? (i := 0) rfl))))) (fun _ h9 => h9) dX10_oneDefining_1 (v := lh_r ad 58 (gvR S 10 t 28)) rfl ?_
  refine lv_iload_n hx hb dX10_oneDefining_4 rfl (lv_at hl 1 rfl) ?_
  obtain ⟨x2, hx2, hf⟩ := dc_nn_ok hf
  obtain ⟨g3, hf⟩ := dc_gd_ok hf
  refine lh_ald_i (a := 58) hx hb hK hW hx2 (L1 _ hx2) rfl rfl g3 dX10_oneDefining_5 ?_
  refine lv_istore_n (i := 2) (lv' := [(2, .int (gvI S 58 x2 (p1).toNatClampNeg)), (0, lh_r ad 10 (some t)), (1, .int p1)]) hx hb dX10_oneDefining_6 rfl hl (by decide) (by first | rfl | simp [lh_cat_r, lh_cat_i, lh_cat_j]) (fun ls hl => ?_)
  refine lh_aload_n hx hb dX10_oneDefining_7 rfl (lv_at hl 1 rfl) ?_
  have L4 : ∀ j, gvR S 10 t 29 = some j → j < gvN S 59 := fun j h => ok _ _ _ _ j (L_t _ rfl) rfl h
  refine lh_get (a := 10) (k := 29) (N := 42) (C := RX10) (T := TX10) (own := RX10) (ref := "LoaderModelsModel") hx hb hts (fun _ h => (List.mem_cons_of_mem _ (List.mem_append_right _ h))) hown hK hW rfl (L_t _ rfl) rfl rfl rfl (by decide) (hts (.fieldLink RX10 85 "LoaderModelsModel" "what" "[I") (List.mem_cons_of_mem _ (List.mem_append_left _ (List.mem_append_left _ (List.mem_of_getElem? (i := 1) rfl))))) (fun _ h9 => h9) dX10_oneDefining_8 (v := lh_r ad 59 (gvR S 10 t 29)) rfl ?_
  refine lv_iload_n hx hb dX10_oneDefining_11 rfl (lv_at hl 2 rfl) ?_
  obtain ⟨x5, hx5, hf⟩ := dc_nn_ok hf
  obtain ⟨g6, hf⟩ := dc_gd_ok hf
  refine lh_ald_i (a := 59) hx hb hK hW hx5 (L4 _ hx5) rfl rfl g6 dX10_oneDefining_12 ?_
  refine lv_istore_n (i := 3) (lv' := [(3, .int (gvI S 59 x5 (p1).toNatClampNeg)), (2, .int (gvI S 58 x2 (p1).toNatClampNeg)), (0, lh_r ad 10 (some t)), (1, .int p1)]) hx hb dX10_oneDefining_13 rfl hl (by decide) (by first | rfl | simp [lh_cat_r, lh_cat_i, lh_cat_j]) (fun ls hl => ?_)
  refine lh_aload_n hx hb dX10_oneDefining_14 rfl (lv_at hl 2 rfl) ?_
  have L7 : ∀ j, gvR S 10 t 2 = some j → j < gvN S 32 := fun j h => ok _ _ _ _ j (L_t _ rfl) rfl h
  refine lh_get (a := 10) (k := 2) (N := 42) (C := RX10) (T := TX10) (own := RX10) (ref := "LoaderModelsModel") hx hb hts (fun _ h => (List.mem_cons_of_mem _ (List.mem_append_right _ h))) hown hK hW rfl (L_t _ rfl) rfl rfl rfl (by decide) (hts (.fieldLink RX10 13 "LoaderModelsModel" "fileName" "[I") (List.mem_cons_of_mem _ (List.mem_append_left _ (List.mem_append_left _ (List.mem_of_getElem? (i := 2) rfl))))) (fun _ h9 => h9) dX10_oneDefining_15 (v := lh_r ad 32 (gvR S 10 t 2)) rfl ?_
  refine lv_iload_n hx hb dX10_oneDefining_18 rfl (lv_at hl 0 rfl) ?_
  obtain ⟨x8, hx8, hf⟩ := dc_nn_ok hf
  obtain ⟨g9, hf⟩ := dc_gd_ok hf
  refine lh_ald_i (a := 32) hx hb hK hW hx8 (L7 _ hx8) rfl rfl g9 dX10_oneDefining_19 ?_
  refine lv_istore (i := 4) (lv' := [(4, .int (gvI S 32 x8 ((gvI S 59 x5 (p1).toNatClampNeg)).toNatClampNeg)), (3, .int (gvI S 59 x5 (p1).toNatClampNeg)), (2, .int (gvI S 58 x2 (p1).toNatClampNeg)), (0, lh_r ad 10 (some t)), (1, .int p1)]) hx hb dX10_oneDefining_20 hl (by decide) (by first | rfl | simp [lh_cat_r, lh_cat_i, lh_cat_j]) (fun ls hl => ?_)
  refine lv_bipush (v := 40) hx hb dX10_oneDefining_22 (by decide) ?_
  refine lv_iload_n hx hb dX10_oneDefining_24 rfl (lv_at hl 2 rfl) ?_
  refine lv_imul hx hb dX10_oneDefining_25 ?_
  refine lv_topi (fun v10 hv10 => ?_)
  replace hf := dc_let_e hv10 hf
  refine lv_iload hx hb dX10_oneDefining_26 (lv_at hl 0 rfl) ?_
  refine lv_iadd hx hb dX10_oneDefining_28 ?_
  refine lv_topi (fun v11 hv11 => ?_)
  replace hf := dc_let_e hv11 hf
  refine lv_istore (i := 5) (lv' := [(5, .int v11), (4, .int (gvI S 32 x8 ((gvI S 59 x5 (p1).toNatClampNeg)).toNatClampNeg)), (3, .int (gvI S 59 x5 (p1).toNatClampNeg)), (2, .int (gvI S 58 x2 (p1).toNatClampNeg)), (0, lh_r ad 10 (some t)), (1, .int p1)]) hx hb dX10_oneDefining_29 hl (by decide) (by first | rfl | simp [lh_cat_r, lh_cat_i, lh_cat_j]) (fun ls hl => ?_)
  refine lh_aload_n hx hb dX10_oneDefining_31 rfl (lv_at hl 4 rfl) ?_
  have L12 : ∀ j, gvR S 10 t 30 = some j → j < gvN S 60 := fun j h => ok _ _ _ _ j (L_t _ rfl) rfl h
  refine lh_get (a := 10) (k := 30) (N := 42) (C := RX10) (T := TX10) (own := RX10) (ref := "LoaderModelsModel") hx hb hts (fun _ h => (List.mem_cons_of_mem _ (List.mem_append_right _ h))) hown hK hW rfl (L_t _ rfl) rfl rfl rfl (by decide) (hts (.fieldLink RX10 88 "LoaderModelsModel" "stage" "[I") (List.mem_cons_of_mem _ (List.mem_append_left _ (List.mem_append_left _ (List.mem_of_getElem? (i := 3) rfl))))) (fun _ h9 => h9) dX10_oneDefining_32 (v := lh_r ad 60 (gvR S 10 t 30)) rfl ?_
  refine lv_iload_n hx hb dX10_oneDefining_35 rfl (lv_at hl 5 rfl) ?_
  obtain ⟨x13, hx13, hf⟩ := dc_nn_ok hf
  obtain ⟨g14, hf⟩ := dc_gd_ok hf
  refine lh_ald_i (a := 60) hx hb hK hW hx13 (L12 _ hx13) rfl rfl g14 dX10_oneDefining_36 ?_
  refine lv_if_ne (tgt := 158) hx hb dX10_oneDefining_37 (by decide) (fun c15 => ?_) (fun c15 => ?_)
  · replace hf := dc_if_f c15 hf
    refine lh_aload_n hx hb dX10_oneDefining_158 rfl (lv_at hl 4 rfl) ?_
    have L16 : ∀ j, gvR S 10 t 15 = some j → j < gvN S 45 := fun j h => ok _ _ _ _ j (L_t _ rfl) rfl h
    refine lh_get (a := 10) (k := 15) (N := 42) (C := RX10) (T := TX10) (own := RX10) (ref := "LoaderModelsModel") hx hb hts (fun _ h => (List.mem_cons_of_mem _ (List.mem_append_right _ h))) hown hK hW rfl (L_t _ rfl) rfl rfl rfl (by decide) (hts (.fieldLink RX10 51 "LoaderModelsModel" "isDefining" "[Z") (List.mem_cons_of_mem _ (List.mem_append_left _ (List.mem_append_left _ (List.mem_of_getElem? (i := 6) rfl))))) (fun _ h9 => h9) dX10_oneDefining_159 (v := lh_r ad 45 (gvR S 10 t 15)) rfl ?_
    refine lv_iload hx hb dX10_oneDefining_162 (lv_at hl 0 rfl) ?_
    refine lv_iconst (v := 0) hx hb dX10_oneDefining_164 (by decide) ?_
    obtain ⟨x17, hx17, hf⟩ := dc_nn_ok hf
    obtain ⟨g18, hf⟩ := dc_gd_ok hf
    obtain ⟨S19, eS19, hf⟩ := dc_let_ok hf
    refine lh_ast_z (a := 45) hx hb hK hW hS hx17 (L16 _ hx17) rfl (fun _ => rfl) g18 dX10_oneDefining_165 (fun H locs hW hS => ?_)
    rw [← eS19] at hW
    have m20 : ∀ b, gvN S b ≤ gvN S19 b := by rw [eS19]; exact lh_mI
    have L_t : ∀ j, some t = some j → j < gvN S19 10 := fun j h => Nat.lt_of_lt_of_le (L_t j h) (m20 _)
    have hm : ∀ b, gvN S b ≤ gvN S19 b := lh_le_trans hm m20
    have ok := lh_W_ok hW
    refine lh_aload_n hx hb dX10_oneDefining_166 rfl (lv_at hl 4 rfl) ?_
    refine lh_get (a := 10) (k := 34) (N := 42) (C := RX10) (T := TX10) (own := RX10) (ref := "LoaderModelsModel") hx hb hts (fun _ h => (List.mem_cons_of_mem _ (List.mem_append_right _ h))) hown hK hW rfl (L_t _ rfl) rfl rfl rfl (by decide) (hts (.fieldLink RX10 154 "LoaderModelsModel" "failure" "I") (List.mem_cons_of_mem _ (List.mem_append_left _ (List.mem_append_left _ (List.mem_of_getElem? (i := 8) rfl))))) (fun _ h9 => h9) dX10_oneDefining_167 (v := .int (gvI S19 10 t 34)) rfl ?_
    refine lv_if_le (tgt := 196) hx hb dX10_oneDefining_170 (by decide) (fun c21 => ?_) (fun c21 => ?_)
    · replace hf := dc_if_t c21 hf
      refine lh_aload_n hx hb dX10_oneDefining_196 rfl (lv_at hl 4 rfl) ?_
      have L22 : ∀ j, gvR S19 10 t 6 = some j → j < gvN S19 36 := fun j h => ok _ _ _ _ j (L_t _ rfl) rfl h
      refine lh_get (a := 10) (k := 6) (N := 42) (C := RX10) (T := TX10) (own := RX10) (ref := "LoaderModelsModel") hx hb hts (fun _ h => (List.mem_cons_of_mem _ (List.mem_append_right _ h))) hown hK hW rfl (L_t _ rfl) rfl rfl rfl (by decide) (hts (.fieldLink RX10 26 "LoaderModelsModel" "isFinal" "[Z") (List.mem_cons_of_mem _ (List.mem_append_left _ (List.mem_append_left _ (List.mem_of_getElem? (i := 9) rfl))))) (fun _ h9 => h9) dX10_oneDefining_197 (v := lh_r ad 36 (gvR S19 10 t 6)) rfl ?_
      refine lh_aload_n hx hb dX10_oneDefining_200 rfl (lv_at hl 4 rfl) ?_
      have L23 : ∀ j, gvR S19 10 t 20 = some j → j < gvN S19 50 := fun j h => ok _ _ _ _ j (L_t _ rfl) rfl h
      refine lh_get (a := 10) (k := 20) (N := 42) (C := RX10) (T := TX10) (own := RX10) (ref := "LoaderModelsModel") hx hb hts (fun _ h => (List.mem_cons_of_mem _ (List.mem_append_right _ h))) hown hK hW rfl (L_t _ rfl) rfl rfl rfl (by decide) (hts (.fieldLink RX10 63 "LoaderModelsModel" "classFile" "[I") (List.mem_cons_of_mem _ (List.mem_append_left _ (List.mem_append_left _ (List.mem_of_getElem? (i := 10) rfl))))) (fun _ h9 => h9) dX10_oneDefining_201 (v := lh_r ad 50 (gvR S19 10 t 20)) rfl ?_
      refine lh_aload_n hx hb dX10_oneDefining_204 rfl (lv_at hl 4 rfl) ?_
      refine lh_get (a := 10) (k := 33) (N := 42) (C := RX10) (T := TX10) (own := RX10) (ref := "LoaderModelsModel") hx hb hts (fun _ h => (List.mem_cons_of_mem _ (List.mem_append_right _ h))) hown hK hW rfl (L_t _ rfl) rfl rfl rfl (by decide) (hts (.fieldLink RX10 157 "LoaderModelsModel" "came" "I") (List.mem_cons_of_mem _ (List.mem_append_left _ (List.mem_append_left _ (List.mem_of_getElem? (i := 11) rfl))))) (fun _ h9 => h9) dX10_oneDefining_205 (v := .int (gvI S19 10 t 33)) rfl ?_
      obtain ⟨x24, hx24, hf⟩ := dc_nn_ok hf
      obtain ⟨g25, hf⟩ := dc_gd_ok hf
      refine lh_ald_i (a := 50) hx hb hK hW hx24 (L23 _ hx24) rfl rfl g25 dX10_oneDefining_208 ?_
      obtain ⟨x26, hx26, hf⟩ := dc_nn_ok hf
      obtain ⟨g27, hf⟩ := dc_gd_ok hf
      refine lh_ald_z (a := 36) hx hb hK hW hx26 (L22 _ hx26) rfl rfl g27 dX10_oneDefining_209 ?_
      refine lv_if_eq (tgt := 222) hx hb dX10_oneDefining_210 (by decide) (fun c28 => ?_) (fun c28 => ?_)
      · replace hf := dc_if_t c28 hf
        refine lh_aload_n hx hb dX10_oneDefining_222 rfl (lv_at hl 4 rfl) ?_
        refine lv_iload_n hx hb dX10_oneDefining_223 rfl (lv_at hl 3 rfl) ?_
        refine lv_iload_n hx hb dX10_oneDefining_224 rfl (lv_at hl 2 rfl) ?_
        refine lh_aload_n hx hb dX10_oneDefining_225 rfl (lv_at hl 4 rfl) ?_
        refine lh_get (a := 10) (k := 33) (N := 42) (C := RX10) (T := TX10) (own := RX10) (ref := "LoaderModelsModel") hx hb hts (fun _ h => (List.mem_cons_of_mem _ (List.mem_append_right _ h))) hown hK hW rfl (L_t _ rfl) rfl rfl rfl (by decide) (hts (.fieldLink RX10 157 "LoaderModelsModel" "came" "I") (List.mem_cons_of_mem _ (List.mem_append_left _ (List.mem_append_left _ (List.mem_of_getElem? (i := 11) rfl))))) (fun _ h9 => h9) dX10_oneDefining_226 (v := .int (gvI S19 10 t 33)) rfl ?_
        obtain ⟨r29, S30, k31, hf⟩ := dc_bd_ok hf
        refine lh_call (S' := S30) (lh_rv ⟨hx, hb, hml, hown, hts⟩ rfl (As := [.int (gvI S 58 x2 (p1).toNatClampNeg), .int (gvI S 59 x5 (p1).toNatClampNeg), .int (gvI S19 10 t 33)]) (rest := []) (k := 10) (c_X10_makes l D cT n S19 ad A H.size (fun q9 h9 => hA q9 (Nat.le_trans hS.1 h9)) t (gvI S 58 x2 (p1).toNatClampNeg) (gvI S 59 x5 (p1).toNatClampNeg) (gvI S19 10 t 33) r29 S30 k31 L_t) (cwV 3 hts gX10_oneDefining_X10_makes rfl rfl rfl (by decide +kernel) ⟨Nat.le_of_ble_eq_true rfl, Nat.le_of_ble_eq_true rfl⟩) hK hN hW (L_t _ rfl) rfl rfl rfl hl.1 rfl (by simp [lh_cat_r, lh_cat_i, lh_cat_j]) dX10_oneDefining_229 ⟨Nat.le_of_ble_eq_true rfl, Nat.le_of_ble_eq_true rfl⟩) hS (fun H locs hX hW hS => ?_)
        refine W.widen (k := 0) (n := 0) (by omega) (by omega) ?_
        show W _ _ _ _ _ _ _ _ _ _ _ _ _ _ _ (F0 m 232 ls [])
        have m32 : ∀ b, gvN S19 b ≤ gvN S30 b := hX.1
        have L_t : ∀ j, some t = some j → j < gvN S30 10 := fun j h => Nat.lt_of_lt_of_le (L_t j h) (m32 _)
        have hm : ∀ b, gvN S b ≤ gvN S30 b := lh_le_trans hm m32
        have ok := lh_W_ok hW
        obtain ⟨rfl, rfl⟩ := dc_ret hf
        exact W.vret hx hb hr (fun t9 ht9 hW9 => ⟨⟨rfl, ⟨hm, trivial⟩, by rw [ht9]; exact hW⟩, hS.F ht9⟩) hS.2.2 dX10_oneDefining_232
      · replace hf := dc_if_f c28 hf
        refine lh_aload_n hx hb dX10_oneDefining_213 rfl (lv_at hl 4 rfl) ?_
        refine lv_bipush (v := 7) hx hb dX10_oneDefining_214 (by decide) ?_
        obtain ⟨r33, S34, k35, hf⟩ := dc_bd_ok hf
        refine lh_call (S' := S34) (lh_rv ⟨hx, hb, hml, hown, hts⟩ rfl (As := [.int (7 : Int32)]) (rest := []) (k := 10) (c_X10_ends l D cT n S19 ad A H.size (fun q9 h9 => hA q9 (Nat.le_trans hS.1 h9)) t (7 : Int32) r33 S34 k35 L_t) (cwV 1 hts gX10_oneDefining_X10_ends rfl rfl rfl (by decide +kernel) ⟨Nat.le_of_ble_eq_true rfl, Nat.le_of_ble_eq_true rfl⟩) hK hN hW (L_t _ rfl) rfl rfl rfl hl.1 rfl (by simp [lh_cat_r, lh_cat_i, lh_cat_j]) dX10_oneDefining_216 ⟨Nat.le_of_ble_eq_true rfl, Nat.le_of_ble_eq_true rfl⟩) hS (fun H locs hX hW hS => ?_)
        refine W.widen (k := 0) (n := 0) (by omega) (by omega) ?_
        show W _ _ _ _ _ _ _ _ _ _ _ _ _ _ _ (F0 m 219 ls [])
        have m36 : ∀ b, gvN S19 b ≤ gvN S34 b := hX.1
        have L_t : ∀ j, some t = some j → j < gvN S34 10 := fun j h => Nat.lt_of_lt_of_le (L_t j h) (m36 _)
        have hm : ∀ b, gvN S b ≤ gvN S34 b := lh_le_trans hm m36
        have ok := lh_W_ok hW
        refine lv_goto (tgt := 232) hx hb dX10_oneDefining_219 (by decide) ?_
        obtain ⟨rfl, rfl⟩ := dc_ret hf
        exact W.vret hx hb hr (fun t9 ht9 hW9 => ⟨⟨rfl, ⟨hm, trivial⟩, by rw [ht9]; exact hW⟩, hS.F ht9⟩) hS.2.2 dX10_oneDefining_232
    · replace hf := dc_if_f c21 hf
      refine lh_aload_n hx hb dX10_oneDefining_173 rfl (lv_at hl 4 rfl) ?_
      refine lh_aload_n hx hb dX10_oneDefining_174 rfl (lv_at hl 4 rfl) ?_
      refine lh_get (a := 10) (k := 34) (N := 42) (C := RX10) (T := TX10) (own := RX10) (ref := "LoaderModelsModel") hx hb hts (fun _ h => (List.mem_cons_of_mem _ (List.mem_append_right _ h))) hown hK hW rfl (L_t _ rfl) rfl rfl rfl (by decide) (hts (.fieldLink RX10 154 "LoaderModelsModel" "failure" "I") (List.mem_cons_of_mem _ (List.mem_append_left _ (List.mem_append_left _ (List.mem_of_getElem? (i := 8) rfl))))) (fun _ h9 => h9) dX10_oneDefining_175 (v := .int (gvI S19 10 t 34)) rfl ?_
      refine lv_iconst (v := 1) hx hb dX10_oneDefining_178 (by decide) ?_
      refine lv_icmp_ne (tgt := 186) hx hb dX10_oneDefining_179 (by decide) (fun c37 => ?_) (fun c37 => ?_)
      · replace hf := dc_if_f c37 hf
        refine lh_aload_n hx hb dX10_oneDefining_186 rfl (lv_at hl 4 rfl) ?_
        refine lh_get (a := 10) (k := 34) (N := 42) (C := RX10) (T := TX10) (own := RX10) (ref := "LoaderModelsModel") hx hb hts (fun _ h => (List.mem_cons_of_mem _ (List.mem_append_right _ h))) hown hK hW rfl (L_t _ rfl) rfl rfl rfl (by decide) (hts (.fieldLink RX10 154 "LoaderModelsModel" "failure" "I") (List.mem_cons_of_mem _ (List.mem_append_left _ (List.mem_append_left _ (List.mem_of_getElem? (i := 8) rfl))))) (fun _ h9 => h9) dX10_oneDefining_187 (v := .int (gvI S19 10 t 34)) rfl ?_
        obtain ⟨r38, S39, k40, hf⟩ := dc_bd_ok hf
        refine lh_call (S' := S39) (lh_rv ⟨hx, hb, hml, hown, hts⟩ rfl (As := [.int (gvI S19 10 t 34)]) (rest := []) (k := 10) (c_X10_ends l D cT n S19 ad A H.size (fun q9 h9 => hA q9 (Nat.le_trans hS.1 h9)) t (gvI S19 10 t 34) r38 S39 k40 L_t) (cwV 1 hts gX10_oneDefining_X10_ends rfl rfl rfl (by decide +kernel) ⟨Nat.le_of_ble_eq_true rfl, Nat.le_of_ble_eq_true rfl⟩) hK hN hW (L_t _ rfl) rfl rfl rfl hl.1 rfl (by simp [lh_cat_r, lh_cat_i, lh_cat_j]) dX10_oneDefining_190 ⟨Nat.le_of_ble_eq_true rfl, Nat.le_of_ble_eq_true rfl⟩) hS (fun H locs hX hW hS => ?_)
        refine W.widen (k := 0) (n := 0) (by omega) (by omega) ?_
        show W _ _ _ _ _ _ _ _ _ _ _ _ _ _ _ (F0 m 193 ls [])
        have m41 : ∀ b, gvN S19 b ≤ gvN S39 b := hX.1
        have L_t : ∀ j, some t = some j → j < gvN S39 10 := fun j h => Nat.lt_of_lt_of_le (L_t j h) (m41 _)
        have hm : ∀ b, gvN S b ≤ gvN S39 b := lh_le_trans hm m41
        have ok := lh_W_ok hW
        refine lv_goto (tgt := 232) hx hb dX10_oneDefining_193 (by decide) ?_
        obtain ⟨rfl, rfl⟩ := dc_ret hf
        exact W.vret hx hb hr (fun t9 ht9 hW9 => ⟨⟨rfl, ⟨hm, trivial⟩, by rw [ht9]; exact hW⟩, hS.F ht9⟩) hS.2.2 dX10_oneDefining_232
      · replace hf := dc_if_t c37 hf
        refine lv_iconst (v := 2) hx hb dX10_oneDefining_182 (by decide) ?_
        refine lv_goto (tgt := 190) hx hb dX10_oneDefining_183 (by decide) ?_
        obtain ⟨r42, S43, k44, hf⟩ := dc_bd_ok hf
        refine lh_call (S' := S43) (lh_rv ⟨hx, hb, hml, hown, hts⟩ rfl (As := [.int (2 : Int32)]) (rest := []) (k := 10) (c_X10_ends l D cT n S19 ad A H.size (fun q9 h9 => hA q9 (Nat.le_trans hS.1 h9)) t (2 : Int32) r42 S43 k44 L_t) (cwV 1 hts gX10_oneDefining_X10_ends rfl rfl rfl (by decide +kernel) ⟨Nat.le_of_ble_eq_true rfl, Nat.le_of_ble_eq_true rfl⟩) hK hN hW (L_t _ rfl) rfl rfl rfl hl.1 rfl (by simp [lh_cat_r, lh_cat_i, lh_cat_j]) dX10_oneDefining_190 ⟨Nat.le_of_ble_eq_true rfl, Nat.le_of_ble_eq_true rfl⟩) hS (fun H locs hX hW hS => ?_)
        refine W.widen (k := 0) (n := 0) (by omega) (by omega) ?_
        show W _ _ _ _ _ _ _ _ _ _ _ _ _ _ _ (F0 m 193 ls [])
        have m45 : ∀ b, gvN S19 b ≤ gvN S43 b := hX.1
        have L_t : ∀ j, some t = some j → j < gvN S43 10 := fun j h => Nat.lt_of_lt_of_le (L_t j h) (m45 _)
        have hm : ∀ b, gvN S b ≤ gvN S43 b := lh_le_trans hm m45
        have ok := lh_W_ok hW
        refine lv_goto (tgt := 232) hx hb dX10_oneDefining_193 (by decide) ?_
        obtain ⟨rfl, rfl⟩ := dc_ret hf
        exact W.vret hx hb hr (fun t9 ht9 hW9 => ⟨⟨rfl, ⟨hm, trivial⟩, by rw [ht9]; exact hW⟩, hS.F ht9⟩) hS.2.2 dX10_oneDefining_232
  · replace hf := dc_if_t c15 hf
    refine lv_iload hx hb dX10_oneDefining_40 (lv_at hl 1 rfl) ?_
    refine lv_iconst (v := 5) hx hb dX10_oneDefining_42 (by decide) ?_
    refine lv_icmp_ge (tgt := 54) hx hb dX10_oneDefining_43 (by decide) (fun c46 => ?_) (fun c46 => ?_)
    · replace hf := dc_if_t c46 hf
      refine lh_aload_n hx hb dX10_oneDefining_54 rfl (lv_at hl 4 rfl) ?_
      have L47 : ∀ j, gvR S 10 t 3 = some j → j < gvN S 33 := fun j h => ok _ _ _ _ j (L_t _ rfl) rfl h
      refine lh_get (a := 10) (k := 3) (N := 42) (C := RX10) (T := TX10) (own := RX10) (ref := "LoaderModelsModel") hx hb hts (fun _ h => (List.mem_cons_of_mem _ (List.mem_append_right _ h))) hown hK hW rfl (L_t _ rfl) rfl rfl rfl (by decide) (hts (.fieldLink RX10 17 "LoaderModelsModel" "inner" "[I") (List.mem_cons_of_mem _ (List.mem_append_left _ (List.mem_append_left _ (List.mem_of_getElem? (i := 4) rfl))))) (fun _ h9 => h9) dX10_oneDefining_55 (v := lh_r ad 33 (gvR S 10 t 3)) rfl ?_
      refine lv_iload_n hx hb dX10_oneDefining_58 rfl (lv_at hl 2 rfl) ?_
      obtain ⟨x48, hx48, hf⟩ := dc_nn_ok hf
      obtain ⟨g49, hf⟩ := dc_gd_ok hf
      refine lh_ald_i (a := 33) hx hb hK hW hx48 (L47 _ hx48) rfl rfl g49 dX10_oneDefining_59 ?_
      refine lv_iload hx hb dX10_oneDefining_60 (lv_at hl 1 rfl) ?_
      refine lv_icmp_eq (tgt := 69) hx hb dX10_oneDefining_62 (by decide) (fun c50 => ?_) (fun c50 => ?_)
      · replace hf := dc_if_t c50 hf
        refine lh_aload_n hx hb dX10_oneDefining_69 rfl (lv_at hl 4 rfl) ?_
        have L51 : ∀ j, gvR S 10 t 14 = some j → j < gvN S 44 := fun j h => ok _ _ _ _ j (L_t _ rfl) rfl h
        refine lh_get (a := 10) (k := 14) (N := 42) (C := RX10) (T := TX10) (own := RX10) (ref := "LoaderModelsModel") hx hb hts (fun _ h => (List.mem_cons_of_mem _ (List.mem_append_right _ h))) hown hK hW rfl (L_t _ rfl) rfl rfl rfl (by decide) (hts (.fieldLink RX10 48 "LoaderModelsModel" "knows" "[I") (List.mem_cons_of_mem _ (List.mem_append_left _ (List.mem_append_left _ (List.mem_of_getElem? (i := 5) rfl))))) (fun _ h9 => h9) dX10_oneDefining_70 (v := lh_r ad 44 (gvR S 10 t 14)) rfl ?_
        refine lv_iload hx hb dX10_oneDefining_73 (lv_at hl 0 rfl) ?_
        obtain ⟨x52, hx52, hf⟩ := dc_nn_ok hf
        obtain ⟨g53, hf⟩ := dc_gd_ok hf
        refine lh_ald_i (a := 44) hx hb hK hW hx52 (L51 _ hx52) rfl rfl g53 dX10_oneDefining_75 ?_
        refine lv_if_le (tgt := 83) hx hb dX10_oneDefining_76 (by decide) (fun c54 => ?_) (fun c54 => ?_)
        · replace hf := dc_if_t c54 hf
          refine lh_aload_n hx hb dX10_oneDefining_83 rfl (lv_at hl 4 rfl) ?_
          have L55 : ∀ j, gvR S 10 t 15 = some j → j < gvN S 45 := fun j h => ok _ _ _ _ j (L_t _ rfl) rfl h
          refine lh_get (a := 10) (k := 15) (N := 42) (C := RX10) (T := TX10) (own := RX10) (ref := "LoaderModelsModel") hx hb hts (fun _ h => (List.mem_cons_of_mem _ (List.mem_append_right _ h))) hown hK hW rfl (L_t _ rfl) rfl rfl rfl (by decide) (hts (.fieldLink RX10 51 "LoaderModelsModel" "isDefining" "[Z") (List.mem_cons_of_mem _ (List.mem_append_left _ (List.mem_append_left _ (List.mem_of_getElem? (i := 6) rfl))))) (fun _ h9 => h9) dX10_oneDefining_84 (v := lh_r ad 45 (gvR S 10 t 15)) rfl ?_
          refine lv_iload hx hb dX10_oneDefining_87 (lv_at hl 0 rfl) ?_
          obtain ⟨x56, hx56, hf⟩ := dc_nn_ok hf
          obtain ⟨g57, hf⟩ := dc_gd_ok hf
          refine lh_ald_z (a := 45) hx hb hK hW hx56 (L55 _ hx56) rfl rfl g57 dX10_oneDefining_89 ?_
          refine lv_if_eq (tgt := 98) hx hb dX10_oneDefining_90 (by decide) (fun c58 => ?_) (fun c58 => ?_)
          · replace hf := dc_if_t c58 hf
            refine lv_iconst (v := 0) hx hb dX10_oneDefining_98 (by decide) ?_
            refine lv_istore (i := 6) (lv' := [(6, .int (0 : Int32)), (5, .int v11), (4, .int (gvI S 32 x8 ((gvI S 59 x5 (p1).toNatClampNeg)).toNatClampNeg)), (3, .int (gvI S 59 x5 (p1).toNatClampNeg)), (2, .int (gvI S 58 x2 (p1).toNatClampNeg)), (0, lh_r ad 10 (some t)), (1, .int p1)]) hx hb dX10_oneDefining_99 hl (by decide) (by first | rfl | simp [lh_cat_r, lh_cat_i, lh_cat_j]) (fun ls hl => ?_)
            refine lv_iload hx hb dX10_oneDefining_101 (lv_at hl 0 rfl) ?_
            refine lv_if_le (tgt := 115) hx hb dX10_oneDefining_103 (by decide) (fun c59 => ?_) (fun c59 => ?_)
            · refine lv_iload hx hb dX10_oneDefining_115 (lv_at hl 2 rfl) ?_
              refine lv_if_ne (tgt := 130) hx hb dX10_oneDefining_117 (by decide) (fun c60 => ?_) (fun c60 => ?_)
              · replace hf := dc_if_f c60 hf
                refine lh_aload_n hx hb dX10_oneDefining_130 rfl (lv_at hl 5 rfl) ?_
                have L61 : ∀ j, gvR S 10 t 15 = some j → j < gvN S 45 := fun j h => ok _ _ _ _ j (L_t _ rfl) rfl h
                refine lh_get (a := 10) (k := 15) (N := 42) (C := RX10) (T := TX10) (own := RX10) (ref := "LoaderModelsModel") hx hb hts (fun _ h => (List.mem_cons_of_mem _ (List.mem_append_right _ h))) hown hK hW rfl (L_t _ rfl) rfl rfl rfl (by decide) (hts (.fieldLink RX10 51 "LoaderModelsModel" "isDefining" "[Z") (List.mem_cons_of_mem _ (List.mem_append_left _ (List.mem_append_left _ (List.mem_of_getElem? (i := 6) rfl))))) (fun _ h9 => h9) dX10_oneDefining_131 (v := lh_r ad 45 (gvR S 10 t 15)) rfl ?_
                refine lv_iload hx hb dX10_oneDefining_134 (lv_at hl 1 rfl) ?_
                refine lv_iconst (v := 1) hx hb dX10_oneDefining_136 (by decide) ?_
                obtain ⟨g62, hf⟩ := dc_gd_ok hf
                obtain ⟨S63, eS63, hf⟩ := dc_let_ok hf
                refine lh_ast_z (a := 45) hx hb hK hW hS hx56 (L61 _ hx56) rfl (fun _ => rfl) g62 dX10_oneDefining_137 (fun H locs hW hS => ?_)
                rw [← eS63] at hW
                have m64 : ∀ b, gvN S b ≤ gvN S63 b := by rw [eS63]; exact lh_mI
                have L_t : ∀ j, some t = some j → j < gvN S63 10 := fun j h => Nat.lt_of_lt_of_le (L_t j h) (m64 _)
                have hm : ∀ b, gvN S b ≤ gvN S63 b := lh_le_trans hm m64
                have ok := lh_W_ok hW
                refine lh_aload_n hx hb dX10_oneDefining_138 rfl (lv_at hl 5 rfl) ?_
                have L65 : ∀ j, gvR S63 10 t 30 = some j → j < gvN S63 60 := fun j h => ok _ _ _ _ j (L_t _ rfl) rfl h
                refine lh_get (a := 10) (k := 30) (N := 42) (C := RX10) (T := TX10) (own := RX10) (ref := "LoaderModelsModel") hx hb hts (fun _ h => (List.mem_cons_of_mem _ (List.mem_append_right _ h))) hown hK hW rfl (L_t _ rfl) rfl rfl rfl (by decide) (hts (.fieldLink RX10 88 "LoaderModelsModel" "stage" "[I") (List.mem_cons_of_mem _ (List.mem_append_left _ (List.mem_append_left _ (List.mem_of_getElem? (i := 3) rfl))))) (fun _ h9 => h9) dX10_oneDefining_139 (v := lh_r ad 60 (gvR S63 10 t 30)) rfl ?_
                refine lv_iload_n hx hb dX10_oneDefining_142 rfl (lv_at hl 6 rfl) ?_
                refine lv_iconst (v := 1) hx hb dX10_oneDefining_143 (by decide) ?_
                obtain ⟨x66, hx66, hf⟩ := dc_nn_ok hf
                obtain ⟨g67, hf⟩ := dc_gd_ok hf
                obtain ⟨S68, eS68, hf⟩ := dc_let_ok hf
                refine lh_ast_i (a := 60) hx hb hK hW hS hx66 (L65 _ hx66) rfl (fun _ => rfl) g67 dX10_oneDefining_144 (fun H locs hW hS => ?_)
                rw [← eS68] at hW
                have m69 : ∀ b, gvN S63 b ≤ gvN S68 b := by rw [eS68]; exact lh_mI
                have L_t : ∀ j, some t = some j → j < gvN S68 10 := fun j h => Nat.lt_of_lt_of_le (L_t j h) (m69 _)
                have hm : ∀ b, gvN S b ≤ gvN S68 b := lh_le_trans hm m69
                have ok := lh_W_ok hW
                refine lh_aload_n hx hb dX10_oneDefining_145 rfl (lv_at hl 5 rfl) ?_
                refine lv_iconst (v := 0) hx hb dX10_oneDefining_146 (by decide) ?_
                refine lv_iload_n hx hb dX10_oneDefining_147 rfl (lv_at hl 4 rfl) ?_
                refine lh_aload_n hx hb dX10_oneDefining_148 rfl (lv_at hl 5 rfl) ?_
                have L70 : ∀ j, gvR S68 10 t 4 = some j → j < gvN S68 34 := fun j h => ok _ _ _ _ j (L_t _ rfl) rfl h
                refine lh_get (a := 10) (k := 4) (N := 42) (C := RX10) (T := TX10) (own := RX10) (ref := "LoaderModelsModel") hx hb hts (fun _ h => (List.mem_cons_of_mem _ (List.mem_append_right _ h))) hown hK hW rfl (L_t _ rfl) rfl rfl rfl (by decide) (hts (.fieldLink RX10 20 "LoaderModelsModel" "above" "[I") (List.mem_cons_of_mem _ (List.mem_append_left _ (List.mem_append_left _ (List.mem_of_getElem? (i := 7) rfl))))) (fun _ h9 => h9) dX10_oneDefining_149 (v := lh_r ad 34 (gvR S68 10 t 4)) rfl ?_
                refine lv_iload_n hx hb dX10_oneDefining_152 rfl (lv_at hl 3 rfl) ?_
                obtain ⟨x71, hx71, hf⟩ := dc_nn_ok hf
                obtain ⟨g72, hf⟩ := dc_gd_ok hf
                refine lh_ald_i (a := 34) hx hb hK hW hx71 (L70 _ hx71) rfl rfl g72 dX10_oneDefining_153 ?_
                obtain ⟨r73, S74, k75, hf⟩ := dc_bd_ok hf
                refine lh_call (S' := S74) (lh_rv ⟨hx, hb, hml, hown, hts⟩ rfl (As := [.int (0 : Int32), .int (gvI S 58 x2 (p1).toNatClampNeg), .int (gvI S68 34 x71 ((gvI S 59 x5 (p1).toNatClampNeg)).toNatClampNeg)]) (rest := []) (k := 10) (c_X10_push l D cT n S68 ad A H.size (fun q9 h9 => hA q9 (Nat.le_trans hS.1 h9)) t (0 : Int32) (gvI S 58 x2 (p1).toNatClampNeg) (gvI S68 34 x71 ((gvI S 59 x5 (p1).toNatClampNeg)).toNatClampNeg) r73 S74 k75 L_t) (cwV 3 hts gX10_oneDefining_X10_push rfl rfl rfl (by decide +kernel) ⟨Nat.le_of_ble_eq_true rfl, Nat.le_of_ble_eq_true rfl⟩) hK hN hW (L_t _ rfl) rfl rfl rfl hl.1 rfl (by simp [lh_cat_r, lh_cat_i, lh_cat_j]) dX10_oneDefining_154 ⟨Nat.le_of_ble_eq_true rfl, Nat.le_of_ble_eq_true rfl⟩) hS (fun H locs hX hW hS => ?_)
                refine W.widen (k := 0) (n := 0) (by omega) (by omega) ?_
                show W _ _ _ _ _ _ _ _ _ _ _ _ _ _ _ (F0 m 157 ls [])
                have m76 : ∀ b, gvN S68 b ≤ gvN S74 b := hX.1
                have L_t : ∀ j, some t = some j → j < gvN S74 10 := fun j h => Nat.lt_of_lt_of_le (L_t j h) (m76 _)
                have hm : ∀ b, gvN S b ≤ gvN S74 b := lh_le_trans hm m76
                have ok := lh_W_ok hW
                obtain ⟨rfl, rfl⟩ := dc_ret hf
                exact W.vret hx hb hr (fun t9 ht9 hW9 => ⟨⟨rfl, ⟨hm, trivial⟩, by rw [ht9]; exact hW⟩, hS.F ht9⟩) hS.2.2 dX10_oneDefining_157
              · replace hf := dc_if_t c60 hf
                refine lh_aload_n hx hb dX10_oneDefining_120 rfl (lv_at hl 5 rfl) ?_
                refine lv_iload_n hx hb dX10_oneDefining_121 rfl (lv_at hl 4 rfl) ?_
                refine lv_iload_n hx hb dX10_oneDefining_122 rfl (lv_at hl 3 rfl) ?_
                refine lv_iconst (v := -1) hx hb dX10_oneDefining_123 (by decide) ?_
                obtain ⟨r77, S78, k79, hf⟩ := dc_bd_ok hf
                refine lh_call (S' := S78) (lh_rv ⟨hx, hb, hml, hown, hts⟩ rfl (As := [.int (gvI S 58 x2 (p1).toNatClampNeg), .int (gvI S 59 x5 (p1).toNatClampNeg), .int (-1 : Int32)]) (rest := []) (k := 10) (c_X10_makes l D cT n S ad A H.size (fun q9 h9 => hA q9 (Nat.le_trans hS.1 h9)) t (gvI S 58 x2 (p1).toNatClampNeg) (gvI S 59 x5 (p1).toNatClampNeg) (-1 : Int32) r77 S78 k79 L_t) (cwV 3 hts gX10_oneDefining_X10_makes rfl rfl rfl (by decide +kernel) ⟨Nat.le_of_ble_eq_true rfl, Nat.le_of_ble_eq_true rfl⟩) hK hN hW (L_t _ rfl) rfl rfl rfl hl.1 rfl (by simp [lh_cat_r, lh_cat_i, lh_cat_j]) dX10_oneDefining_124 ⟨Nat.le_of_ble_eq_true rfl, Nat.le_of_ble_eq_true rfl⟩) hS (fun H locs hX hW hS => ?_)
                refine W.widen (k := 0) (n := 0) (by omega) (by omega) ?_
                show W _ _ _ _ _ _ _ _ _ _ _ _ _ _ _ (F0 m 127 ls [])
                have m80 : ∀ b, gvN S b ≤ gvN S78 b := hX.1
                have L_t : ∀ j, some t = some j → j < gvN S78 10 := fun j h => Nat.lt_of_lt_of_le (L_t j h) (m80 _)
                have hm : ∀ b, gvN S b ≤ gvN S78 b := lh_le_trans hm m80
                have ok := lh_W_ok hW
                refine lv_goto (tgt := 157) hx hb dX10_oneDefining_127 (by decide) ?_
                obtain ⟨rfl, rfl⟩ := dc_ret hf
                exact W.vret hx hb hr (fun t9 ht9 hW9 => ⟨⟨rfl, ⟨hm, trivial⟩, by rw [ht9]; exact hW⟩, hS.F ht9⟩) hS.2.2 dX10_oneDefining_157
            · exact absurd c59 (by decide)
          · replace hf := dc_if_f c58 hf
            refine lv_bipush (v := 6) hx hb dX10_oneDefining_93 (by decide) ?_
            refine lv_goto (tgt := 99) hx hb dX10_oneDefining_95 (by decide) ?_
            refine lv_istore (i := 6) (lv' := [(6, .int (6 : Int32)), (5, .int v11), (4, .int (gvI S 32 x8 ((gvI S 59 x5 (p1).toNatClampNeg)).toNatClampNeg)), (3, .int (gvI S 59 x5 (p1).toNatClampNeg)), (2, .int (gvI S 58 x2 (p1).toNatClampNeg)), (0, lh_r ad 10 (some t)), (1, .int p1)]) hx hb dX10_oneDefining_99 hl (by decide) (by first | rfl | simp [lh_cat_r, lh_cat_i, lh_cat_j]) (fun ls hl => ?_)
            refine lv_iload hx hb dX10_oneDefining_101 (lv_at hl 0 rfl) ?_
            refine lv_if_le (tgt := 115) hx hb dX10_oneDefining_103 (by decide) (fun c81 => ?_) (fun c81 => ?_)
            · exact absurd c81 (by decide)
            · refine lh_aload_n hx hb dX10_oneDefining_106 rfl (lv_at hl 5 rfl) ?_
              refine lv_iload hx hb dX10_oneDefining_107 (lv_at hl 0 rfl) ?_
              obtain ⟨r82, S83, k84, hf⟩ := dc_bd_ok hf
              refine lh_call (S' := S83) (lh_rv ⟨hx, hb, hml, hown, hts⟩ rfl (As := [.int (6 : Int32)]) (rest := []) (k := 10) (c_X10_ends l D cT n S ad A H.size (fun q9 h9 => hA q9 (Nat.le_trans hS.1 h9)) t (6 : Int32) r82 S83 k84 L_t) (cwV 1 hts gX10_oneDefining_X10_ends rfl rfl rfl (by decide +kernel) ⟨Nat.le_of_ble_eq_true rfl, Nat.le_of_ble_eq_true rfl⟩) hK hN hW (L_t _ rfl) rfl rfl rfl hl.1 rfl (by simp [lh_cat_r, lh_cat_i, lh_cat_j]) dX10_oneDefining_109 ⟨Nat.le_of_ble_eq_true rfl, Nat.le_of_ble_eq_true rfl⟩) hS (fun H locs hX hW hS => ?_)
              refine W.widen (k := 0) (n := 0) (by omega) (by omega) ?_
              show W _ _ _ _ _ _ _ _ _ _ _ _ _ _ _ (F0 m 112 ls [])
              have m85 : ∀ b, gvN S b ≤ gvN S83 b := hX.1
              have L_t : ∀ j, some t = some j → j < gvN S83 10 := fun j h => Nat.lt_of_lt_of_le (L_t j h) (m85 _)
              have hm : ∀ b, gvN S b ≤ gvN S83 b := lh_le_trans hm m85
              have ok := lh_W_ok hW
              refine lv_goto (tgt := 157) hx hb dX10_oneDefining_112 (by decide) ?_
              obtain ⟨rfl, rfl⟩ := dc_ret hf
              exact W.vret hx hb hr (fun t9 ht9 hW9 => ⟨⟨rfl, ⟨hm, trivial⟩, by rw [ht9]; exact hW⟩, hS.F ht9⟩) hS.2.2 dX10_oneDefining_157
        · replace hf := dc_if_f c54 hf
          refine lv_iconst (v := 3) hx hb dX10_oneDefining_79 (by decide) ?_
          refine lv_goto (tgt := 99) hx hb dX10_oneDefining_80 (by decide) ?_
          refine lv_istore (i := 6) (lv' := [(6, .int (3 : Int32)), (5, .int v11), (4, .int (gvI S 32 x8 ((gvI S 59 x5 (p1).toNatClampNeg)).toNatClampNeg)), (3, .int (gvI S 59 x5 (p1).toNatClampNeg)), (2, .int (gvI S 58 x2 (p1).toNatClampNeg)), (0, lh_r ad 10 (some t)), (1, .int p1)]) hx hb dX10_oneDefining_99 hl (by decide) (by first | rfl | simp [lh_cat_r, lh_cat_i, lh_cat_j]) (fun ls hl => ?_)
          refine lv_iload hx hb dX10_oneDefining_101 (lv_at hl 0 rfl) ?_
          refine lv_if_le (tgt := 115) hx hb dX10_oneDefining_103 (by decide) (fun c86 => ?_) (fun c86 => ?_)
          · exact absurd c86 (by decide)
          · refine lh_aload_n hx hb dX10_oneDefining_106 rfl (lv_at hl 5 rfl) ?_
            refine lv_iload hx hb dX10_oneDefining_107 (lv_at hl 0 rfl) ?_
            obtain ⟨r87, S88, k89, hf⟩ := dc_bd_ok hf
            refine lh_call (S' := S88) (lh_rv ⟨hx, hb, hml, hown, hts⟩ rfl (As := [.int (3 : Int32)]) (rest := []) (k := 10) (c_X10_ends l D cT n S ad A H.size (fun q9 h9 => hA q9 (Nat.le_trans hS.1 h9)) t (3 : Int32) r87 S88 k89 L_t) (cwV 1 hts gX10_oneDefining_X10_ends rfl rfl rfl (by decide +kernel) ⟨Nat.le_of_ble_eq_true rfl, Nat.le_of_ble_eq_true rfl⟩) hK hN hW (L_t _ rfl) rfl rfl rfl hl.1 rfl (by simp [lh_cat_r, lh_cat_i, lh_cat_j]) dX10_oneDefining_109 ⟨Nat.le_of_ble_eq_true rfl, Nat.le_of_ble_eq_true rfl⟩) hS (fun H locs hX hW hS => ?_)
            refine W.widen (k := 0) (n := 0) (by omega) (by omega) ?_
            show W _ _ _ _ _ _ _ _ _ _ _ _ _ _ _ (F0 m 112 ls [])
            have m90 : ∀ b, gvN S b ≤ gvN S88 b := hX.1
            have L_t : ∀ j, some t = some j → j < gvN S88 10 := fun j h => Nat.lt_of_lt_of_le (L_t j h) (m90 _)
            have hm : ∀ b, gvN S b ≤ gvN S88 b := lh_le_trans hm m90
            have ok := lh_W_ok hW
            refine lv_goto (tgt := 157) hx hb dX10_oneDefining_112 (by decide) ?_
            obtain ⟨rfl, rfl⟩ := dc_ret hf
            exact W.vret hx hb hr (fun t9 ht9 hW9 => ⟨⟨rfl, ⟨hm, trivial⟩, by rw [ht9]; exact hW⟩, hS.F ht9⟩) hS.2.2 dX10_oneDefining_157
      · replace hf := dc_if_f c50 hf
        refine lv_iconst (v := 2) hx hb dX10_oneDefining_65 (by decide) ?_
        refine lv_goto (tgt := 99) hx hb dX10_oneDefining_66 (by decide) ?_
        refine lv_istore (i := 6) (lv' := [(6, .int (2 : Int32)), (5, .int v11), (4, .int (gvI S 32 x8 ((gvI S 59 x5 (p1).toNatClampNeg)).toNatClampNeg)), (3, .int (gvI S 59 x5 (p1).toNatClampNeg)), (2, .int (gvI S 58 x2 (p1).toNatClampNeg)), (0, lh_r ad 10 (some t)), (1, .int p1)]) hx hb dX10_oneDefining_99 hl (by decide) (by first | rfl | simp [lh_cat_r, lh_cat_i, lh_cat_j]) (fun ls hl => ?_)
        refine lv_iload hx hb dX10_oneDefining_101 (lv_at hl 0 rfl) ?_
        refine lv_if_le (tgt := 115) hx hb dX10_oneDefining_103 (by decide) (fun c91 => ?_) (fun c91 => ?_)
        · exact absurd c91 (by decide)
        · refine lh_aload_n hx hb dX10_oneDefining_106 rfl (lv_at hl 5 rfl) ?_
          refine lv_iload hx hb dX10_oneDefining_107 (lv_at hl 0 rfl) ?_
          obtain ⟨r92, S93, k94, hf⟩ := dc_bd_ok hf
          refine lh_call (S' := S93) (lh_rv ⟨hx, hb, hml, hown, hts⟩ rfl (As := [.int (2 : Int32)]) (rest := []) (k := 10) (c_X10_ends l D cT n S ad A H.size (fun q9 h9 => hA q9 (Nat.le_trans hS.1 h9)) t (2 : Int32) r92 S93 k94 L_t) (cwV 1 hts gX10_oneDefining_X10_ends rfl rfl rfl (by decide +kernel) ⟨Nat.le_of_ble_eq_true rfl, Nat.le_of_ble_eq_true rfl⟩) hK hN hW (L_t _ rfl) rfl rfl rfl hl.1 rfl (by simp [lh_cat_r, lh_cat_i, lh_cat_j]) dX10_oneDefining_109 ⟨Nat.le_of_ble_eq_true rfl, Nat.le_of_ble_eq_true rfl⟩) hS (fun H locs hX hW hS => ?_)
          refine W.widen (k := 0) (n := 0) (by omega) (by omega) ?_
          show W _ _ _ _ _ _ _ _ _ _ _ _ _ _ _ (F0 m 112 ls [])
          have m95 : ∀ b, gvN S b ≤ gvN S93 b := hX.1
          have L_t : ∀ j, some t = some j → j < gvN S93 10 := fun j h => Nat.lt_of_lt_of_le (L_t j h) (m95 _)
          have hm : ∀ b, gvN S b ≤ gvN S93 b := lh_le_trans hm m95
          have ok := lh_W_ok hW
          refine lv_goto (tgt := 157) hx hb dX10_oneDefining_112 (by decide) ?_
          obtain ⟨rfl, rfl⟩ := dc_ret hf
          exact W.vret hx hb hr (fun t9 ht9 hW9 => ⟨⟨rfl, ⟨hm, trivial⟩, by rw [ht9]; exact hW⟩, hS.F ht9⟩) hS.2.2 dX10_oneDefining_157
    · replace hf := dc_if_f c46 hf
      refine lv_iload_n hx hb dX10_oneDefining_46 rfl (lv_at hl 3 rfl) ?_
      refine lv_if_le (tgt := 54) hx hb dX10_oneDefining_47 (by decide) (fun c96 => ?_) (fun c96 => ?_)
      · replace hf := dc_if_t c96 hf
        refine lh_aload_n hx hb dX10_oneDefining_54 rfl (lv_at hl 4 rfl) ?_
        have L97 : ∀ j, gvR S 10 t 3 = some j → j < gvN S 33 := fun j h => ok _ _ _ _ j (L_t _ rfl) rfl h
        refine lh_get (a := 10) (k := 3) (N := 42) (C := RX10) (T := TX10) (own := RX10) (ref := "LoaderModelsModel") hx hb hts (fun _ h => (List.mem_cons_of_mem _ (List.mem_append_right _ h))) hown hK hW rfl (L_t _ rfl) rfl rfl rfl (by decide) (hts (.fieldLink RX10 17 "LoaderModelsModel" "inner" "[I") (List.mem_cons_of_mem _ (List.mem_append_left _ (List.mem_append_left _ (List.mem_of_getElem? (i := 4) rfl))))) (fun _ h9 => h9) dX10_oneDefining_55 (v := lh_r ad 33 (gvR S 10 t 3)) rfl ?_
        refine lv_iload_n hx hb dX10_oneDefining_58 rfl (lv_at hl 2 rfl) ?_
        obtain ⟨x98, hx98, hf⟩ := dc_nn_ok hf
        obtain ⟨g99, hf⟩ := dc_gd_ok hf
        refine lh_ald_i (a := 33) hx hb hK hW hx98 (L97 _ hx98) rfl rfl g99 dX10_oneDefining_59 ?_
        refine lv_iload hx hb dX10_oneDefining_60 (lv_at hl 1 rfl) ?_
        refine lv_icmp_eq (tgt := 69) hx hb dX10_oneDefining_62 (by decide) (fun c100 => ?_) (fun c100 => ?_)
        · replace hf := dc_if_t c100 hf
          refine lh_aload_n hx hb dX10_oneDefining_69 rfl (lv_at hl 4 rfl) ?_
          have L101 : ∀ j, gvR S 10 t 14 = some j → j < gvN S 44 := fun j h => ok _ _ _ _ j (L_t _ rfl) rfl h
          refine lh_get (a := 10) (k := 14) (N := 42) (C := RX10) (T := TX10) (own := RX10) (ref := "LoaderModelsModel") hx hb hts (fun _ h => (List.mem_cons_of_mem _ (List.mem_append_right _ h))) hown hK hW rfl (L_t _ rfl) rfl rfl rfl (by decide) (hts (.fieldLink RX10 48 "LoaderModelsModel" "knows" "[I") (List.mem_cons_of_mem _ (List.mem_append_left _ (List.mem_append_left _ (List.mem_of_getElem? (i := 5) rfl))))) (fun _ h9 => h9) dX10_oneDefining_70 (v := lh_r ad 44 (gvR S 10 t 14)) rfl ?_
          refine lv_iload hx hb dX10_oneDefining_73 (lv_at hl 0 rfl) ?_
          obtain ⟨x102, hx102, hf⟩ := dc_nn_ok hf
          obtain ⟨g103, hf⟩ := dc_gd_ok hf
          refine lh_ald_i (a := 44) hx hb hK hW hx102 (L101 _ hx102) rfl rfl g103 dX10_oneDefining_75 ?_
          refine lv_if_le (tgt := 83) hx hb dX10_oneDefining_76 (by decide) (fun c104 => ?_) (fun c104 => ?_)
          · replace hf := dc_if_t c104 hf
            refine lh_aload_n hx hb dX10_oneDefining_83 rfl (lv_at hl 4 rfl) ?_
            have L105 : ∀ j, gvR S 10 t 15 = some j → j < gvN S 45 := fun j h => ok _ _ _ _ j (L_t _ rfl) rfl h
            refine lh_get (a := 10) (k := 15) (N := 42) (C := RX10) (T := TX10) (own := RX10) (ref := "LoaderModelsModel") hx hb hts (fun _ h => (List.mem_cons_of_mem _ (List.mem_append_right _ h))) hown hK hW rfl (L_t _ rfl) rfl rfl rfl (by decide) (hts (.fieldLink RX10 51 "LoaderModelsModel" "isDefining" "[Z") (List.mem_cons_of_mem _ (List.mem_append_left _ (List.mem_append_left _ (List.mem_of_getElem? (i := 6) rfl))))) (fun _ h9 => h9) dX10_oneDefining_84 (v := lh_r ad 45 (gvR S 10 t 15)) rfl ?_
            refine lv_iload hx hb dX10_oneDefining_87 (lv_at hl 0 rfl) ?_
            obtain ⟨x106, hx106, hf⟩ := dc_nn_ok hf
            obtain ⟨g107, hf⟩ := dc_gd_ok hf
            refine lh_ald_z (a := 45) hx hb hK hW hx106 (L105 _ hx106) rfl rfl g107 dX10_oneDefining_89 ?_
            refine lv_if_eq (tgt := 98) hx hb dX10_oneDefining_90 (by decide) (fun c108 => ?_) (fun c108 => ?_)
            · replace hf := dc_if_t c108 hf
              refine lv_iconst (v := 0) hx hb dX10_oneDefining_98 (by decide) ?_
              refine lv_istore (i := 6) (lv' := [(6, .int (0 : Int32)), (5, .int v11), (4, .int (gvI S 32 x8 ((gvI S 59 x5 (p1).toNatClampNeg)).toNatClampNeg)), (3, .int (gvI S 59 x5 (p1).toNatClampNeg)), (2, .int (gvI S 58 x2 (p1).toNatClampNeg)), (0, lh_r ad 10 (some t)), (1, .int p1)]) hx hb dX10_oneDefining_99 hl (by decide) (by first | rfl | simp [lh_cat_r, lh_cat_i, lh_cat_j]) (fun ls hl => ?_)
              refine lv_iload hx hb dX10_oneDefining_101 (lv_at hl 0 rfl) ?_
              refine lv_if_le (tgt := 115) hx hb dX10_oneDefining_103 (by decide) (fun c109 => ?_) (fun c109 => ?_)
              · refine lv_iload hx hb dX10_oneDefining_115 (lv_at hl 2 rfl) ?_
                refine lv_if_ne (tgt := 130) hx hb dX10_oneDefining_117 (by decide) (fun c110 => ?_) (fun c110 => ?_)
                · replace hf := dc_if_f c110 hf
                  refine lh_aload_n hx hb dX10_oneDefining_130 rfl (lv_at hl 5 rfl) ?_
                  have L111 : ∀ j, gvR S 10 t 15 = some j → j < gvN S 45 := fun j h => ok _ _ _ _ j (L_t _ rfl) rfl h
                  refine lh_get (a := 10) (k := 15) (N := 42) (C := RX10) (T := TX10) (own := RX10) (ref := "LoaderModelsModel") hx hb hts (fun _ h => (List.mem_cons_of_mem _ (List.mem_append_right _ h))) hown hK hW rfl (L_t _ rfl) rfl rfl rfl (by decide) (hts (.fieldLink RX10 51 "LoaderModelsModel" "isDefining" "[Z") (List.mem_cons_of_mem _ (List.mem_append_left _ (List.mem_append_left _ (List.mem_of_getElem? (i := 6) rfl))))) (fun _ h9 => h9) dX10_oneDefining_131 (v := lh_r ad 45 (gvR S 10 t 15)) rfl ?_
                  refine lv_iload hx hb dX10_oneDefining_134 (lv_at hl 1 rfl) ?_
                  refine lv_iconst (v := 1) hx hb dX10_oneDefining_136 (by decide) ?_
                  obtain ⟨g112, hf⟩ := dc_gd_ok hf
                  obtain ⟨S113, eS113, hf⟩ := dc_let_ok hf
                  refine lh_ast_z (a := 45) hx hb hK hW hS hx106 (L111 _ hx106) rfl (fun _ => rfl) g112 dX10_oneDefining_137 (fun H locs hW hS => ?_)
                  rw [← eS113] at hW
                  have m114 : ∀ b, gvN S b ≤ gvN S113 b := by rw [eS113]; exact lh_mI
                  have L_t : ∀ j, some t = some j → j < gvN S113 10 := fun j h => Nat.lt_of_lt_of_le (L_t j h) (m114 _)
                  have hm : ∀ b, gvN S b ≤ gvN S113 b := lh_le_trans hm m114
                  have ok := lh_W_ok hW
                  refine lh_aload_n hx hb dX10_oneDefining_138 rfl (lv_at hl 5 rfl) ?_
                  have L115 : ∀ j, gvR S113 10 t 30 = some j → j < gvN S113 60 := fun j h => ok _ _ _ _ j (L_t _ rfl) rfl h
                  refine lh_get (a := 10) (k := 30) (N := 42) (C := RX10) (T := TX10) (own := RX10) (ref := "LoaderModelsModel") hx hb hts (fun _ h => (List.mem_cons_of_mem _ (List.mem_append_right _ h))) hown hK hW rfl (L_t _ rfl) rfl rfl rfl (by decide) (hts (.fieldLink RX10 88 "LoaderModelsModel" "stage" "[I") (List.mem_cons_of_mem _ (List.mem_append_left _ (List.mem_append_left _ (List.mem_of_getElem? (i := 3) rfl))))) (fun _ h9 => h9) dX10_oneDefining_139 (v := lh_r ad 60 (gvR S113 10 t 30)) rfl ?_
                  refine lv_iload_n hx hb dX10_oneDefining_142 rfl (lv_at hl 6 rfl) ?_
                  refine lv_iconst (v := 1) hx hb dX10_oneDefining_143 (by decide) ?_
                  obtain ⟨x116, hx116, hf⟩ := dc_nn_ok hf
                  obtain ⟨g117, hf⟩ := dc_gd_ok hf
                  obtain ⟨S118, eS118, hf⟩ := dc_let_ok hf
                  refine lh_ast_i (a := 60) hx hb hK hW hS hx116 (L115 _ hx116) rfl (fun _ => rfl) g117 dX10_oneDefining_144 (fun H locs hW hS => ?_)
                  rw [← eS118] at hW
                  have m119 : ∀ b, gvN S113 b ≤ gvN S118 b := by rw [eS118]; exact lh_mI
                  have L_t : ∀ j, some t = some j → j < gvN S118 10 := fun j h => Nat.lt_of_lt_of_le (L_t j h) (m119 _)
                  have hm : ∀ b, gvN S b ≤ gvN S118 b := lh_le_trans hm m119
                  have ok := lh_W_ok hW
                  refine lh_aload_n hx hb dX10_oneDefining_145 rfl (lv_at hl 5 rfl) ?_
                  refine lv_iconst (v := 0) hx hb dX10_oneDefining_146 (by decide) ?_
                  refine lv_iload_n hx hb dX10_oneDefining_147 rfl (lv_at hl 4 rfl) ?_
                  refine lh_aload_n hx hb dX10_oneDefining_148 rfl (lv_at hl 5 rfl) ?_
                  have L120 : ∀ j, gvR S118 10 t 4 = some j → j < gvN S118 34 := fun j h => ok _ _ _ _ j (L_t _ rfl) rfl h
                  refine lh_get (a := 10) (k := 4) (N := 42) (C := RX10) (T := TX10) (own := RX10) (ref := "LoaderModelsModel") hx hb hts (fun _ h => (List.mem_cons_of_mem _ (List.mem_append_right _ h))) hown hK hW rfl (L_t _ rfl) rfl rfl rfl (by decide) (hts (.fieldLink RX10 20 "LoaderModelsModel" "above" "[I") (List.mem_cons_of_mem _ (List.mem_append_left _ (List.mem_append_left _ (List.mem_of_getElem? (i := 7) rfl))))) (fun _ h9 => h9) dX10_oneDefining_149 (v := lh_r ad 34 (gvR S118 10 t 4)) rfl ?_
                  refine lv_iload_n hx hb dX10_oneDefining_152 rfl (lv_at hl 3 rfl) ?_
                  obtain ⟨x121, hx121, hf⟩ := dc_nn_ok hf
                  obtain ⟨g122, hf⟩ := dc_gd_ok hf
                  refine lh_ald_i (a := 34) hx hb hK hW hx121 (L120 _ hx121) rfl rfl g122 dX10_oneDefining_153 ?_
                  obtain ⟨r123, S124, k125, hf⟩ := dc_bd_ok hf
                  refine lh_call (S' := S124) (lh_rv ⟨hx, hb, hml, hown, hts⟩ rfl (As := [.int (0 : Int32), .int (gvI S 58 x2 (p1).toNatClampNeg), .int (gvI S118 34 x121 ((gvI S 59 x5 (p1).toNatClampNeg)).toNatClampNeg)]) (rest := []) (k := 10) (c_X10_push l D cT n S118 ad A H.size (fun q9 h9 => hA q9 (Nat.le_trans hS.1 h9)) t (0 : Int32) (gvI S 58 x2 (p1).toNatClampNeg) (gvI S118 34 x121 ((gvI S 59 x5 (p1).toNatClampNeg)).toNatClampNeg) r123 S124 k125 L_t) (cwV 3 hts gX10_oneDefining_X10_push rfl rfl rfl (by decide +kernel) ⟨Nat.le_of_ble_eq_true rfl, Nat.le_of_ble_eq_true rfl⟩) hK hN hW (L_t _ rfl) rfl rfl rfl hl.1 rfl (by simp [lh_cat_r, lh_cat_i, lh_cat_j]) dX10_oneDefining_154 ⟨Nat.le_of_ble_eq_true rfl, Nat.le_of_ble_eq_true rfl⟩) hS (fun H locs hX hW hS => ?_)
                  refine W.widen (k := 0) (n := 0) (by omega) (by omega) ?_
                  show W _ _ _ _ _ _ _ _ _ _ _ _ _ _ _ (F0 m 157 ls [])
                  have m126 : ∀ b, gvN S118 b ≤ gvN S124 b := hX.1
                  have L_t : ∀ j, some t = some j → j < gvN S124 10 := fun j h => Nat.lt_of_lt_of_le (L_t j h) (m126 _)
                  have hm : ∀ b, gvN S b ≤ gvN S124 b := lh_le_trans hm m126
                  have ok := lh_W_ok hW
                  obtain ⟨rfl, rfl⟩ := dc_ret hf
                  exact W.vret hx hb hr (fun t9 ht9 hW9 => ⟨⟨rfl, ⟨hm, trivial⟩, by rw [ht9]; exact hW⟩, hS.F ht9⟩) hS.2.2 dX10_oneDefining_157
                · replace hf := dc_if_t c110 hf
                  refine lh_aload_n hx hb dX10_oneDefining_120 rfl (lv_at hl 5 rfl) ?_
                  refine lv_iload_n hx hb dX10_oneDefining_121 rfl (lv_at hl 4 rfl) ?_
                  refine lv_iload_n hx hb dX10_oneDefining_122 rfl (lv_at hl 3 rfl) ?_
                  refine lv_iconst (v := -1) hx hb dX10_oneDefining_123 (by decide) ?_
                  obtain ⟨r127, S128, k129, hf⟩ := dc_bd_ok hf
                  refine lh_call (S' := S128) (lh_rv ⟨hx, hb, hml, hown, hts⟩ rfl (As := [.int (gvI S 58 x2 (p1).toNatClampNeg), .int (gvI S 59 x5 (p1).toNatClampNeg), .int (-1 : Int32)]) (rest := []) (k := 10) (c_X10_makes l D cT n S ad A H.size (fun q9 h9 => hA q9 (Nat.le_trans hS.1 h9)) t (gvI S 58 x2 (p1).toNatClampNeg) (gvI S 59 x5 (p1).toNatClampNeg) (-1 : Int32) r127 S128 k129 L_t) (cwV 3 hts gX10_oneDefining_X10_makes rfl rfl rfl (by decide +kernel) ⟨Nat.le_of_ble_eq_true rfl, Nat.le_of_ble_eq_true rfl⟩) hK hN hW (L_t _ rfl) rfl rfl rfl hl.1 rfl (by simp [lh_cat_r, lh_cat_i, lh_cat_j]) dX10_oneDefining_124 ⟨Nat.le_of_ble_eq_true rfl, Nat.le_of_ble_eq_true rfl⟩) hS (fun H locs hX hW hS => ?_)
                  refine W.widen (k := 0) (n := 0) (by omega) (by omega) ?_
                  show W _ _ _ _ _ _ _ _ _ _ _ _ _ _ _ (F0 m 127 ls [])
                  have m130 : ∀ b, gvN S b ≤ gvN S128 b := hX.1
                  have L_t : ∀ j, some t = some j → j < gvN S128 10 := fun j h => Nat.lt_of_lt_of_le (L_t j h) (m130 _)
                  have hm : ∀ b, gvN S b ≤ gvN S128 b := lh_le_trans hm m130
                  have ok := lh_W_ok hW
                  refine lv_goto (tgt := 157) hx hb dX10_oneDefining_127 (by decide) ?_
                  obtain ⟨rfl, rfl⟩ := dc_ret hf
                  exact W.vret hx hb hr (fun t9 ht9 hW9 => ⟨⟨rfl, ⟨hm, trivial⟩, by rw [ht9]; exact hW⟩, hS.F ht9⟩) hS.2.2 dX10_oneDefining_157
              · exact absurd c109 (by decide)
            · replace hf := dc_if_f c108 hf
              refine lv_bipush (v := 6) hx hb dX10_oneDefining_93 (by decide) ?_
              refine lv_goto (tgt := 99) hx hb dX10_oneDefining_95 (by decide) ?_
              refine lv_istore (i := 6) (lv' := [(6, .int (6 : Int32)), (5, .int v11), (4, .int (gvI S 32 x8 ((gvI S 59 x5 (p1).toNatClampNeg)).toNatClampNeg)), (3, .int (gvI S 59 x5 (p1).toNatClampNeg)), (2, .int (gvI S 58 x2 (p1).toNatClampNeg)), (0, lh_r ad 10 (some t)), (1, .int p1)]) hx hb dX10_oneDefining_99 hl (by decide) (by first | rfl | simp [lh_cat_r, lh_cat_i, lh_cat_j]) (fun ls hl => ?_)
              refine lv_iload hx hb dX10_oneDefining_101 (lv_at hl 0 rfl) ?_
              refine lv_if_le (tgt := 115) hx hb dX10_oneDefining_103 (by decide) (fun c131 => ?_) (fun c131 => ?_)
              · exact absurd c131 (by decide)
              · refine lh_aload_n hx hb dX10_oneDefining_106 rfl (lv_at hl 5 rfl) ?_
                refine lv_iload hx hb dX10_oneDefining_107 (lv_at hl 0 rfl) ?_
                obtain ⟨r132, S133, k134, hf⟩ := dc_bd_ok hf
                refine lh_call (S' := S133) (lh_rv ⟨hx, hb, hml, hown, hts⟩ rfl (As := [.int (6 : Int32)]) (rest := []) (k := 10) (c_X10_ends l D cT n S ad A H.size (fun q9 h9 => hA q9 (Nat.le_trans hS.1 h9)) t (6 : Int32) r132 S133 k134 L_t) (cwV 1 hts gX10_oneDefining_X10_ends rfl rfl rfl (by decide +kernel) ⟨Nat.le_of_ble_eq_true rfl, Nat.le_of_ble_eq_true rfl⟩) hK hN hW (L_t _ rfl) rfl rfl rfl hl.1 rfl (by simp [lh_cat_r, lh_cat_i, lh_cat_j]) dX10_oneDefining_109 ⟨Nat.le_of_ble_eq_true rfl, Nat.le_of_ble_eq_true rfl⟩) hS (fun H locs hX hW hS => ?_)
                refine W.widen (k := 0) (n := 0) (by omega) (by omega) ?_
                show W _ _ _ _ _ _ _ _ _ _ _ _ _ _ _ (F0 m 112 ls [])
                have m135 : ∀ b, gvN S b ≤ gvN S133 b := hX.1
                have L_t : ∀ j, some t = some j → j < gvN S133 10 := fun j h => Nat.lt_of_lt_of_le (L_t j h) (m135 _)
                have hm : ∀ b, gvN S b ≤ gvN S133 b := lh_le_trans hm m135
                have ok := lh_W_ok hW
                refine lv_goto (tgt := 157) hx hb dX10_oneDefining_112 (by decide) ?_
                obtain ⟨rfl, rfl⟩ := dc_ret hf
                exact W.vret hx hb hr (fun t9 ht9 hW9 => ⟨⟨rfl, ⟨hm, trivial⟩, by rw [ht9]; exact hW⟩, hS.F ht9⟩) hS.2.2 dX10_oneDefining_157
          · replace hf := dc_if_f c104 hf
            refine lv_iconst (v := 3) hx hb dX10_oneDefining_79 (by decide) ?_
            refine lv_goto (tgt := 99) hx hb dX10_oneDefining_80 (by decide) ?_
            refine lv_istore (i := 6) (lv' := [(6, .int (3 : Int32)), (5, .int v11), (4, .int (gvI S 32 x8 ((gvI S 59 x5 (p1).toNatClampNeg)).toNatClampNeg)), (3, .int (gvI S 59 x5 (p1).toNatClampNeg)), (2, .int (gvI S 58 x2 (p1).toNatClampNeg)), (0, lh_r ad 10 (some t)), (1, .int p1)]) hx hb dX10_oneDefining_99 hl (by decide) (by first | rfl | simp [lh_cat_r, lh_cat_i, lh_cat_j]) (fun ls hl => ?_)
            refine lv_iload hx hb dX10_oneDefining_101 (lv_at hl 0 rfl) ?_
            refine lv_if_le (tgt := 115) hx hb dX10_oneDefining_103 (by decide) (fun c136 => ?_) (fun c136 => ?_)
            · exact absurd c136 (by decide)
            · refine lh_aload_n hx hb dX10_oneDefining_106 rfl (lv_at hl 5 rfl) ?_
              refine lv_iload hx hb dX10_oneDefining_107 (lv_at hl 0 rfl) ?_
              obtain ⟨r137, S138, k139, hf⟩ := dc_bd_ok hf
              refine lh_call (S' := S138) (lh_rv ⟨hx, hb, hml, hown, hts⟩ rfl (As := [.int (3 : Int32)]) (rest := []) (k := 10) (c_X10_ends l D cT n S ad A H.size (fun q9 h9 => hA q9 (Nat.le_trans hS.1 h9)) t (3 : Int32) r137 S138 k139 L_t) (cwV 1 hts gX10_oneDefining_X10_ends rfl rfl rfl (by decide +kernel) ⟨Nat.le_of_ble_eq_true rfl, Nat.le_of_ble_eq_true rfl⟩) hK hN hW (L_t _ rfl) rfl rfl rfl hl.1 rfl (by simp [lh_cat_r, lh_cat_i, lh_cat_j]) dX10_oneDefining_109 ⟨Nat.le_of_ble_eq_true rfl, Nat.le_of_ble_eq_true rfl⟩) hS (fun H locs hX hW hS => ?_)
              refine W.widen (k := 0) (n := 0) (by omega) (by omega) ?_
              show W _ _ _ _ _ _ _ _ _ _ _ _ _ _ _ (F0 m 112 ls [])
              have m140 : ∀ b, gvN S b ≤ gvN S138 b := hX.1
              have L_t : ∀ j, some t = some j → j < gvN S138 10 := fun j h => Nat.lt_of_lt_of_le (L_t j h) (m140 _)
              have hm : ∀ b, gvN S b ≤ gvN S138 b := lh_le_trans hm m140
              have ok := lh_W_ok hW
              refine lv_goto (tgt := 157) hx hb dX10_oneDefining_112 (by decide) ?_
              obtain ⟨rfl, rfl⟩ := dc_ret hf
              exact W.vret hx hb hr (fun t9 ht9 hW9 => ⟨⟨rfl, ⟨hm, trivial⟩, by rw [ht9]; exact hW⟩, hS.F ht9⟩) hS.2.2 dX10_oneDefining_157
        · replace hf := dc_if_f c100 hf
          refine lv_iconst (v := 2) hx hb dX10_oneDefining_65 (by decide) ?_
          refine lv_goto (tgt := 99) hx hb dX10_oneDefining_66 (by decide) ?_
          refine lv_istore (i := 6) (lv' := [(6, .int (2 : Int32)), (5, .int v11), (4, .int (gvI S 32 x8 ((gvI S 59 x5 (p1).toNatClampNeg)).toNatClampNeg)), (3, .int (gvI S 59 x5 (p1).toNatClampNeg)), (2, .int (gvI S 58 x2 (p1).toNatClampNeg)), (0, lh_r ad 10 (some t)), (1, .int p1)]) hx hb dX10_oneDefining_99 hl (by decide) (by first | rfl | simp [lh_cat_r, lh_cat_i, lh_cat_j]) (fun ls hl => ?_)
          refine lv_iload hx hb dX10_oneDefining_101 (lv_at hl 0 rfl) ?_
          refine lv_if_le (tgt := 115) hx hb dX10_oneDefining_103 (by decide) (fun c141 => ?_) (fun c141 => ?_)
          · exact absurd c141 (by decide)
          · refine lh_aload_n hx hb dX10_oneDefining_106 rfl (lv_at hl 5 rfl) ?_
            refine lv_iload hx hb dX10_oneDefining_107 (lv_at hl 0 rfl) ?_
            obtain ⟨r142, S143, k144, hf⟩ := dc_bd_ok hf
            refine lh_call (S' := S143) (lh_rv ⟨hx, hb, hml, hown, hts⟩ rfl (As := [.int (2 : Int32)]) (rest := []) (k := 10) (c_X10_ends l D cT n S ad A H.size (fun q9 h9 => hA q9 (Nat.le_trans hS.1 h9)) t (2 : Int32) r142 S143 k144 L_t) (cwV 1 hts gX10_oneDefining_X10_ends rfl rfl rfl (by decide +kernel) ⟨Nat.le_of_ble_eq_true rfl, Nat.le_of_ble_eq_true rfl⟩) hK hN hW (L_t _ rfl) rfl rfl rfl hl.1 rfl (by simp [lh_cat_r, lh_cat_i, lh_cat_j]) dX10_oneDefining_109 ⟨Nat.le_of_ble_eq_true rfl, Nat.le_of_ble_eq_true rfl⟩) hS (fun H locs hX hW hS => ?_)
            refine W.widen (k := 0) (n := 0) (by omega) (by omega) ?_
            show W _ _ _ _ _ _ _ _ _ _ _ _ _ _ _ (F0 m 112 ls [])
            have m145 : ∀ b, gvN S b ≤ gvN S143 b := hX.1
            have L_t : ∀ j, some t = some j → j < gvN S143 10 := fun j h => Nat.lt_of_lt_of_le (L_t j h) (m145 _)
            have hm : ∀ b, gvN S b ≤ gvN S143 b := lh_le_trans hm m145
            have ok := lh_W_ok hW
            refine lv_goto (tgt := 157) hx hb dX10_oneDefining_112 (by decide) ?_
            obtain ⟨rfl, rfl⟩ := dc_ret hf
            exact W.vret hx hb hr (fun t9 ht9 hW9 => ⟨⟨rfl, ⟨hm, trivial⟩, by rw [ht9]; exact hW⟩, hS.F ht9⟩) hS.2.2 dX10_oneDefining_157
      · replace hf := dc_if_f c96 hf
        refine lv_iconst (v := 4) hx hb dX10_oneDefining_50 (by decide) ?_
        refine lv_goto (tgt := 99) hx hb dX10_oneDefining_51 (by decide) ?_
        refine lv_istore (i := 6) (lv' := [(6, .int (4 : Int32)), (5, .int v11), (4, .int (gvI S 32 x8 ((gvI S 59 x5 (p1).toNatClampNeg)).toNatClampNeg)), (3, .int (gvI S 59 x5 (p1).toNatClampNeg)), (2, .int (gvI S 58 x2 (p1).toNatClampNeg)), (0, lh_r ad 10 (some t)), (1, .int p1)]) hx hb dX10_oneDefining_99 hl (by decide) (by first | rfl | simp [lh_cat_r, lh_cat_i, lh_cat_j]) (fun ls hl => ?_)
        refine lv_iload hx hb dX10_oneDefining_101 (lv_at hl 0 rfl) ?_
        refine lv_if_le (tgt := 115) hx hb dX10_oneDefining_103 (by decide) (fun c146 => ?_) (fun c146 => ?_)
        · exact absurd c146 (by decide)
        · refine lh_aload_n hx hb dX10_oneDefining_106 rfl (lv_at hl 5 rfl) ?_
          refine lv_iload hx hb dX10_oneDefining_107 (lv_at hl 0 rfl) ?_
          obtain ⟨r147, S148, k149, hf⟩ := dc_bd_ok hf
          refine lh_call (S' := S148) (lh_rv ⟨hx, hb, hml, hown, hts⟩ rfl (As := [.int (4 : Int32)]) (rest := []) (k := 10) (c_X10_ends l D cT n S ad A H.size (fun q9 h9 => hA q9 (Nat.le_trans hS.1 h9)) t (4 : Int32) r147 S148 k149 L_t) (cwV 1 hts gX10_oneDefining_X10_ends rfl rfl rfl (by decide +kernel) ⟨Nat.le_of_ble_eq_true rfl, Nat.le_of_ble_eq_true rfl⟩) hK hN hW (L_t _ rfl) rfl rfl rfl hl.1 rfl (by simp [lh_cat_r, lh_cat_i, lh_cat_j]) dX10_oneDefining_109 ⟨Nat.le_of_ble_eq_true rfl, Nat.le_of_ble_eq_true rfl⟩) hS (fun H locs hX hW hS => ?_)
          refine W.widen (k := 0) (n := 0) (by omega) (by omega) ?_
          show W _ _ _ _ _ _ _ _ _ _ _ _ _ _ _ (F0 m 112 ls [])
          have m150 : ∀ b, gvN S b ≤ gvN S148 b := hX.1
          have L_t : ∀ j, some t = some j → j < gvN S148 10 := fun j h => Nat.lt_of_lt_of_le (L_t j h) (m150 _)
          have hm : ∀ b, gvN S b ≤ gvN S148 b := lh_le_trans hm m150
          have ok := lh_W_ok hW
          refine lv_goto (tgt := 157) hx hb dX10_oneDefining_112 (by decide) ?_
          obtain ⟨rfl, rfl⟩ := dc_ret hf
          exact W.vret hx hb hr (fun t9 ht9 hW9 => ⟨⟨rfl, ⟨hm, trivial⟩, by rw [ht9]; exact hW⟩, hS.F ht9⟩) hS.2.2 dX10_oneDefining_157
def f_X10_oneLoad (n : Nat) (S : lh_S) (t : Nat) (p1 : Int32) : Option (Unit × lh_S) :=
  dc_nn (gvR S 10 t 28) fun x2 =>
  dc_gd (p1 < 0 ∨ gvL S 58 x2 ≤ (p1).toNatClampNeg) (
  dc_nn (gvR S 10 t 29) fun x5 =>
  dc_gd (p1 < 0 ∨ gvL S 59 x5 ≤ (p1).toNatClampNeg) (
  dc_let ((40 : Int32) * (gvI S 58 x2 (p1).toNatClampNeg)) fun v7 =>
  dc_let (v7 + (gvI S 59 x5 (p1).toNatClampNeg)) fun v8 =>
  dc_nn (gvR S 10 t 30) fun x10 =>
  dc_gd (p1 < 0 ∨ gvL S 60 x10 ≤ (p1).toNatClampNeg) (
  dc_if ((gvI S 60 x10 (p1).toNatClampNeg) = 0) (
  dc_let ((gvI S 10 t 25) - (gvI S 10 t 25) / (30 : Int32) * (30 : Int32)) fun v429 =>
  dc_let ((64 : Int32) * (gvI S 58 x2 (p1).toNatClampNeg)) fun v430 =>
  dc_let (v430 + (gvI S 59 x5 (p1).toNatClampNeg)) fun v431 =>
  dc_nn (gvR S 10 t 26) fun x432 =>
  dc_gd (v429 < 0 ∨ gvL S 56 x432 ≤ (v429).toNatClampNeg) (
  dc_let (pvI S 56 x432 (v429).toNatClampNeg v431) fun S434 =>
  dc_let ((gvI S434 10 t 25) + (1 : Int32)) fun v436 =>
  dc_let (pvI S434 10 t 25 v436) fun S437 =>
  dc_nn (gvR S437 10 t 30) fun x440 =>
  dc_gd (p1 < 0 ∨ gvL S437 60 x440 ≤ (p1).toNatClampNeg) (
  dc_let (pvI S437 60 x440 (p1).toNatClampNeg (1 : Int32)) fun S442 =>
  dc_nn (gvR S442 10 t 14) fun x445 =>
  dc_gd (v8 < 0 ∨ gvL S442 44 x445 ≤ (v8).toNatClampNeg) (
  dc_if ((gvI S442 44 x445 (v8).toNatClampNeg) ≤ 0) (
  dc_nn (gvR S442 10 t 15) fun x449 =>
  dc_gd (v8 < 0 ∨ gvL S442 45 x449 ≤ (v8).toNatClampNeg) (
  dc_if ((gvI S442 45 x449 (v8).toNatClampNeg) = 0) (
  some ((), S442)) (
  dc_bd (f_X10_ends n S442 t (6 : Int32)) fun r452 S453 =>
  some ((), S453)))) (
  dc_gd (v8 < 0 ∨ gvL S442 44 x445 ≤ (v8).toNatClampNeg) (
  dc_let ((gvI S442 44 x445 (v8).toNatClampNeg) - (1 : Int32)) fun v458 =>
  dc_bd (f_X10_gives n S442 t v458) fun r459 S460 =>
  some ((), S460))))))) (
  dc_gd (p1 < 0 ∨ gvL S 60 x10 ≤ (p1).toNatClampNeg) (
  dc_if ((gvI S 60 x10 (p1).toNatClampNeg) = (1 : Int32)) (
  dc_if ((gvI S 58 x2 (p1).toNatClampNeg) ≤ 0) (
  dc_nn (gvR S 10 t 31) fun x151 =>
  dc_gd (p1 < 0 ∨ gvL S 61 x151 ≤ (p1).toNatClampNeg) (
  dc_if ((gvI S 61 x151 (p1).toNatClampNeg) = (2 : Int32)) (
  dc_bd (f_X10_ends n S t (1 : Int32)) fun r154 S155 =>
  some ((), S155)) (
  dc_if ((gvI S 58 x2 (p1).toNatClampNeg) = 0) (
  dc_gd (p1 < 0 ∨ gvL S 61 x151 ≤ (p1).toNatClampNeg) (
  dc_if ((gvI S 61 x151 (p1).toNatClampNeg) = (1 : Int32)) (
  dc_bd (f_X10_ends n S t (1 : Int32)) fun r208 S209 =>
  some ((), S209)) (
  dc_nn (gvR S 10 t 13) fun x187 =>
  dc_gd (v8 < 0 ∨ gvL S 43 x187 ≤ (v8).toNatClampNeg) (
  dc_if ((gvI S 43 x187 (v8).toNatClampNeg) ≤ 0) (
  dc_gd (p1 < 0 ∨ gvL S 61 x151 ≤ (p1).toNatClampNeg) (
  dc_let ((gvI S 61 x151 (p1).toNatClampNeg) + (1 : Int32)) fun v192 =>
  dc_gd (p1 < 0 ∨ gvL S 61 x151 ≤ (p1).toNatClampNeg) (
  dc_let (pvI S 61 x151 (p1).toNatClampNeg v192) fun S194 =>
  some ((), S194)))) (
  dc_gd (p1 < 0 ∨ gvL S 60 x10 ≤ (p1).toNatClampNeg) (
  dc_let (pvI S 60 x10 (p1).toNatClampNeg (3 : Int32)) fun S198 =>
  dc_nn (gvR S198 10 t 13) fun x201 =>
  dc_gd (v8 < 0 ∨ gvL S198 43 x201 ≤ (v8).toNatClampNeg) (
  dc_let ((gvI S198 43 x201 (v8).toNatClampNeg) - (1 : Int32)) fun v203 =>
  dc_bd (f_X10_push n S198 t (1 : Int32) (gvI S 58 x2 (p1).toNatClampNeg) v203) fun r204 S205 =>
  some ((), S205)))))))) (
  dc_nn (gvR S 10 t 13) fun x161 =>
  dc_gd (v8 < 0 ∨ gvL S 43 x161 ≤ (v8).toNatClampNeg) (
  dc_if ((gvI S 43 x161 (v8).toNatClampNeg) ≤ 0) (
  dc_gd (p1 < 0 ∨ gvL S 61 x151 ≤ (p1).toNatClampNeg) (
  dc_let ((gvI S 61 x151 (p1).toNatClampNeg) + (1 : Int32)) fun v166 =>
  dc_gd (p1 < 0 ∨ gvL S 61 x151 ≤ (p1).toNatClampNeg) (
  dc_let (pvI S 61 x151 (p1).toNatClampNeg v166) fun S168 =>
  some ((), S168)))) (
  dc_gd (p1 < 0 ∨ gvL S 60 x10 ≤ (p1).toNatClampNeg) (
  dc_let (pvI S 60 x10 (p1).toNatClampNeg (3 : Int32)) fun S172 =>
  dc_nn (gvR S172 10 t 13) fun x175 =>
  dc_gd (v8 < 0 ∨ gvL S172 43 x175 ≤ (v8).toNatClampNeg) (
  dc_let ((gvI S172 43 x175 (v8).toNatClampNeg) - (1 : Int32)) fun v177 =>
  dc_bd (f_X10_push n S172 t (1 : Int32) (gvI S 58 x2 (p1).toNatClampNeg) v177) fun r178 S179 =>
  some ((), S179))))))))) (
  dc_nn (gvR S 10 t 12) fun x213 =>
  dc_gd ((gvI S 58 x2 (p1).toNatClampNeg) < 0 ∨ gvL S 42 x213 ≤ ((gvI S 58 x2 (p1).toNatClampNeg)).toNatClampNeg) (
  dc_if ((gvI S 42 x213 ((gvI S 58 x2 (p1).toNatClampNeg)).toNatClampNeg) ≤ (gvI S 59 x5 (p1).toNatClampNeg)) (
  dc_nn (gvR S 10 t 31) fun x217 =>
  dc_gd (p1 < 0 ∨ gvL S 61 x217 ≤ (p1).toNatClampNeg) (
  dc_if ((gvI S 61 x217 (p1).toNatClampNeg) = 0) (
  dc_gd (p1 < 0 ∨ gvL S 61 x217 ≤ (p1).toNatClampNeg) (
  dc_if ((gvI S 61 x217 (p1).toNatClampNeg) = (2 : Int32)) (
  dc_bd (f_X10_ends n S t (1 : Int32)) fun r264 S265 =>
  some ((), S265)) (
  dc_if ((gvI S 58 x2 (p1).toNatClampNeg) = 0) (
  dc_gd (p1 < 0 ∨ gvL S 61 x217 ≤ (p1).toNatClampNeg) (
  dc_if ((gvI S 61 x217 (p1).toNatClampNeg) = (1 : Int32)) (
  dc_bd (f_X10_ends n S t (1 : Int32)) fun r318 S319 =>
  some ((), S319)) (
  dc_nn (gvR S 10 t 13) fun x297 =>
  dc_gd (v8 < 0 ∨ gvL S 43 x297 ≤ (v8).toNatClampNeg) (
  dc_if ((gvI S 43 x297 (v8).toNatClampNeg) ≤ 0) (
  dc_gd (p1 < 0 ∨ gvL S 61 x217 ≤ (p1).toNatClampNeg) (
  dc_let ((gvI S 61 x217 (p1).toNatClampNeg) + (1 : Int32)) fun v302 =>
  dc_gd (p1 < 0 ∨ gvL S 61 x217 ≤ (p1).toNatClampNeg) (
  dc_let (pvI S 61 x217 (p1).toNatClampNeg v302) fun S304 =>
  some ((), S304)))) (
  dc_gd (p1 < 0 ∨ gvL S 60 x10 ≤ (p1).toNatClampNeg) (
  dc_let (pvI S 60 x10 (p1).toNatClampNeg (3 : Int32)) fun S308 =>
  dc_nn (gvR S308 10 t 13) fun x311 =>
  dc_gd (v8 < 0 ∨ gvL S308 43 x311 ≤ (v8).toNatClampNeg) (
  dc_let ((gvI S308 43 x311 (v8).toNatClampNeg) - (1 : Int32)) fun v313 =>
  dc_bd (f_X10_push n S308 t (1 : Int32) (gvI S 58 x2 (p1).toNatClampNeg) v313) fun r314 S315 =>
  some ((), S315)))))))) (
  dc_nn (gvR S 10 t 13) fun x271 =>
  dc_gd (v8 < 0 ∨ gvL S 43 x271 ≤ (v8).toNatClampNeg) (
  dc_if ((gvI S 43 x271 (v8).toNatClampNeg) ≤ 0) (
  dc_gd (p1 < 0 ∨ gvL S 61 x217 ≤ (p1).toNatClampNeg) (
  dc_let ((gvI S 61 x217 (p1).toNatClampNeg) + (1 : Int32)) fun v276 =>
  dc_gd (p1 < 0 ∨ gvL S 61 x217 ≤ (p1).toNatClampNeg) (
  dc_let (pvI S 61 x217 (p1).toNatClampNeg v276) fun S278 =>
  some ((), S278)))) (
  dc_gd (p1 < 0 ∨ gvL S 60 x10 ≤ (p1).toNatClampNeg) (
  dc_let (pvI S 60 x10 (p1).toNatClampNeg (3 : Int32)) fun S282 =>
  dc_nn (gvR S282 10 t 13) fun x285 =>
  dc_gd (v8 < 0 ∨ gvL S282 43 x285 ≤ (v8).toNatClampNeg) (
  dc_let ((gvI S282 43 x285 (v8).toNatClampNeg) - (1 : Int32)) fun v287 =>
  dc_bd (f_X10_push n S282 t (1 : Int32) (gvI S 58 x2 (p1).toNatClampNeg) v287) fun r288 S289 =>
  some ((), S289))))))))) (
  dc_gd (p1 < 0 ∨ gvL S 61 x217 ≤ (p1).toNatClampNeg) (
  dc_if ((gvI S 61 x217 (p1).toNatClampNeg) = (2 : Int32)) (
  dc_bd (f_X10_ends n S t (1 : Int32)) fun r224 S225 =>
  some ((), S225)) (
  dc_if ((gvI S 58 x2 (p1).toNatClampNeg) = 0) (
  dc_gd (p1 < 0 ∨ gvL S 61 x217 ≤ (p1).toNatClampNeg) (
  dc_if ((gvI S 61 x217 (p1).toNatClampNeg) = (1 : Int32)) (
  dc_bd (f_X10_ends n S t (1 : Int32)) fun r256 S257 =>
  some ((), S257)) (
  dc_gd (p1 < 0 ∨ gvL S 60 x10 ≤ (p1).toNatClampNeg) (
  dc_let (pvI S 60 x10 (p1).toNatClampNeg (2 : Int32)) fun S247 =>
  dc_nn (gvR S247 10 t 11) fun x250 =>
  dc_gd ((gvI S 58 x2 (p1).toNatClampNeg) < 0 ∨ gvL S247 41 x250 ≤ ((gvI S 58 x2 (p1).toNatClampNeg)).toNatClampNeg) (
  dc_bd (f_X10_push n S247 t (0 : Int32) (gvI S247 41 x250 ((gvI S 58 x2 (p1).toNatClampNeg)).toNatClampNeg) (gvI S 59 x5 (p1).toNatClampNeg)) fun r252 S253 =>
  some ((), S253)))))) (
  dc_gd (p1 < 0 ∨ gvL S 60 x10 ≤ (p1).toNatClampNeg) (
  dc_let (pvI S 60 x10 (p1).toNatClampNeg (2 : Int32)) fun S232 =>
  dc_nn (gvR S232 10 t 11) fun x235 =>
  dc_gd ((gvI S 58 x2 (p1).toNatClampNeg) < 0 ∨ gvL S232 41 x235 ≤ ((gvI S 58 x2 (p1).toNatClampNeg)).toNatClampNeg) (
  dc_bd (f_X10_push n S232 t (0 : Int32) (gvI S232 41 x235 ((gvI S 58 x2 (p1).toNatClampNeg)).toNatClampNeg) (gvI S 59 x5 (p1).toNatClampNeg)) fun r237 S238 =>
  some ((), S238))))))))) (
  dc_nn (gvR S 10 t 31) fun x323 =>
  dc_gd (p1 < 0 ∨ gvL S 61 x323 ≤ (p1).toNatClampNeg) (
  dc_if ((gvI S 61 x323 (p1).toNatClampNeg) = 0) (
  dc_gd (p1 < 0 ∨ gvL S 61 x323 ≤ (p1).toNatClampNeg) (
  dc_if ((gvI S 61 x323 (p1).toNatClampNeg) = (2 : Int32)) (
  dc_bd (f_X10_ends n S t (1 : Int32)) fun r392 S393 =>
  some ((), S393)) (
  dc_if ((gvI S 58 x2 (p1).toNatClampNeg) = 0) (
  dc_gd (p1 < 0 ∨ gvL S 61 x323 ≤ (p1).toNatClampNeg) (
  dc_if ((gvI S 61 x323 (p1).toNatClampNeg) = (1 : Int32)) (
  dc_bd (f_X10_ends n S t (1 : Int32)) fun r424 S425 =>
  some ((), S425)) (
  dc_gd (p1 < 0 ∨ gvL S 60 x10 ≤ (p1).toNatClampNeg) (
  dc_let (pvI S 60 x10 (p1).toNatClampNeg (2 : Int32)) fun S415 =>
  dc_nn (gvR S415 10 t 11) fun x418 =>
  dc_gd ((gvI S 58 x2 (p1).toNatClampNeg) < 0 ∨ gvL S415 41 x418 ≤ ((gvI S 58 x2 (p1).toNatClampNeg)).toNatClampNeg) (
  dc_bd (f_X10_push n S415 t (0 : Int32) (gvI S415 41 x418 ((gvI S 58 x2 (p1).toNatClampNeg)).toNatClampNeg) (gvI S 59 x5 (p1).toNatClampNeg)) fun r420 S421 =>
  some ((), S421)))))) (
  dc_gd (p1 < 0 ∨ gvL S 60 x10 ≤ (p1).toNatClampNeg) (
  dc_let (pvI S 60 x10 (p1).toNatClampNeg (2 : Int32)) fun S400 =>
  dc_nn (gvR S400 10 t 11) fun x403 =>
  dc_gd ((gvI S 58 x2 (p1).toNatClampNeg) < 0 ∨ gvL S400 41 x403 ≤ ((gvI S 58 x2 (p1).toNatClampNeg)).toNatClampNeg) (
  dc_bd (f_X10_push n S400 t (0 : Int32) (gvI S400 41 x403 ((gvI S 58 x2 (p1).toNatClampNeg)).toNatClampNeg) (gvI S 59 x5 (p1).toNatClampNeg)) fun r405 S406 =>
  some ((), S406))))))) (
  dc_gd (p1 < 0 ∨ gvL S 61 x323 ≤ (p1).toNatClampNeg) (
  dc_if ((gvI S 61 x323 (p1).toNatClampNeg) = (2 : Int32)) (
  dc_bd (f_X10_ends n S t (1 : Int32)) fun r330 S331 =>
  some ((), S331)) (
  dc_if ((gvI S 58 x2 (p1).toNatClampNeg) = 0) (
  dc_gd (p1 < 0 ∨ gvL S 61 x323 ≤ (p1).toNatClampNeg) (
  dc_if ((gvI S 61 x323 (p1).toNatClampNeg) = (1 : Int32)) (
  dc_bd (f_X10_ends n S t (1 : Int32)) fun r384 S385 =>
  some ((), S385)) (
  dc_nn (gvR S 10 t 13) fun x363 =>
  dc_gd (v8 < 0 ∨ gvL S 43 x363 ≤ (v8).toNatClampNeg) (
  dc_if ((gvI S 43 x363 (v8).toNatClampNeg) ≤ 0) (
  dc_gd (p1 < 0 ∨ gvL S 61 x323 ≤ (p1).toNatClampNeg) (
  dc_let ((gvI S 61 x323 (p1).toNatClampNeg) + (1 : Int32)) fun v368 =>
  dc_gd (p1 < 0 ∨ gvL S 61 x323 ≤ (p1).toNatClampNeg) (
  dc_let (pvI S 61 x323 (p1).toNatClampNeg v368) fun S370 =>
  some ((), S370)))) (
  dc_gd (p1 < 0 ∨ gvL S 60 x10 ≤ (p1).toNatClampNeg) (
  dc_let (pvI S 60 x10 (p1).toNatClampNeg (3 : Int32)) fun S374 =>
  dc_nn (gvR S374 10 t 13) fun x377 =>
  dc_gd (v8 < 0 ∨ gvL S374 43 x377 ≤ (v8).toNatClampNeg) (
  dc_let ((gvI S374 43 x377 (v8).toNatClampNeg) - (1 : Int32)) fun v379 =>
  dc_bd (f_X10_push n S374 t (1 : Int32) (gvI S 58 x2 (p1).toNatClampNeg) v379) fun r380 S381 =>
  some ((), S381)))))))) (
  dc_nn (gvR S 10 t 13) fun x337 =>
  dc_gd (v8 < 0 ∨ gvL S 43 x337 ≤ (v8).toNatClampNeg) (
  dc_if ((gvI S 43 x337 (v8).toNatClampNeg) ≤ 0) (
  dc_gd (p1 < 0 ∨ gvL S 61 x323 ≤ (p1).toNatClampNeg) (
  dc_let ((gvI S 61 x323 (p1).toNatClampNeg) + (1 : Int32)) fun v342 =>
  dc_gd (p1 < 0 ∨ gvL S 61 x323 ≤ (p1).toNatClampNeg) (
  dc_let (pvI S 61 x323 (p1).toNatClampNeg v342) fun S344 =>
  some ((), S344)))) (
  dc_gd (p1 < 0 ∨ gvL S 60 x10 ≤ (p1).toNatClampNeg) (
  dc_let (pvI S 60 x10 (p1).toNatClampNeg (3 : Int32)) fun S348 =>
  dc_nn (gvR S348 10 t 13) fun x351 =>
  dc_gd (v8 < 0 ∨ gvL S348 43 x351 ≤ (v8).toNatClampNeg) (
  dc_let ((gvI S348 43 x351 (v8).toNatClampNeg) - (1 : Int32)) fun v353 =>
  dc_bd (f_X10_push n S348 t (1 : Int32) (gvI S 58 x2 (p1).toNatClampNeg) v353) fun r354 S355 =>
  some ((), S355)))))))))))))) (
  dc_gd (p1 < 0 ∨ gvL S 60 x10 ≤ (p1).toNatClampNeg) (
  dc_if ((gvI S 60 x10 (p1).toNatClampNeg) = (2 : Int32)) (
  dc_if ((gvI S 10 t 34) = (1 : Int32)) (
  dc_gd (p1 < 0 ∨ gvL S 60 x10 ≤ (p1).toNatClampNeg) (
  dc_let (pvI S 60 x10 (p1).toNatClampNeg (1 : Int32)) fun S140 =>
  dc_nn (gvR S140 10 t 31) fun x143 =>
  dc_gd (p1 < 0 ∨ gvL S140 61 x143 ≤ (p1).toNatClampNeg) (
  dc_let ((gvI S140 61 x143 (p1).toNatClampNeg) + (1 : Int32)) fun v145 =>
  dc_gd (p1 < 0 ∨ gvL S140 61 x143 ≤ (p1).toNatClampNeg) (
  dc_let (pvI S140 61 x143 (p1).toNatClampNeg v145) fun S147 =>
  some ((), S147))))) (
  dc_gd (p1 < 0 ∨ gvL S 60 x10 ≤ (p1).toNatClampNeg) (
  dc_if ((gvI S 60 x10 (p1).toNatClampNeg) = (2 : Int32)) (
  dc_if ((gvI S 10 t 34) = 0) (
  dc_bd (f_X10_isBarred n S t (gvI S 58 x2 (p1).toNatClampNeg) (gvI S 59 x5 (p1).toNatClampNeg) (gvI S 10 t 33)) fun r113 S114 =>
  dc_if (r113 = 0) (
  dc_if ((gvI S114 10 t 34) = 0) (
  dc_let ((gvI S114 10 t 33) + (1 : Int32)) fun v125 =>
  dc_nn (gvR S114 10 t 14) fun x126 =>
  dc_gd (v8 < 0 ∨ gvL S114 44 x126 ≤ (v8).toNatClampNeg) (
  dc_let (pvI S114 44 x126 (v8).toNatClampNeg v125) fun S128 =>
  dc_bd (f_X10_gives n S128 t (gvI S128 10 t 33)) fun r130 S131 =>
  some ((), S131))) (
  dc_bd (f_X10_ends n S114 t (gvI S114 10 t 34)) fun r120 S121 =>
  some ((), S121))) (
  dc_bd (f_X10_ends n S114 t (3 : Int32)) fun r134 S135 =>
  some ((), S135))) (
  dc_if ((gvI S 10 t 34) = 0) (
  dc_let ((gvI S 10 t 33) + (1 : Int32)) fun v104 =>
  dc_nn (gvR S 10 t 14) fun x105 =>
  dc_gd (v8 < 0 ∨ gvL S 44 x105 ≤ (v8).toNatClampNeg) (
  dc_let (pvI S 44 x105 (v8).toNatClampNeg v104) fun S107 =>
  dc_bd (f_X10_gives n S107 t (gvI S107 10 t 33)) fun r109 S110 =>
  some ((), S110))) (
  dc_bd (f_X10_ends n S t (gvI S 10 t 34)) fun r99 S100 =>
  some ((), S100)))) (
  dc_if ((gvI S 10 t 34) = 0) (
  dc_let ((gvI S 10 t 33) + (1 : Int32)) fun v88 =>
  dc_nn (gvR S 10 t 14) fun x89 =>
  dc_gd (v8 < 0 ∨ gvL S 44 x89 ≤ (v8).toNatClampNeg) (
  dc_let (pvI S 44 x89 (v8).toNatClampNeg v88) fun S91 =>
  dc_bd (f_X10_gives n S91 t (gvI S91 10 t 33)) fun r93 S94 =>
  some ((), S94))) (
  dc_bd (f_X10_ends n S t (gvI S 10 t 34)) fun r83 S84 =>
  some ((), S84)))))) (
  dc_gd (p1 < 0 ∨ gvL S 60 x10 ≤ (p1).toNatClampNeg) (
  dc_if ((gvI S 60 x10 (p1).toNatClampNeg) = (2 : Int32)) (
  dc_if ((gvI S 10 t 34) = 0) (
  dc_bd (f_X10_isBarred n S t (gvI S 58 x2 (p1).toNatClampNeg) (gvI S 59 x5 (p1).toNatClampNeg) (gvI S 10 t 33)) fun r53 S54 =>
  dc_if (r53 = 0) (
  dc_if ((gvI S54 10 t 34) = 0) (
  dc_let ((gvI S54 10 t 33) + (1 : Int32)) fun v65 =>
  dc_nn (gvR S54 10 t 14) fun x66 =>
  dc_gd (v8 < 0 ∨ gvL S54 44 x66 ≤ (v8).toNatClampNeg) (
  dc_let (pvI S54 44 x66 (v8).toNatClampNeg v65) fun S68 =>
  dc_bd (f_X10_gives n S68 t (gvI S68 10 t 33)) fun r70 S71 =>
  some ((), S71))) (
  dc_bd (f_X10_ends n S54 t (gvI S54 10 t 34)) fun r60 S61 =>
  some ((), S61))) (
  dc_bd (f_X10_ends n S54 t (3 : Int32)) fun r74 S75 =>
  some ((), S75))) (
  dc_if ((gvI S 10 t 34) = 0) (
  dc_let ((gvI S 10 t 33) + (1 : Int32)) fun v44 =>
  dc_nn (gvR S 10 t 14) fun x45 =>
  dc_gd (v8 < 0 ∨ gvL S 44 x45 ≤ (v8).toNatClampNeg) (
  dc_let (pvI S 44 x45 (v8).toNatClampNeg v44) fun S47 =>
  dc_bd (f_X10_gives n S47 t (gvI S47 10 t 33)) fun r49 S50 =>
  some ((), S50))) (
  dc_bd (f_X10_ends n S t (gvI S 10 t 34)) fun r39 S40 =>
  some ((), S40)))) (
  dc_if ((gvI S 10 t 34) = 0) (
  dc_let ((gvI S 10 t 33) + (1 : Int32)) fun v28 =>
  dc_nn (gvR S 10 t 14) fun x29 =>
  dc_gd (v8 < 0 ∨ gvL S 44 x29 ≤ (v8).toNatClampNeg) (
  dc_let (pvI S 44 x29 (v8).toNatClampNeg v28) fun S31 =>
  dc_bd (f_X10_gives n S31 t (gvI S31 10 t 33)) fun r33 S34 =>
  some ((), S34))) (
  dc_bd (f_X10_ends n S t (gvI S 10 t 34)) fun r23 S24 =>
  some ((), S24))))))))))))
set_option maxHeartbeats 1000000 in
theorem m_X10_oneLoad {n : Nat} {S : lh_S} {t : Nat} {p1 : Int32} {r : Unit} {S' : lh_S} (hf : f_X10_oneLoad n S t p1 = some (r, S')) : ∀ b, gvN S b ≤ gvN S' b := by
  have hm : ∀ b, gvN S b ≤ gvN S b := fun _ => Nat.le_refl _
  unfold f_X10_oneLoad at hf
  obtain ⟨x2, hx2, hf⟩ := dc_nn_ok hf
  obtain ⟨g3, hf⟩ := dc_gd_ok hf
  obtain ⟨x5, hx5, hf⟩ := dc_nn_ok hf
  obtain ⟨g6, hf⟩ := dc_gd_ok hf
  obtain ⟨v7, hv7, hf⟩ := dc_let_ok hf
  obtain ⟨v8, hv8, hf⟩ := dc_let_ok hf
  obtain ⟨x10, hx10, hf⟩ := dc_nn_ok hf
  obtain ⟨g11, hf⟩ := dc_gd_ok hf
  by_cases c12 : (gvI S 60 x10 (p1).toNatClampNeg) = 0
  · replace hf := dc_if_t c12 hf
    obtain ⟨v429, hv429, hf⟩ := dc_let_ok hf
    obtain ⟨v430, hv430, hf⟩ := dc_let_ok hf
    obtain ⟨v431, hv431, hf⟩ := dc_let_ok hf
    obtain ⟨x432, hx432, hf⟩ := dc_nn_ok hf
    obtain ⟨g433, hf⟩ := dc_gd_ok hf
    obtain ⟨S434, eS434, hf⟩ := dc_let_ok hf
    have hm := lh_le_trans hm (show ∀ b, gvN S b ≤ gvN S434 b from by rw [eS434]; exact lh_mI)
    obtain ⟨v436, hv436, hf⟩ := dc_let_ok hf
    obtain ⟨S437, eS437, hf⟩ := dc_let_ok hf
    have hm := lh_le_trans hm (show ∀ b, gvN S434 b ≤ gvN S437 b from by rw [eS437]; exact lh_mI)
    obtain ⟨x440, hx440, hf⟩ := dc_nn_ok hf
    obtain ⟨g441, hf⟩ := dc_gd_ok hf
    obtain ⟨S442, eS442, hf⟩ := dc_let_ok hf
    have hm := lh_le_trans hm (show ∀ b, gvN S437 b ≤ gvN S442 b from by rw [eS442]; exact lh_mI)
    obtain ⟨x445, hx445, hf⟩ := dc_nn_ok hf
    obtain ⟨g446, hf⟩ := dc_gd_ok hf
    by_cases c447 : (gvI S442 44 x445 (v8).toNatClampNeg) ≤ 0
    · replace hf := dc_if_t c447 hf
      obtain ⟨x449, hx449, hf⟩ := dc_nn_ok hf
      obtain ⟨g450, hf⟩ := dc_gd_ok hf
      by_cases c451 : (gvI S442 45 x449 (v8).toNatClampNeg) = 0
      · replace hf := dc_if_t c451 hf
        obtain ⟨_, rfl⟩ := dc_ret hf
        exact hm
      · replace hf := dc_if_f c451 hf
        obtain ⟨r452, S453, k454, hf⟩ := dc_bd_ok hf
        have hm := lh_le_trans hm (show ∀ b, gvN S442 b ≤ gvN S453 b from m_X10_ends k454)
        obtain ⟨_, rfl⟩ := dc_ret hf
        exact hm
    · replace hf := dc_if_f c447 hf
      obtain ⟨g457, hf⟩ := dc_gd_ok hf
      obtain ⟨v458, hv458, hf⟩ := dc_let_ok hf
      obtain ⟨r459, S460, k461, hf⟩ := dc_bd_ok hf
      have hm := lh_le_trans hm (show ∀ b, gvN S442 b ≤ gvN S460 b from m_X10_gives k461)
      obtain ⟨_, rfl⟩ := dc_ret hf
      exact hm
  · replace hf := dc_if_f c12 hf
    obtain ⟨g14, hf⟩ := dc_gd_ok hf
    by_cases c15 : (gvI S 60 x10 (p1).toNatClampNeg) = (1 : Int32)
    · replace hf := dc_if_t c15 hf
      by_cases c149 : (gvI S 58 x2 (p1).toNatClampNeg) ≤ 0
      · replace hf := dc_if_t c149 hf
        obtain ⟨x151, hx151, hf⟩ := dc_nn_ok hf
        obtain ⟨g152, hf⟩ := dc_gd_ok hf
        by_cases c153 : (gvI S 61 x151 (p1).toNatClampNeg) = (2 : Int32)
        · replace hf := dc_if_t c153 hf
          obtain ⟨r154, S155, k156, hf⟩ := dc_bd_ok hf
          have hm := lh_le_trans hm (show ∀ b, gvN S b ≤ gvN S155 b from m_X10_ends k156)
          obtain ⟨_, rfl⟩ := dc_ret hf
          exact hm
        · replace hf := dc_if_f c153 hf
          by_cases c158 : (gvI S 58 x2 (p1).toNatClampNeg) = 0
          · replace hf := dc_if_t c158 hf
            obtain ⟨g183, hf⟩ := dc_gd_ok hf
            by_cases c184 : (gvI S 61 x151 (p1).toNatClampNeg) = (1 : Int32)
            · replace hf := dc_if_t c184 hf
              obtain ⟨r208, S209, k210, hf⟩ := dc_bd_ok hf
              have hm := lh_le_trans hm (show ∀ b, gvN S b ≤ gvN S209 b from m_X10_ends k210)
              obtain ⟨_, rfl⟩ := dc_ret hf
              exact hm
            · replace hf := dc_if_f c184 hf
              obtain ⟨x187, hx187, hf⟩ := dc_nn_ok hf
              obtain ⟨g188, hf⟩ := dc_gd_ok hf
              by_cases c189 : (gvI S 43 x187 (v8).toNatClampNeg) ≤ 0
              · replace hf := dc_if_t c189 hf
                obtain ⟨g191, hf⟩ := dc_gd_ok hf
                obtain ⟨v192, hv192, hf⟩ := dc_let_ok hf
                obtain ⟨g193, hf⟩ := dc_gd_ok hf
                obtain ⟨S194, eS194, hf⟩ := dc_let_ok hf
                have hm := lh_le_trans hm (show ∀ b, gvN S b ≤ gvN S194 b from by rw [eS194]; exact lh_mI)
                obtain ⟨_, rfl⟩ := dc_ret hf
                exact hm
              · replace hf := dc_if_f c189 hf
                obtain ⟨g197, hf⟩ := dc_gd_ok hf
                obtain ⟨S198, eS198, hf⟩ := dc_let_ok hf
                have hm := lh_le_trans hm (show ∀ b, gvN S b ≤ gvN S198 b from by rw [eS198]; exact lh_mI)
                obtain ⟨x201, hx201, hf⟩ := dc_nn_ok hf
                obtain ⟨g202, hf⟩ := dc_gd_ok hf
                obtain ⟨v203, hv203, hf⟩ := dc_let_ok hf
                obtain ⟨r204, S205, k206, hf⟩ := dc_bd_ok hf
                have hm := lh_le_trans hm (show ∀ b, gvN S198 b ≤ gvN S205 b from m_X10_push k206)
                obtain ⟨_, rfl⟩ := dc_ret hf
                exact hm
          · replace hf := dc_if_f c158 hf
            obtain ⟨x161, hx161, hf⟩ := dc_nn_ok hf
            obtain ⟨g162, hf⟩ := dc_gd_ok hf
            by_cases c163 : (gvI S 43 x161 (v8).toNatClampNeg) ≤ 0
            · replace hf := dc_if_t c163 hf
              obtain ⟨g165, hf⟩ := dc_gd_ok hf
              obtain ⟨v166, hv166, hf⟩ := dc_let_ok hf
              obtain ⟨g167, hf⟩ := dc_gd_ok hf
              obtain ⟨S168, eS168, hf⟩ := dc_let_ok hf
              have hm := lh_le_trans hm (show ∀ b, gvN S b ≤ gvN S168 b from by rw [eS168]; exact lh_mI)
              obtain ⟨_, rfl⟩ := dc_ret hf
              exact hm
            · replace hf := dc_if_f c163 hf
              obtain ⟨g171, hf⟩ := dc_gd_ok hf
              obtain ⟨S172, eS172, hf⟩ := dc_let_ok hf
              have hm := lh_le_trans hm (show ∀ b, gvN S b ≤ gvN S172 b from by rw [eS172]; exact lh_mI)
              obtain ⟨x175, hx175, hf⟩ := dc_nn_ok hf
              obtain ⟨g176, hf⟩ := dc_gd_ok hf
              obtain ⟨v177, hv177, hf⟩ := dc_let_ok hf
              obtain ⟨r178, S179, k180, hf⟩ := dc_bd_ok hf
              have hm := lh_le_trans hm (show ∀ b, gvN S172 b ≤ gvN S179 b from m_X10_push k180)
              obtain ⟨_, rfl⟩ := dc_ret hf
              exact hm
      · replace hf := dc_if_f c149 hf
        obtain ⟨x213, hx213, hf⟩ := dc_nn_ok hf
        obtain ⟨g214, hf⟩ := dc_gd_ok hf
        by_cases c215 : (gvI S 42 x213 ((gvI S 58 x2 (p1).toNatClampNeg)).toNatClampNeg) ≤ (gvI S 59 x5 (p1).toNatClampNeg)
        · replace hf := dc_if_t c215 hf
          obtain ⟨x217, hx217, hf⟩ := dc_nn_ok hf
          obtain ⟨g218, hf⟩ := dc_gd_ok hf
          by_cases c219 : (gvI S 61 x217 (p1).toNatClampNeg) = 0
          · replace hf := dc_if_t c219 hf
            obtain ⟨g262, hf⟩ := dc_gd_ok hf
            by_cases c263 : (gvI S 61 x217 (p1).toNatClampNeg) = (2 : Int32)
            · replace hf := dc_if_t c263 hf
              obtain ⟨r264, S265, k266, hf⟩ := dc_bd_ok hf
              have hm := lh_le_trans hm (show ∀ b, gvN S b ≤ gvN S265 b from m_X10_ends k266)
              obtain ⟨_, rfl⟩ := dc_ret hf
              exact hm
            · replace hf := dc_if_f c263 hf
              by_cases c268 : (gvI S 58 x2 (p1).toNatClampNeg) = 0
              · replace hf := dc_if_t c268 hf
                obtain ⟨g293, hf⟩ := dc_gd_ok hf
                by_cases c294 : (gvI S 61 x217 (p1).toNatClampNeg) = (1 : Int32)
                · replace hf := dc_if_t c294 hf
                  obtain ⟨r318, S319, k320, hf⟩ := dc_bd_ok hf
                  have hm := lh_le_trans hm (show ∀ b, gvN S b ≤ gvN S319 b from m_X10_ends k320)
                  obtain ⟨_, rfl⟩ := dc_ret hf
                  exact hm
                · replace hf := dc_if_f c294 hf
                  obtain ⟨x297, hx297, hf⟩ := dc_nn_ok hf
                  obtain ⟨g298, hf⟩ := dc_gd_ok hf
                  by_cases c299 : (gvI S 43 x297 (v8).toNatClampNeg) ≤ 0
                  · replace hf := dc_if_t c299 hf
                    obtain ⟨g301, hf⟩ := dc_gd_ok hf
                    obtain ⟨v302, hv302, hf⟩ := dc_let_ok hf
                    obtain ⟨g303, hf⟩ := dc_gd_ok hf
                    obtain ⟨S304, eS304, hf⟩ := dc_let_ok hf
                    have hm := lh_le_trans hm (show ∀ b, gvN S b ≤ gvN S304 b from by rw [eS304]; exact lh_mI)
                    obtain ⟨_, rfl⟩ := dc_ret hf
                    exact hm
                  · replace hf := dc_if_f c299 hf
                    obtain ⟨g307, hf⟩ := dc_gd_ok hf
                    obtain ⟨S308, eS308, hf⟩ := dc_let_ok hf
                    have hm := lh_le_trans hm (show ∀ b, gvN S b ≤ gvN S308 b from by rw [eS308]; exact lh_mI)
                    obtain ⟨x311, hx311, hf⟩ := dc_nn_ok hf
                    obtain ⟨g312, hf⟩ := dc_gd_ok hf
                    obtain ⟨v313, hv313, hf⟩ := dc_let_ok hf
                    obtain ⟨r314, S315, k316, hf⟩ := dc_bd_ok hf
                    have hm := lh_le_trans hm (show ∀ b, gvN S308 b ≤ gvN S315 b from m_X10_push k316)
                    obtain ⟨_, rfl⟩ := dc_ret hf
                    exact hm
              · replace hf := dc_if_f c268 hf
                obtain ⟨x271, hx271, hf⟩ := dc_nn_ok hf
                obtain ⟨g272, hf⟩ := dc_gd_ok hf
                by_cases c273 : (gvI S 43 x271 (v8).toNatClampNeg) ≤ 0
                · replace hf := dc_if_t c273 hf
                  obtain ⟨g275, hf⟩ := dc_gd_ok hf
                  obtain ⟨v276, hv276, hf⟩ := dc_let_ok hf
                  obtain ⟨g277, hf⟩ := dc_gd_ok hf
                  obtain ⟨S278, eS278, hf⟩ := dc_let_ok hf
                  have hm := lh_le_trans hm (show ∀ b, gvN S b ≤ gvN S278 b from by rw [eS278]; exact lh_mI)
                  obtain ⟨_, rfl⟩ := dc_ret hf
                  exact hm
                · replace hf := dc_if_f c273 hf
                  obtain ⟨g281, hf⟩ := dc_gd_ok hf
                  obtain ⟨S282, eS282, hf⟩ := dc_let_ok hf
                  have hm := lh_le_trans hm (show ∀ b, gvN S b ≤ gvN S282 b from by rw [eS282]; exact lh_mI)
                  obtain ⟨x285, hx285, hf⟩ := dc_nn_ok hf
                  obtain ⟨g286, hf⟩ := dc_gd_ok hf
                  obtain ⟨v287, hv287, hf⟩ := dc_let_ok hf
                  obtain ⟨r288, S289, k290, hf⟩ := dc_bd_ok hf
                  have hm := lh_le_trans hm (show ∀ b, gvN S282 b ≤ gvN S289 b from m_X10_push k290)
                  obtain ⟨_, rfl⟩ := dc_ret hf
                  exact hm
          · replace hf := dc_if_f c219 hf
            obtain ⟨g222, hf⟩ := dc_gd_ok hf
            by_cases c223 : (gvI S 61 x217 (p1).toNatClampNeg) = (2 : Int32)
            · replace hf := dc_if_t c223 hf
              obtain ⟨r224, S225, k226, hf⟩ := dc_bd_ok hf
              have hm := lh_le_trans hm (show ∀ b, gvN S b ≤ gvN S225 b from m_X10_ends k226)
              obtain ⟨_, rfl⟩ := dc_ret hf
              exact hm
            · replace hf := dc_if_f c223 hf
              by_cases c228 : (gvI S 58 x2 (p1).toNatClampNeg) = 0
              · replace hf := dc_if_t c228 hf
                obtain ⟨g242, hf⟩ := dc_gd_ok hf
                by_cases c243 : (gvI S 61 x217 (p1).toNatClampNeg) = (1 : Int32)
                · replace hf := dc_if_t c243 hf
                  obtain ⟨r256, S257, k258, hf⟩ := dc_bd_ok hf
                  have hm := lh_le_trans hm (show ∀ b, gvN S b ≤ gvN S257 b from m_X10_ends k258)
                  obtain ⟨_, rfl⟩ := dc_ret hf
                  exact hm
                · replace hf := dc_if_f c243 hf
                  obtain ⟨g246, hf⟩ := dc_gd_ok hf
                  obtain ⟨S247, eS247, hf⟩ := dc_let_ok hf
                  have hm := lh_le_trans hm (show ∀ b, gvN S b ≤ gvN S247 b from by rw [eS247]; exact lh_mI)
                  obtain ⟨x250, hx250, hf⟩ := dc_nn_ok hf
                  obtain ⟨g251, hf⟩ := dc_gd_ok hf
                  obtain ⟨r252, S253, k254, hf⟩ := dc_bd_ok hf
                  have hm := lh_le_trans hm (show ∀ b, gvN S247 b ≤ gvN S253 b from m_X10_push k254)
                  obtain ⟨_, rfl⟩ := dc_ret hf
                  exact hm
              · replace hf := dc_if_f c228 hf
                obtain ⟨g231, hf⟩ := dc_gd_ok hf
                obtain ⟨S232, eS232, hf⟩ := dc_let_ok hf
                have hm := lh_le_trans hm (show ∀ b, gvN S b ≤ gvN S232 b from by rw [eS232]; exact lh_mI)
                obtain ⟨x235, hx235, hf⟩ := dc_nn_ok hf
                obtain ⟨g236, hf⟩ := dc_gd_ok hf
                obtain ⟨r237, S238, k239, hf⟩ := dc_bd_ok hf
                have hm := lh_le_trans hm (show ∀ b, gvN S232 b ≤ gvN S238 b from m_X10_push k239)
                obtain ⟨_, rfl⟩ := dc_ret hf
                exact hm
        · replace hf := dc_if_f c215 hf
          obtain ⟨x323, hx323, hf⟩ := dc_nn_ok hf
          obtain ⟨g324, hf⟩ := dc_gd_ok hf
          by_cases c325 : (gvI S 61 x323 (p1).toNatClampNeg) = 0
          · replace hf := dc_if_t c325 hf
            obtain ⟨g390, hf⟩ := dc_gd_ok hf
            by_cases c391 : (gvI S 61 x323 (p1).toNatClampNeg) = (2 : Int32)
            · replace hf := dc_if_t c391 hf
              obtain ⟨r392, S393, k394, hf⟩ := dc_bd_ok hf
              have hm := lh_le_trans hm (show ∀ b, gvN S b ≤ gvN S393 b from m_X10_ends k394)
              obtain ⟨_, rfl⟩ := dc_ret hf
              exact hm
            · replace hf := dc_if_f c391 hf
              by_cases c396 : (gvI S 58 x2 (p1).toNatClampNeg) = 0
              · replace hf := dc_if_t c396 hf
                obtain ⟨g410, hf⟩ := dc_gd_ok hf
                by_cases c411 : (gvI S 61 x323 (p1).toNatClampNeg) = (1 : Int32)
                · replace hf := dc_if_t c411 hf
                  obtain ⟨r424, S425, k426, hf⟩ := dc_bd_ok hf
                  have hm := lh_le_trans hm (show ∀ b, gvN S b ≤ gvN S425 b from m_X10_ends k426)
                  obtain ⟨_, rfl⟩ := dc_ret hf
                  exact hm
                · replace hf := dc_if_f c411 hf
                  obtain ⟨g414, hf⟩ := dc_gd_ok hf
                  obtain ⟨S415, eS415, hf⟩ := dc_let_ok hf
                  have hm := lh_le_trans hm (show ∀ b, gvN S b ≤ gvN S415 b from by rw [eS415]; exact lh_mI)
                  obtain ⟨x418, hx418, hf⟩ := dc_nn_ok hf
                  obtain ⟨g419, hf⟩ := dc_gd_ok hf
                  obtain ⟨r420, S421, k422, hf⟩ := dc_bd_ok hf
                  have hm := lh_le_trans hm (show ∀ b, gvN S415 b ≤ gvN S421 b from m_X10_push k422)
                  obtain ⟨_, rfl⟩ := dc_ret hf
                  exact hm
              · replace hf := dc_if_f c396 hf
                obtain ⟨g399, hf⟩ := dc_gd_ok hf
                obtain ⟨S400, eS400, hf⟩ := dc_let_ok hf
                have hm := lh_le_trans hm (show ∀ b, gvN S b ≤ gvN S400 b from by rw [eS400]; exact lh_mI)
                obtain ⟨x403, hx403, hf⟩ := dc_nn_ok hf
                obtain ⟨g404, hf⟩ := dc_gd_ok hf
                obtain ⟨r405, S406, k407, hf⟩ := dc_bd_ok hf
                have hm := lh_le_trans hm (show ∀ b, gvN S400 b ≤ gvN S406 b from m_X10_push k407)
                obtain ⟨_, rfl⟩ := dc_ret hf
                exact hm
          · replace hf := dc_if_f c325 hf
            obtain ⟨g328, hf⟩ := dc_gd_ok hf
            by_cases c329 : (gvI S 61 x323 (p1).toNatClampNeg) = (2 : Int32)
            · replace hf := dc_if_t c329 hf
              obtain ⟨r330, S331, k332, hf⟩ := dc_bd_ok hf
              have hm := lh_le_trans hm (show ∀ b, gvN S b ≤ gvN S331 b from m_X10_ends k332)
              obtain ⟨_, rfl⟩ := dc_ret hf
              exact hm
            · replace hf := dc_if_f c329 hf
              by_cases c334 : (gvI S 58 x2 (p1).toNatClampNeg) = 0
              · replace hf := dc_if_t c334 hf
                obtain ⟨g359, hf⟩ := dc_gd_ok hf
                by_cases c360 : (gvI S 61 x323 (p1).toNatClampNeg) = (1 : Int32)
                · replace hf := dc_if_t c360 hf
                  obtain ⟨r384, S385, k386, hf⟩ := dc_bd_ok hf
                  have hm := lh_le_trans hm (show ∀ b, gvN S b ≤ gvN S385 b from m_X10_ends k386)
                  obtain ⟨_, rfl⟩ := dc_ret hf
                  exact hm
                · replace hf := dc_if_f c360 hf
                  obtain ⟨x363, hx363, hf⟩ := dc_nn_ok hf
                  obtain ⟨g364, hf⟩ := dc_gd_ok hf
                  by_cases c365 : (gvI S 43 x363 (v8).toNatClampNeg) ≤ 0
                  · replace hf := dc_if_t c365 hf
                    obtain ⟨g367, hf⟩ := dc_gd_ok hf
                    obtain ⟨v368, hv368, hf⟩ := dc_let_ok hf
                    obtain ⟨g369, hf⟩ := dc_gd_ok hf
                    obtain ⟨S370, eS370, hf⟩ := dc_let_ok hf
                    have hm := lh_le_trans hm (show ∀ b, gvN S b ≤ gvN S370 b from by rw [eS370]; exact lh_mI)
                    obtain ⟨_, rfl⟩ := dc_ret hf
                    exact hm
                  · replace hf := dc_if_f c365 hf
                    obtain ⟨g373, hf⟩ := dc_gd_ok hf
                    obtain ⟨S374, eS374, hf⟩ := dc_let_ok hf
                    have hm := lh_le_trans hm (show ∀ b, gvN S b ≤ gvN S374 b from by rw [eS374]; exact lh_mI)
                    obtain ⟨x377, hx377, hf⟩ := dc_nn_ok hf
                    obtain ⟨g378, hf⟩ := dc_gd_ok hf
                    obtain ⟨v379, hv379, hf⟩ := dc_let_ok hf
                    obtain ⟨r380, S381, k382, hf⟩ := dc_bd_ok hf
                    have hm := lh_le_trans hm (show ∀ b, gvN S374 b ≤ gvN S381 b from m_X10_push k382)
                    obtain ⟨_, rfl⟩ := dc_ret hf
                    exact hm
              · replace hf := dc_if_f c334 hf
                obtain ⟨x337, hx337, hf⟩ := dc_nn_ok hf
                obtain ⟨g338, hf⟩ := dc_gd_ok hf
                by_cases c339 : (gvI S 43 x337 (v8).toNatClampNeg) ≤ 0
                · replace hf := dc_if_t c339 hf
                  obtain ⟨g341, hf⟩ := dc_gd_ok hf
                  obtain ⟨v342, hv342, hf⟩ := dc_let_ok hf
                  obtain ⟨g343, hf⟩ := dc_gd_ok hf
                  obtain ⟨S344, eS344, hf⟩ := dc_let_ok hf
                  have hm := lh_le_trans hm (show ∀ b, gvN S b ≤ gvN S344 b from by rw [eS344]; exact lh_mI)
                  obtain ⟨_, rfl⟩ := dc_ret hf
                  exact hm
                · replace hf := dc_if_f c339 hf
                  obtain ⟨g347, hf⟩ := dc_gd_ok hf
                  obtain ⟨S348, eS348, hf⟩ := dc_let_ok hf
                  have hm := lh_le_trans hm (show ∀ b, gvN S b ≤ gvN S348 b from by rw [eS348]; exact lh_mI)
                  obtain ⟨x351, hx351, hf⟩ := dc_nn_ok hf
                  obtain ⟨g352, hf⟩ := dc_gd_ok hf
                  obtain ⟨v353, hv353, hf⟩ := dc_let_ok hf
                  obtain ⟨r354, S355, k356, hf⟩ := dc_bd_ok hf
                  have hm := lh_le_trans hm (show ∀ b, gvN S348 b ≤ gvN S355 b from m_X10_push k356)
                  obtain ⟨_, rfl⟩ := dc_ret hf
                  exact hm
    · replace hf := dc_if_f c15 hf
      obtain ⟨g17, hf⟩ := dc_gd_ok hf
      by_cases c18 : (gvI S 60 x10 (p1).toNatClampNeg) = (2 : Int32)
      · replace hf := dc_if_t c18 hf
        by_cases c78 : (gvI S 10 t 34) = (1 : Int32)
        · replace hf := dc_if_t c78 hf
          obtain ⟨g139, hf⟩ := dc_gd_ok hf
          obtain ⟨S140, eS140, hf⟩ := dc_let_ok hf
          have hm := lh_le_trans hm (show ∀ b, gvN S b ≤ gvN S140 b from by rw [eS140]; exact lh_mI)
          obtain ⟨x143, hx143, hf⟩ := dc_nn_ok hf
          obtain ⟨g144, hf⟩ := dc_gd_ok hf
          obtain ⟨v145, hv145, hf⟩ := dc_let_ok hf
          obtain ⟨g146, hf⟩ := dc_gd_ok hf
          obtain ⟨S147, eS147, hf⟩ := dc_let_ok hf
          have hm := lh_le_trans hm (show ∀ b, gvN S140 b ≤ gvN S147 b from by rw [eS147]; exact lh_mI)
          obtain ⟨_, rfl⟩ := dc_ret hf
          exact hm
        · replace hf := dc_if_f c78 hf
          obtain ⟨g80, hf⟩ := dc_gd_ok hf
          by_cases c81 : (gvI S 60 x10 (p1).toNatClampNeg) = (2 : Int32)
          · replace hf := dc_if_t c81 hf
            by_cases c97 : (gvI S 10 t 34) = 0
            · replace hf := dc_if_t c97 hf
              obtain ⟨r113, S114, k115, hf⟩ := dc_bd_ok hf
              have hm := lh_le_trans hm (show ∀ b, gvN S b ≤ gvN S114 b from m_X10_isBarred k115)
              by_cases c118 : r113 = 0
              · replace hf := dc_if_t c118 hf
                by_cases c119 : (gvI S114 10 t 34) = 0
                · replace hf := dc_if_t c119 hf
                  obtain ⟨v125, hv125, hf⟩ := dc_let_ok hf
                  obtain ⟨x126, hx126, hf⟩ := dc_nn_ok hf
                  obtain ⟨g127, hf⟩ := dc_gd_ok hf
                  obtain ⟨S128, eS128, hf⟩ := dc_let_ok hf
                  have hm := lh_le_trans hm (show ∀ b, gvN S114 b ≤ gvN S128 b from by rw [eS128]; exact lh_mI)
                  obtain ⟨r130, S131, k132, hf⟩ := dc_bd_ok hf
                  have hm := lh_le_trans hm (show ∀ b, gvN S128 b ≤ gvN S131 b from m_X10_gives k132)
                  obtain ⟨_, rfl⟩ := dc_ret hf
                  exact hm
                · replace hf := dc_if_f c119 hf
                  obtain ⟨r120, S121, k122, hf⟩ := dc_bd_ok hf
                  have hm := lh_le_trans hm (show ∀ b, gvN S114 b ≤ gvN S121 b from m_X10_ends k122)
                  obtain ⟨_, rfl⟩ := dc_ret hf
                  exact hm
              · replace hf := dc_if_f c118 hf
                obtain ⟨r134, S135, k136, hf⟩ := dc_bd_ok hf
                have hm := lh_le_trans hm (show ∀ b, gvN S114 b ≤ gvN S135 b from m_X10_ends k136)
                obtain ⟨_, rfl⟩ := dc_ret hf
                exact hm
            · replace hf := dc_if_f c97 hf
              by_cases c98 : (gvI S 10 t 34) = 0
              · replace hf := dc_if_t c98 hf
                obtain ⟨v104, hv104, hf⟩ := dc_let_ok hf
                obtain ⟨x105, hx105, hf⟩ := dc_nn_ok hf
                obtain ⟨g106, hf⟩ := dc_gd_ok hf
                obtain ⟨S107, eS107, hf⟩ := dc_let_ok hf
                have hm := lh_le_trans hm (show ∀ b, gvN S b ≤ gvN S107 b from by rw [eS107]; exact lh_mI)
                obtain ⟨r109, S110, k111, hf⟩ := dc_bd_ok hf
                have hm := lh_le_trans hm (show ∀ b, gvN S107 b ≤ gvN S110 b from m_X10_gives k111)
                obtain ⟨_, rfl⟩ := dc_ret hf
                exact hm
              · replace hf := dc_if_f c98 hf
                obtain ⟨r99, S100, k101, hf⟩ := dc_bd_ok hf
                have hm := lh_le_trans hm (show ∀ b, gvN S b ≤ gvN S100 b from m_X10_ends k101)
                obtain ⟨_, rfl⟩ := dc_ret hf
                exact hm
          · replace hf := dc_if_f c81 hf
            by_cases c82 : (gvI S 10 t 34) = 0
            · replace hf := dc_if_t c82 hf
              obtain ⟨v88, hv88, hf⟩ := dc_let_ok hf
              obtain ⟨x89, hx89, hf⟩ := dc_nn_ok hf
              obtain ⟨g90, hf⟩ := dc_gd_ok hf
              obtain ⟨S91, eS91, hf⟩ := dc_let_ok hf
              have hm := lh_le_trans hm (show ∀ b, gvN S b ≤ gvN S91 b from by rw [eS91]; exact lh_mI)
              obtain ⟨r93, S94, k95, hf⟩ := dc_bd_ok hf
              have hm := lh_le_trans hm (show ∀ b, gvN S91 b ≤ gvN S94 b from m_X10_gives k95)
              obtain ⟨_, rfl⟩ := dc_ret hf
              exact hm
            · replace hf := dc_if_f c82 hf
              obtain ⟨r83, S84, k85, hf⟩ := dc_bd_ok hf
              have hm := lh_le_trans hm (show ∀ b, gvN S b ≤ gvN S84 b from m_X10_ends k85)
              obtain ⟨_, rfl⟩ := dc_ret hf
              exact hm
      · replace hf := dc_if_f c18 hf
        obtain ⟨g20, hf⟩ := dc_gd_ok hf
        by_cases c21 : (gvI S 60 x10 (p1).toNatClampNeg) = (2 : Int32)
        · replace hf := dc_if_t c21 hf
          by_cases c37 : (gvI S 10 t 34) = 0
          · replace hf := dc_if_t c37 hf
            obtain ⟨r53, S54, k55, hf⟩ := dc_bd_ok hf
            have hm := lh_le_trans hm (show ∀ b, gvN S b ≤ gvN S54 b from m_X10_isBarred k55)
            by_cases c58 : r53 = 0
            · replace hf := dc_if_t c58 hf
              by_cases c59 : (gvI S54 10 t 34) = 0
              · replace hf := dc_if_t c59 hf
                obtain ⟨v65, hv65, hf⟩ := dc_let_ok hf
                obtain ⟨x66, hx66, hf⟩ := dc_nn_ok hf
                obtain ⟨g67, hf⟩ := dc_gd_ok hf
                obtain ⟨S68, eS68, hf⟩ := dc_let_ok hf
                have hm := lh_le_trans hm (show ∀ b, gvN S54 b ≤ gvN S68 b from by rw [eS68]; exact lh_mI)
                obtain ⟨r70, S71, k72, hf⟩ := dc_bd_ok hf
                have hm := lh_le_trans hm (show ∀ b, gvN S68 b ≤ gvN S71 b from m_X10_gives k72)
                obtain ⟨_, rfl⟩ := dc_ret hf
                exact hm
              · replace hf := dc_if_f c59 hf
                obtain ⟨r60, S61, k62, hf⟩ := dc_bd_ok hf
                have hm := lh_le_trans hm (show ∀ b, gvN S54 b ≤ gvN S61 b from m_X10_ends k62)
                obtain ⟨_, rfl⟩ := dc_ret hf
                exact hm
            · replace hf := dc_if_f c58 hf
              obtain ⟨r74, S75, k76, hf⟩ := dc_bd_ok hf
              have hm := lh_le_trans hm (show ∀ b, gvN S54 b ≤ gvN S75 b from m_X10_ends k76)
              obtain ⟨_, rfl⟩ := dc_ret hf
              exact hm
          · replace hf := dc_if_f c37 hf
            by_cases c38 : (gvI S 10 t 34) = 0
            · replace hf := dc_if_t c38 hf
              obtain ⟨v44, hv44, hf⟩ := dc_let_ok hf
              obtain ⟨x45, hx45, hf⟩ := dc_nn_ok hf
              obtain ⟨g46, hf⟩ := dc_gd_ok hf
              obtain ⟨S47, eS47, hf⟩ := dc_let_ok hf
              have hm := lh_le_trans hm (show ∀ b, gvN S b ≤ gvN S47 b from by rw [eS47]; exact lh_mI)
              obtain ⟨r49, S50, k51, hf⟩ := dc_bd_ok hf
              have hm := lh_le_trans hm (show ∀ b, gvN S47 b ≤ gvN S50 b from m_X10_gives k51)
              obtain ⟨_, rfl⟩ := dc_ret hf
              exact hm
            · replace hf := dc_if_f c38 hf
              obtain ⟨r39, S40, k41, hf⟩ := dc_bd_ok hf
              have hm := lh_le_trans hm (show ∀ b, gvN S b ≤ gvN S40 b from m_X10_ends k41)
              obtain ⟨_, rfl⟩ := dc_ret hf
              exact hm
        · replace hf := dc_if_f c21 hf
          by_cases c22 : (gvI S 10 t 34) = 0
          · replace hf := dc_if_t c22 hf
            obtain ⟨v28, hv28, hf⟩ := dc_let_ok hf
            obtain ⟨x29, hx29, hf⟩ := dc_nn_ok hf
            obtain ⟨g30, hf⟩ := dc_gd_ok hf
            obtain ⟨S31, eS31, hf⟩ := dc_let_ok hf
            have hm := lh_le_trans hm (show ∀ b, gvN S b ≤ gvN S31 b from by rw [eS31]; exact lh_mI)
            obtain ⟨r33, S34, k35, hf⟩ := dc_bd_ok hf
            have hm := lh_le_trans hm (show ∀ b, gvN S31 b ≤ gvN S34 b from m_X10_gives k35)
            obtain ⟨_, rfl⟩ := dc_ret hf
            exact hm
          · replace hf := dc_if_f c22 hf
            obtain ⟨r23, S24, k25, hf⟩ := dc_bd_ok hf
            have hm := lh_le_trans hm (show ∀ b, gvN S b ≤ gvN S24 b from m_X10_ends k25)
            obtain ⟨_, rfl⟩ := dc_ret hf
            exact hm
set_option maxHeartbeats 1000000 in
theorem k_X10_oneLoad {n : Nat} {S : lh_S} {t : Nat} {p1 : Int32} {r : Unit} {S' : lh_S} (hf : f_X10_oneLoad n S t p1 = some (r, S')) : lh_sm10 S S' := by
  have hm : lh_sm10 S S := lh_sm10_rf
  unfold f_X10_oneLoad at hf
  obtain ⟨x2, hx2, hf⟩ := dc_nn_ok hf
  obtain ⟨g3, hf⟩ := dc_gd_ok hf
  obtain ⟨x5, hx5, hf⟩ := dc_nn_ok hf
  obtain ⟨g6, hf⟩ := dc_gd_ok hf
  obtain ⟨v7, hv7, hf⟩ := dc_let_ok hf
  obtain ⟨v8, hv8, hf⟩ := dc_let_ok hf
  obtain ⟨x10, hx10, hf⟩ := dc_nn_ok hf
  obtain ⟨g11, hf⟩ := dc_gd_ok hf
  by_cases c12 : (gvI S 60 x10 (p1).toNatClampNeg) = 0
  · replace hf := dc_if_t c12 hf
    obtain ⟨v429, hv429, hf⟩ := dc_let_ok hf
    obtain ⟨v430, hv430, hf⟩ := dc_let_ok hf
    obtain ⟨v431, hv431, hf⟩ := dc_let_ok hf
    obtain ⟨x432, hx432, hf⟩ := dc_nn_ok hf
    obtain ⟨g433, hf⟩ := dc_gd_ok hf
    obtain ⟨S434, eS434, hf⟩ := dc_let_ok hf
    have hm := lh_sm10_trans hm (show lh_sm10 S S434 from by rw [eS434]; exact (lh_sm10I (by decide)))
    obtain ⟨v436, hv436, hf⟩ := dc_let_ok hf
    obtain ⟨S437, eS437, hf⟩ := dc_let_ok hf
    have hm := lh_sm10_trans hm (show lh_sm10 S434 S437 from by rw [eS437]; exact (lh_sm10I (by decide)))
    obtain ⟨x440, hx440, hf⟩ := dc_nn_ok hf
    obtain ⟨g441, hf⟩ := dc_gd_ok hf
    obtain ⟨S442, eS442, hf⟩ := dc_let_ok hf
    have hm := lh_sm10_trans hm (show lh_sm10 S437 S442 from by rw [eS442]; exact (lh_sm10I (by decide)))
    obtain ⟨x445, hx445, hf⟩ := dc_nn_ok hf
    obtain ⟨g446, hf⟩ := dc_gd_ok hf
    by_cases c447 : (gvI S442 44 x445 (v8).toNatClampNeg) ≤ 0
    · replace hf := dc_if_t c447 hf
      obtain ⟨x449, hx449, hf⟩ := dc_nn_ok hf
      obtain ⟨g450, hf⟩ := dc_gd_ok hf
      by_cases c451 : (gvI S442 45 x449 (v8).toNatClampNeg) = 0
      · replace hf := dc_if_t c451 hf
        obtain ⟨_, rfl⟩ := dc_ret hf
        exact hm
      · replace hf := dc_if_f c451 hf
        obtain ⟨r452, S453, k454, hf⟩ := dc_bd_ok hf
        have hm := lh_sm10_trans hm (show lh_sm10 S442 S453 from k_X10_ends k454)
        obtain ⟨_, rfl⟩ := dc_ret hf
        exact hm
    · replace hf := dc_if_f c447 hf
      obtain ⟨g457, hf⟩ := dc_gd_ok hf
      obtain ⟨v458, hv458, hf⟩ := dc_let_ok hf
      obtain ⟨r459, S460, k461, hf⟩ := dc_bd_ok hf
      have hm := lh_sm10_trans hm (show lh_sm10 S442 S460 from k_X10_gives k461)
      obtain ⟨_, rfl⟩ := dc_ret hf
      exact hm
  · replace hf := dc_if_f c12 hf
    obtain ⟨g14, hf⟩ := dc_gd_ok hf
    by_cases c15 : (gvI S 60 x10 (p1).toNatClampNeg) = (1 : Int32)
    · replace hf := dc_if_t c15 hf
      by_cases c149 : (gvI S 58 x2 (p1).toNatClampNeg) ≤ 0
      · replace hf := dc_if_t c149 hf
        obtain ⟨x151, hx151, hf⟩ := dc_nn_ok hf
        obtain ⟨g152, hf⟩ := dc_gd_ok hf
        by_cases c153 : (gvI S 61 x151 (p1).toNatClampNeg) = (2 : Int32)
        · replace hf := dc_if_t c153 hf
          obtain ⟨r154, S155, k156, hf⟩ := dc_bd_ok hf
          have hm := lh_sm10_trans hm (show lh_sm10 S S155 from k_X10_ends k156)
          obtain ⟨_, rfl⟩ := dc_ret hf
          exact hm
        · replace hf := dc_if_f c153 hf
          by_cases c158 : (gvI S 58 x2 (p1).toNatClampNeg) = 0
          · replace hf := dc_if_t c158 hf
            obtain ⟨g183, hf⟩ := dc_gd_ok hf
            by_cases c184 : (gvI S 61 x151 (p1).toNatClampNeg) = (1 : Int32)
            · replace hf := dc_if_t c184 hf
              obtain ⟨r208, S209, k210, hf⟩ := dc_bd_ok hf
              have hm := lh_sm10_trans hm (show lh_sm10 S S209 from k_X10_ends k210)
              obtain ⟨_, rfl⟩ := dc_ret hf
              exact hm
            · replace hf := dc_if_f c184 hf
              obtain ⟨x187, hx187, hf⟩ := dc_nn_ok hf
              obtain ⟨g188, hf⟩ := dc_gd_ok hf
              by_cases c189 : (gvI S 43 x187 (v8).toNatClampNeg) ≤ 0
              · replace hf := dc_if_t c189 hf
                obtain ⟨g191, hf⟩ := dc_gd_ok hf
                obtain ⟨v192, hv192, hf⟩ := dc_let_ok hf
                obtain ⟨g193, hf⟩ := dc_gd_ok hf
                obtain ⟨S194, eS194, hf⟩ := dc_let_ok hf
                have hm := lh_sm10_trans hm (show lh_sm10 S S194 from by rw [eS194]; exact (lh_sm10I (by decide)))
                obtain ⟨_, rfl⟩ := dc_ret hf
                exact hm
              · replace hf := dc_if_f c189 hf
                obtain ⟨g197, hf⟩ := dc_gd_ok hf
                obtain ⟨S198, eS198, hf⟩ := dc_let_ok hf
                have hm := lh_sm10_trans hm (show lh_sm10 S S198 from by rw [eS198]; exact (lh_sm10I (by decide)))
                obtain ⟨x201, hx201, hf⟩ := dc_nn_ok hf
                obtain ⟨g202, hf⟩ := dc_gd_ok hf
                obtain ⟨v203, hv203, hf⟩ := dc_let_ok hf
                obtain ⟨r204, S205, k206, hf⟩ := dc_bd_ok hf
                have hm := lh_sm10_trans hm (show lh_sm10 S198 S205 from k_X10_push k206)
                obtain ⟨_, rfl⟩ := dc_ret hf
                exact hm
          · replace hf := dc_if_f c158 hf
            obtain ⟨x161, hx161, hf⟩ := dc_nn_ok hf
            obtain ⟨g162, hf⟩ := dc_gd_ok hf
            by_cases c163 : (gvI S 43 x161 (v8).toNatClampNeg) ≤ 0
            · replace hf := dc_if_t c163 hf
              obtain ⟨g165, hf⟩ := dc_gd_ok hf
              obtain ⟨v166, hv166, hf⟩ := dc_let_ok hf
              obtain ⟨g167, hf⟩ := dc_gd_ok hf
              obtain ⟨S168, eS168, hf⟩ := dc_let_ok hf
              have hm := lh_sm10_trans hm (show lh_sm10 S S168 from by rw [eS168]; exact (lh_sm10I (by decide)))
              obtain ⟨_, rfl⟩ := dc_ret hf
              exact hm
            · replace hf := dc_if_f c163 hf
              obtain ⟨g171, hf⟩ := dc_gd_ok hf
              obtain ⟨S172, eS172, hf⟩ := dc_let_ok hf
              have hm := lh_sm10_trans hm (show lh_sm10 S S172 from by rw [eS172]; exact (lh_sm10I (by decide)))
              obtain ⟨x175, hx175, hf⟩ := dc_nn_ok hf
              obtain ⟨g176, hf⟩ := dc_gd_ok hf
              obtain ⟨v177, hv177, hf⟩ := dc_let_ok hf
              obtain ⟨r178, S179, k180, hf⟩ := dc_bd_ok hf
              have hm := lh_sm10_trans hm (show lh_sm10 S172 S179 from k_X10_push k180)
              obtain ⟨_, rfl⟩ := dc_ret hf
              exact hm
      · replace hf := dc_if_f c149 hf
        obtain ⟨x213, hx213, hf⟩ := dc_nn_ok hf
        obtain ⟨g214, hf⟩ := dc_gd_ok hf
        by_cases c215 : (gvI S 42 x213 ((gvI S 58 x2 (p1).toNatClampNeg)).toNatClampNeg) ≤ (gvI S 59 x5 (p1).toNatClampNeg)
        · replace hf := dc_if_t c215 hf
          obtain ⟨x217, hx217, hf⟩ := dc_nn_ok hf
          obtain ⟨g218, hf⟩ := dc_gd_ok hf
          by_cases c219 : (gvI S 61 x217 (p1).toNatClampNeg) = 0
          · replace hf := dc_if_t c219 hf
            obtain ⟨g262, hf⟩ := dc_gd_ok hf
            by_cases c263 : (gvI S 61 x217 (p1).toNatClampNeg) = (2 : Int32)
            · replace hf := dc_if_t c263 hf
              obtain ⟨r264, S265, k266, hf⟩ := dc_bd_ok hf
              have hm := lh_sm10_trans hm (show lh_sm10 S S265 from k_X10_ends k266)
              obtain ⟨_, rfl⟩ := dc_ret hf
              exact hm
            · replace hf := dc_if_f c263 hf
              by_cases c268 : (gvI S 58 x2 (p1).toNatClampNeg) = 0
              · replace hf := dc_if_t c268 hf
                obtain ⟨g293, hf⟩ := dc_gd_ok hf
                by_cases c294 : (gvI S 61 x217 (p1).toNatClampNeg) = (1 : Int32)
                · replace hf := dc_if_t c294 hf
                  obtain ⟨r318, S319, k320, hf⟩ := dc_bd_ok hf
                  have hm := lh_sm10_trans hm (show lh_sm10 S S319 from k_X10_ends k320)
                  obtain ⟨_, rfl⟩ := dc_ret hf
                  exact hm
                · replace hf := dc_if_f c294 hf
                  obtain ⟨x297, hx297, hf⟩ := dc_nn_ok hf
                  obtain ⟨g298, hf⟩ := dc_gd_ok hf
                  by_cases c299 : (gvI S 43 x297 (v8).toNatClampNeg) ≤ 0
                  · replace hf := dc_if_t c299 hf
                    obtain ⟨g301, hf⟩ := dc_gd_ok hf
                    obtain ⟨v302, hv302, hf⟩ := dc_let_ok hf
                    obtain ⟨g303, hf⟩ := dc_gd_ok hf
                    obtain ⟨S304, eS304, hf⟩ := dc_let_ok hf
                    have hm := lh_sm10_trans hm (show lh_sm10 S S304 from by rw [eS304]; exact (lh_sm10I (by decide)))
                    obtain ⟨_, rfl⟩ := dc_ret hf
                    exact hm
                  · replace hf := dc_if_f c299 hf
                    obtain ⟨g307, hf⟩ := dc_gd_ok hf
                    obtain ⟨S308, eS308, hf⟩ := dc_let_ok hf
                    have hm := lh_sm10_trans hm (show lh_sm10 S S308 from by rw [eS308]; exact (lh_sm10I (by decide)))
                    obtain ⟨x311, hx311, hf⟩ := dc_nn_ok hf
                    obtain ⟨g312, hf⟩ := dc_gd_ok hf
                    obtain ⟨v313, hv313, hf⟩ := dc_let_ok hf
                    obtain ⟨r314, S315, k316, hf⟩ := dc_bd_ok hf
                    have hm := lh_sm10_trans hm (show lh_sm10 S308 S315 from k_X10_push k316)
                    obtain ⟨_, rfl⟩ := dc_ret hf
                    exact hm
              · replace hf := dc_if_f c268 hf
                obtain ⟨x271, hx271, hf⟩ := dc_nn_ok hf
                obtain ⟨g272, hf⟩ := dc_gd_ok hf
                by_cases c273 : (gvI S 43 x271 (v8).toNatClampNeg) ≤ 0
                · replace hf := dc_if_t c273 hf
                  obtain ⟨g275, hf⟩ := dc_gd_ok hf
                  obtain ⟨v276, hv276, hf⟩ := dc_let_ok hf
                  obtain ⟨g277, hf⟩ := dc_gd_ok hf
                  obtain ⟨S278, eS278, hf⟩ := dc_let_ok hf
                  have hm := lh_sm10_trans hm (show lh_sm10 S S278 from by rw [eS278]; exact (lh_sm10I (by decide)))
                  obtain ⟨_, rfl⟩ := dc_ret hf
                  exact hm
                · replace hf := dc_if_f c273 hf
                  obtain ⟨g281, hf⟩ := dc_gd_ok hf
                  obtain ⟨S282, eS282, hf⟩ := dc_let_ok hf
                  have hm := lh_sm10_trans hm (show lh_sm10 S S282 from by rw [eS282]; exact (lh_sm10I (by decide)))
                  obtain ⟨x285, hx285, hf⟩ := dc_nn_ok hf
                  obtain ⟨g286, hf⟩ := dc_gd_ok hf
                  obtain ⟨v287, hv287, hf⟩ := dc_let_ok hf
                  obtain ⟨r288, S289, k290, hf⟩ := dc_bd_ok hf
                  have hm := lh_sm10_trans hm (show lh_sm10 S282 S289 from k_X10_push k290)
                  obtain ⟨_, rfl⟩ := dc_ret hf
                  exact hm
          · replace hf := dc_if_f c219 hf
            obtain ⟨g222, hf⟩ := dc_gd_ok hf
            by_cases c223 : (gvI S 61 x217 (p1).toNatClampNeg) = (2 : Int32)
            · replace hf := dc_if_t c223 hf
              obtain ⟨r224, S225, k226, hf⟩ := dc_bd_ok hf
              have hm := lh_sm10_trans hm (show lh_sm10 S S225 from k_X10_ends k226)
              obtain ⟨_, rfl⟩ := dc_ret hf
              exact hm
            · replace hf := dc_if_f c223 hf
              by_cases c228 : (gvI S 58 x2 (p1).toNatClampNeg) = 0
              · replace hf := dc_if_t c228 hf
                obtain ⟨g242, hf⟩ := dc_gd_ok hf
                by_cases c243 : (gvI S 61 x217 (p1).toNatClampNeg) = (1 : Int32)
                · replace hf := dc_if_t c243 hf
                  obtain ⟨r256, S257, k258, hf⟩ := dc_bd_ok hf
                  have hm := lh_sm10_trans hm (show lh_sm10 S S257 from k_X10_ends k258)
                  obtain ⟨_, rfl⟩ := dc_ret hf
                  exact hm
                · replace hf := dc_if_f c243 hf
                  obtain ⟨g246, hf⟩ := dc_gd_ok hf
                  obtain ⟨S247, eS247, hf⟩ := dc_let_ok hf
                  have hm := lh_sm10_trans hm (show lh_sm10 S S247 from by rw [eS247]; exact (lh_sm10I (by decide)))
                  obtain ⟨x250, hx250, hf⟩ := dc_nn_ok hf
                  obtain ⟨g251, hf⟩ := dc_gd_ok hf
                  obtain ⟨r252, S253, k254, hf⟩ := dc_bd_ok hf
                  have hm := lh_sm10_trans hm (show lh_sm10 S247 S253 from k_X10_push k254)
                  obtain ⟨_, rfl⟩ := dc_ret hf
                  exact hm
              · replace hf := dc_if_f c228 hf
                obtain ⟨g231, hf⟩ := dc_gd_ok hf
                obtain ⟨S232, eS232, hf⟩ := dc_let_ok hf
                have hm := lh_sm10_trans hm (show lh_sm10 S S232 from by rw [eS232]; exact (lh_sm10I (by decide)))
                obtain ⟨x235, hx235, hf⟩ := dc_nn_ok hf
                obtain ⟨g236, hf⟩ := dc_gd_ok hf
                obtain ⟨r237, S238, k239, hf⟩ := dc_bd_ok hf
                have hm := lh_sm10_trans hm (show lh_sm10 S232 S238 from k_X10_push k239)
                obtain ⟨_, rfl⟩ := dc_ret hf
                exact hm
        · replace hf := dc_if_f c215 hf
          obtain ⟨x323, hx323, hf⟩ := dc_nn_ok hf
          obtain ⟨g324, hf⟩ := dc_gd_ok hf
          by_cases c325 : (gvI S 61 x323 (p1).toNatClampNeg) = 0
          · replace hf := dc_if_t c325 hf
            obtain ⟨g390, hf⟩ := dc_gd_ok hf
            by_cases c391 : (gvI S 61 x323 (p1).toNatClampNeg) = (2 : Int32)
            · replace hf := dc_if_t c391 hf
              obtain ⟨r392, S393, k394, hf⟩ := dc_bd_ok hf
              have hm := lh_sm10_trans hm (show lh_sm10 S S393 from k_X10_ends k394)
              obtain ⟨_, rfl⟩ := dc_ret hf
              exact hm
            · replace hf := dc_if_f c391 hf
              by_cases c396 : (gvI S 58 x2 (p1).toNatClampNeg) = 0
              · replace hf := dc_if_t c396 hf
                obtain ⟨g410, hf⟩ := dc_gd_ok hf
                by_cases c411 : (gvI S 61 x323 (p1).toNatClampNeg) = (1 : Int32)
                · replace hf := dc_if_t c411 hf
                  obtain ⟨r424, S425, k426, hf⟩ := dc_bd_ok hf
                  have hm := lh_sm10_trans hm (show lh_sm10 S S425 from k_X10_ends k426)
                  obtain ⟨_, rfl⟩ := dc_ret hf
                  exact hm
                · replace hf := dc_if_f c411 hf
                  obtain ⟨g414, hf⟩ := dc_gd_ok hf
                  obtain ⟨S415, eS415, hf⟩ := dc_let_ok hf
                  have hm := lh_sm10_trans hm (show lh_sm10 S S415 from by rw [eS415]; exact (lh_sm10I (by decide)))
                  obtain ⟨x418, hx418, hf⟩ := dc_nn_ok hf
                  obtain ⟨g419, hf⟩ := dc_gd_ok hf
                  obtain ⟨r420, S421, k422, hf⟩ := dc_bd_ok hf
                  have hm := lh_sm10_trans hm (show lh_sm10 S415 S421 from k_X10_push k422)
                  obtain ⟨_, rfl⟩ := dc_ret hf
                  exact hm
              · replace hf := dc_if_f c396 hf
                obtain ⟨g399, hf⟩ := dc_gd_ok hf
                obtain ⟨S400, eS400, hf⟩ := dc_let_ok hf
                have hm := lh_sm10_trans hm (show lh_sm10 S S400 from by rw [eS400]; exact (lh_sm10I (by decide)))
                obtain ⟨x403, hx403, hf⟩ := dc_nn_ok hf
                obtain ⟨g404, hf⟩ := dc_gd_ok hf
                obtain ⟨r405, S406, k407, hf⟩ := dc_bd_ok hf
                have hm := lh_sm10_trans hm (show lh_sm10 S400 S406 from k_X10_push k407)
                obtain ⟨_, rfl⟩ := dc_ret hf
                exact hm
          · replace hf := dc_if_f c325 hf
            obtain ⟨g328, hf⟩ := dc_gd_ok hf
            by_cases c329 : (gvI S 61 x323 (p1).toNatClampNeg) = (2 : Int32)
            · replace hf := dc_if_t c329 hf
              obtain ⟨r330, S331, k332, hf⟩ := dc_bd_ok hf
              have hm := lh_sm10_trans hm (show lh_sm10 S S331 from k_X10_ends k332)
              obtain ⟨_, rfl⟩ := dc_ret hf
              exact hm
            · replace hf := dc_if_f c329 hf
              by_cases c334 : (gvI S 58 x2 (p1).toNatClampNeg) = 0
              · replace hf := dc_if_t c334 hf
                obtain ⟨g359, hf⟩ := dc_gd_ok hf
                by_cases c360 : (gvI S 61 x323 (p1).toNatClampNeg) = (1 : Int32)
                · replace hf := dc_if_t c360 hf
                  obtain ⟨r384, S385, k386, hf⟩ := dc_bd_ok hf
                  have hm := lh_sm10_trans hm (show lh_sm10 S S385 from k_X10_ends k386)
                  obtain ⟨_, rfl⟩ := dc_ret hf
                  exact hm
                · replace hf := dc_if_f c360 hf
                  obtain ⟨x363, hx363, hf⟩ := dc_nn_ok hf
                  obtain ⟨g364, hf⟩ := dc_gd_ok hf
                  by_cases c365 : (gvI S 43 x363 (v8).toNatClampNeg) ≤ 0
                  · replace hf := dc_if_t c365 hf
                    obtain ⟨g367, hf⟩ := dc_gd_ok hf
                    obtain ⟨v368, hv368, hf⟩ := dc_let_ok hf
                    obtain ⟨g369, hf⟩ := dc_gd_ok hf
                    obtain ⟨S370, eS370, hf⟩ := dc_let_ok hf
                    have hm := lh_sm10_trans hm (show lh_sm10 S S370 from by rw [eS370]; exact (lh_sm10I (by decide)))
                    obtain ⟨_, rfl⟩ := dc_ret hf
                    exact hm
                  · replace hf := dc_if_f c365 hf
                    obtain ⟨g373, hf⟩ := dc_gd_ok hf
                    obtain ⟨S374, eS374, hf⟩ := dc_let_ok hf
                    have hm := lh_sm10_trans hm (show lh_sm10 S S374 from by rw [eS374]; exact (lh_sm10I (by decide)))
                    obtain ⟨x377, hx377, hf⟩ := dc_nn_ok hf
                    obtain ⟨g378, hf⟩ := dc_gd_ok hf
                    obtain ⟨v379, hv379, hf⟩ := dc_let_ok hf
                    obtain ⟨r380, S381, k382, hf⟩ := dc_bd_ok hf
                    have hm := lh_sm10_trans hm (show lh_sm10 S374 S381 from k_X10_push k382)
                    obtain ⟨_, rfl⟩ := dc_ret hf
                    exact hm
              · replace hf := dc_if_f c334 hf
                obtain ⟨x337, hx337, hf⟩ := dc_nn_ok hf
                obtain ⟨g338, hf⟩ := dc_gd_ok hf
                by_cases c339 : (gvI S 43 x337 (v8).toNatClampNeg) ≤ 0
                · replace hf := dc_if_t c339 hf
                  obtain ⟨g341, hf⟩ := dc_gd_ok hf
                  obtain ⟨v342, hv342, hf⟩ := dc_let_ok hf
                  obtain ⟨g343, hf⟩ := dc_gd_ok hf
                  obtain ⟨S344, eS344, hf⟩ := dc_let_ok hf
                  have hm := lh_sm10_trans hm (show lh_sm10 S S344 from by rw [eS344]; exact (lh_sm10I (by decide)))
                  obtain ⟨_, rfl⟩ := dc_ret hf
                  exact hm
                · replace hf := dc_if_f c339 hf
                  obtain ⟨g347, hf⟩ := dc_gd_ok hf
                  obtain ⟨S348, eS348, hf⟩ := dc_let_ok hf
                  have hm := lh_sm10_trans hm (show lh_sm10 S S348 from by rw [eS348]; exact (lh_sm10I (by decide)))
                  obtain ⟨x351, hx351, hf⟩ := dc_nn_ok hf
                  obtain ⟨g352, hf⟩ := dc_gd_ok hf
                  obtain ⟨v353, hv353, hf⟩ := dc_let_ok hf
                  obtain ⟨r354, S355, k356, hf⟩ := dc_bd_ok hf
                  have hm := lh_sm10_trans hm (show lh_sm10 S348 S355 from k_X10_push k356)
                  obtain ⟨_, rfl⟩ := dc_ret hf
                  exact hm
    · replace hf := dc_if_f c15 hf
      obtain ⟨g17, hf⟩ := dc_gd_ok hf
      by_cases c18 : (gvI S 60 x10 (p1).toNatClampNeg) = (2 : Int32)
      · replace hf := dc_if_t c18 hf
        by_cases c78 : (gvI S 10 t 34) = (1 : Int32)
        · replace hf := dc_if_t c78 hf
          obtain ⟨g139, hf⟩ := dc_gd_ok hf
          obtain ⟨S140, eS140, hf⟩ := dc_let_ok hf
          have hm := lh_sm10_trans hm (show lh_sm10 S S140 from by rw [eS140]; exact (lh_sm10I (by decide)))
          obtain ⟨x143, hx143, hf⟩ := dc_nn_ok hf
          obtain ⟨g144, hf⟩ := dc_gd_ok hf
          obtain ⟨v145, hv145, hf⟩ := dc_let_ok hf
          obtain ⟨g146, hf⟩ := dc_gd_ok hf
          obtain ⟨S147, eS147, hf⟩ := dc_let_ok hf
          have hm := lh_sm10_trans hm (show lh_sm10 S140 S147 from by rw [eS147]; exact (lh_sm10I (by decide)))
          obtain ⟨_, rfl⟩ := dc_ret hf
          exact hm
        · replace hf := dc_if_f c78 hf
          obtain ⟨g80, hf⟩ := dc_gd_ok hf
          by_cases c81 : (gvI S 60 x10 (p1).toNatClampNeg) = (2 : Int32)
          · replace hf := dc_if_t c81 hf
            by_cases c97 : (gvI S 10 t 34) = 0
            · replace hf := dc_if_t c97 hf
              obtain ⟨r113, S114, k115, hf⟩ := dc_bd_ok hf
              have hm := lh_sm10_trans hm (show lh_sm10 S S114 from k_X10_isBarred k115)
              by_cases c118 : r113 = 0
              · replace hf := dc_if_t c118 hf
                by_cases c119 : (gvI S114 10 t 34) = 0
                · replace hf := dc_if_t c119 hf
                  obtain ⟨v125, hv125, hf⟩ := dc_let_ok hf
                  obtain ⟨x126, hx126, hf⟩ := dc_nn_ok hf
                  obtain ⟨g127, hf⟩ := dc_gd_ok hf
                  obtain ⟨S128, eS128, hf⟩ := dc_let_ok hf
                  have hm := lh_sm10_trans hm (show lh_sm10 S114 S128 from by rw [eS128]; exact (lh_sm10I (by decide)))
                  obtain ⟨r130, S131, k132, hf⟩ := dc_bd_ok hf
                  have hm := lh_sm10_trans hm (show lh_sm10 S128 S131 from k_X10_gives k132)
                  obtain ⟨_, rfl⟩ := dc_ret hf
                  exact hm
                · replace hf := dc_if_f c119 hf
                  obtain ⟨r120, S121, k122, hf⟩ := dc_bd_ok hf
                  have hm := lh_sm10_trans hm (show lh_sm10 S114 S121 from k_X10_ends k122)
                  obtain ⟨_, rfl⟩ := dc_ret hf
                  exact hm
              · replace hf := dc_if_f c118 hf
                obtain ⟨r134, S135, k136, hf⟩ := dc_bd_ok hf
                have hm := lh_sm10_trans hm (show lh_sm10 S114 S135 from k_X10_ends k136)
                obtain ⟨_, rfl⟩ := dc_ret hf
                exact hm
            · replace hf := dc_if_f c97 hf
              by_cases c98 : (gvI S 10 t 34) = 0
              · replace hf := dc_if_t c98 hf
                obtain ⟨v104, hv104, hf⟩ := dc_let_ok hf
                obtain ⟨x105, hx105, hf⟩ := dc_nn_ok hf
                obtain ⟨g106, hf⟩ := dc_gd_ok hf
                obtain ⟨S107, eS107, hf⟩ := dc_let_ok hf
                have hm := lh_sm10_trans hm (show lh_sm10 S S107 from by rw [eS107]; exact (lh_sm10I (by decide)))
                obtain ⟨r109, S110, k111, hf⟩ := dc_bd_ok hf
                have hm := lh_sm10_trans hm (show lh_sm10 S107 S110 from k_X10_gives k111)
                obtain ⟨_, rfl⟩ := dc_ret hf
                exact hm
              · replace hf := dc_if_f c98 hf
                obtain ⟨r99, S100, k101, hf⟩ := dc_bd_ok hf
                have hm := lh_sm10_trans hm (show lh_sm10 S S100 from k_X10_ends k101)
                obtain ⟨_, rfl⟩ := dc_ret hf
                exact hm
          · replace hf := dc_if_f c81 hf
            by_cases c82 : (gvI S 10 t 34) = 0
            · replace hf := dc_if_t c82 hf
              obtain ⟨v88, hv88, hf⟩ := dc_let_ok hf
              obtain ⟨x89, hx89, hf⟩ := dc_nn_ok hf
              obtain ⟨g90, hf⟩ := dc_gd_ok hf
              obtain ⟨S91, eS91, hf⟩ := dc_let_ok hf
              have hm := lh_sm10_trans hm (show lh_sm10 S S91 from by rw [eS91]; exact (lh_sm10I (by decide)))
              obtain ⟨r93, S94, k95, hf⟩ := dc_bd_ok hf
              have hm := lh_sm10_trans hm (show lh_sm10 S91 S94 from k_X10_gives k95)
              obtain ⟨_, rfl⟩ := dc_ret hf
              exact hm
            · replace hf := dc_if_f c82 hf
              obtain ⟨r83, S84, k85, hf⟩ := dc_bd_ok hf
              have hm := lh_sm10_trans hm (show lh_sm10 S S84 from k_X10_ends k85)
              obtain ⟨_, rfl⟩ := dc_ret hf
              exact hm
      · replace hf := dc_if_f c18 hf
        obtain ⟨g20, hf⟩ := dc_gd_ok hf
        by_cases c21 : (gvI S 60 x10 (p1).toNatClampNeg) = (2 : Int32)
        · replace hf := dc_if_t c21 hf
          by_cases c37 : (gvI S 10 t 34) = 0
          · replace hf := dc_if_t c37 hf
            obtain ⟨r53, S54, k55, hf⟩ := dc_bd_ok hf
            have hm := lh_sm10_trans hm (show lh_sm10 S S54 from k_X10_isBarred k55)
            by_cases c58 : r53 = 0
            · replace hf := dc_if_t c58 hf
              by_cases c59 : (gvI S54 10 t 34) = 0
              · replace hf := dc_if_t c59 hf
                obtain ⟨v65, hv65, hf⟩ := dc_let_ok hf
                obtain ⟨x66, hx66, hf⟩ := dc_nn_ok hf
                obtain ⟨g67, hf⟩ := dc_gd_ok hf
                obtain ⟨S68, eS68, hf⟩ := dc_let_ok hf
                have hm := lh_sm10_trans hm (show lh_sm10 S54 S68 from by rw [eS68]; exact (lh_sm10I (by decide)))
                obtain ⟨r70, S71, k72, hf⟩ := dc_bd_ok hf
                have hm := lh_sm10_trans hm (show lh_sm10 S68 S71 from k_X10_gives k72)
                obtain ⟨_, rfl⟩ := dc_ret hf
                exact hm
              · replace hf := dc_if_f c59 hf
                obtain ⟨r60, S61, k62, hf⟩ := dc_bd_ok hf
                have hm := lh_sm10_trans hm (show lh_sm10 S54 S61 from k_X10_ends k62)
                obtain ⟨_, rfl⟩ := dc_ret hf
                exact hm
            · replace hf := dc_if_f c58 hf
              obtain ⟨r74, S75, k76, hf⟩ := dc_bd_ok hf
              have hm := lh_sm10_trans hm (show lh_sm10 S54 S75 from k_X10_ends k76)
              obtain ⟨_, rfl⟩ := dc_ret hf
              exact hm
          · replace hf := dc_if_f c37 hf
            by_cases c38 : (gvI S 10 t 34) = 0
            · replace hf := dc_if_t c38 hf
              obtain ⟨v44, hv44, hf⟩ := dc_let_ok hf
              obtain ⟨x45, hx45, hf⟩ := dc_nn_ok hf
              obtain ⟨g46, hf⟩ := dc_gd_ok hf
              obtain ⟨S47, eS47, hf⟩ := dc_let_ok hf
              have hm := lh_sm10_trans hm (show lh_sm10 S S47 from by rw [eS47]; exact (lh_sm10I (by decide)))
              obtain ⟨r49, S50, k51, hf⟩ := dc_bd_ok hf
              have hm := lh_sm10_trans hm (show lh_sm10 S47 S50 from k_X10_gives k51)
              obtain ⟨_, rfl⟩ := dc_ret hf
              exact hm
            · replace hf := dc_if_f c38 hf
              obtain ⟨r39, S40, k41, hf⟩ := dc_bd_ok hf
              have hm := lh_sm10_trans hm (show lh_sm10 S S40 from k_X10_ends k41)
              obtain ⟨_, rfl⟩ := dc_ret hf
              exact hm
        · replace hf := dc_if_f c21 hf
          by_cases c22 : (gvI S 10 t 34) = 0
          · replace hf := dc_if_t c22 hf
            obtain ⟨v28, hv28, hf⟩ := dc_let_ok hf
            obtain ⟨x29, hx29, hf⟩ := dc_nn_ok hf
            obtain ⟨g30, hf⟩ := dc_gd_ok hf
            obtain ⟨S31, eS31, hf⟩ := dc_let_ok hf
            have hm := lh_sm10_trans hm (show lh_sm10 S S31 from by rw [eS31]; exact (lh_sm10I (by decide)))
            obtain ⟨r33, S34, k35, hf⟩ := dc_bd_ok hf
            have hm := lh_sm10_trans hm (show lh_sm10 S31 S34 from k_X10_gives k35)
            obtain ⟨_, rfl⟩ := dc_ret hf
            exact hm
          · replace hf := dc_if_f c22 hf
            obtain ⟨r23, S24, k25, hf⟩ := dc_bd_ok hf
            have hm := lh_sm10_trans hm (show lh_sm10 S S24 from k_X10_ends k25)
            obtain ⟨_, rfl⟩ := dc_ret hf
            exact hm
set_option maxHeartbeats 4000000 in
set_option maxRecDepth 100000 in
theorem c_X10_oneLoad (l : Launch) (D : va_G) (cT : Nat → ClassId) (n : Nat) (S : lh_S) (ad : Nat → Nat → Nat) (A : Nat → Prop) (sz : Nat) (hA : ∀ q, sz ≤ q → A q) (t : Nat) (p1 : Int32) (r : Unit) (S' : lh_S) (hf : f_X10_oneLoad n S t p1 = some (r, S')) (L_t : ∀ j, some t = some j → j < gvN S 10) : Met l yX10_oneLoad wsX10_oneLoad ({ frames := 1, cells := 0, slots := 0, locals := 25 } : Room) (lh_P D cT S ad A sz [lh_r ad 10 (some t), .int p1]) (lh_Q D cT S' ad A ((∀ b, gvN S b ≤ gvN S' b) ∧ True) (none)) 0 0 A := by
  refine Met.ofW (cc := cX10_oneLoad) (maxL := 6) (ret := none) (by decide) rfl ?_
  intro p e s m args below meth c s₁ B hml hv
  obtain ⟨hargs, hsz, hW, hK, hN⟩ := hv
  have hx := B.exec
  have hb := B.bytes
  have hr := B.returns
  have hts := atoms_spec (ws := wsX10_oneLoad) B.pre
  have hown : s.vm.findClass RX10 = some m.cls := findClass_of_methodNamed B.named
  have hlocks := B.notSynchronized
  have hA : ∀ q, s.heap.size ≤ q → A q := fun q h => hA q (by rw [← hsz]; exact h)
  have ok := lh_W_ok hW
  have hm : ∀ b, gvN S b ≤ gvN S b := fun _ => Nat.le_refl _
  obtain ⟨ls, hent, hl⟩ := lh_entry m args [lh_r ad 10 (some t), .int p1] 6 [(0, lh_r ad 10 (some t)), (1, .int p1)] hargs (by simp [lv_args, lh_cat_r, lh_cat_i, lh_cat_j]) (by simp [lg_sl, lh_cat_r, lh_cat_i, lh_cat_j])
  rw [hent]
  generalize hH : s.heap = H at hW ⊢
  have hS : va_S A s.heap H [] := by rw [← hH]; exact va_S.rf
  unfold f_X10_oneLoad at hf
  refine lh_aload_n hx hb dX10_oneLoad_0 rfl (lv_at hl 0 rfl) ?_
  have L1 : ∀ j, gvR S 10 t 28 = some j → j < gvN S 58 := fun j h => ok _ _ _ _ j (L_t _ rfl) rfl h
  refine lh_get (a := 10) (k := 28) (N := 42) (C := RX10) (T := TX10) (own := RX10) (ref := "LoaderModelsModel") hx hb hts (fun _ h => (List.mem_cons_of_mem _ (List.mem_append_right _ h))) hown hK hW rfl (L_t _ rfl) rfl rfl rfl (by decide) (hts (.fieldLink RX10 82 "LoaderModelsModel" "by" "[I") (List.mem_cons_of_mem _ (List.mem_append_left _ (List.mem_append_left _ (List.mem_of_getElem? (i := 0) rfl))))) (fun _ h9 => h9) dX10_oneLoad_1 (v := lh_r ad 58 (gvR S 10 t 28)) rfl ?_
  refine lv_iload_n hx hb dX10_oneLoad_4 rfl (lv_at hl 1 rfl) ?_
  obtain ⟨x2, hx2, hf⟩ := dc_nn_ok hf
  obtain ⟨g3, hf⟩ := dc_gd_ok hf
  refine lh_ald_i (a := 58) hx hb hK hW hx2 (L1 _ hx2) rfl rfl g3 dX10_oneLoad_5 ?_
  refine lv_istore_n (i := 2) (lv' := [(2, .int (gvI S 58 x2 (p1).toNatClampNeg)), (0, lh_r ad 10 (some t)), (1, .int p1)]) hx hb dX10_oneLoad_6 rfl hl (by decide) (by first | rfl | simp [lh_cat_r, lh_cat_i, lh_cat_j]) (fun ls hl => ?_)
  refine lh_aload_n hx hb dX10_oneLoad_7 rfl (lv_at hl 1 rfl) ?_
  have L4 : ∀ j, gvR S 10 t 29 = some j → j < gvN S 59 := fun j h => ok _ _ _ _ j (L_t _ rfl) rfl h
  refine lh_get (a := 10) (k := 29) (N := 42) (C := RX10) (T := TX10) (own := RX10) (ref := "LoaderModelsModel") hx hb hts (fun _ h => (List.mem_cons_of_mem _ (List.mem_append_right _ h))) hown hK hW rfl (L_t _ rfl) rfl rfl rfl (by decide) (hts (.fieldLink RX10 85 "LoaderModelsModel" "what" "[I") (List.mem_cons_of_mem _ (List.mem_append_left _ (List.mem_append_left _ (List.mem_of_getElem? (i := 1) rfl))))) (fun _ h9 => h9) dX10_oneLoad_8 (v := lh_r ad 59 (gvR S 10 t 29)) rfl ?_
  refine lv_iload_n hx hb dX10_oneLoad_11 rfl (lv_at hl 2 rfl) ?_
  obtain ⟨x5, hx5, hf⟩ := dc_nn_ok hf
  obtain ⟨g6, hf⟩ := dc_gd_ok hf
  refine lh_ald_i (a := 59) hx hb hK hW hx5 (L4 _ hx5) rfl rfl g6 dX10_oneLoad_12 ?_
  refine lv_istore_n (i := 3) (lv' := [(3, .int (gvI S 59 x5 (p1).toNatClampNeg)), (2, .int (gvI S 58 x2 (p1).toNatClampNeg)), (0, lh_r ad 10 (some t)), (1, .int p1)]) hx hb dX10_oneLoad_13 rfl hl (by decide) (by first | rfl | simp [lh_cat_r, lh_cat_i, lh_cat_j]) (fun ls hl => ?_)
  refine lv_bipush (v := 40) hx hb dX10_oneLoad_14 (by decide) ?_
  refine lv_iload_n hx hb dX10_oneLoad_16 rfl (lv_at hl 1 rfl) ?_
  refine lv_imul hx hb dX10_oneLoad_17 ?_
  refine lv_topi (fun v7 hv7 => ?_)
  replace hf := dc_let_e hv7 hf
  refine lv_iload_n hx hb dX10_oneLoad_18 rfl (lv_at hl 0 rfl) ?_
  refine lv_iadd hx hb dX10_oneLoad_19 ?_
  refine lv_topi (fun v8 hv8 => ?_)
  replace hf := dc_let_e hv8 hf
  refine lv_istore (i := 4) (lv' := [(4, .int v8), (3, .int (gvI S 59 x5 (p1).toNatClampNeg)), (2, .int (gvI S 58 x2 (p1).toNatClampNeg)), (0, lh_r ad 10 (some t)), (1, .int p1)]) hx hb dX10_oneLoad_20 hl (by decide) (by first | rfl | simp [lh_cat_r, lh_cat_i, lh_cat_j]) (fun ls hl => ?_)
  refine lh_aload_n hx hb dX10_oneLoad_22 rfl (lv_at hl 3 rfl) ?_
  have L9 : ∀ j, gvR S 10 t 30 = some j → j < gvN S 60 := fun j h => ok _ _ _ _ j (L_t _ rfl) rfl h
  refine lh_get (a := 10) (k := 30) (N := 42) (C := RX10) (T := TX10) (own := RX10) (ref := "LoaderModelsModel") hx hb hts (fun _ h => (List.mem_cons_of_mem _ (List.mem_append_right _ h))) hown hK hW rfl (L_t _ rfl) rfl rfl rfl (by decide) (hts (.fieldLink RX10 88 "LoaderModelsModel" "stage" "[I") (List.mem_cons_of_mem _ (List.mem_append_left _ (List.mem_append_left _ (List.mem_of_getElem? (i := 2) rfl))))) (fun _ h9 => h9) dX10_oneLoad_23 (v := lh_r ad 60 (gvR S 10 t 30)) rfl ?_
  refine lv_iload_n hx hb dX10_oneLoad_26 rfl (lv_at hl 4 rfl) ?_
  obtain ⟨x10, hx10, hf⟩ := dc_nn_ok hf
  obtain ⟨g11, hf⟩ := dc_gd_ok hf
  refine lh_ald_i (a := 60) hx hb hK hW hx10 (L9 _ hx10) rfl rfl g11 dX10_oneLoad_27 ?_
  refine lv_if_ne (tgt := 111) hx hb dX10_oneLoad_28 (by decide) (fun c12 => ?_) (fun c12 => ?_)
  · replace hf := dc_if_f c12 hf
    refine lh_aload_n hx hb dX10_oneLoad_111 rfl (lv_at hl 3 rfl) ?_
    have L13 : ∀ j, gvR S 10 t 30 = some j → j < gvN S 60 := fun j h => ok _ _ _ _ j (L_t _ rfl) rfl h
    refine lh_get (a := 10) (k := 30) (N := 42) (C := RX10) (T := TX10) (own := RX10) (ref := "LoaderModelsModel") hx hb hts (fun _ h => (List.mem_cons_of_mem _ (List.mem_append_right _ h))) hown hK hW rfl (L_t _ rfl) rfl rfl rfl (by decide) (hts (.fieldLink RX10 88 "LoaderModelsModel" "stage" "[I") (List.mem_cons_of_mem _ (List.mem_append_left _ (List.mem_append_left _ (List.mem_of_getElem? (i := 2) rfl))))) (fun _ h9 => h9) dX10_oneLoad_112 (v := lh_r ad 60 (gvR S 10 t 30)) rfl ?_
    refine lv_iload_n hx hb dX10_oneLoad_115 rfl (lv_at hl 4 rfl) ?_
    obtain ⟨g14, hf⟩ := dc_gd_ok hf
    refine lh_ald_i (a := 60) hx hb hK hW hx10 (L13 _ hx10) rfl rfl g14 dX10_oneLoad_116 ?_
    refine lv_iconst (v := 1) hx hb dX10_oneLoad_117 (by decide) ?_
    refine lv_icmp_ne (tgt := 271) hx hb dX10_oneLoad_118 (by decide) (fun c15 => ?_) (fun c15 => ?_)
    · replace hf := dc_if_f c15 hf
      refine lh_aload_n hx hb dX10_oneLoad_271 rfl (lv_at hl 3 rfl) ?_
      have L16 : ∀ j, gvR S 10 t 30 = some j → j < gvN S 60 := fun j h => ok _ _ _ _ j (L_t _ rfl) rfl h
      refine lh_get (a := 10) (k := 30) (N := 42) (C := RX10) (T := TX10) (own := RX10) (ref := "LoaderModelsModel") hx hb hts (fun _ h => (List.mem_cons_of_mem _ (List.mem_append_right _ h))) hown hK hW rfl (L_t _ rfl) rfl rfl rfl (by decide) (hts (.fieldLink RX10 88 "LoaderModelsModel" "stage" "[I") (List.mem_cons_of_mem _ (List.mem_append_left _ (List.mem_append_left _ (List.mem_of_getElem? (i := 2) rfl))))) (fun _ h9 => h9) dX10_oneLoad_272 (v := lh_r ad 60 (gvR S 10 t 30)) rfl ?_
      refine lv_iload_n hx hb dX10_oneLoad_275 rfl (lv_at hl 4 rfl) ?_
      obtain ⟨g17, hf⟩ := dc_gd_ok hf
      refine lh_ald_i (a := 60) hx hb hK hW hx10 (L16 _ hx10) rfl rfl g17 dX10_oneLoad_276 ?_
      refine lv_iconst (v := 2) hx hb dX10_oneLoad_277 (by decide) ?_
      refine lv_icmp_ne (tgt := 309) hx hb dX10_oneLoad_278 (by decide) (fun c18 => ?_) (fun c18 => ?_)
      · replace hf := dc_if_f c18 hf
        refine lh_aload_n hx hb dX10_oneLoad_309 rfl (lv_at hl 3 rfl) ?_
        have L19 : ∀ j, gvR S 10 t 30 = some j → j < gvN S 60 := fun j h => ok _ _ _ _ j (L_t _ rfl) rfl h
        refine lh_get (a := 10) (k := 30) (N := 42) (C := RX10) (T := TX10) (own := RX10) (ref := "LoaderModelsModel") hx hb hts (fun _ h => (List.mem_cons_of_mem _ (List.mem_append_right _ h))) hown hK hW rfl (L_t _ rfl) rfl rfl rfl (by decide) (hts (.fieldLink RX10 88 "LoaderModelsModel" "stage" "[I") (List.mem_cons_of_mem _ (List.mem_append_left _ (List.mem_append_left _ (List.mem_of_getElem? (i := 2) rfl))))) (fun _ h9 => h9) dX10_oneLoad_310 (v := lh_r ad 60 (gvR S 10 t 30)) rfl ?_
        refine lv_iload_n hx hb dX10_oneLoad_313 rfl (lv_at hl 4 rfl) ?_
        obtain ⟨g20, hf⟩ := dc_gd_ok hf
        refine lh_ald_i (a := 60) hx hb hK hW hx10 (L19 _ hx10) rfl rfl g20 dX10_oneLoad_314 ?_
        refine lv_iconst (v := 2) hx hb dX10_oneLoad_315 (by decide) ?_
        refine lv_icmp_ne (tgt := 347) hx hb dX10_oneLoad_316 (by decide) (fun c21 => ?_) (fun c21 => ?_)
        · replace hf := dc_if_f c21 hf
          refine lh_aload_n hx hb dX10_oneLoad_347 rfl (lv_at hl 3 rfl) ?_
          refine lh_get (a := 10) (k := 34) (N := 42) (C := RX10) (T := TX10) (own := RX10) (ref := "LoaderModelsModel") hx hb hts (fun _ h => (List.mem_cons_of_mem _ (List.mem_append_right _ h))) hown hK hW rfl (L_t _ rfl) rfl rfl rfl (by decide) (hts (.fieldLink RX10 154 "LoaderModelsModel" "failure" "I") (List.mem_cons_of_mem _ (List.mem_append_left _ (List.mem_append_left _ (List.mem_of_getElem? (i := 11) rfl))))) (fun _ h9 => h9) dX10_oneLoad_348 (v := .int (gvI S 10 t 34)) rfl ?_
          refine lv_if_ne (tgt := 378) hx hb dX10_oneLoad_351 (by decide) (fun c22 => ?_) (fun c22 => ?_)
          · replace hf := dc_if_f c22 hf
            refine lh_aload_n hx hb dX10_oneLoad_378 rfl (lv_at hl 3 rfl) ?_
            refine lh_aload_n hx hb dX10_oneLoad_379 rfl (lv_at hl 3 rfl) ?_
            refine lh_get (a := 10) (k := 34) (N := 42) (C := RX10) (T := TX10) (own := RX10) (ref := "LoaderModelsModel") hx hb hts (fun _ h => (List.mem_cons_of_mem _ (List.mem_append_right _ h))) hown hK hW rfl (L_t _ rfl) rfl rfl rfl (by decide) (hts (.fieldLink RX10 154 "LoaderModelsModel" "failure" "I") (List.mem_cons_of_mem _ (List.mem_append_left _ (List.mem_append_left _ (List.mem_of_getElem? (i := 11) rfl))))) (fun _ h9 => h9) dX10_oneLoad_380 (v := .int (gvI S 10 t 34)) rfl ?_
            obtain ⟨r23, S24, k25, hf⟩ := dc_bd_ok hf
            refine lh_call (S' := S24) (lh_rv ⟨hx, hb, hml, hown, hts⟩ rfl (As := [.int (gvI S 10 t 34)]) (rest := []) (k := 10) (c_X10_ends l D cT n S ad A H.size (fun q9 h9 => hA q9 (Nat.le_trans hS.1 h9)) t (gvI S 10 t 34) r23 S24 k25 L_t) (cwV 1 hts gX10_oneLoad_X10_ends rfl rfl rfl (by decide +kernel) ⟨Nat.le_of_ble_eq_true rfl, Nat.le_of_ble_eq_true rfl⟩) hK hN hW (L_t _ rfl) rfl rfl rfl hl.1 rfl (by simp [lh_cat_r, lh_cat_i, lh_cat_j]) dX10_oneLoad_383 ⟨Nat.le_of_ble_eq_true rfl, Nat.le_of_ble_eq_true rfl⟩) hS (fun H locs hX hW hS => ?_)
            refine W.widen (k := 0) (n := 0) (by omega) (by omega) ?_
            show W _ _ _ _ _ _ _ _ _ _ _ _ _ _ _ (F0 m 386 ls [])
            have m26 : ∀ b, gvN S b ≤ gvN S24 b := hX.1
            have L_t : ∀ j, some t = some j → j < gvN S24 10 := fun j h => Nat.lt_of_lt_of_le (L_t j h) (m26 _)
            have hm : ∀ b, gvN S b ≤ gvN S24 b := lh_le_trans hm m26
            have ok := lh_W_ok hW
            obtain ⟨rfl, rfl⟩ := dc_ret hf
            exact W.vret hx hb hr (fun t9 ht9 hW9 => ⟨⟨rfl, ⟨hm, trivial⟩, by rw [ht9]; exact hW⟩, hS.F ht9⟩) hS.2.2 dX10_oneLoad_386
          · replace hf := dc_if_t c22 hf
            refine lh_aload_n hx hb dX10_oneLoad_354 rfl (lv_at hl 3 rfl) ?_
            have L27 : ∀ j, gvR S 10 t 14 = some j → j < gvN S 44 := fun j h => ok _ _ _ _ j (L_t _ rfl) rfl h
            refine lh_get (a := 10) (k := 14) (N := 42) (C := RX10) (T := TX10) (own := RX10) (ref := "LoaderModelsModel") hx hb hts (fun _ h => (List.mem_cons_of_mem _ (List.mem_append_right _ h))) hown hK hW rfl (L_t _ rfl) rfl rfl rfl (by decide) (hts (.fieldLink RX10 48 "LoaderModelsModel" "knows" "[I") (List.mem_cons_of_mem _ (List.mem_append_left _ (List.mem_append_left _ (List.mem_of_getElem? (i := 5) rfl))))) (fun _ h9 => h9) dX10_oneLoad_355 (v := lh_r ad 44 (gvR S 10 t 14)) rfl ?_
            refine lv_iload hx hb dX10_oneLoad_358 (lv_at hl 0 rfl) ?_
            refine lh_aload_n hx hb dX10_oneLoad_360 rfl (lv_at hl 3 rfl) ?_
            refine lh_get (a := 10) (k := 33) (N := 42) (C := RX10) (T := TX10) (own := RX10) (ref := "LoaderModelsModel") hx hb hts (fun _ h => (List.mem_cons_of_mem _ (List.mem_append_right _ h))) hown hK hW rfl (L_t _ rfl) rfl rfl rfl (by decide) (hts (.fieldLink RX10 157 "LoaderModelsModel" "came" "I") (List.mem_cons_of_mem _ (List.mem_append_left _ (List.mem_append_left _ (List.mem_of_getElem? (i := 12) rfl))))) (fun _ h9 => h9) dX10_oneLoad_361 (v := .int (gvI S 10 t 33)) rfl ?_
            refine lv_iconst (v := 1) hx hb dX10_oneLoad_364 (by decide) ?_
            refine lv_iadd hx hb dX10_oneLoad_365 ?_
            refine lv_topi (fun v28 hv28 => ?_)
            replace hf := dc_let_e hv28 hf
            obtain ⟨x29, hx29, hf⟩ := dc_nn_ok hf
            obtain ⟨g30, hf⟩ := dc_gd_ok hf
            obtain ⟨S31, eS31, hf⟩ := dc_let_ok hf
            refine lh_ast_i (a := 44) hx hb hK hW hS hx29 (L27 _ hx29) rfl (fun _ => rfl) g30 dX10_oneLoad_366 (fun H locs hW hS => ?_)
            rw [← eS31] at hW
            have m32 : ∀ b, gvN S b ≤ gvN S31 b := by rw [eS31]; exact lh_mI
            have L_t : ∀ j, some t = some j → j < gvN S31 10 := fun j h => Nat.lt_of_lt_of_le (L_t j h) (m32 _)
            have hm : ∀ b, gvN S b ≤ gvN S31 b := lh_le_trans hm m32
            have ok := lh_W_ok hW
            refine lh_aload_n hx hb dX10_oneLoad_367 rfl (lv_at hl 3 rfl) ?_
            refine lh_aload_n hx hb dX10_oneLoad_368 rfl (lv_at hl 3 rfl) ?_
            refine lh_get (a := 10) (k := 33) (N := 42) (C := RX10) (T := TX10) (own := RX10) (ref := "LoaderModelsModel") hx hb hts (fun _ h => (List.mem_cons_of_mem _ (List.mem_append_right _ h))) hown hK hW rfl (L_t _ rfl) rfl rfl rfl (by decide) (hts (.fieldLink RX10 157 "LoaderModelsModel" "came" "I") (List.mem_cons_of_mem _ (List.mem_append_left _ (List.mem_append_left _ (List.mem_of_getElem? (i := 12) rfl))))) (fun _ h9 => h9) dX10_oneLoad_369 (v := .int (gvI S31 10 t 33)) rfl ?_
            obtain ⟨r33, S34, k35, hf⟩ := dc_bd_ok hf
            refine lh_call (S' := S34) (lh_rv ⟨hx, hb, hml, hown, hts⟩ rfl (As := [.int (gvI S31 10 t 33)]) (rest := []) (k := 10) (c_X10_gives l D cT n S31 ad A H.size (fun q9 h9 => hA q9 (Nat.le_trans hS.1 h9)) t (gvI S31 10 t 33) r33 S34 k35 L_t) (cwV 1 hts gX10_oneLoad_X10_gives rfl rfl rfl (by decide +kernel) ⟨Nat.le_of_ble_eq_true rfl, Nat.le_of_ble_eq_true rfl⟩) hK hN hW (L_t _ rfl) rfl rfl rfl hl.1 rfl (by simp [lh_cat_r, lh_cat_i, lh_cat_j]) dX10_oneLoad_372 ⟨Nat.le_of_ble_eq_true rfl, Nat.le_of_ble_eq_true rfl⟩) hS (fun H locs hX hW hS => ?_)
            refine W.widen (k := 0) (n := 0) (by omega) (by omega) ?_
            show W _ _ _ _ _ _ _ _ _ _ _ _ _ _ _ (F0 m 375 ls [])
            have m36 : ∀ b, gvN S31 b ≤ gvN S34 b := hX.1
            have L_t : ∀ j, some t = some j → j < gvN S34 10 := fun j h => Nat.lt_of_lt_of_le (L_t j h) (m36 _)
            have hm : ∀ b, gvN S b ≤ gvN S34 b := lh_le_trans hm m36
            have ok := lh_W_ok hW
            refine lv_goto (tgt := 386) hx hb dX10_oneLoad_375 (by decide) ?_
            obtain ⟨rfl, rfl⟩ := dc_ret hf
            exact W.vret hx hb hr (fun t9 ht9 hW9 => ⟨⟨rfl, ⟨hm, trivial⟩, by rw [ht9]; exact hW⟩, hS.F ht9⟩) hS.2.2 dX10_oneLoad_386
        · replace hf := dc_if_t c21 hf
          refine lh_aload_n hx hb dX10_oneLoad_319 rfl (lv_at hl 3 rfl) ?_
          refine lh_get (a := 10) (k := 34) (N := 42) (C := RX10) (T := TX10) (own := RX10) (ref := "LoaderModelsModel") hx hb hts (fun _ h => (List.mem_cons_of_mem _ (List.mem_append_right _ h))) hown hK hW rfl (L_t _ rfl) rfl rfl rfl (by decide) (hts (.fieldLink RX10 154 "LoaderModelsModel" "failure" "I") (List.mem_cons_of_mem _ (List.mem_append_left _ (List.mem_append_left _ (List.mem_of_getElem? (i := 11) rfl))))) (fun _ h9 => h9) dX10_oneLoad_320 (v := .int (gvI S 10 t 34)) rfl ?_
          refine lv_if_ne (tgt := 347) hx hb dX10_oneLoad_323 (by decide) (fun c37 => ?_) (fun c37 => ?_)
          · replace hf := dc_if_f c37 hf
            refine lh_aload_n hx hb dX10_oneLoad_347 rfl (lv_at hl 3 rfl) ?_
            refine lh_get (a := 10) (k := 34) (N := 42) (C := RX10) (T := TX10) (own := RX10) (ref := "LoaderModelsModel") hx hb hts (fun _ h => (List.mem_cons_of_mem _ (List.mem_append_right _ h))) hown hK hW rfl (L_t _ rfl) rfl rfl rfl (by decide) (hts (.fieldLink RX10 154 "LoaderModelsModel" "failure" "I") (List.mem_cons_of_mem _ (List.mem_append_left _ (List.mem_append_left _ (List.mem_of_getElem? (i := 11) rfl))))) (fun _ h9 => h9) dX10_oneLoad_348 (v := .int (gvI S 10 t 34)) rfl ?_
            refine lv_if_ne (tgt := 378) hx hb dX10_oneLoad_351 (by decide) (fun c38 => ?_) (fun c38 => ?_)
            · replace hf := dc_if_f c38 hf
              refine lh_aload_n hx hb dX10_oneLoad_378 rfl (lv_at hl 3 rfl) ?_
              refine lh_aload_n hx hb dX10_oneLoad_379 rfl (lv_at hl 3 rfl) ?_
              refine lh_get (a := 10) (k := 34) (N := 42) (C := RX10) (T := TX10) (own := RX10) (ref := "LoaderModelsModel") hx hb hts (fun _ h => (List.mem_cons_of_mem _ (List.mem_append_right _ h))) hown hK hW rfl (L_t _ rfl) rfl rfl rfl (by decide) (hts (.fieldLink RX10 154 "LoaderModelsModel" "failure" "I") (List.mem_cons_of_mem _ (List.mem_append_left _ (List.mem_append_left _ (List.mem_of_getElem? (i := 11) rfl))))) (fun _ h9 => h9) dX10_oneLoad_380 (v := .int (gvI S 10 t 34)) rfl ?_
              obtain ⟨r39, S40, k41, hf⟩ := dc_bd_ok hf
              refine lh_call (S' := S40) (lh_rv ⟨hx, hb, hml, hown, hts⟩ rfl (As := [.int (gvI S 10 t 34)]) (rest := []) (k := 10) (c_X10_ends l D cT n S ad A H.size (fun q9 h9 => hA q9 (Nat.le_trans hS.1 h9)) t (gvI S 10 t 34) r39 S40 k41 L_t) (cwV 1 hts gX10_oneLoad_X10_ends rfl rfl rfl (by decide +kernel) ⟨Nat.le_of_ble_eq_true rfl, Nat.le_of_ble_eq_true rfl⟩) hK hN hW (L_t _ rfl) rfl rfl rfl hl.1 rfl (by simp [lh_cat_r, lh_cat_i, lh_cat_j]) dX10_oneLoad_383 ⟨Nat.le_of_ble_eq_true rfl, Nat.le_of_ble_eq_true rfl⟩) hS (fun H locs hX hW hS => ?_)
              refine W.widen (k := 0) (n := 0) (by omega) (by omega) ?_
              show W _ _ _ _ _ _ _ _ _ _ _ _ _ _ _ (F0 m 386 ls [])
              have m42 : ∀ b, gvN S b ≤ gvN S40 b := hX.1
              have L_t : ∀ j, some t = some j → j < gvN S40 10 := fun j h => Nat.lt_of_lt_of_le (L_t j h) (m42 _)
              have hm : ∀ b, gvN S b ≤ gvN S40 b := lh_le_trans hm m42
              have ok := lh_W_ok hW
              obtain ⟨rfl, rfl⟩ := dc_ret hf
              exact W.vret hx hb hr (fun t9 ht9 hW9 => ⟨⟨rfl, ⟨hm, trivial⟩, by rw [ht9]; exact hW⟩, hS.F ht9⟩) hS.2.2 dX10_oneLoad_386
            · replace hf := dc_if_t c38 hf
              refine lh_aload_n hx hb dX10_oneLoad_354 rfl (lv_at hl 3 rfl) ?_
              have L43 : ∀ j, gvR S 10 t 14 = some j → j < gvN S 44 := fun j h => ok _ _ _ _ j (L_t _ rfl) rfl h
              refine lh_get (a := 10) (k := 14) (N := 42) (C := RX10) (T := TX10) (own := RX10) (ref := "LoaderModelsModel") hx hb hts (fun _ h => (List.mem_cons_of_mem _ (List.mem_append_right _ h))) hown hK hW rfl (L_t _ rfl) rfl rfl rfl (by decide) (hts (.fieldLink RX10 48 "LoaderModelsModel" "knows" "[I") (List.mem_cons_of_mem _ (List.mem_append_left _ (List.mem_append_left _ (List.mem_of_getElem? (i := 5) rfl))))) (fun _ h9 => h9) dX10_oneLoad_355 (v := lh_r ad 44 (gvR S 10 t 14)) rfl ?_
              refine lv_iload hx hb dX10_oneLoad_358 (lv_at hl 0 rfl) ?_
              refine lh_aload_n hx hb dX10_oneLoad_360 rfl (lv_at hl 3 rfl) ?_
              refine lh_get (a := 10) (k := 33) (N := 42) (C := RX10) (T := TX10) (own := RX10) (ref := "LoaderModelsModel") hx hb hts (fun _ h => (List.mem_cons_of_mem _ (List.mem_append_right _ h))) hown hK hW rfl (L_t _ rfl) rfl rfl rfl (by decide) (hts (.fieldLink RX10 157 "LoaderModelsModel" "came" "I") (List.mem_cons_of_mem _ (List.mem_append_left _ (List.mem_append_left _ (List.mem_of_getElem? (i := 12) rfl))))) (fun _ h9 => h9) dX10_oneLoad_361 (v := .int (gvI S 10 t 33)) rfl ?_
              refine lv_iconst (v := 1) hx hb dX10_oneLoad_364 (by decide) ?_
              refine lv_iadd hx hb dX10_oneLoad_365 ?_
              refine lv_topi (fun v44 hv44 => ?_)
              replace hf := dc_let_e hv44 hf
              obtain ⟨x45, hx45, hf⟩ := dc_nn_ok hf
              obtain ⟨g46, hf⟩ := dc_gd_ok hf
              obtain ⟨S47, eS47, hf⟩ := dc_let_ok hf
              refine lh_ast_i (a := 44) hx hb hK hW hS hx45 (L43 _ hx45) rfl (fun _ => rfl) g46 dX10_oneLoad_366 (fun H locs hW hS => ?_)
              rw [← eS47] at hW
              have m48 : ∀ b, gvN S b ≤ gvN S47 b := by rw [eS47]; exact lh_mI
              have L_t : ∀ j, some t = some j → j < gvN S47 10 := fun j h => Nat.lt_of_lt_of_le (L_t j h) (m48 _)
              have hm : ∀ b, gvN S b ≤ gvN S47 b := lh_le_trans hm m48
              have ok := lh_W_ok hW
              refine lh_aload_n hx hb dX10_oneLoad_367 rfl (lv_at hl 3 rfl) ?_
              refine lh_aload_n hx hb dX10_oneLoad_368 rfl (lv_at hl 3 rfl) ?_
              refine lh_get (a := 10) (k := 33) (N := 42) (C := RX10) (T := TX10) (own := RX10) (ref := "LoaderModelsModel") hx hb hts (fun _ h => (List.mem_cons_of_mem _ (List.mem_append_right _ h))) hown hK hW rfl (L_t _ rfl) rfl rfl rfl (by decide) (hts (.fieldLink RX10 157 "LoaderModelsModel" "came" "I") (List.mem_cons_of_mem _ (List.mem_append_left _ (List.mem_append_left _ (List.mem_of_getElem? (i := 12) rfl))))) (fun _ h9 => h9) dX10_oneLoad_369 (v := .int (gvI S47 10 t 33)) rfl ?_
              obtain ⟨r49, S50, k51, hf⟩ := dc_bd_ok hf
              refine lh_call (S' := S50) (lh_rv ⟨hx, hb, hml, hown, hts⟩ rfl (As := [.int (gvI S47 10 t 33)]) (rest := []) (k := 10) (c_X10_gives l D cT n S47 ad A H.size (fun q9 h9 => hA q9 (Nat.le_trans hS.1 h9)) t (gvI S47 10 t 33) r49 S50 k51 L_t) (cwV 1 hts gX10_oneLoad_X10_gives rfl rfl rfl (by decide +kernel) ⟨Nat.le_of_ble_eq_true rfl, Nat.le_of_ble_eq_true rfl⟩) hK hN hW (L_t _ rfl) rfl rfl rfl hl.1 rfl (by simp [lh_cat_r, lh_cat_i, lh_cat_j]) dX10_oneLoad_372 ⟨Nat.le_of_ble_eq_true rfl, Nat.le_of_ble_eq_true rfl⟩) hS (fun H locs hX hW hS => ?_)
              refine W.widen (k := 0) (n := 0) (by omega) (by omega) ?_
              show W _ _ _ _ _ _ _ _ _ _ _ _ _ _ _ (F0 m 375 ls [])
              have m52 : ∀ b, gvN S47 b ≤ gvN S50 b := hX.1
              have L_t : ∀ j, some t = some j → j < gvN S50 10 := fun j h => Nat.lt_of_lt_of_le (L_t j h) (m52 _)
              have hm : ∀ b, gvN S b ≤ gvN S50 b := lh_le_trans hm m52
              have ok := lh_W_ok hW
              refine lv_goto (tgt := 386) hx hb dX10_oneLoad_375 (by decide) ?_
              obtain ⟨rfl, rfl⟩ := dc_ret hf
              exact W.vret hx hb hr (fun t9 ht9 hW9 => ⟨⟨rfl, ⟨hm, trivial⟩, by rw [ht9]; exact hW⟩, hS.F ht9⟩) hS.2.2 dX10_oneLoad_386
          · replace hf := dc_if_t c37 hf
            refine lh_aload_n hx hb dX10_oneLoad_326 rfl (lv_at hl 3 rfl) ?_
            refine lv_iload_n hx hb dX10_oneLoad_327 rfl (lv_at hl 2 rfl) ?_
            refine lv_iload_n hx hb dX10_oneLoad_328 rfl (lv_at hl 1 rfl) ?_
            refine lh_aload_n hx hb dX10_oneLoad_329 rfl (lv_at hl 3 rfl) ?_
            refine lh_get (a := 10) (k := 33) (N := 42) (C := RX10) (T := TX10) (own := RX10) (ref := "LoaderModelsModel") hx hb hts (fun _ h => (List.mem_cons_of_mem _ (List.mem_append_right _ h))) hown hK hW rfl (L_t _ rfl) rfl rfl rfl (by decide) (hts (.fieldLink RX10 157 "LoaderModelsModel" "came" "I") (List.mem_cons_of_mem _ (List.mem_append_left _ (List.mem_append_left _ (List.mem_of_getElem? (i := 12) rfl))))) (fun _ h9 => h9) dX10_oneLoad_330 (v := .int (gvI S 10 t 33)) rfl ?_
            obtain ⟨r53, S54, k55, hf⟩ := dc_bd_ok hf
            refine lh_call (S' := S54) (lh_rv ⟨hx, hb, hml, hown, hts⟩ rfl (As := [.int (gvI S 58 x2 (p1).toNatClampNeg), .int (gvI S 59 x5 (p1).toNatClampNeg), .int (gvI S 10 t 33)]) (rest := []) (k := 10) (c_X10_isBarred l D cT n S ad A H.size (fun q9 h9 => hA q9 (Nat.le_trans hS.1 h9)) t (gvI S 58 x2 (p1).toNatClampNeg) (gvI S 59 x5 (p1).toNatClampNeg) (gvI S 10 t 33) r53 S54 k55 L_t) (cwV 3 hts gX10_oneLoad_X10_isBarred rfl rfl rfl (by decide +kernel) ⟨Nat.le_of_ble_eq_true rfl, Nat.le_of_ble_eq_true rfl⟩) hK hN hW (L_t _ rfl) rfl rfl rfl hl.1 rfl (by simp [lh_cat_r, lh_cat_i, lh_cat_j]) dX10_oneLoad_333 ⟨Nat.le_of_ble_eq_true rfl, Nat.le_of_ble_eq_true rfl⟩) hS (fun H locs hX hW hS => ?_)
            refine W.widen (k := 0) (n := 0) (by omega) (by omega) ?_
            show W _ _ _ _ _ _ _ _ _ _ _ _ _ _ _ (F0 m 336 ls [.int r53])
            have m56 : ∀ b, gvN S b ≤ gvN S54 b := hX.1
            have L_t : ∀ j, some t = some j → j < gvN S54 10 := fun j h => Nat.lt_of_lt_of_le (L_t j h) (m56 _)
            have hm : ∀ b, gvN S b ≤ gvN S54 b := lh_le_trans hm m56
            have ok := lh_W_ok hW
            have z57 := hX.2
            refine lv_if_eq (tgt := 347) hx hb dX10_oneLoad_336 (by decide) (fun c58 => ?_) (fun c58 => ?_)
            · replace hf := dc_if_t c58 hf
              refine lh_aload_n hx hb dX10_oneLoad_347 rfl (lv_at hl 3 rfl) ?_
              refine lh_get (a := 10) (k := 34) (N := 42) (C := RX10) (T := TX10) (own := RX10) (ref := "LoaderModelsModel") hx hb hts (fun _ h => (List.mem_cons_of_mem _ (List.mem_append_right _ h))) hown hK hW rfl (L_t _ rfl) rfl rfl rfl (by decide) (hts (.fieldLink RX10 154 "LoaderModelsModel" "failure" "I") (List.mem_cons_of_mem _ (List.mem_append_left _ (List.mem_append_left _ (List.mem_of_getElem? (i := 11) rfl))))) (fun _ h9 => h9) dX10_oneLoad_348 (v := .int (gvI S54 10 t 34)) rfl ?_
              refine lv_if_ne (tgt := 378) hx hb dX10_oneLoad_351 (by decide) (fun c59 => ?_) (fun c59 => ?_)
              · replace hf := dc_if_f c59 hf
                refine lh_aload_n hx hb dX10_oneLoad_378 rfl (lv_at hl 3 rfl) ?_
                refine lh_aload_n hx hb dX10_oneLoad_379 rfl (lv_at hl 3 rfl) ?_
                refine lh_get (a := 10) (k := 34) (N := 42) (C := RX10) (T := TX10) (own := RX10) (ref := "LoaderModelsModel") hx hb hts (fun _ h => (List.mem_cons_of_mem _ (List.mem_append_right _ h))) hown hK hW rfl (L_t _ rfl) rfl rfl rfl (by decide) (hts (.fieldLink RX10 154 "LoaderModelsModel" "failure" "I") (List.mem_cons_of_mem _ (List.mem_append_left _ (List.mem_append_left _ (List.mem_of_getElem? (i := 11) rfl))))) (fun _ h9 => h9) dX10_oneLoad_380 (v := .int (gvI S54 10 t 34)) rfl ?_
                obtain ⟨r60, S61, k62, hf⟩ := dc_bd_ok hf
                refine lh_call (S' := S61) (lh_rv ⟨hx, hb, hml, hown, hts⟩ rfl (As := [.int (gvI S54 10 t 34)]) (rest := []) (k := 10) (c_X10_ends l D cT n S54 ad A H.size (fun q9 h9 => hA q9 (Nat.le_trans hS.1 h9)) t (gvI S54 10 t 34) r60 S61 k62 L_t) (cwV 1 hts gX10_oneLoad_X10_ends rfl rfl rfl (by decide +kernel) ⟨Nat.le_of_ble_eq_true rfl, Nat.le_of_ble_eq_true rfl⟩) hK hN hW (L_t _ rfl) rfl rfl rfl hl.1 rfl (by simp [lh_cat_r, lh_cat_i, lh_cat_j]) dX10_oneLoad_383 ⟨Nat.le_of_ble_eq_true rfl, Nat.le_of_ble_eq_true rfl⟩) hS (fun H locs hX hW hS => ?_)
                refine W.widen (k := 0) (n := 0) (by omega) (by omega) ?_
                show W _ _ _ _ _ _ _ _ _ _ _ _ _ _ _ (F0 m 386 ls [])
                have m63 : ∀ b, gvN S54 b ≤ gvN S61 b := hX.1
                have L_t : ∀ j, some t = some j → j < gvN S61 10 := fun j h => Nat.lt_of_lt_of_le (L_t j h) (m63 _)
                have hm : ∀ b, gvN S b ≤ gvN S61 b := lh_le_trans hm m63
                have ok := lh_W_ok hW
                obtain ⟨rfl, rfl⟩ := dc_ret hf
                exact W.vret hx hb hr (fun t9 ht9 hW9 => ⟨⟨rfl, ⟨hm, trivial⟩, by rw [ht9]; exact hW⟩, hS.F ht9⟩) hS.2.2 dX10_oneLoad_386
              · replace hf := dc_if_t c59 hf
                refine lh_aload_n hx hb dX10_oneLoad_354 rfl (lv_at hl 3 rfl) ?_
                have L64 : ∀ j, gvR S54 10 t 14 = some j → j < gvN S54 44 := fun j h => ok _ _ _ _ j (L_t _ rfl) rfl h
                refine lh_get (a := 10) (k := 14) (N := 42) (C := RX10) (T := TX10) (own := RX10) (ref := "LoaderModelsModel") hx hb hts (fun _ h => (List.mem_cons_of_mem _ (List.mem_append_right _ h))) hown hK hW rfl (L_t _ rfl) rfl rfl rfl (by decide) (hts (.fieldLink RX10 48 "LoaderModelsModel" "knows" "[I") (List.mem_cons_of_mem _ (List.mem_append_left _ (List.mem_append_left _ (List.mem_of_getElem? (i := 5) rfl))))) (fun _ h9 => h9) dX10_oneLoad_355 (v := lh_r ad 44 (gvR S54 10 t 14)) rfl ?_
                refine lv_iload hx hb dX10_oneLoad_358 (lv_at hl 0 rfl) ?_
                refine lh_aload_n hx hb dX10_oneLoad_360 rfl (lv_at hl 3 rfl) ?_
                refine lh_get (a := 10) (k := 33) (N := 42) (C := RX10) (T := TX10) (own := RX10) (ref := "LoaderModelsModel") hx hb hts (fun _ h => (List.mem_cons_of_mem _ (List.mem_append_right _ h))) hown hK hW rfl (L_t _ rfl) rfl rfl rfl (by decide) (hts (.fieldLink RX10 157 "LoaderModelsModel" "came" "I") (List.mem_cons_of_mem _ (List.mem_append_left _ (List.mem_append_left _ (List.mem_of_getElem? (i := 12) rfl))))) (fun _ h9 => h9) dX10_oneLoad_361 (v := .int (gvI S54 10 t 33)) rfl ?_
                refine lv_iconst (v := 1) hx hb dX10_oneLoad_364 (by decide) ?_
                refine lv_iadd hx hb dX10_oneLoad_365 ?_
                refine lv_topi (fun v65 hv65 => ?_)
                replace hf := dc_let_e hv65 hf
                obtain ⟨x66, hx66, hf⟩ := dc_nn_ok hf
                obtain ⟨g67, hf⟩ := dc_gd_ok hf
                obtain ⟨S68, eS68, hf⟩ := dc_let_ok hf
                refine lh_ast_i (a := 44) hx hb hK hW hS hx66 (L64 _ hx66) rfl (fun _ => rfl) g67 dX10_oneLoad_366 (fun H locs hW hS => ?_)
                rw [← eS68] at hW
                have m69 : ∀ b, gvN S54 b ≤ gvN S68 b := by rw [eS68]; exact lh_mI
                have L_t : ∀ j, some t = some j → j < gvN S68 10 := fun j h => Nat.lt_of_lt_of_le (L_t j h) (m69 _)
                have hm : ∀ b, gvN S b ≤ gvN S68 b := lh_le_trans hm m69
                have ok := lh_W_ok hW
                refine lh_aload_n hx hb dX10_oneLoad_367 rfl (lv_at hl 3 rfl) ?_
                refine lh_aload_n hx hb dX10_oneLoad_368 rfl (lv_at hl 3 rfl) ?_
                refine lh_get (a := 10) (k := 33) (N := 42) (C := RX10) (T := TX10) (own := RX10) (ref := "LoaderModelsModel") hx hb hts (fun _ h => (List.mem_cons_of_mem _ (List.mem_append_right _ h))) hown hK hW rfl (L_t _ rfl) rfl rfl rfl (by decide) (hts (.fieldLink RX10 157 "LoaderModelsModel" "came" "I") (List.mem_cons_of_mem _ (List.mem_append_left _ (List.mem_append_left _ (List.mem_of_getElem? (i := 12) rfl))))) (fun _ h9 => h9) dX10_oneLoad_369 (v := .int (gvI S68 10 t 33)) rfl ?_
                obtain ⟨r70, S71, k72, hf⟩ := dc_bd_ok hf
                refine lh_call (S' := S71) (lh_rv ⟨hx, hb, hml, hown, hts⟩ rfl (As := [.int (gvI S68 10 t 33)]) (rest := []) (k := 10) (c_X10_gives l D cT n S68 ad A H.size (fun q9 h9 => hA q9 (Nat.le_trans hS.1 h9)) t (gvI S68 10 t 33) r70 S71 k72 L_t) (cwV 1 hts gX10_oneLoad_X10_gives rfl rfl rfl (by decide +kernel) ⟨Nat.le_of_ble_eq_true rfl, Nat.le_of_ble_eq_true rfl⟩) hK hN hW (L_t _ rfl) rfl rfl rfl hl.1 rfl (by simp [lh_cat_r, lh_cat_i, lh_cat_j]) dX10_oneLoad_372 ⟨Nat.le_of_ble_eq_true rfl, Nat.le_of_ble_eq_true rfl⟩) hS (fun H locs hX hW hS => ?_)
                refine W.widen (k := 0) (n := 0) (by omega) (by omega) ?_
                show W _ _ _ _ _ _ _ _ _ _ _ _ _ _ _ (F0 m 375 ls [])
                have m73 : ∀ b, gvN S68 b ≤ gvN S71 b := hX.1
                have L_t : ∀ j, some t = some j → j < gvN S71 10 := fun j h => Nat.lt_of_lt_of_le (L_t j h) (m73 _)
                have hm : ∀ b, gvN S b ≤ gvN S71 b := lh_le_trans hm m73
                have ok := lh_W_ok hW
                refine lv_goto (tgt := 386) hx hb dX10_oneLoad_375 (by decide) ?_
                obtain ⟨rfl, rfl⟩ := dc_ret hf
                exact W.vret hx hb hr (fun t9 ht9 hW9 => ⟨⟨rfl, ⟨hm, trivial⟩, by rw [ht9]; exact hW⟩, hS.F ht9⟩) hS.2.2 dX10_oneLoad_386
            · replace hf := dc_if_f c58 hf
              refine lh_aload_n hx hb dX10_oneLoad_339 rfl (lv_at hl 3 rfl) ?_
              refine lv_iconst (v := 3) hx hb dX10_oneLoad_340 (by decide) ?_
              obtain ⟨r74, S75, k76, hf⟩ := dc_bd_ok hf
              refine lh_call (S' := S75) (lh_rv ⟨hx, hb, hml, hown, hts⟩ rfl (As := [.int (3 : Int32)]) (rest := []) (k := 10) (c_X10_ends l D cT n S54 ad A H.size (fun q9 h9 => hA q9 (Nat.le_trans hS.1 h9)) t (3 : Int32) r74 S75 k76 L_t) (cwV 1 hts gX10_oneLoad_X10_ends rfl rfl rfl (by decide +kernel) ⟨Nat.le_of_ble_eq_true rfl, Nat.le_of_ble_eq_true rfl⟩) hK hN hW (L_t _ rfl) rfl rfl rfl hl.1 rfl (by simp [lh_cat_r, lh_cat_i, lh_cat_j]) dX10_oneLoad_341 ⟨Nat.le_of_ble_eq_true rfl, Nat.le_of_ble_eq_true rfl⟩) hS (fun H locs hX hW hS => ?_)
              refine W.widen (k := 0) (n := 0) (by omega) (by omega) ?_
              show W _ _ _ _ _ _ _ _ _ _ _ _ _ _ _ (F0 m 344 ls [])
              have m77 : ∀ b, gvN S54 b ≤ gvN S75 b := hX.1
              have L_t : ∀ j, some t = some j → j < gvN S75 10 := fun j h => Nat.lt_of_lt_of_le (L_t j h) (m77 _)
              have hm : ∀ b, gvN S b ≤ gvN S75 b := lh_le_trans hm m77
              have ok := lh_W_ok hW
              refine lv_goto (tgt := 386) hx hb dX10_oneLoad_344 (by decide) ?_
              obtain ⟨rfl, rfl⟩ := dc_ret hf
              exact W.vret hx hb hr (fun t9 ht9 hW9 => ⟨⟨rfl, ⟨hm, trivial⟩, by rw [ht9]; exact hW⟩, hS.F ht9⟩) hS.2.2 dX10_oneLoad_386
      · replace hf := dc_if_t c18 hf
        refine lh_aload_n hx hb dX10_oneLoad_281 rfl (lv_at hl 3 rfl) ?_
        refine lh_get (a := 10) (k := 34) (N := 42) (C := RX10) (T := TX10) (own := RX10) (ref := "LoaderModelsModel") hx hb hts (fun _ h => (List.mem_cons_of_mem _ (List.mem_append_right _ h))) hown hK hW rfl (L_t _ rfl) rfl rfl rfl (by decide) (hts (.fieldLink RX10 154 "LoaderModelsModel" "failure" "I") (List.mem_cons_of_mem _ (List.mem_append_left _ (List.mem_append_left _ (List.mem_of_getElem? (i := 11) rfl))))) (fun _ h9 => h9) dX10_oneLoad_282 (v := .int (gvI S 10 t 34)) rfl ?_
        refine lv_iconst (v := 1) hx hb dX10_oneLoad_285 (by decide) ?_
        refine lv_icmp_ne (tgt := 309) hx hb dX10_oneLoad_286 (by decide) (fun c78 => ?_) (fun c78 => ?_)
        · replace hf := dc_if_f c78 hf
          refine lh_aload_n hx hb dX10_oneLoad_309 rfl (lv_at hl 3 rfl) ?_
          have L79 : ∀ j, gvR S 10 t 30 = some j → j < gvN S 60 := fun j h => ok _ _ _ _ j (L_t _ rfl) rfl h
          refine lh_get (a := 10) (k := 30) (N := 42) (C := RX10) (T := TX10) (own := RX10) (ref := "LoaderModelsModel") hx hb hts (fun _ h => (List.mem_cons_of_mem _ (List.mem_append_right _ h))) hown hK hW rfl (L_t _ rfl) rfl rfl rfl (by decide) (hts (.fieldLink RX10 88 "LoaderModelsModel" "stage" "[I") (List.mem_cons_of_mem _ (List.mem_append_left _ (List.mem_append_left _ (List.mem_of_getElem? (i := 2) rfl))))) (fun _ h9 => h9) dX10_oneLoad_310 (v := lh_r ad 60 (gvR S 10 t 30)) rfl ?_
          refine lv_iload_n hx hb dX10_oneLoad_313 rfl (lv_at hl 4 rfl) ?_
          obtain ⟨g80, hf⟩ := dc_gd_ok hf
          refine lh_ald_i (a := 60) hx hb hK hW hx10 (L79 _ hx10) rfl rfl g80 dX10_oneLoad_314 ?_
          refine lv_iconst (v := 2) hx hb dX10_oneLoad_315 (by decide) ?_
          refine lv_icmp_ne (tgt := 347) hx hb dX10_oneLoad_316 (by decide) (fun c81 => ?_) (fun c81 => ?_)
          · replace hf := dc_if_f c81 hf
            refine lh_aload_n hx hb dX10_oneLoad_347 rfl (lv_at hl 3 rfl) ?_
            refine lh_get (a := 10) (k := 34) (N := 42) (C := RX10) (T := TX10) (own := RX10) (ref := "LoaderModelsModel") hx hb hts (fun _ h => (List.mem_cons_of_mem _ (List.mem_append_right _ h))) hown hK hW rfl (L_t _ rfl) rfl rfl rfl (by decide) (hts (.fieldLink RX10 154 "LoaderModelsModel" "failure" "I") (List.mem_cons_of_mem _ (List.mem_append_left _ (List.mem_append_left _ (List.mem_of_getElem? (i := 11) rfl))))) (fun _ h9 => h9) dX10_oneLoad_348 (v := .int (gvI S 10 t 34)) rfl ?_
            refine lv_if_ne (tgt := 378) hx hb dX10_oneLoad_351 (by decide) (fun c82 => ?_) (fun c82 => ?_)
            · replace hf := dc_if_f c82 hf
              refine lh_aload_n hx hb dX10_oneLoad_378 rfl (lv_at hl 3 rfl) ?_
              refine lh_aload_n hx hb dX10_oneLoad_379 rfl (lv_at hl 3 rfl) ?_
              refine lh_get (a := 10) (k := 34) (N := 42) (C := RX10) (T := TX10) (own := RX10) (ref := "LoaderModelsModel") hx hb hts (fun _ h => (List.mem_cons_of_mem _ (List.mem_append_right _ h))) hown hK hW rfl (L_t _ rfl) rfl rfl rfl (by decide) (hts (.fieldLink RX10 154 "LoaderModelsModel" "failure" "I") (List.mem_cons_of_mem _ (List.mem_append_left _ (List.mem_append_left _ (List.mem_of_getElem? (i := 11) rfl))))) (fun _ h9 => h9) dX10_oneLoad_380 (v := .int (gvI S 10 t 34)) rfl ?_
              obtain ⟨r83, S84, k85, hf⟩ := dc_bd_ok hf
              refine lh_call (S' := S84) (lh_rv ⟨hx, hb, hml, hown, hts⟩ rfl (As := [.int (gvI S 10 t 34)]) (rest := []) (k := 10) (c_X10_ends l D cT n S ad A H.size (fun q9 h9 => hA q9 (Nat.le_trans hS.1 h9)) t (gvI S 10 t 34) r83 S84 k85 L_t) (cwV 1 hts gX10_oneLoad_X10_ends rfl rfl rfl (by decide +kernel) ⟨Nat.le_of_ble_eq_true rfl, Nat.le_of_ble_eq_true rfl⟩) hK hN hW (L_t _ rfl) rfl rfl rfl hl.1 rfl (by simp [lh_cat_r, lh_cat_i, lh_cat_j]) dX10_oneLoad_383 ⟨Nat.le_of_ble_eq_true rfl, Nat.le_of_ble_eq_true rfl⟩) hS (fun H locs hX hW hS => ?_)
              refine W.widen (k := 0) (n := 0) (by omega) (by omega) ?_
              show W _ _ _ _ _ _ _ _ _ _ _ _ _ _ _ (F0 m 386 ls [])
              have m86 : ∀ b, gvN S b ≤ gvN S84 b := hX.1
              have L_t : ∀ j, some t = some j → j < gvN S84 10 := fun j h => Nat.lt_of_lt_of_le (L_t j h) (m86 _)
              have hm : ∀ b, gvN S b ≤ gvN S84 b := lh_le_trans hm m86
              have ok := lh_W_ok hW
              obtain ⟨rfl, rfl⟩ := dc_ret hf
              exact W.vret hx hb hr (fun t9 ht9 hW9 => ⟨⟨rfl, ⟨hm, trivial⟩, by rw [ht9]; exact hW⟩, hS.F ht9⟩) hS.2.2 dX10_oneLoad_386
            · replace hf := dc_if_t c82 hf
              refine lh_aload_n hx hb dX10_oneLoad_354 rfl (lv_at hl 3 rfl) ?_
              have L87 : ∀ j, gvR S 10 t 14 = some j → j < gvN S 44 := fun j h => ok _ _ _ _ j (L_t _ rfl) rfl h
              refine lh_get (a := 10) (k := 14) (N := 42) (C := RX10) (T := TX10) (own := RX10) (ref := "LoaderModelsModel") hx hb hts (fun _ h => (List.mem_cons_of_mem _ (List.mem_append_right _ h))) hown hK hW rfl (L_t _ rfl) rfl rfl rfl (by decide) (hts (.fieldLink RX10 48 "LoaderModelsModel" "knows" "[I") (List.mem_cons_of_mem _ (List.mem_append_left _ (List.mem_append_left _ (List.mem_of_getElem? (i := 5) rfl))))) (fun _ h9 => h9) dX10_oneLoad_355 (v := lh_r ad 44 (gvR S 10 t 14)) rfl ?_
              refine lv_iload hx hb dX10_oneLoad_358 (lv_at hl 0 rfl) ?_
              refine lh_aload_n hx hb dX10_oneLoad_360 rfl (lv_at hl 3 rfl) ?_
              refine lh_get (a := 10) (k := 33) (N := 42) (C := RX10) (T := TX10) (own := RX10) (ref := "LoaderModelsModel") hx hb hts (fun _ h => (List.mem_cons_of_mem _ (List.mem_append_right _ h))) hown hK hW rfl (L_t _ rfl) rfl rfl rfl (by decide) (hts (.fieldLink RX10 157 "LoaderModelsModel" "came" "I") (List.mem_cons_of_mem _ (List.mem_append_left _ (List.mem_append_left _ (List.mem_of_getElem? (i := 12) rfl))))) (fun _ h9 => h9) dX10_oneLoad_361 (v := .int (gvI S 10 t 33)) rfl ?_
              refine lv_iconst (v := 1) hx hb dX10_oneLoad_364 (by decide) ?_
              refine lv_iadd hx hb dX10_oneLoad_365 ?_
              refine lv_topi (fun v88 hv88 => ?_)
              replace hf := dc_let_e hv88 hf
              obtain ⟨x89, hx89, hf⟩ := dc_nn_ok hf
              obtain ⟨g90, hf⟩ := dc_gd_ok hf
              obtain ⟨S91, eS91, hf⟩ := dc_let_ok hf
              refine lh_ast_i (a := 44) hx hb hK hW hS hx89 (L87 _ hx89) rfl (fun _ => rfl) g90 dX10_oneLoad_366 (fun H locs hW hS => ?_)
              rw [← eS91] at hW
              have m92 : ∀ b, gvN S b ≤ gvN S91 b := by rw [eS91]; exact lh_mI
              have L_t : ∀ j, some t = some j → j < gvN S91 10 := fun j h => Nat.lt_of_lt_of_le (L_t j h) (m92 _)
              have hm : ∀ b, gvN S b ≤ gvN S91 b := lh_le_trans hm m92
              have ok := lh_W_ok hW
              refine lh_aload_n hx hb dX10_oneLoad_367 rfl (lv_at hl 3 rfl) ?_
              refine lh_aload_n hx hb dX10_oneLoad_368 rfl (lv_at hl 3 rfl) ?_
              refine lh_get (a := 10) (k := 33) (N := 42) (C := RX10) (T := TX10) (own := RX10) (ref := "LoaderModelsModel") hx hb hts (fun _ h => (List.mem_cons_of_mem _ (List.mem_append_right _ h))) hown hK hW rfl (L_t _ rfl) rfl rfl rfl (by decide) (hts (.fieldLink RX10 157 "LoaderModelsModel" "came" "I") (List.mem_cons_of_mem _ (List.mem_append_left _ (List.mem_append_left _ (List.mem_of_getElem? (i := 12) rfl))))) (fun _ h9 => h9) dX10_oneLoad_369 (v := .int (gvI S91 10 t 33)) rfl ?_
              obtain ⟨r93, S94, k95, hf⟩ := dc_bd_ok hf
              refine lh_call (S' := S94) (lh_rv ⟨hx, hb, hml, hown, hts⟩ rfl (As := [.int (gvI S91 10 t 33)]) (rest := []) (k := 10) (c_X10_gives l D cT n S91 ad A H.size (fun q9 h9 => hA q9 (Nat.le_trans hS.1 h9)) t (gvI S91 10 t 33) r93 S94 k95 L_t) (cwV 1 hts gX10_oneLoad_X10_gives rfl rfl rfl (by decide +kernel) ⟨Nat.le_of_ble_eq_true rfl, Nat.le_of_ble_eq_true rfl⟩) hK hN hW (L_t _ rfl) rfl rfl rfl hl.1 rfl (by simp [lh_cat_r, lh_cat_i, lh_cat_j]) dX10_oneLoad_372 ⟨Nat.le_of_ble_eq_true rfl, Nat.le_of_ble_eq_true rfl⟩) hS (fun H locs hX hW hS => ?_)
              refine W.widen (k := 0) (n := 0) (by omega) (by omega) ?_
              show W _ _ _ _ _ _ _ _ _ _ _ _ _ _ _ (F0 m 375 ls [])
              have m96 : ∀ b, gvN S91 b ≤ gvN S94 b := hX.1
              have L_t : ∀ j, some t = some j → j < gvN S94 10 := fun j h => Nat.lt_of_lt_of_le (L_t j h) (m96 _)
              have hm : ∀ b, gvN S b ≤ gvN S94 b := lh_le_trans hm m96
              have ok := lh_W_ok hW
              refine lv_goto (tgt := 386) hx hb dX10_oneLoad_375 (by decide) ?_
              obtain ⟨rfl, rfl⟩ := dc_ret hf
              exact W.vret hx hb hr (fun t9 ht9 hW9 => ⟨⟨rfl, ⟨hm, trivial⟩, by rw [ht9]; exact hW⟩, hS.F ht9⟩) hS.2.2 dX10_oneLoad_386
          · replace hf := dc_if_t c81 hf
            refine lh_aload_n hx hb dX10_oneLoad_319 rfl (lv_at hl 3 rfl) ?_
            refine lh_get (a := 10) (k := 34) (N := 42) (C := RX10) (T := TX10) (own := RX10) (ref := "LoaderModelsModel") hx hb hts (fun _ h => (List.mem_cons_of_mem _ (List.mem_append_right _ h))) hown hK hW rfl (L_t _ rfl) rfl rfl rfl (by decide) (hts (.fieldLink RX10 154 "LoaderModelsModel" "failure" "I") (List.mem_cons_of_mem _ (List.mem_append_left _ (List.mem_append_left _ (List.mem_of_getElem? (i := 11) rfl))))) (fun _ h9 => h9) dX10_oneLoad_320 (v := .int (gvI S 10 t 34)) rfl ?_
            refine lv_if_ne (tgt := 347) hx hb dX10_oneLoad_323 (by decide) (fun c97 => ?_) (fun c97 => ?_)
            · replace hf := dc_if_f c97 hf
              refine lh_aload_n hx hb dX10_oneLoad_347 rfl (lv_at hl 3 rfl) ?_
              refine lh_get (a := 10) (k := 34) (N := 42) (C := RX10) (T := TX10) (own := RX10) (ref := "LoaderModelsModel") hx hb hts (fun _ h => (List.mem_cons_of_mem _ (List.mem_append_right _ h))) hown hK hW rfl (L_t _ rfl) rfl rfl rfl (by decide) (hts (.fieldLink RX10 154 "LoaderModelsModel" "failure" "I") (List.mem_cons_of_mem _ (List.mem_append_left _ (List.mem_append_left _ (List.mem_of_getElem? (i := 11) rfl))))) (fun _ h9 => h9) dX10_oneLoad_348 (v := .int (gvI S 10 t 34)) rfl ?_
              refine lv_if_ne (tgt := 378) hx hb dX10_oneLoad_351 (by decide) (fun c98 => ?_) (fun c98 => ?_)
              · replace hf := dc_if_f c98 hf
                refine lh_aload_n hx hb dX10_oneLoad_378 rfl (lv_at hl 3 rfl) ?_
                refine lh_aload_n hx hb dX10_oneLoad_379 rfl (lv_at hl 3 rfl) ?_
                refine lh_get (a := 10) (k := 34) (N := 42) (C := RX10) (T := TX10) (own := RX10) (ref := "LoaderModelsModel") hx hb hts (fun _ h => (List.mem_cons_of_mem _ (List.mem_append_right _ h))) hown hK hW rfl (L_t _ rfl) rfl rfl rfl (by decide) (hts (.fieldLink RX10 154 "LoaderModelsModel" "failure" "I") (List.mem_cons_of_mem _ (List.mem_append_left _ (List.mem_append_left _ (List.mem_of_getElem? (i := 11) rfl))))) (fun _ h9 => h9) dX10_oneLoad_380 (v := .int (gvI S 10 t 34)) rfl ?_
                obtain ⟨r99, S100, k101, hf⟩ := dc_bd_ok hf
                refine lh_call (S' := S100) (lh_rv ⟨hx, hb, hml, hown, hts⟩ rfl (As := [.int (gvI S 10 t 34)]) (rest := []) (k := 10) (c_X10_ends l D cT n S ad A H.size (fun q9 h9 => hA q9 (Nat.le_trans hS.1 h9)) t (gvI S 10 t 34) r99 S100 k101 L_t) (cwV 1 hts gX10_oneLoad_X10_ends rfl rfl rfl (by decide +kernel) ⟨Nat.le_of_ble_eq_true rfl, Nat.le_of_ble_eq_true rfl⟩) hK hN hW (L_t _ rfl) rfl rfl rfl hl.1 rfl (by simp [lh_cat_r, lh_cat_i, lh_cat_j]) dX10_oneLoad_383 ⟨Nat.le_of_ble_eq_true rfl, Nat.le_of_ble_eq_true rfl⟩) hS (fun H locs hX hW hS => ?_)
                refine W.widen (k := 0) (n := 0) (by omega) (by omega) ?_
                show W _ _ _ _ _ _ _ _ _ _ _ _ _ _ _ (F0 m 386 ls [])
                have m102 : ∀ b, gvN S b ≤ gvN S100 b := hX.1
                have L_t : ∀ j, some t = some j → j < gvN S100 10 := fun j h => Nat.lt_of_lt_of_le (L_t j h) (m102 _)
                have hm : ∀ b, gvN S b ≤ gvN S100 b := lh_le_trans hm m102
                have ok := lh_W_ok hW
                obtain ⟨rfl, rfl⟩ := dc_ret hf
                exact W.vret hx hb hr (fun t9 ht9 hW9 => ⟨⟨rfl, ⟨hm, trivial⟩, by rw [ht9]; exact hW⟩, hS.F ht9⟩) hS.2.2 dX10_oneLoad_386
              · replace hf := dc_if_t c98 hf
                refine lh_aload_n hx hb dX10_oneLoad_354 rfl (lv_at hl 3 rfl) ?_
                have L103 : ∀ j, gvR S 10 t 14 = some j → j < gvN S 44 := fun j h => ok _ _ _ _ j (L_t _ rfl) rfl h
                refine lh_get (a := 10) (k := 14) (N := 42) (C := RX10) (T := TX10) (own := RX10) (ref := "LoaderModelsModel") hx hb hts (fun _ h => (List.mem_cons_of_mem _ (List.mem_append_right _ h))) hown hK hW rfl (L_t _ rfl) rfl rfl rfl (by decide) (hts (.fieldLink RX10 48 "LoaderModelsModel" "knows" "[I") (List.mem_cons_of_mem _ (List.mem_append_left _ (List.mem_append_left _ (List.mem_of_getElem? (i := 5) rfl))))) (fun _ h9 => h9) dX10_oneLoad_355 (v := lh_r ad 44 (gvR S 10 t 14)) rfl ?_
                refine lv_iload hx hb dX10_oneLoad_358 (lv_at hl 0 rfl) ?_
                refine lh_aload_n hx hb dX10_oneLoad_360 rfl (lv_at hl 3 rfl) ?_
                refine lh_get (a := 10) (k := 33) (N := 42) (C := RX10) (T := TX10) (own := RX10) (ref := "LoaderModelsModel") hx hb hts (fun _ h => (List.mem_cons_of_mem _ (List.mem_append_right _ h))) hown hK hW rfl (L_t _ rfl) rfl rfl rfl (by decide) (hts (.fieldLink RX10 157 "LoaderModelsModel" "came" "I") (List.mem_cons_of_mem _ (List.mem_append_left _ (List.mem_append_left _ (List.mem_of_getElem? (i := 12) rfl))))) (fun _ h9 => h9) dX10_oneLoad_361 (v := .int (gvI S 10 t 33)) rfl ?_
                refine lv_iconst (v := 1) hx hb dX10_oneLoad_364 (by decide) ?_
                refine lv_iadd hx hb dX10_oneLoad_365 ?_
                refine lv_topi (fun v104 hv104 => ?_)
                replace hf := dc_let_e hv104 hf
                obtain ⟨x105, hx105, hf⟩ := dc_nn_ok hf
                obtain ⟨g106, hf⟩ := dc_gd_ok hf
                obtain ⟨S107, eS107, hf⟩ := dc_let_ok hf
                refine lh_ast_i (a := 44) hx hb hK hW hS hx105 (L103 _ hx105) rfl (fun _ => rfl) g106 dX10_oneLoad_366 (fun H locs hW hS => ?_)
                rw [← eS107] at hW
                have m108 : ∀ b, gvN S b ≤ gvN S107 b := by rw [eS107]; exact lh_mI
                have L_t : ∀ j, some t = some j → j < gvN S107 10 := fun j h => Nat.lt_of_lt_of_le (L_t j h) (m108 _)
                have hm : ∀ b, gvN S b ≤ gvN S107 b := lh_le_trans hm m108
                have ok := lh_W_ok hW
                refine lh_aload_n hx hb dX10_oneLoad_367 rfl (lv_at hl 3 rfl) ?_
                refine lh_aload_n hx hb dX10_oneLoad_368 rfl (lv_at hl 3 rfl) ?_
                refine lh_get (a := 10) (k := 33) (N := 42) (C := RX10) (T := TX10) (own := RX10) (ref := "LoaderModelsModel") hx hb hts (fun _ h => (List.mem_cons_of_mem _ (List.mem_append_right _ h))) hown hK hW rfl (L_t _ rfl) rfl rfl rfl (by decide) (hts (.fieldLink RX10 157 "LoaderModelsModel" "came" "I") (List.mem_cons_of_mem _ (List.mem_append_left _ (List.mem_append_left _ (List.mem_of_getElem? (i := 12) rfl))))) (fun _ h9 => h9) dX10_oneLoad_369 (v := .int (gvI S107 10 t 33)) rfl ?_
                obtain ⟨r109, S110, k111, hf⟩ := dc_bd_ok hf
                refine lh_call (S' := S110) (lh_rv ⟨hx, hb, hml, hown, hts⟩ rfl (As := [.int (gvI S107 10 t 33)]) (rest := []) (k := 10) (c_X10_gives l D cT n S107 ad A H.size (fun q9 h9 => hA q9 (Nat.le_trans hS.1 h9)) t (gvI S107 10 t 33) r109 S110 k111 L_t) (cwV 1 hts gX10_oneLoad_X10_gives rfl rfl rfl (by decide +kernel) ⟨Nat.le_of_ble_eq_true rfl, Nat.le_of_ble_eq_true rfl⟩) hK hN hW (L_t _ rfl) rfl rfl rfl hl.1 rfl (by simp [lh_cat_r, lh_cat_i, lh_cat_j]) dX10_oneLoad_372 ⟨Nat.le_of_ble_eq_true rfl, Nat.le_of_ble_eq_true rfl⟩) hS (fun H locs hX hW hS => ?_)
                refine W.widen (k := 0) (n := 0) (by omega) (by omega) ?_
                show W _ _ _ _ _ _ _ _ _ _ _ _ _ _ _ (F0 m 375 ls [])
                have m112 : ∀ b, gvN S107 b ≤ gvN S110 b := hX.1
                have L_t : ∀ j, some t = some j → j < gvN S110 10 := fun j h => Nat.lt_of_lt_of_le (L_t j h) (m112 _)
                have hm : ∀ b, gvN S b ≤ gvN S110 b := lh_le_trans hm m112
                have ok := lh_W_ok hW
                refine lv_goto (tgt := 386) hx hb dX10_oneLoad_375 (by decide) ?_
                obtain ⟨rfl, rfl⟩ := dc_ret hf
                exact W.vret hx hb hr (fun t9 ht9 hW9 => ⟨⟨rfl, ⟨hm, trivial⟩, by rw [ht9]; exact hW⟩, hS.F ht9⟩) hS.2.2 dX10_oneLoad_386
            · replace hf := dc_if_t c97 hf
              refine lh_aload_n hx hb dX10_oneLoad_326 rfl (lv_at hl 3 rfl) ?_
              refine lv_iload_n hx hb dX10_oneLoad_327 rfl (lv_at hl 2 rfl) ?_
              refine lv_iload_n hx hb dX10_oneLoad_328 rfl (lv_at hl 1 rfl) ?_
              refine lh_aload_n hx hb dX10_oneLoad_329 rfl (lv_at hl 3 rfl) ?_
              refine lh_get (a := 10) (k := 33) (N := 42) (C := RX10) (T := TX10) (own := RX10) (ref := "LoaderModelsModel") hx hb hts (fun _ h => (List.mem_cons_of_mem _ (List.mem_append_right _ h))) hown hK hW rfl (L_t _ rfl) rfl rfl rfl (by decide) (hts (.fieldLink RX10 157 "LoaderModelsModel" "came" "I") (List.mem_cons_of_mem _ (List.mem_append_left _ (List.mem_append_left _ (List.mem_of_getElem? (i := 12) rfl))))) (fun _ h9 => h9) dX10_oneLoad_330 (v := .int (gvI S 10 t 33)) rfl ?_
              obtain ⟨r113, S114, k115, hf⟩ := dc_bd_ok hf
              refine lh_call (S' := S114) (lh_rv ⟨hx, hb, hml, hown, hts⟩ rfl (As := [.int (gvI S 58 x2 (p1).toNatClampNeg), .int (gvI S 59 x5 (p1).toNatClampNeg), .int (gvI S 10 t 33)]) (rest := []) (k := 10) (c_X10_isBarred l D cT n S ad A H.size (fun q9 h9 => hA q9 (Nat.le_trans hS.1 h9)) t (gvI S 58 x2 (p1).toNatClampNeg) (gvI S 59 x5 (p1).toNatClampNeg) (gvI S 10 t 33) r113 S114 k115 L_t) (cwV 3 hts gX10_oneLoad_X10_isBarred rfl rfl rfl (by decide +kernel) ⟨Nat.le_of_ble_eq_true rfl, Nat.le_of_ble_eq_true rfl⟩) hK hN hW (L_t _ rfl) rfl rfl rfl hl.1 rfl (by simp [lh_cat_r, lh_cat_i, lh_cat_j]) dX10_oneLoad_333 ⟨Nat.le_of_ble_eq_true rfl, Nat.le_of_ble_eq_true rfl⟩) hS (fun H locs hX hW hS => ?_)
              refine W.widen (k := 0) (n := 0) (by omega) (by omega) ?_
              show W _ _ _ _ _ _ _ _ _ _ _ _ _ _ _ (F0 m 336 ls [.int r113])
              have m116 : ∀ b, gvN S b ≤ gvN S114 b := hX.1
              have L_t : ∀ j, some t = some j → j < gvN S114 10 := fun j h => Nat.lt_of_lt_of_le (L_t j h) (m116 _)
              have hm : ∀ b, gvN S b ≤ gvN S114 b := lh_le_trans hm m116
              have ok := lh_W_ok hW
              have z117 := hX.2
              refine lv_if_eq (tgt := 347) hx hb dX10_oneLoad_336 (by decide) (fun c118 => ?_) (fun c118 => ?_)
              · replace hf := dc_if_t c118 hf
                refine lh_aload_n hx hb dX10_oneLoad_347 rfl (lv_at hl 3 rfl) ?_
                refine lh_get (a := 10) (k := 34) (N := 42) (C := RX10) (T := TX10) (own := RX10) (ref := "LoaderModelsModel") hx hb hts (fun _ h => (List.mem_cons_of_mem _ (List.mem_append_right _ h))) hown hK hW rfl (L_t _ rfl) rfl rfl rfl (by decide) (hts (.fieldLink RX10 154 "LoaderModelsModel" "failure" "I") (List.mem_cons_of_mem _ (List.mem_append_left _ (List.mem_append_left _ (List.mem_of_getElem? (i := 11) rfl))))) (fun _ h9 => h9) dX10_oneLoad_348 (v := .int (gvI S114 10 t 34)) rfl ?_
                refine lv_if_ne (tgt := 378) hx hb dX10_oneLoad_351 (by decide) (fun c119 => ?_) (fun c119 => ?_)
                · replace hf := dc_if_f c119 hf
                  refine lh_aload_n hx hb dX10_oneLoad_378 rfl (lv_at hl 3 rfl) ?_
                  refine lh_aload_n hx hb dX10_oneLoad_379 rfl (lv_at hl 3 rfl) ?_
                  refine lh_get (a := 10) (k := 34) (N := 42) (C := RX10) (T := TX10) (own := RX10) (ref := "LoaderModelsModel") hx hb hts (fun _ h => (List.mem_cons_of_mem _ (List.mem_append_right _ h))) hown hK hW rfl (L_t _ rfl) rfl rfl rfl (by decide) (hts (.fieldLink RX10 154 "LoaderModelsModel" "failure" "I") (List.mem_cons_of_mem _ (List.mem_append_left _ (List.mem_append_left _ (List.mem_of_getElem? (i := 11) rfl))))) (fun _ h9 => h9) dX10_oneLoad_380 (v := .int (gvI S114 10 t 34)) rfl ?_
                  obtain ⟨r120, S121, k122, hf⟩ := dc_bd_ok hf
                  refine lh_call (S' := S121) (lh_rv ⟨hx, hb, hml, hown, hts⟩ rfl (As := [.int (gvI S114 10 t 34)]) (rest := []) (k := 10) (c_X10_ends l D cT n S114 ad A H.size (fun q9 h9 => hA q9 (Nat.le_trans hS.1 h9)) t (gvI S114 10 t 34) r120 S121 k122 L_t) (cwV 1 hts gX10_oneLoad_X10_ends rfl rfl rfl (by decide +kernel) ⟨Nat.le_of_ble_eq_true rfl, Nat.le_of_ble_eq_true rfl⟩) hK hN hW (L_t _ rfl) rfl rfl rfl hl.1 rfl (by simp [lh_cat_r, lh_cat_i, lh_cat_j]) dX10_oneLoad_383 ⟨Nat.le_of_ble_eq_true rfl, Nat.le_of_ble_eq_true rfl⟩) hS (fun H locs hX hW hS => ?_)
                  refine W.widen (k := 0) (n := 0) (by omega) (by omega) ?_
                  show W _ _ _ _ _ _ _ _ _ _ _ _ _ _ _ (F0 m 386 ls [])
                  have m123 : ∀ b, gvN S114 b ≤ gvN S121 b := hX.1
                  have L_t : ∀ j, some t = some j → j < gvN S121 10 := fun j h => Nat.lt_of_lt_of_le (L_t j h) (m123 _)
                  have hm : ∀ b, gvN S b ≤ gvN S121 b := lh_le_trans hm m123
                  have ok := lh_W_ok hW
                  obtain ⟨rfl, rfl⟩ := dc_ret hf
                  exact W.vret hx hb hr (fun t9 ht9 hW9 => ⟨⟨rfl, ⟨hm, trivial⟩, by rw [ht9]; exact hW⟩, hS.F ht9⟩) hS.2.2 dX10_oneLoad_386
                · replace hf := dc_if_t c119 hf
                  refine lh_aload_n hx hb dX10_oneLoad_354 rfl (lv_at hl 3 rfl) ?_
                  have L124 : ∀ j, gvR S114 10 t 14 = some j → j < gvN S114 44 := fun j h => ok _ _ _ _ j (L_t _ rfl) rfl h
                  refine lh_get (a := 10) (k := 14) (N := 42) (C := RX10) (T := TX10) (own := RX10) (ref := "LoaderModelsModel") hx hb hts (fun _ h => (List.mem_cons_of_mem _ (List.mem_append_right _ h))) hown hK hW rfl (L_t _ rfl) rfl rfl rfl (by decide) (hts (.fieldLink RX10 48 "LoaderModelsModel" "knows" "[I") (List.mem_cons_of_mem _ (List.mem_append_left _ (List.mem_append_left _ (List.mem_of_getElem? (i := 5) rfl))))) (fun _ h9 => h9) dX10_oneLoad_355 (v := lh_r ad 44 (gvR S114 10 t 14)) rfl ?_
                  refine lv_iload hx hb dX10_oneLoad_358 (lv_at hl 0 rfl) ?_
                  refine lh_aload_n hx hb dX10_oneLoad_360 rfl (lv_at hl 3 rfl) ?_
                  refine lh_get (a := 10) (k := 33) (N := 42) (C := RX10) (T := TX10) (own := RX10) (ref := "LoaderModelsModel") hx hb hts (fun _ h => (List.mem_cons_of_mem _ (List.mem_append_right _ h))) hown hK hW rfl (L_t _ rfl) rfl rfl rfl (by decide) (hts (.fieldLink RX10 157 "LoaderModelsModel" "came" "I") (List.mem_cons_of_mem _ (List.mem_append_left _ (List.mem_append_left _ (List.mem_of_getElem? (i := 12) rfl))))) (fun _ h9 => h9) dX10_oneLoad_361 (v := .int (gvI S114 10 t 33)) rfl ?_
                  refine lv_iconst (v := 1) hx hb dX10_oneLoad_364 (by decide) ?_
                  refine lv_iadd hx hb dX10_oneLoad_365 ?_
                  refine lv_topi (fun v125 hv125 => ?_)
                  replace hf := dc_let_e hv125 hf
                  obtain ⟨x126, hx126, hf⟩ := dc_nn_ok hf
                  obtain ⟨g127, hf⟩ := dc_gd_ok hf
                  obtain ⟨S128, eS128, hf⟩ := dc_let_ok hf
                  refine lh_ast_i (a := 44) hx hb hK hW hS hx126 (L124 _ hx126) rfl (fun _ => rfl) g127 dX10_oneLoad_366 (fun H locs hW hS => ?_)
                  rw [← eS128] at hW
                  have m129 : ∀ b, gvN S114 b ≤ gvN S128 b := by rw [eS128]; exact lh_mI
                  have L_t : ∀ j, some t = some j → j < gvN S128 10 := fun j h => Nat.lt_of_lt_of_le (L_t j h) (m129 _)
                  have hm : ∀ b, gvN S b ≤ gvN S128 b := lh_le_trans hm m129
                  have ok := lh_W_ok hW
                  refine lh_aload_n hx hb dX10_oneLoad_367 rfl (lv_at hl 3 rfl) ?_
                  refine lh_aload_n hx hb dX10_oneLoad_368 rfl (lv_at hl 3 rfl) ?_
                  refine lh_get (a := 10) (k := 33) (N := 42) (C := RX10) (T := TX10) (own := RX10) (ref := "LoaderModelsModel") hx hb hts (fun _ h => (List.mem_cons_of_mem _ (List.mem_append_right _ h))) hown hK hW rfl (L_t _ rfl) rfl rfl rfl (by decide) (hts (.fieldLink RX10 157 "LoaderModelsModel" "came" "I") (List.mem_cons_of_mem _ (List.mem_append_left _ (List.mem_append_left _ (List.mem_of_getElem? (i := 12) rfl))))) (fun _ h9 => h9) dX10_oneLoad_369 (v := .int (gvI S128 10 t 33)) rfl ?_
                  obtain ⟨r130, S131, k132, hf⟩ := dc_bd_ok hf
                  refine lh_call (S' := S131) (lh_rv ⟨hx, hb, hml, hown, hts⟩ rfl (As := [.int (gvI S128 10 t 33)]) (rest := []) (k := 10) (c_X10_gives l D cT n S128 ad A H.size (fun q9 h9 => hA q9 (Nat.le_trans hS.1 h9)) t (gvI S128 10 t 33) r130 S131 k132 L_t) (cwV 1 hts gX10_oneLoad_X10_gives rfl rfl rfl (by decide +kernel) ⟨Nat.le_of_ble_eq_true rfl, Nat.le_of_ble_eq_true rfl⟩) hK hN hW (L_t _ rfl) rfl rfl rfl hl.1 rfl (by simp [lh_cat_r, lh_cat_i, lh_cat_j]) dX10_oneLoad_372 ⟨Nat.le_of_ble_eq_true rfl, Nat.le_of_ble_eq_true rfl⟩) hS (fun H locs hX hW hS => ?_)
                  refine W.widen (k := 0) (n := 0) (by omega) (by omega) ?_
                  show W _ _ _ _ _ _ _ _ _ _ _ _ _ _ _ (F0 m 375 ls [])
                  have m133 : ∀ b, gvN S128 b ≤ gvN S131 b := hX.1
                  have L_t : ∀ j, some t = some j → j < gvN S131 10 := fun j h => Nat.lt_of_lt_of_le (L_t j h) (m133 _)
                  have hm : ∀ b, gvN S b ≤ gvN S131 b := lh_le_trans hm m133
                  have ok := lh_W_ok hW
                  refine lv_goto (tgt := 386) hx hb dX10_oneLoad_375 (by decide) ?_
                  obtain ⟨rfl, rfl⟩ := dc_ret hf
                  exact W.vret hx hb hr (fun t9 ht9 hW9 => ⟨⟨rfl, ⟨hm, trivial⟩, by rw [ht9]; exact hW⟩, hS.F ht9⟩) hS.2.2 dX10_oneLoad_386
              · replace hf := dc_if_f c118 hf
                refine lh_aload_n hx hb dX10_oneLoad_339 rfl (lv_at hl 3 rfl) ?_
                refine lv_iconst (v := 3) hx hb dX10_oneLoad_340 (by decide) ?_
                obtain ⟨r134, S135, k136, hf⟩ := dc_bd_ok hf
                refine lh_call (S' := S135) (lh_rv ⟨hx, hb, hml, hown, hts⟩ rfl (As := [.int (3 : Int32)]) (rest := []) (k := 10) (c_X10_ends l D cT n S114 ad A H.size (fun q9 h9 => hA q9 (Nat.le_trans hS.1 h9)) t (3 : Int32) r134 S135 k136 L_t) (cwV 1 hts gX10_oneLoad_X10_ends rfl rfl rfl (by decide +kernel) ⟨Nat.le_of_ble_eq_true rfl, Nat.le_of_ble_eq_true rfl⟩) hK hN hW (L_t _ rfl) rfl rfl rfl hl.1 rfl (by simp [lh_cat_r, lh_cat_i, lh_cat_j]) dX10_oneLoad_341 ⟨Nat.le_of_ble_eq_true rfl, Nat.le_of_ble_eq_true rfl⟩) hS (fun H locs hX hW hS => ?_)
                refine W.widen (k := 0) (n := 0) (by omega) (by omega) ?_
                show W _ _ _ _ _ _ _ _ _ _ _ _ _ _ _ (F0 m 344 ls [])
                have m137 : ∀ b, gvN S114 b ≤ gvN S135 b := hX.1
                have L_t : ∀ j, some t = some j → j < gvN S135 10 := fun j h => Nat.lt_of_lt_of_le (L_t j h) (m137 _)
                have hm : ∀ b, gvN S b ≤ gvN S135 b := lh_le_trans hm m137
                have ok := lh_W_ok hW
                refine lv_goto (tgt := 386) hx hb dX10_oneLoad_344 (by decide) ?_
                obtain ⟨rfl, rfl⟩ := dc_ret hf
                exact W.vret hx hb hr (fun t9 ht9 hW9 => ⟨⟨rfl, ⟨hm, trivial⟩, by rw [ht9]; exact hW⟩, hS.F ht9⟩) hS.2.2 dX10_oneLoad_386
        · replace hf := dc_if_t c78 hf
          refine lh_aload_n hx hb dX10_oneLoad_289 rfl (lv_at hl 3 rfl) ?_
          have L138 : ∀ j, gvR S 10 t 30 = some j → j < gvN S 60 := fun j h => ok _ _ _ _ j (L_t _ rfl) rfl h
          refine lh_get (a := 10) (k := 30) (N := 42) (C := RX10) (T := TX10) (own := RX10) (ref := "LoaderModelsModel") hx hb hts (fun _ h => (List.mem_cons_of_mem _ (List.mem_append_right _ h))) hown hK hW rfl (L_t _ rfl) rfl rfl rfl (by decide) (hts (.fieldLink RX10 88 "LoaderModelsModel" "stage" "[I") (List.mem_cons_of_mem _ (List.mem_append_left _ (List.mem_append_left _ (List.mem_of_getElem? (i := 2) rfl))))) (fun _ h9 => h9) dX10_oneLoad_290 (v := lh_r ad 60 (gvR S 10 t 30)) rfl ?_
          refine lv_iload_n hx hb dX10_oneLoad_293 rfl (lv_at hl 4 rfl) ?_
          refine lv_iconst (v := 1) hx hb dX10_oneLoad_294 (by decide) ?_
          obtain ⟨g139, hf⟩ := dc_gd_ok hf
          obtain ⟨S140, eS140, hf⟩ := dc_let_ok hf
          refine lh_ast_i (a := 60) hx hb hK hW hS hx10 (L138 _ hx10) rfl (fun _ => rfl) g139 dX10_oneLoad_295 (fun H locs hW hS => ?_)
          rw [← eS140] at hW
          have m141 : ∀ b, gvN S b ≤ gvN S140 b := by rw [eS140]; exact lh_mI
          have L_t : ∀ j, some t = some j → j < gvN S140 10 := fun j h => Nat.lt_of_lt_of_le (L_t j h) (m141 _)
          have hm : ∀ b, gvN S b ≤ gvN S140 b := lh_le_trans hm m141
          have ok := lh_W_ok hW
          refine lh_aload_n hx hb dX10_oneLoad_296 rfl (lv_at hl 3 rfl) ?_
          have L142 : ∀ j, gvR S140 10 t 31 = some j → j < gvN S140 61 := fun j h => ok _ _ _ _ j (L_t _ rfl) rfl h
          refine lh_get (a := 10) (k := 31) (N := 42) (C := RX10) (T := TX10) (own := RX10) (ref := "LoaderModelsModel") hx hb hts (fun _ h => (List.mem_cons_of_mem _ (List.mem_append_right _ h))) hown hK hW rfl (L_t _ rfl) rfl rfl rfl (by decide) (hts (.fieldLink RX10 91 "LoaderModelsModel" "turn" "[I") (List.mem_cons_of_mem _ (List.mem_append_left _ (List.mem_append_left _ (List.mem_of_getElem? (i := 8) rfl))))) (fun _ h9 => h9) dX10_oneLoad_297 (v := lh_r ad 61 (gvR S140 10 t 31)) rfl ?_
          refine lv_iload_n hx hb dX10_oneLoad_300 rfl (lv_at hl 4 rfl) ?_
          refine lv_dup2_11 hx hb dX10_oneLoad_301 rfl lh_cat_r ?_
          obtain ⟨x143, hx143, hf⟩ := dc_nn_ok hf
          obtain ⟨g144, hf⟩ := dc_gd_ok hf
          refine lh_ald_i (a := 61) hx hb hK hW hx143 (L142 _ hx143) rfl rfl g144 dX10_oneLoad_302 ?_
          refine lv_iconst (v := 1) hx hb dX10_oneLoad_303 (by decide) ?_
          refine lv_iadd hx hb dX10_oneLoad_304 ?_
          refine lv_topi (fun v145 hv145 => ?_)
          replace hf := dc_let_e hv145 hf
          obtain ⟨g146, hf⟩ := dc_gd_ok hf
          obtain ⟨S147, eS147, hf⟩ := dc_let_ok hf
          refine lh_ast_i (a := 61) hx hb hK hW hS hx143 (L142 _ hx143) rfl (fun _ => rfl) g146 dX10_oneLoad_305 (fun H locs hW hS => ?_)
          rw [← eS147] at hW
          have m148 : ∀ b, gvN S140 b ≤ gvN S147 b := by rw [eS147]; exact lh_mI
          have L_t : ∀ j, some t = some j → j < gvN S147 10 := fun j h => Nat.lt_of_lt_of_le (L_t j h) (m148 _)
          have hm : ∀ b, gvN S b ≤ gvN S147 b := lh_le_trans hm m148
          have ok := lh_W_ok hW
          refine lv_goto (tgt := 386) hx hb dX10_oneLoad_306 (by decide) ?_
          obtain ⟨rfl, rfl⟩ := dc_ret hf
          exact W.vret hx hb hr (fun t9 ht9 hW9 => ⟨⟨rfl, ⟨hm, trivial⟩, by rw [ht9]; exact hW⟩, hS.F ht9⟩) hS.2.2 dX10_oneLoad_386
    · replace hf := dc_if_t c15 hf
      refine lv_iload_n hx hb dX10_oneLoad_121 rfl (lv_at hl 2 rfl) ?_
      refine lv_if_le (tgt := 161) hx hb dX10_oneLoad_122 (by decide) (fun c149 => ?_) (fun c149 => ?_)
      · replace hf := dc_if_t c149 hf
        refine lv_iconst (v := 0) hx hb dX10_oneLoad_161 (by decide) ?_
        refine lv_istore (i := 5) (lv' := [(5, .int (0 : Int32)), (4, .int v8), (3, .int (gvI S 59 x5 (p1).toNatClampNeg)), (2, .int (gvI S 58 x2 (p1).toNatClampNeg)), (0, lh_r ad 10 (some t)), (1, .int p1)]) hx hb dX10_oneLoad_162 hl (by decide) (by first | rfl | simp [lh_cat_r, lh_cat_i, lh_cat_j]) (fun ls hl => ?_)
        refine lh_aload_n hx hb dX10_oneLoad_164 rfl (lv_at hl 4 rfl) ?_
        have L150 : ∀ j, gvR S 10 t 31 = some j → j < gvN S 61 := fun j h => ok _ _ _ _ j (L_t _ rfl) rfl h
        refine lh_get (a := 10) (k := 31) (N := 42) (C := RX10) (T := TX10) (own := RX10) (ref := "LoaderModelsModel") hx hb hts (fun _ h => (List.mem_cons_of_mem _ (List.mem_append_right _ h))) hown hK hW rfl (L_t _ rfl) rfl rfl rfl (by decide) (hts (.fieldLink RX10 91 "LoaderModelsModel" "turn" "[I") (List.mem_cons_of_mem _ (List.mem_append_left _ (List.mem_append_left _ (List.mem_of_getElem? (i := 8) rfl))))) (fun _ h9 => h9) dX10_oneLoad_165 (v := lh_r ad 61 (gvR S 10 t 31)) rfl ?_
        refine lv_iload_n hx hb dX10_oneLoad_168 rfl (lv_at hl 5 rfl) ?_
        obtain ⟨x151, hx151, hf⟩ := dc_nn_ok hf
        obtain ⟨g152, hf⟩ := dc_gd_ok hf
        refine lh_ald_i (a := 61) hx hb hK hW hx151 (L150 _ hx151) rfl rfl g152 dX10_oneLoad_169 ?_
        refine lv_iconst (v := 2) hx hb dX10_oneLoad_170 (by decide) ?_
        refine lv_icmp_eq (tgt := 188) hx hb dX10_oneLoad_171 (by decide) (fun c153 => ?_) (fun c153 => ?_)
        · replace hf := dc_if_t c153 hf
          refine lh_aload_n hx hb dX10_oneLoad_188 rfl (lv_at hl 4 rfl) ?_
          refine lv_iconst (v := 1) hx hb dX10_oneLoad_189 (by decide) ?_
          obtain ⟨r154, S155, k156, hf⟩ := dc_bd_ok hf
          refine lh_call (S' := S155) (lh_rv ⟨hx, hb, hml, hown, hts⟩ rfl (As := [.int (1 : Int32)]) (rest := []) (k := 10) (c_X10_ends l D cT n S ad A H.size (fun q9 h9 => hA q9 (Nat.le_trans hS.1 h9)) t (1 : Int32) r154 S155 k156 L_t) (cwV 1 hts gX10_oneLoad_X10_ends rfl rfl rfl (by decide +kernel) ⟨Nat.le_of_ble_eq_true rfl, Nat.le_of_ble_eq_true rfl⟩) hK hN hW (L_t _ rfl) rfl rfl rfl hl.1 rfl (by simp [lh_cat_r, lh_cat_i, lh_cat_j]) dX10_oneLoad_190 ⟨Nat.le_of_ble_eq_true rfl, Nat.le_of_ble_eq_true rfl⟩) hS (fun H locs hX hW hS => ?_)
          refine W.widen (k := 0) (n := 0) (by omega) (by omega) ?_
          show W _ _ _ _ _ _ _ _ _ _ _ _ _ _ _ (F0 m 193 ls [])
          have m157 : ∀ b, gvN S b ≤ gvN S155 b := hX.1
          have L_t : ∀ j, some t = some j → j < gvN S155 10 := fun j h => Nat.lt_of_lt_of_le (L_t j h) (m157 _)
          have hm : ∀ b, gvN S b ≤ gvN S155 b := lh_le_trans hm m157
          have ok := lh_W_ok hW
          refine lv_goto (tgt := 268) hx hb dX10_oneLoad_193 (by decide) ?_
          refine lv_goto (tgt := 386) hx hb dX10_oneLoad_268 (by decide) ?_
          obtain ⟨rfl, rfl⟩ := dc_ret hf
          exact W.vret hx hb hr (fun t9 ht9 hW9 => ⟨⟨rfl, ⟨hm, trivial⟩, by rw [ht9]; exact hW⟩, hS.F ht9⟩) hS.2.2 dX10_oneLoad_386
        · replace hf := dc_if_f c153 hf
          refine lv_iload_n hx hb dX10_oneLoad_174 rfl (lv_at hl 3 rfl) ?_
          refine lv_if_ne (tgt := 196) hx hb dX10_oneLoad_175 (by decide) (fun c158 => ?_) (fun c158 => ?_)
          · replace hf := dc_if_f c158 hf
            refine lv_iload hx hb dX10_oneLoad_196 (lv_at hl 0 rfl) ?_
            refine lv_if_eq (tgt := 223) hx hb dX10_oneLoad_198 (by decide) (fun c159 => ?_) (fun c159 => ?_)
            · refine lh_aload_n hx hb dX10_oneLoad_223 rfl (lv_at hl 4 rfl) ?_
              have L160 : ∀ j, gvR S 10 t 13 = some j → j < gvN S 43 := fun j h => ok _ _ _ _ j (L_t _ rfl) rfl h
              refine lh_get (a := 10) (k := 13) (N := 42) (C := RX10) (T := TX10) (own := RX10) (ref := "LoaderModelsModel") hx hb hts (fun _ h => (List.mem_cons_of_mem _ (List.mem_append_right _ h))) hown hK hW rfl (L_t _ rfl) rfl rfl rfl (by decide) (hts (.fieldLink RX10 45 "LoaderModelsModel" "has" "[I") (List.mem_cons_of_mem _ (List.mem_append_left _ (List.mem_append_left _ (List.mem_of_getElem? (i := 10) rfl))))) (fun _ h9 => h9) dX10_oneLoad_224 (v := lh_r ad 43 (gvR S 10 t 13)) rfl ?_
              refine lv_iload hx hb dX10_oneLoad_227 (lv_at hl 1 rfl) ?_
              obtain ⟨x161, hx161, hf⟩ := dc_nn_ok hf
              obtain ⟨g162, hf⟩ := dc_gd_ok hf
              refine lh_ald_i (a := 43) hx hb hK hW hx161 (L160 _ hx161) rfl rfl g162 dX10_oneLoad_229 ?_
              refine lv_if_le (tgt := 258) hx hb dX10_oneLoad_230 (by decide) (fun c163 => ?_) (fun c163 => ?_)
              · replace hf := dc_if_t c163 hf
                refine lh_aload_n hx hb dX10_oneLoad_258 rfl (lv_at hl 4 rfl) ?_
                have L164 : ∀ j, gvR S 10 t 31 = some j → j < gvN S 61 := fun j h => ok _ _ _ _ j (L_t _ rfl) rfl h
                refine lh_get (a := 10) (k := 31) (N := 42) (C := RX10) (T := TX10) (own := RX10) (ref := "LoaderModelsModel") hx hb hts (fun _ h => (List.mem_cons_of_mem _ (List.mem_append_right _ h))) hown hK hW rfl (L_t _ rfl) rfl rfl rfl (by decide) (hts (.fieldLink RX10 91 "LoaderModelsModel" "turn" "[I") (List.mem_cons_of_mem _ (List.mem_append_left _ (List.mem_append_left _ (List.mem_of_getElem? (i := 8) rfl))))) (fun _ h9 => h9) dX10_oneLoad_259 (v := lh_r ad 61 (gvR S 10 t 31)) rfl ?_
                refine lv_iload_n hx hb dX10_oneLoad_262 rfl (lv_at hl 5 rfl) ?_
                refine lv_dup2_11 hx hb dX10_oneLoad_263 rfl lh_cat_r ?_
                obtain ⟨g165, hf⟩ := dc_gd_ok hf
                refine lh_ald_i (a := 61) hx hb hK hW hx151 (L164 _ hx151) rfl rfl g165 dX10_oneLoad_264 ?_
                refine lv_iconst (v := 1) hx hb dX10_oneLoad_265 (by decide) ?_
                refine lv_iadd hx hb dX10_oneLoad_266 ?_
                refine lv_topi (fun v166 hv166 => ?_)
                replace hf := dc_let_e hv166 hf
                obtain ⟨g167, hf⟩ := dc_gd_ok hf
                obtain ⟨S168, eS168, hf⟩ := dc_let_ok hf
                refine lh_ast_i (a := 61) hx hb hK hW hS hx151 (L164 _ hx151) rfl (fun _ => rfl) g167 dX10_oneLoad_267 (fun H locs hW hS => ?_)
                rw [← eS168] at hW
                have m169 : ∀ b, gvN S b ≤ gvN S168 b := by rw [eS168]; exact lh_mI
                have L_t : ∀ j, some t = some j → j < gvN S168 10 := fun j h => Nat.lt_of_lt_of_le (L_t j h) (m169 _)
                have hm : ∀ b, gvN S b ≤ gvN S168 b := lh_le_trans hm m169
                have ok := lh_W_ok hW
                refine lv_goto (tgt := 386) hx hb dX10_oneLoad_268 (by decide) ?_
                obtain ⟨rfl, rfl⟩ := dc_ret hf
                exact W.vret hx hb hr (fun t9 ht9 hW9 => ⟨⟨rfl, ⟨hm, trivial⟩, by rw [ht9]; exact hW⟩, hS.F ht9⟩) hS.2.2 dX10_oneLoad_386
              · replace hf := dc_if_f c163 hf
                refine lh_aload_n hx hb dX10_oneLoad_233 rfl (lv_at hl 4 rfl) ?_
                have L170 : ∀ j, gvR S 10 t 30 = some j → j < gvN S 60 := fun j h => ok _ _ _ _ j (L_t _ rfl) rfl h
                refine lh_get (a := 10) (k := 30) (N := 42) (C := RX10) (T := TX10) (own := RX10) (ref := "LoaderModelsModel") hx hb hts (fun _ h => (List.mem_cons_of_mem _ (List.mem_append_right _ h))) hown hK hW rfl (L_t _ rfl) rfl rfl rfl (by decide) (hts (.fieldLink RX10 88 "LoaderModelsModel" "stage" "[I") (List.mem_cons_of_mem _ (List.mem_append_left _ (List.mem_append_left _ (List.mem_of_getElem? (i := 2) rfl))))) (fun _ h9 => h9) dX10_oneLoad_234 (v := lh_r ad 60 (gvR S 10 t 30)) rfl ?_
                refine lv_iload_n hx hb dX10_oneLoad_237 rfl (lv_at hl 5 rfl) ?_
                refine lv_iconst (v := 3) hx hb dX10_oneLoad_238 (by decide) ?_
                obtain ⟨g171, hf⟩ := dc_gd_ok hf
                obtain ⟨S172, eS172, hf⟩ := dc_let_ok hf
                refine lh_ast_i (a := 60) hx hb hK hW hS hx10 (L170 _ hx10) rfl (fun _ => rfl) g171 dX10_oneLoad_239 (fun H locs hW hS => ?_)
                rw [← eS172] at hW
                have m173 : ∀ b, gvN S b ≤ gvN S172 b := by rw [eS172]; exact lh_mI
                have L_t : ∀ j, some t = some j → j < gvN S172 10 := fun j h => Nat.lt_of_lt_of_le (L_t j h) (m173 _)
                have hm : ∀ b, gvN S b ≤ gvN S172 b := lh_le_trans hm m173
                have ok := lh_W_ok hW
                refine lh_aload_n hx hb dX10_oneLoad_240 rfl (lv_at hl 4 rfl) ?_
                refine lv_iconst (v := 1) hx hb dX10_oneLoad_241 (by decide) ?_
                refine lv_iload_n hx hb dX10_oneLoad_242 rfl (lv_at hl 3 rfl) ?_
                refine lh_aload_n hx hb dX10_oneLoad_243 rfl (lv_at hl 4 rfl) ?_
                have L174 : ∀ j, gvR S172 10 t 13 = some j → j < gvN S172 43 := fun j h => ok _ _ _ _ j (L_t _ rfl) rfl h
                refine lh_get (a := 10) (k := 13) (N := 42) (C := RX10) (T := TX10) (own := RX10) (ref := "LoaderModelsModel") hx hb hts (fun _ h => (List.mem_cons_of_mem _ (List.mem_append_right _ h))) hown hK hW rfl (L_t _ rfl) rfl rfl rfl (by decide) (hts (.fieldLink RX10 45 "LoaderModelsModel" "has" "[I") (List.mem_cons_of_mem _ (List.mem_append_left _ (List.mem_append_left _ (List.mem_of_getElem? (i := 10) rfl))))) (fun _ h9 => h9) dX10_oneLoad_244 (v := lh_r ad 43 (gvR S172 10 t 13)) rfl ?_
                refine lv_iload hx hb dX10_oneLoad_247 (lv_at hl 1 rfl) ?_
                obtain ⟨x175, hx175, hf⟩ := dc_nn_ok hf
                obtain ⟨g176, hf⟩ := dc_gd_ok hf
                refine lh_ald_i (a := 43) hx hb hK hW hx175 (L174 _ hx175) rfl rfl g176 dX10_oneLoad_249 ?_
                refine lv_iconst (v := 1) hx hb dX10_oneLoad_250 (by decide) ?_
                refine lv_isub hx hb dX10_oneLoad_251 ?_
                refine lv_topi (fun v177 hv177 => ?_)
                replace hf := dc_let_e hv177 hf
                obtain ⟨r178, S179, k180, hf⟩ := dc_bd_ok hf
                refine lh_call (S' := S179) (lh_rv ⟨hx, hb, hml, hown, hts⟩ rfl (As := [.int (1 : Int32), .int (gvI S 58 x2 (p1).toNatClampNeg), .int v177]) (rest := []) (k := 10) (c_X10_push l D cT n S172 ad A H.size (fun q9 h9 => hA q9 (Nat.le_trans hS.1 h9)) t (1 : Int32) (gvI S 58 x2 (p1).toNatClampNeg) v177 r178 S179 k180 L_t) (cwV 3 hts gX10_oneLoad_X10_push rfl rfl rfl (by decide +kernel) ⟨Nat.le_of_ble_eq_true rfl, Nat.le_of_ble_eq_true rfl⟩) hK hN hW (L_t _ rfl) rfl rfl rfl hl.1 rfl (by simp [lh_cat_r, lh_cat_i, lh_cat_j]) dX10_oneLoad_252 ⟨Nat.le_of_ble_eq_true rfl, Nat.le_of_ble_eq_true rfl⟩) hS (fun H locs hX hW hS => ?_)
                refine W.widen (k := 0) (n := 0) (by omega) (by omega) ?_
                show W _ _ _ _ _ _ _ _ _ _ _ _ _ _ _ (F0 m 255 ls [])
                have m181 : ∀ b, gvN S172 b ≤ gvN S179 b := hX.1
                have L_t : ∀ j, some t = some j → j < gvN S179 10 := fun j h => Nat.lt_of_lt_of_le (L_t j h) (m181 _)
                have hm : ∀ b, gvN S b ≤ gvN S179 b := lh_le_trans hm m181
                have ok := lh_W_ok hW
                refine lv_goto (tgt := 268) hx hb dX10_oneLoad_255 (by decide) ?_
                refine lv_goto (tgt := 386) hx hb dX10_oneLoad_268 (by decide) ?_
                obtain ⟨rfl, rfl⟩ := dc_ret hf
                exact W.vret hx hb hr (fun t9 ht9 hW9 => ⟨⟨rfl, ⟨hm, trivial⟩, by rw [ht9]; exact hW⟩, hS.F ht9⟩) hS.2.2 dX10_oneLoad_386
            · exact absurd c159 (by decide)
          · replace hf := dc_if_t c158 hf
            refine lh_aload_n hx hb dX10_oneLoad_178 rfl (lv_at hl 4 rfl) ?_
            have L182 : ∀ j, gvR S 10 t 31 = some j → j < gvN S 61 := fun j h => ok _ _ _ _ j (L_t _ rfl) rfl h
            refine lh_get (a := 10) (k := 31) (N := 42) (C := RX10) (T := TX10) (own := RX10) (ref := "LoaderModelsModel") hx hb hts (fun _ h => (List.mem_cons_of_mem _ (List.mem_append_right _ h))) hown hK hW rfl (L_t _ rfl) rfl rfl rfl (by decide) (hts (.fieldLink RX10 91 "LoaderModelsModel" "turn" "[I") (List.mem_cons_of_mem _ (List.mem_append_left _ (List.mem_append_left _ (List.mem_of_getElem? (i := 8) rfl))))) (fun _ h9 => h9) dX10_oneLoad_179 (v := lh_r ad 61 (gvR S 10 t 31)) rfl ?_
            refine lv_iload_n hx hb dX10_oneLoad_182 rfl (lv_at hl 5 rfl) ?_
            obtain ⟨g183, hf⟩ := dc_gd_ok hf
            refine lh_ald_i (a := 61) hx hb hK hW hx151 (L182 _ hx151) rfl rfl g183 dX10_oneLoad_183 ?_
            refine lv_iconst (v := 1) hx hb dX10_oneLoad_184 (by decide) ?_
            refine lv_icmp_ne (tgt := 196) hx hb dX10_oneLoad_185 (by decide) (fun c184 => ?_) (fun c184 => ?_)
            · replace hf := dc_if_f c184 hf
              refine lv_iload hx hb dX10_oneLoad_196 (lv_at hl 0 rfl) ?_
              refine lv_if_eq (tgt := 223) hx hb dX10_oneLoad_198 (by decide) (fun c185 => ?_) (fun c185 => ?_)
              · refine lh_aload_n hx hb dX10_oneLoad_223 rfl (lv_at hl 4 rfl) ?_
                have L186 : ∀ j, gvR S 10 t 13 = some j → j < gvN S 43 := fun j h => ok _ _ _ _ j (L_t _ rfl) rfl h
                refine lh_get (a := 10) (k := 13) (N := 42) (C := RX10) (T := TX10) (own := RX10) (ref := "LoaderModelsModel") hx hb hts (fun _ h => (List.mem_cons_of_mem _ (List.mem_append_right _ h))) hown hK hW rfl (L_t _ rfl) rfl rfl rfl (by decide) (hts (.fieldLink RX10 45 "LoaderModelsModel" "has" "[I") (List.mem_cons_of_mem _ (List.mem_append_left _ (List.mem_append_left _ (List.mem_of_getElem? (i := 10) rfl))))) (fun _ h9 => h9) dX10_oneLoad_224 (v := lh_r ad 43 (gvR S 10 t 13)) rfl ?_
                refine lv_iload hx hb dX10_oneLoad_227 (lv_at hl 1 rfl) ?_
                obtain ⟨x187, hx187, hf⟩ := dc_nn_ok hf
                obtain ⟨g188, hf⟩ := dc_gd_ok hf
                refine lh_ald_i (a := 43) hx hb hK hW hx187 (L186 _ hx187) rfl rfl g188 dX10_oneLoad_229 ?_
                refine lv_if_le (tgt := 258) hx hb dX10_oneLoad_230 (by decide) (fun c189 => ?_) (fun c189 => ?_)
                · replace hf := dc_if_t c189 hf
                  refine lh_aload_n hx hb dX10_oneLoad_258 rfl (lv_at hl 4 rfl) ?_
                  have L190 : ∀ j, gvR S 10 t 31 = some j → j < gvN S 61 := fun j h => ok _ _ _ _ j (L_t _ rfl) rfl h
                  refine lh_get (a := 10) (k := 31) (N := 42) (C := RX10) (T := TX10) (own := RX10) (ref := "LoaderModelsModel") hx hb hts (fun _ h => (List.mem_cons_of_mem _ (List.mem_append_right _ h))) hown hK hW rfl (L_t _ rfl) rfl rfl rfl (by decide) (hts (.fieldLink RX10 91 "LoaderModelsModel" "turn" "[I") (List.mem_cons_of_mem _ (List.mem_append_left _ (List.mem_append_left _ (List.mem_of_getElem? (i := 8) rfl))))) (fun _ h9 => h9) dX10_oneLoad_259 (v := lh_r ad 61 (gvR S 10 t 31)) rfl ?_
                  refine lv_iload_n hx hb dX10_oneLoad_262 rfl (lv_at hl 5 rfl) ?_
                  refine lv_dup2_11 hx hb dX10_oneLoad_263 rfl lh_cat_r ?_
                  obtain ⟨g191, hf⟩ := dc_gd_ok hf
                  refine lh_ald_i (a := 61) hx hb hK hW hx151 (L190 _ hx151) rfl rfl g191 dX10_oneLoad_264 ?_
                  refine lv_iconst (v := 1) hx hb dX10_oneLoad_265 (by decide) ?_
                  refine lv_iadd hx hb dX10_oneLoad_266 ?_
                  refine lv_topi (fun v192 hv192 => ?_)
                  replace hf := dc_let_e hv192 hf
                  obtain ⟨g193, hf⟩ := dc_gd_ok hf
                  obtain ⟨S194, eS194, hf⟩ := dc_let_ok hf
                  refine lh_ast_i (a := 61) hx hb hK hW hS hx151 (L190 _ hx151) rfl (fun _ => rfl) g193 dX10_oneLoad_267 (fun H locs hW hS => ?_)
                  rw [← eS194] at hW
                  have m195 : ∀ b, gvN S b ≤ gvN S194 b := by rw [eS194]; exact lh_mI
                  have L_t : ∀ j, some t = some j → j < gvN S194 10 := fun j h => Nat.lt_of_lt_of_le (L_t j h) (m195 _)
                  have hm : ∀ b, gvN S b ≤ gvN S194 b := lh_le_trans hm m195
                  have ok := lh_W_ok hW
                  refine lv_goto (tgt := 386) hx hb dX10_oneLoad_268 (by decide) ?_
                  obtain ⟨rfl, rfl⟩ := dc_ret hf
                  exact W.vret hx hb hr (fun t9 ht9 hW9 => ⟨⟨rfl, ⟨hm, trivial⟩, by rw [ht9]; exact hW⟩, hS.F ht9⟩) hS.2.2 dX10_oneLoad_386
                · replace hf := dc_if_f c189 hf
                  refine lh_aload_n hx hb dX10_oneLoad_233 rfl (lv_at hl 4 rfl) ?_
                  have L196 : ∀ j, gvR S 10 t 30 = some j → j < gvN S 60 := fun j h => ok _ _ _ _ j (L_t _ rfl) rfl h
                  refine lh_get (a := 10) (k := 30) (N := 42) (C := RX10) (T := TX10) (own := RX10) (ref := "LoaderModelsModel") hx hb hts (fun _ h => (List.mem_cons_of_mem _ (List.mem_append_right _ h))) hown hK hW rfl (L_t _ rfl) rfl rfl rfl (by decide) (hts (.fieldLink RX10 88 "LoaderModelsModel" "stage" "[I") (List.mem_cons_of_mem _ (List.mem_append_left _ (List.mem_append_left _ (List.mem_of_getElem? (i := 2) rfl))))) (fun _ h9 => h9) dX10_oneLoad_234 (v := lh_r ad 60 (gvR S 10 t 30)) rfl ?_
                  refine lv_iload_n hx hb dX10_oneLoad_237 rfl (lv_at hl 5 rfl) ?_
                  refine lv_iconst (v := 3) hx hb dX10_oneLoad_238 (by decide) ?_
                  obtain ⟨g197, hf⟩ := dc_gd_ok hf
                  obtain ⟨S198, eS198, hf⟩ := dc_let_ok hf
                  refine lh_ast_i (a := 60) hx hb hK hW hS hx10 (L196 _ hx10) rfl (fun _ => rfl) g197 dX10_oneLoad_239 (fun H locs hW hS => ?_)
                  rw [← eS198] at hW
                  have m199 : ∀ b, gvN S b ≤ gvN S198 b := by rw [eS198]; exact lh_mI
                  have L_t : ∀ j, some t = some j → j < gvN S198 10 := fun j h => Nat.lt_of_lt_of_le (L_t j h) (m199 _)
                  have hm : ∀ b, gvN S b ≤ gvN S198 b := lh_le_trans hm m199
                  have ok := lh_W_ok hW
                  refine lh_aload_n hx hb dX10_oneLoad_240 rfl (lv_at hl 4 rfl) ?_
                  refine lv_iconst (v := 1) hx hb dX10_oneLoad_241 (by decide) ?_
                  refine lv_iload_n hx hb dX10_oneLoad_242 rfl (lv_at hl 3 rfl) ?_
                  refine lh_aload_n hx hb dX10_oneLoad_243 rfl (lv_at hl 4 rfl) ?_
                  have L200 : ∀ j, gvR S198 10 t 13 = some j → j < gvN S198 43 := fun j h => ok _ _ _ _ j (L_t _ rfl) rfl h
                  refine lh_get (a := 10) (k := 13) (N := 42) (C := RX10) (T := TX10) (own := RX10) (ref := "LoaderModelsModel") hx hb hts (fun _ h => (List.mem_cons_of_mem _ (List.mem_append_right _ h))) hown hK hW rfl (L_t _ rfl) rfl rfl rfl (by decide) (hts (.fieldLink RX10 45 "LoaderModelsModel" "has" "[I") (List.mem_cons_of_mem _ (List.mem_append_left _ (List.mem_append_left _ (List.mem_of_getElem? (i := 10) rfl))))) (fun _ h9 => h9) dX10_oneLoad_244 (v := lh_r ad 43 (gvR S198 10 t 13)) rfl ?_
                  refine lv_iload hx hb dX10_oneLoad_247 (lv_at hl 1 rfl) ?_
                  obtain ⟨x201, hx201, hf⟩ := dc_nn_ok hf
                  obtain ⟨g202, hf⟩ := dc_gd_ok hf
                  refine lh_ald_i (a := 43) hx hb hK hW hx201 (L200 _ hx201) rfl rfl g202 dX10_oneLoad_249 ?_
                  refine lv_iconst (v := 1) hx hb dX10_oneLoad_250 (by decide) ?_
                  refine lv_isub hx hb dX10_oneLoad_251 ?_
                  refine lv_topi (fun v203 hv203 => ?_)
                  replace hf := dc_let_e hv203 hf
                  obtain ⟨r204, S205, k206, hf⟩ := dc_bd_ok hf
                  refine lh_call (S' := S205) (lh_rv ⟨hx, hb, hml, hown, hts⟩ rfl (As := [.int (1 : Int32), .int (gvI S 58 x2 (p1).toNatClampNeg), .int v203]) (rest := []) (k := 10) (c_X10_push l D cT n S198 ad A H.size (fun q9 h9 => hA q9 (Nat.le_trans hS.1 h9)) t (1 : Int32) (gvI S 58 x2 (p1).toNatClampNeg) v203 r204 S205 k206 L_t) (cwV 3 hts gX10_oneLoad_X10_push rfl rfl rfl (by decide +kernel) ⟨Nat.le_of_ble_eq_true rfl, Nat.le_of_ble_eq_true rfl⟩) hK hN hW (L_t _ rfl) rfl rfl rfl hl.1 rfl (by simp [lh_cat_r, lh_cat_i, lh_cat_j]) dX10_oneLoad_252 ⟨Nat.le_of_ble_eq_true rfl, Nat.le_of_ble_eq_true rfl⟩) hS (fun H locs hX hW hS => ?_)
                  refine W.widen (k := 0) (n := 0) (by omega) (by omega) ?_
                  show W _ _ _ _ _ _ _ _ _ _ _ _ _ _ _ (F0 m 255 ls [])
                  have m207 : ∀ b, gvN S198 b ≤ gvN S205 b := hX.1
                  have L_t : ∀ j, some t = some j → j < gvN S205 10 := fun j h => Nat.lt_of_lt_of_le (L_t j h) (m207 _)
                  have hm : ∀ b, gvN S b ≤ gvN S205 b := lh_le_trans hm m207
                  have ok := lh_W_ok hW
                  refine lv_goto (tgt := 268) hx hb dX10_oneLoad_255 (by decide) ?_
                  refine lv_goto (tgt := 386) hx hb dX10_oneLoad_268 (by decide) ?_
                  obtain ⟨rfl, rfl⟩ := dc_ret hf
                  exact W.vret hx hb hr (fun t9 ht9 hW9 => ⟨⟨rfl, ⟨hm, trivial⟩, by rw [ht9]; exact hW⟩, hS.F ht9⟩) hS.2.2 dX10_oneLoad_386
              · exact absurd c185 (by decide)
            · replace hf := dc_if_t c184 hf
              refine lh_aload_n hx hb dX10_oneLoad_188 rfl (lv_at hl 4 rfl) ?_
              refine lv_iconst (v := 1) hx hb dX10_oneLoad_189 (by decide) ?_
              obtain ⟨r208, S209, k210, hf⟩ := dc_bd_ok hf
              refine lh_call (S' := S209) (lh_rv ⟨hx, hb, hml, hown, hts⟩ rfl (As := [.int (1 : Int32)]) (rest := []) (k := 10) (c_X10_ends l D cT n S ad A H.size (fun q9 h9 => hA q9 (Nat.le_trans hS.1 h9)) t (1 : Int32) r208 S209 k210 L_t) (cwV 1 hts gX10_oneLoad_X10_ends rfl rfl rfl (by decide +kernel) ⟨Nat.le_of_ble_eq_true rfl, Nat.le_of_ble_eq_true rfl⟩) hK hN hW (L_t _ rfl) rfl rfl rfl hl.1 rfl (by simp [lh_cat_r, lh_cat_i, lh_cat_j]) dX10_oneLoad_190 ⟨Nat.le_of_ble_eq_true rfl, Nat.le_of_ble_eq_true rfl⟩) hS (fun H locs hX hW hS => ?_)
              refine W.widen (k := 0) (n := 0) (by omega) (by omega) ?_
              show W _ _ _ _ _ _ _ _ _ _ _ _ _ _ _ (F0 m 193 ls [])
              have m211 : ∀ b, gvN S b ≤ gvN S209 b := hX.1
              have L_t : ∀ j, some t = some j → j < gvN S209 10 := fun j h => Nat.lt_of_lt_of_le (L_t j h) (m211 _)
              have hm : ∀ b, gvN S b ≤ gvN S209 b := lh_le_trans hm m211
              have ok := lh_W_ok hW
              refine lv_goto (tgt := 268) hx hb dX10_oneLoad_193 (by decide) ?_
              refine lv_goto (tgt := 386) hx hb dX10_oneLoad_268 (by decide) ?_
              obtain ⟨rfl, rfl⟩ := dc_ret hf
              exact W.vret hx hb hr (fun t9 ht9 hW9 => ⟨⟨rfl, ⟨hm, trivial⟩, by rw [ht9]; exact hW⟩, hS.F ht9⟩) hS.2.2 dX10_oneLoad_386
      · replace hf := dc_if_f c149 hf
        refine lv_iload_n hx hb dX10_oneLoad_125 rfl (lv_at hl 1 rfl) ?_
        refine lh_aload_n hx hb dX10_oneLoad_126 rfl (lv_at hl 3 rfl) ?_
        have L212 : ∀ j, gvR S 10 t 12 = some j → j < gvN S 42 := fun j h => ok _ _ _ _ j (L_t _ rfl) rfl h
        refine lh_get (a := 10) (k := 12) (N := 42) (C := RX10) (T := TX10) (own := RX10) (ref := "LoaderModelsModel") hx hb hts (fun _ h => (List.mem_cons_of_mem _ (List.mem_append_right _ h))) hown hK hW rfl (L_t _ rfl) rfl rfl rfl (by decide) (hts (.fieldLink RX10 42 "LoaderModelsModel" "bound" "[I") (List.mem_cons_of_mem _ (List.mem_append_left _ (List.mem_append_left _ (List.mem_of_getElem? (i := 7) rfl))))) (fun _ h9 => h9) dX10_oneLoad_127 (v := lh_r ad 42 (gvR S 10 t 12)) rfl ?_
        refine lv_iload_n hx hb dX10_oneLoad_130 rfl (lv_at hl 2 rfl) ?_
        obtain ⟨x213, hx213, hf⟩ := dc_nn_ok hf
        obtain ⟨g214, hf⟩ := dc_gd_ok hf
        refine lh_ald_i (a := 42) hx hb hK hW hx213 (L212 _ hx213) rfl rfl g214 dX10_oneLoad_131 ?_
        refine lv_icmp_ge (tgt := 139) hx hb dX10_oneLoad_132 (by decide) (fun c215 => ?_) (fun c215 => ?_)
        · replace hf := dc_if_t c215 hf
          refine lv_iconst (v := 0) hx hb dX10_oneLoad_139 (by decide) ?_
          refine lh_aload_n hx hb dX10_oneLoad_140 rfl (lv_at hl 3 rfl) ?_
          have L216 : ∀ j, gvR S 10 t 31 = some j → j < gvN S 61 := fun j h => ok _ _ _ _ j (L_t _ rfl) rfl h
          refine lh_get (a := 10) (k := 31) (N := 42) (C := RX10) (T := TX10) (own := RX10) (ref := "LoaderModelsModel") hx hb hts (fun _ h => (List.mem_cons_of_mem _ (List.mem_append_right _ h))) hown hK hW rfl (L_t _ rfl) rfl rfl rfl (by decide) (hts (.fieldLink RX10 91 "LoaderModelsModel" "turn" "[I") (List.mem_cons_of_mem _ (List.mem_append_left _ (List.mem_append_left _ (List.mem_of_getElem? (i := 8) rfl))))) (fun _ h9 => h9) dX10_oneLoad_141 (v := lh_r ad 61 (gvR S 10 t 31)) rfl ?_
          refine lv_iload_n hx hb dX10_oneLoad_144 rfl (lv_at hl 4 rfl) ?_
          obtain ⟨x217, hx217, hf⟩ := dc_nn_ok hf
          obtain ⟨g218, hf⟩ := dc_gd_ok hf
          refine lh_ald_i (a := 61) hx hb hK hW hx217 (L216 _ hx217) rfl rfl g218 dX10_oneLoad_145 ?_
          refine lv_if_ne (tgt := 153) hx hb dX10_oneLoad_146 (by decide) (fun c219 => ?_) (fun c219 => ?_)
          · replace hf := dc_if_f c219 hf
            refine lv_iconst (v := 0) hx hb dX10_oneLoad_153 (by decide) ?_
            refine lv_icmp_ne (tgt := 161) hx hb dX10_oneLoad_154 (by decide) (fun c220 => ?_) (fun c220 => ?_)
            · exact absurd c220 (by decide)
            · refine lv_iconst (v := 1) hx hb dX10_oneLoad_157 (by decide) ?_
              refine lv_goto (tgt := 162) hx hb dX10_oneLoad_158 (by decide) ?_
              refine lv_istore (i := 5) (lv' := [(5, .int (1 : Int32)), (4, .int v8), (3, .int (gvI S 59 x5 (p1).toNatClampNeg)), (2, .int (gvI S 58 x2 (p1).toNatClampNeg)), (0, lh_r ad 10 (some t)), (1, .int p1)]) hx hb dX10_oneLoad_162 hl (by decide) (by first | rfl | simp [lh_cat_r, lh_cat_i, lh_cat_j]) (fun ls hl => ?_)
              refine lh_aload_n hx hb dX10_oneLoad_164 rfl (lv_at hl 4 rfl) ?_
              have L221 : ∀ j, gvR S 10 t 31 = some j → j < gvN S 61 := fun j h => ok _ _ _ _ j (L_t _ rfl) rfl h
              refine lh_get (a := 10) (k := 31) (N := 42) (C := RX10) (T := TX10) (own := RX10) (ref := "LoaderModelsModel") hx hb hts (fun _ h => (List.mem_cons_of_mem _ (List.mem_append_right _ h))) hown hK hW rfl (L_t _ rfl) rfl rfl rfl (by decide) (hts (.fieldLink RX10 91 "LoaderModelsModel" "turn" "[I") (List.mem_cons_of_mem _ (List.mem_append_left _ (List.mem_append_left _ (List.mem_of_getElem? (i := 8) rfl))))) (fun _ h9 => h9) dX10_oneLoad_165 (v := lh_r ad 61 (gvR S 10 t 31)) rfl ?_
              refine lv_iload_n hx hb dX10_oneLoad_168 rfl (lv_at hl 5 rfl) ?_
              obtain ⟨g222, hf⟩ := dc_gd_ok hf
              refine lh_ald_i (a := 61) hx hb hK hW hx217 (L221 _ hx217) rfl rfl g222 dX10_oneLoad_169 ?_
              refine lv_iconst (v := 2) hx hb dX10_oneLoad_170 (by decide) ?_
              refine lv_icmp_eq (tgt := 188) hx hb dX10_oneLoad_171 (by decide) (fun c223 => ?_) (fun c223 => ?_)
              · replace hf := dc_if_t c223 hf
                refine lh_aload_n hx hb dX10_oneLoad_188 rfl (lv_at hl 4 rfl) ?_
                refine lv_iconst (v := 1) hx hb dX10_oneLoad_189 (by decide) ?_
                obtain ⟨r224, S225, k226, hf⟩ := dc_bd_ok hf
                refine lh_call (S' := S225) (lh_rv ⟨hx, hb, hml, hown, hts⟩ rfl (As := [.int (1 : Int32)]) (rest := []) (k := 10) (c_X10_ends l D cT n S ad A H.size (fun q9 h9 => hA q9 (Nat.le_trans hS.1 h9)) t (1 : Int32) r224 S225 k226 L_t) (cwV 1 hts gX10_oneLoad_X10_ends rfl rfl rfl (by decide +kernel) ⟨Nat.le_of_ble_eq_true rfl, Nat.le_of_ble_eq_true rfl⟩) hK hN hW (L_t _ rfl) rfl rfl rfl hl.1 rfl (by simp [lh_cat_r, lh_cat_i, lh_cat_j]) dX10_oneLoad_190 ⟨Nat.le_of_ble_eq_true rfl, Nat.le_of_ble_eq_true rfl⟩) hS (fun H locs hX hW hS => ?_)
                refine W.widen (k := 0) (n := 0) (by omega) (by omega) ?_
                show W _ _ _ _ _ _ _ _ _ _ _ _ _ _ _ (F0 m 193 ls [])
                have m227 : ∀ b, gvN S b ≤ gvN S225 b := hX.1
                have L_t : ∀ j, some t = some j → j < gvN S225 10 := fun j h => Nat.lt_of_lt_of_le (L_t j h) (m227 _)
                have hm : ∀ b, gvN S b ≤ gvN S225 b := lh_le_trans hm m227
                have ok := lh_W_ok hW
                refine lv_goto (tgt := 268) hx hb dX10_oneLoad_193 (by decide) ?_
                refine lv_goto (tgt := 386) hx hb dX10_oneLoad_268 (by decide) ?_
                obtain ⟨rfl, rfl⟩ := dc_ret hf
                exact W.vret hx hb hr (fun t9 ht9 hW9 => ⟨⟨rfl, ⟨hm, trivial⟩, by rw [ht9]; exact hW⟩, hS.F ht9⟩) hS.2.2 dX10_oneLoad_386
              · replace hf := dc_if_f c223 hf
                refine lv_iload_n hx hb dX10_oneLoad_174 rfl (lv_at hl 3 rfl) ?_
                refine lv_if_ne (tgt := 196) hx hb dX10_oneLoad_175 (by decide) (fun c228 => ?_) (fun c228 => ?_)
                · replace hf := dc_if_f c228 hf
                  refine lv_iload hx hb dX10_oneLoad_196 (lv_at hl 0 rfl) ?_
                  refine lv_if_eq (tgt := 223) hx hb dX10_oneLoad_198 (by decide) (fun c229 => ?_) (fun c229 => ?_)
                  · exact absurd c229 (by decide)
                  · refine lh_aload_n hx hb dX10_oneLoad_201 rfl (lv_at hl 4 rfl) ?_
                    have L230 : ∀ j, gvR S 10 t 30 = some j → j < gvN S 60 := fun j h => ok _ _ _ _ j (L_t _ rfl) rfl h
                    refine lh_get (a := 10) (k := 30) (N := 42) (C := RX10) (T := TX10) (own := RX10) (ref := "LoaderModelsModel") hx hb hts (fun _ h => (List.mem_cons_of_mem _ (List.mem_append_right _ h))) hown hK hW rfl (L_t _ rfl) rfl rfl rfl (by decide) (hts (.fieldLink RX10 88 "LoaderModelsModel" "stage" "[I") (List.mem_cons_of_mem _ (List.mem_append_left _ (List.mem_append_left _ (List.mem_of_getElem? (i := 2) rfl))))) (fun _ h9 => h9) dX10_oneLoad_202 (v := lh_r ad 60 (gvR S 10 t 30)) rfl ?_
                    refine lv_iload_n hx hb dX10_oneLoad_205 rfl (lv_at hl 5 rfl) ?_
                    refine lv_iconst (v := 2) hx hb dX10_oneLoad_206 (by decide) ?_
                    obtain ⟨g231, hf⟩ := dc_gd_ok hf
                    obtain ⟨S232, eS232, hf⟩ := dc_let_ok hf
                    refine lh_ast_i (a := 60) hx hb hK hW hS hx10 (L230 _ hx10) rfl (fun _ => rfl) g231 dX10_oneLoad_207 (fun H locs hW hS => ?_)
                    rw [← eS232] at hW
                    have m233 : ∀ b, gvN S b ≤ gvN S232 b := by rw [eS232]; exact lh_mI
                    have L_t : ∀ j, some t = some j → j < gvN S232 10 := fun j h => Nat.lt_of_lt_of_le (L_t j h) (m233 _)
                    have hm : ∀ b, gvN S b ≤ gvN S232 b := lh_le_trans hm m233
                    have ok := lh_W_ok hW
                    refine lh_aload_n hx hb dX10_oneLoad_208 rfl (lv_at hl 4 rfl) ?_
                    refine lv_iconst (v := 0) hx hb dX10_oneLoad_209 (by decide) ?_
                    refine lh_aload_n hx hb dX10_oneLoad_210 rfl (lv_at hl 4 rfl) ?_
                    have L234 : ∀ j, gvR S232 10 t 11 = some j → j < gvN S232 41 := fun j h => ok _ _ _ _ j (L_t _ rfl) rfl h
                    refine lh_get (a := 10) (k := 11) (N := 42) (C := RX10) (T := TX10) (own := RX10) (ref := "LoaderModelsModel") hx hb hts (fun _ h => (List.mem_cons_of_mem _ (List.mem_append_right _ h))) hown hK hW rfl (L_t _ rfl) rfl rfl rfl (by decide) (hts (.fieldLink RX10 39 "LoaderModelsModel" "parent" "[I") (List.mem_cons_of_mem _ (List.mem_append_left _ (List.mem_append_left _ (List.mem_of_getElem? (i := 9) rfl))))) (fun _ h9 => h9) dX10_oneLoad_211 (v := lh_r ad 41 (gvR S232 10 t 11)) rfl ?_
                    refine lv_iload_n hx hb dX10_oneLoad_214 rfl (lv_at hl 3 rfl) ?_
                    obtain ⟨x235, hx235, hf⟩ := dc_nn_ok hf
                    obtain ⟨g236, hf⟩ := dc_gd_ok hf
                    refine lh_ald_i (a := 41) hx hb hK hW hx235 (L234 _ hx235) rfl rfl g236 dX10_oneLoad_215 ?_
                    refine lv_iload_n hx hb dX10_oneLoad_216 rfl (lv_at hl 2 rfl) ?_
                    obtain ⟨r237, S238, k239, hf⟩ := dc_bd_ok hf
                    refine lh_call (S' := S238) (lh_rv ⟨hx, hb, hml, hown, hts⟩ rfl (As := [.int (0 : Int32), .int (gvI S232 41 x235 ((gvI S 58 x2 (p1).toNatClampNeg)).toNatClampNeg), .int (gvI S 59 x5 (p1).toNatClampNeg)]) (rest := []) (k := 10) (c_X10_push l D cT n S232 ad A H.size (fun q9 h9 => hA q9 (Nat.le_trans hS.1 h9)) t (0 : Int32) (gvI S232 41 x235 ((gvI S 58 x2 (p1).toNatClampNeg)).toNatClampNeg) (gvI S 59 x5 (p1).toNatClampNeg) r237 S238 k239 L_t) (cwV 3 hts gX10_oneLoad_X10_push rfl rfl rfl (by decide +kernel) ⟨Nat.le_of_ble_eq_true rfl, Nat.le_of_ble_eq_true rfl⟩) hK hN hW (L_t _ rfl) rfl rfl rfl hl.1 rfl (by simp [lh_cat_r, lh_cat_i, lh_cat_j]) dX10_oneLoad_217 ⟨Nat.le_of_ble_eq_true rfl, Nat.le_of_ble_eq_true rfl⟩) hS (fun H locs hX hW hS => ?_)
                    refine W.widen (k := 0) (n := 0) (by omega) (by omega) ?_
                    show W _ _ _ _ _ _ _ _ _ _ _ _ _ _ _ (F0 m 220 ls [])
                    have m240 : ∀ b, gvN S232 b ≤ gvN S238 b := hX.1
                    have L_t : ∀ j, some t = some j → j < gvN S238 10 := fun j h => Nat.lt_of_lt_of_le (L_t j h) (m240 _)
                    have hm : ∀ b, gvN S b ≤ gvN S238 b := lh_le_trans hm m240
                    have ok := lh_W_ok hW
                    refine lv_goto (tgt := 268) hx hb dX10_oneLoad_220 (by decide) ?_
                    refine lv_goto (tgt := 386) hx hb dX10_oneLoad_268 (by decide) ?_
                    obtain ⟨rfl, rfl⟩ := dc_ret hf
                    exact W.vret hx hb hr (fun t9 ht9 hW9 => ⟨⟨rfl, ⟨hm, trivial⟩, by rw [ht9]; exact hW⟩, hS.F ht9⟩) hS.2.2 dX10_oneLoad_386
                · replace hf := dc_if_t c228 hf
                  refine lh_aload_n hx hb dX10_oneLoad_178 rfl (lv_at hl 4 rfl) ?_
                  have L241 : ∀ j, gvR S 10 t 31 = some j → j < gvN S 61 := fun j h => ok _ _ _ _ j (L_t _ rfl) rfl h
                  refine lh_get (a := 10) (k := 31) (N := 42) (C := RX10) (T := TX10) (own := RX10) (ref := "LoaderModelsModel") hx hb hts (fun _ h => (List.mem_cons_of_mem _ (List.mem_append_right _ h))) hown hK hW rfl (L_t _ rfl) rfl rfl rfl (by decide) (hts (.fieldLink RX10 91 "LoaderModelsModel" "turn" "[I") (List.mem_cons_of_mem _ (List.mem_append_left _ (List.mem_append_left _ (List.mem_of_getElem? (i := 8) rfl))))) (fun _ h9 => h9) dX10_oneLoad_179 (v := lh_r ad 61 (gvR S 10 t 31)) rfl ?_
                  refine lv_iload_n hx hb dX10_oneLoad_182 rfl (lv_at hl 5 rfl) ?_
                  obtain ⟨g242, hf⟩ := dc_gd_ok hf
                  refine lh_ald_i (a := 61) hx hb hK hW hx217 (L241 _ hx217) rfl rfl g242 dX10_oneLoad_183 ?_
                  refine lv_iconst (v := 1) hx hb dX10_oneLoad_184 (by decide) ?_
                  refine lv_icmp_ne (tgt := 196) hx hb dX10_oneLoad_185 (by decide) (fun c243 => ?_) (fun c243 => ?_)
                  · replace hf := dc_if_f c243 hf
                    refine lv_iload hx hb dX10_oneLoad_196 (lv_at hl 0 rfl) ?_
                    refine lv_if_eq (tgt := 223) hx hb dX10_oneLoad_198 (by decide) (fun c244 => ?_) (fun c244 => ?_)
                    · exact absurd c244 (by decide)
                    · refine lh_aload_n hx hb dX10_oneLoad_201 rfl (lv_at hl 4 rfl) ?_
                      have L245 : ∀ j, gvR S 10 t 30 = some j → j < gvN S 60 := fun j h => ok _ _ _ _ j (L_t _ rfl) rfl h
                      refine lh_get (a := 10) (k := 30) (N := 42) (C := RX10) (T := TX10) (own := RX10) (ref := "LoaderModelsModel") hx hb hts (fun _ h => (List.mem_cons_of_mem _ (List.mem_append_right _ h))) hown hK hW rfl (L_t _ rfl) rfl rfl rfl (by decide) (hts (.fieldLink RX10 88 "LoaderModelsModel" "stage" "[I") (List.mem_cons_of_mem _ (List.mem_append_left _ (List.mem_append_left _ (List.mem_of_getElem? (i := 2) rfl))))) (fun _ h9 => h9) dX10_oneLoad_202 (v := lh_r ad 60 (gvR S 10 t 30)) rfl ?_
                      refine lv_iload_n hx hb dX10_oneLoad_205 rfl (lv_at hl 5 rfl) ?_
                      refine lv_iconst (v := 2) hx hb dX10_oneLoad_206 (by decide) ?_
                      obtain ⟨g246, hf⟩ := dc_gd_ok hf
                      obtain ⟨S247, eS247, hf⟩ := dc_let_ok hf
                      refine lh_ast_i (a := 60) hx hb hK hW hS hx10 (L245 _ hx10) rfl (fun _ => rfl) g246 dX10_oneLoad_207 (fun H locs hW hS => ?_)
                      rw [← eS247] at hW
                      have m248 : ∀ b, gvN S b ≤ gvN S247 b := by rw [eS247]; exact lh_mI
                      have L_t : ∀ j, some t = some j → j < gvN S247 10 := fun j h => Nat.lt_of_lt_of_le (L_t j h) (m248 _)
                      have hm : ∀ b, gvN S b ≤ gvN S247 b := lh_le_trans hm m248
                      have ok := lh_W_ok hW
                      refine lh_aload_n hx hb dX10_oneLoad_208 rfl (lv_at hl 4 rfl) ?_
                      refine lv_iconst (v := 0) hx hb dX10_oneLoad_209 (by decide) ?_
                      refine lh_aload_n hx hb dX10_oneLoad_210 rfl (lv_at hl 4 rfl) ?_
                      have L249 : ∀ j, gvR S247 10 t 11 = some j → j < gvN S247 41 := fun j h => ok _ _ _ _ j (L_t _ rfl) rfl h
                      refine lh_get (a := 10) (k := 11) (N := 42) (C := RX10) (T := TX10) (own := RX10) (ref := "LoaderModelsModel") hx hb hts (fun _ h => (List.mem_cons_of_mem _ (List.mem_append_right _ h))) hown hK hW rfl (L_t _ rfl) rfl rfl rfl (by decide) (hts (.fieldLink RX10 39 "LoaderModelsModel" "parent" "[I") (List.mem_cons_of_mem _ (List.mem_append_left _ (List.mem_append_left _ (List.mem_of_getElem? (i := 9) rfl))))) (fun _ h9 => h9) dX10_oneLoad_211 (v := lh_r ad 41 (gvR S247 10 t 11)) rfl ?_
                      refine lv_iload_n hx hb dX10_oneLoad_214 rfl (lv_at hl 3 rfl) ?_
                      obtain ⟨x250, hx250, hf⟩ := dc_nn_ok hf
                      obtain ⟨g251, hf⟩ := dc_gd_ok hf
                      refine lh_ald_i (a := 41) hx hb hK hW hx250 (L249 _ hx250) rfl rfl g251 dX10_oneLoad_215 ?_
                      refine lv_iload_n hx hb dX10_oneLoad_216 rfl (lv_at hl 2 rfl) ?_
                      obtain ⟨r252, S253, k254, hf⟩ := dc_bd_ok hf
                      refine lh_call (S' := S253) (lh_rv ⟨hx, hb, hml, hown, hts⟩ rfl (As := [.int (0 : Int32), .int (gvI S247 41 x250 ((gvI S 58 x2 (p1).toNatClampNeg)).toNatClampNeg), .int (gvI S 59 x5 (p1).toNatClampNeg)]) (rest := []) (k := 10) (c_X10_push l D cT n S247 ad A H.size (fun q9 h9 => hA q9 (Nat.le_trans hS.1 h9)) t (0 : Int32) (gvI S247 41 x250 ((gvI S 58 x2 (p1).toNatClampNeg)).toNatClampNeg) (gvI S 59 x5 (p1).toNatClampNeg) r252 S253 k254 L_t) (cwV 3 hts gX10_oneLoad_X10_push rfl rfl rfl (by decide +kernel) ⟨Nat.le_of_ble_eq_true rfl, Nat.le_of_ble_eq_true rfl⟩) hK hN hW (L_t _ rfl) rfl rfl rfl hl.1 rfl (by simp [lh_cat_r, lh_cat_i, lh_cat_j]) dX10_oneLoad_217 ⟨Nat.le_of_ble_eq_true rfl, Nat.le_of_ble_eq_true rfl⟩) hS (fun H locs hX hW hS => ?_)
                      refine W.widen (k := 0) (n := 0) (by omega) (by omega) ?_
                      show W _ _ _ _ _ _ _ _ _ _ _ _ _ _ _ (F0 m 220 ls [])
                      have m255 : ∀ b, gvN S247 b ≤ gvN S253 b := hX.1
                      have L_t : ∀ j, some t = some j → j < gvN S253 10 := fun j h => Nat.lt_of_lt_of_le (L_t j h) (m255 _)
                      have hm : ∀ b, gvN S b ≤ gvN S253 b := lh_le_trans hm m255
                      have ok := lh_W_ok hW
                      refine lv_goto (tgt := 268) hx hb dX10_oneLoad_220 (by decide) ?_
                      refine lv_goto (tgt := 386) hx hb dX10_oneLoad_268 (by decide) ?_
                      obtain ⟨rfl, rfl⟩ := dc_ret hf
                      exact W.vret hx hb hr (fun t9 ht9 hW9 => ⟨⟨rfl, ⟨hm, trivial⟩, by rw [ht9]; exact hW⟩, hS.F ht9⟩) hS.2.2 dX10_oneLoad_386
                  · replace hf := dc_if_t c243 hf
                    refine lh_aload_n hx hb dX10_oneLoad_188 rfl (lv_at hl 4 rfl) ?_
                    refine lv_iconst (v := 1) hx hb dX10_oneLoad_189 (by decide) ?_
                    obtain ⟨r256, S257, k258, hf⟩ := dc_bd_ok hf
                    refine lh_call (S' := S257) (lh_rv ⟨hx, hb, hml, hown, hts⟩ rfl (As := [.int (1 : Int32)]) (rest := []) (k := 10) (c_X10_ends l D cT n S ad A H.size (fun q9 h9 => hA q9 (Nat.le_trans hS.1 h9)) t (1 : Int32) r256 S257 k258 L_t) (cwV 1 hts gX10_oneLoad_X10_ends rfl rfl rfl (by decide +kernel) ⟨Nat.le_of_ble_eq_true rfl, Nat.le_of_ble_eq_true rfl⟩) hK hN hW (L_t _ rfl) rfl rfl rfl hl.1 rfl (by simp [lh_cat_r, lh_cat_i, lh_cat_j]) dX10_oneLoad_190 ⟨Nat.le_of_ble_eq_true rfl, Nat.le_of_ble_eq_true rfl⟩) hS (fun H locs hX hW hS => ?_)
                    refine W.widen (k := 0) (n := 0) (by omega) (by omega) ?_
                    show W _ _ _ _ _ _ _ _ _ _ _ _ _ _ _ (F0 m 193 ls [])
                    have m259 : ∀ b, gvN S b ≤ gvN S257 b := hX.1
                    have L_t : ∀ j, some t = some j → j < gvN S257 10 := fun j h => Nat.lt_of_lt_of_le (L_t j h) (m259 _)
                    have hm : ∀ b, gvN S b ≤ gvN S257 b := lh_le_trans hm m259
                    have ok := lh_W_ok hW
                    refine lv_goto (tgt := 268) hx hb dX10_oneLoad_193 (by decide) ?_
                    refine lv_goto (tgt := 386) hx hb dX10_oneLoad_268 (by decide) ?_
                    obtain ⟨rfl, rfl⟩ := dc_ret hf
                    exact W.vret hx hb hr (fun t9 ht9 hW9 => ⟨⟨rfl, ⟨hm, trivial⟩, by rw [ht9]; exact hW⟩, hS.F ht9⟩) hS.2.2 dX10_oneLoad_386
          · replace hf := dc_if_t c219 hf
            refine lv_iconst (v := 1) hx hb dX10_oneLoad_149 (by decide) ?_
            refine lv_goto (tgt := 154) hx hb dX10_oneLoad_150 (by decide) ?_
            refine lv_icmp_ne (tgt := 161) hx hb dX10_oneLoad_154 (by decide) (fun c260 => ?_) (fun c260 => ?_)
            · refine lv_iconst (v := 0) hx hb dX10_oneLoad_161 (by decide) ?_
              refine lv_istore (i := 5) (lv' := [(5, .int (0 : Int32)), (4, .int v8), (3, .int (gvI S 59 x5 (p1).toNatClampNeg)), (2, .int (gvI S 58 x2 (p1).toNatClampNeg)), (0, lh_r ad 10 (some t)), (1, .int p1)]) hx hb dX10_oneLoad_162 hl (by decide) (by first | rfl | simp [lh_cat_r, lh_cat_i, lh_cat_j]) (fun ls hl => ?_)
              refine lh_aload_n hx hb dX10_oneLoad_164 rfl (lv_at hl 4 rfl) ?_
              have L261 : ∀ j, gvR S 10 t 31 = some j → j < gvN S 61 := fun j h => ok _ _ _ _ j (L_t _ rfl) rfl h
              refine lh_get (a := 10) (k := 31) (N := 42) (C := RX10) (T := TX10) (own := RX10) (ref := "LoaderModelsModel") hx hb hts (fun _ h => (List.mem_cons_of_mem _ (List.mem_append_right _ h))) hown hK hW rfl (L_t _ rfl) rfl rfl rfl (by decide) (hts (.fieldLink RX10 91 "LoaderModelsModel" "turn" "[I") (List.mem_cons_of_mem _ (List.mem_append_left _ (List.mem_append_left _ (List.mem_of_getElem? (i := 8) rfl))))) (fun _ h9 => h9) dX10_oneLoad_165 (v := lh_r ad 61 (gvR S 10 t 31)) rfl ?_
              refine lv_iload_n hx hb dX10_oneLoad_168 rfl (lv_at hl 5 rfl) ?_
              obtain ⟨g262, hf⟩ := dc_gd_ok hf
              refine lh_ald_i (a := 61) hx hb hK hW hx217 (L261 _ hx217) rfl rfl g262 dX10_oneLoad_169 ?_
              refine lv_iconst (v := 2) hx hb dX10_oneLoad_170 (by decide) ?_
              refine lv_icmp_eq (tgt := 188) hx hb dX10_oneLoad_171 (by decide) (fun c263 => ?_) (fun c263 => ?_)
              · replace hf := dc_if_t c263 hf
                refine lh_aload_n hx hb dX10_oneLoad_188 rfl (lv_at hl 4 rfl) ?_
                refine lv_iconst (v := 1) hx hb dX10_oneLoad_189 (by decide) ?_
                obtain ⟨r264, S265, k266, hf⟩ := dc_bd_ok hf
                refine lh_call (S' := S265) (lh_rv ⟨hx, hb, hml, hown, hts⟩ rfl (As := [.int (1 : Int32)]) (rest := []) (k := 10) (c_X10_ends l D cT n S ad A H.size (fun q9 h9 => hA q9 (Nat.le_trans hS.1 h9)) t (1 : Int32) r264 S265 k266 L_t) (cwV 1 hts gX10_oneLoad_X10_ends rfl rfl rfl (by decide +kernel) ⟨Nat.le_of_ble_eq_true rfl, Nat.le_of_ble_eq_true rfl⟩) hK hN hW (L_t _ rfl) rfl rfl rfl hl.1 rfl (by simp [lh_cat_r, lh_cat_i, lh_cat_j]) dX10_oneLoad_190 ⟨Nat.le_of_ble_eq_true rfl, Nat.le_of_ble_eq_true rfl⟩) hS (fun H locs hX hW hS => ?_)
                refine W.widen (k := 0) (n := 0) (by omega) (by omega) ?_
                show W _ _ _ _ _ _ _ _ _ _ _ _ _ _ _ (F0 m 193 ls [])
                have m267 : ∀ b, gvN S b ≤ gvN S265 b := hX.1
                have L_t : ∀ j, some t = some j → j < gvN S265 10 := fun j h => Nat.lt_of_lt_of_le (L_t j h) (m267 _)
                have hm : ∀ b, gvN S b ≤ gvN S265 b := lh_le_trans hm m267
                have ok := lh_W_ok hW
                refine lv_goto (tgt := 268) hx hb dX10_oneLoad_193 (by decide) ?_
                refine lv_goto (tgt := 386) hx hb dX10_oneLoad_268 (by decide) ?_
                obtain ⟨rfl, rfl⟩ := dc_ret hf
                exact W.vret hx hb hr (fun t9 ht9 hW9 => ⟨⟨rfl, ⟨hm, trivial⟩, by rw [ht9]; exact hW⟩, hS.F ht9⟩) hS.2.2 dX10_oneLoad_386
              · replace hf := dc_if_f c263 hf
                refine lv_iload_n hx hb dX10_oneLoad_174 rfl (lv_at hl 3 rfl) ?_
                refine lv_if_ne (tgt := 196) hx hb dX10_oneLoad_175 (by decide) (fun c268 => ?_) (fun c268 => ?_)
                · replace hf := dc_if_f c268 hf
                  refine lv_iload hx hb dX10_oneLoad_196 (lv_at hl 0 rfl) ?_
                  refine lv_if_eq (tgt := 223) hx hb dX10_oneLoad_198 (by decide) (fun c269 => ?_) (fun c269 => ?_)
                  · refine lh_aload_n hx hb dX10_oneLoad_223 rfl (lv_at hl 4 rfl) ?_
                    have L270 : ∀ j, gvR S 10 t 13 = some j → j < gvN S 43 := fun j h => ok _ _ _ _ j (L_t _ rfl) rfl h
                    refine lh_get (a := 10) (k := 13) (N := 42) (C := RX10) (T := TX10) (own := RX10) (ref := "LoaderModelsModel") hx hb hts (fun _ h => (List.mem_cons_of_mem _ (List.mem_append_right _ h))) hown hK hW rfl (L_t _ rfl) rfl rfl rfl (by decide) (hts (.fieldLink RX10 45 "LoaderModelsModel" "has" "[I") (List.mem_cons_of_mem _ (List.mem_append_left _ (List.mem_append_left _ (List.mem_of_getElem? (i := 10) rfl))))) (fun _ h9 => h9) dX10_oneLoad_224 (v := lh_r ad 43 (gvR S 10 t 13)) rfl ?_
                    refine lv_iload hx hb dX10_oneLoad_227 (lv_at hl 1 rfl) ?_
                    obtain ⟨x271, hx271, hf⟩ := dc_nn_ok hf
                    obtain ⟨g272, hf⟩ := dc_gd_ok hf
                    refine lh_ald_i (a := 43) hx hb hK hW hx271 (L270 _ hx271) rfl rfl g272 dX10_oneLoad_229 ?_
                    refine lv_if_le (tgt := 258) hx hb dX10_oneLoad_230 (by decide) (fun c273 => ?_) (fun c273 => ?_)
                    · replace hf := dc_if_t c273 hf
                      refine lh_aload_n hx hb dX10_oneLoad_258 rfl (lv_at hl 4 rfl) ?_
                      have L274 : ∀ j, gvR S 10 t 31 = some j → j < gvN S 61 := fun j h => ok _ _ _ _ j (L_t _ rfl) rfl h
                      refine lh_get (a := 10) (k := 31) (N := 42) (C := RX10) (T := TX10) (own := RX10) (ref := "LoaderModelsModel") hx hb hts (fun _ h => (List.mem_cons_of_mem _ (List.mem_append_right _ h))) hown hK hW rfl (L_t _ rfl) rfl rfl rfl (by decide) (hts (.fieldLink RX10 91 "LoaderModelsModel" "turn" "[I") (List.mem_cons_of_mem _ (List.mem_append_left _ (List.mem_append_left _ (List.mem_of_getElem? (i := 8) rfl))))) (fun _ h9 => h9) dX10_oneLoad_259 (v := lh_r ad 61 (gvR S 10 t 31)) rfl ?_
                      refine lv_iload_n hx hb dX10_oneLoad_262 rfl (lv_at hl 5 rfl) ?_
                      refine lv_dup2_11 hx hb dX10_oneLoad_263 rfl lh_cat_r ?_
                      obtain ⟨g275, hf⟩ := dc_gd_ok hf
                      refine lh_ald_i (a := 61) hx hb hK hW hx217 (L274 _ hx217) rfl rfl g275 dX10_oneLoad_264 ?_
                      refine lv_iconst (v := 1) hx hb dX10_oneLoad_265 (by decide) ?_
                      refine lv_iadd hx hb dX10_oneLoad_266 ?_
                      refine lv_topi (fun v276 hv276 => ?_)
                      replace hf := dc_let_e hv276 hf
                      obtain ⟨g277, hf⟩ := dc_gd_ok hf
                      obtain ⟨S278, eS278, hf⟩ := dc_let_ok hf
                      refine lh_ast_i (a := 61) hx hb hK hW hS hx217 (L274 _ hx217) rfl (fun _ => rfl) g277 dX10_oneLoad_267 (fun H locs hW hS => ?_)
                      rw [← eS278] at hW
                      have m279 : ∀ b, gvN S b ≤ gvN S278 b := by rw [eS278]; exact lh_mI
                      have L_t : ∀ j, some t = some j → j < gvN S278 10 := fun j h => Nat.lt_of_lt_of_le (L_t j h) (m279 _)
                      have hm : ∀ b, gvN S b ≤ gvN S278 b := lh_le_trans hm m279
                      have ok := lh_W_ok hW
                      refine lv_goto (tgt := 386) hx hb dX10_oneLoad_268 (by decide) ?_
                      obtain ⟨rfl, rfl⟩ := dc_ret hf
                      exact W.vret hx hb hr (fun t9 ht9 hW9 => ⟨⟨rfl, ⟨hm, trivial⟩, by rw [ht9]; exact hW⟩, hS.F ht9⟩) hS.2.2 dX10_oneLoad_386
                    · replace hf := dc_if_f c273 hf
                      refine lh_aload_n hx hb dX10_oneLoad_233 rfl (lv_at hl 4 rfl) ?_
                      have L280 : ∀ j, gvR S 10 t 30 = some j → j < gvN S 60 := fun j h => ok _ _ _ _ j (L_t _ rfl) rfl h
                      refine lh_get (a := 10) (k := 30) (N := 42) (C := RX10) (T := TX10) (own := RX10) (ref := "LoaderModelsModel") hx hb hts (fun _ h => (List.mem_cons_of_mem _ (List.mem_append_right _ h))) hown hK hW rfl (L_t _ rfl) rfl rfl rfl (by decide) (hts (.fieldLink RX10 88 "LoaderModelsModel" "stage" "[I") (List.mem_cons_of_mem _ (List.mem_append_left _ (List.mem_append_left _ (List.mem_of_getElem? (i := 2) rfl))))) (fun _ h9 => h9) dX10_oneLoad_234 (v := lh_r ad 60 (gvR S 10 t 30)) rfl ?_
                      refine lv_iload_n hx hb dX10_oneLoad_237 rfl (lv_at hl 5 rfl) ?_
                      refine lv_iconst (v := 3) hx hb dX10_oneLoad_238 (by decide) ?_
                      obtain ⟨g281, hf⟩ := dc_gd_ok hf
                      obtain ⟨S282, eS282, hf⟩ := dc_let_ok hf
                      refine lh_ast_i (a := 60) hx hb hK hW hS hx10 (L280 _ hx10) rfl (fun _ => rfl) g281 dX10_oneLoad_239 (fun H locs hW hS => ?_)
                      rw [← eS282] at hW
                      have m283 : ∀ b, gvN S b ≤ gvN S282 b := by rw [eS282]; exact lh_mI
                      have L_t : ∀ j, some t = some j → j < gvN S282 10 := fun j h => Nat.lt_of_lt_of_le (L_t j h) (m283 _)
                      have hm : ∀ b, gvN S b ≤ gvN S282 b := lh_le_trans hm m283
                      have ok := lh_W_ok hW
                      refine lh_aload_n hx hb dX10_oneLoad_240 rfl (lv_at hl 4 rfl) ?_
                      refine lv_iconst (v := 1) hx hb dX10_oneLoad_241 (by decide) ?_
                      refine lv_iload_n hx hb dX10_oneLoad_242 rfl (lv_at hl 3 rfl) ?_
                      refine lh_aload_n hx hb dX10_oneLoad_243 rfl (lv_at hl 4 rfl) ?_
                      have L284 : ∀ j, gvR S282 10 t 13 = some j → j < gvN S282 43 := fun j h => ok _ _ _ _ j (L_t _ rfl) rfl h
                      refine lh_get (a := 10) (k := 13) (N := 42) (C := RX10) (T := TX10) (own := RX10) (ref := "LoaderModelsModel") hx hb hts (fun _ h => (List.mem_cons_of_mem _ (List.mem_append_right _ h))) hown hK hW rfl (L_t _ rfl) rfl rfl rfl (by decide) (hts (.fieldLink RX10 45 "LoaderModelsModel" "has" "[I") (List.mem_cons_of_mem _ (List.mem_append_left _ (List.mem_append_left _ (List.mem_of_getElem? (i := 10) rfl))))) (fun _ h9 => h9) dX10_oneLoad_244 (v := lh_r ad 43 (gvR S282 10 t 13)) rfl ?_
                      refine lv_iload hx hb dX10_oneLoad_247 (lv_at hl 1 rfl) ?_
                      obtain ⟨x285, hx285, hf⟩ := dc_nn_ok hf
                      obtain ⟨g286, hf⟩ := dc_gd_ok hf
                      refine lh_ald_i (a := 43) hx hb hK hW hx285 (L284 _ hx285) rfl rfl g286 dX10_oneLoad_249 ?_
                      refine lv_iconst (v := 1) hx hb dX10_oneLoad_250 (by decide) ?_
                      refine lv_isub hx hb dX10_oneLoad_251 ?_
                      refine lv_topi (fun v287 hv287 => ?_)
                      replace hf := dc_let_e hv287 hf
                      obtain ⟨r288, S289, k290, hf⟩ := dc_bd_ok hf
                      refine lh_call (S' := S289) (lh_rv ⟨hx, hb, hml, hown, hts⟩ rfl (As := [.int (1 : Int32), .int (gvI S 58 x2 (p1).toNatClampNeg), .int v287]) (rest := []) (k := 10) (c_X10_push l D cT n S282 ad A H.size (fun q9 h9 => hA q9 (Nat.le_trans hS.1 h9)) t (1 : Int32) (gvI S 58 x2 (p1).toNatClampNeg) v287 r288 S289 k290 L_t) (cwV 3 hts gX10_oneLoad_X10_push rfl rfl rfl (by decide +kernel) ⟨Nat.le_of_ble_eq_true rfl, Nat.le_of_ble_eq_true rfl⟩) hK hN hW (L_t _ rfl) rfl rfl rfl hl.1 rfl (by simp [lh_cat_r, lh_cat_i, lh_cat_j]) dX10_oneLoad_252 ⟨Nat.le_of_ble_eq_true rfl, Nat.le_of_ble_eq_true rfl⟩) hS (fun H locs hX hW hS => ?_)
                      refine W.widen (k := 0) (n := 0) (by omega) (by omega) ?_
                      show W _ _ _ _ _ _ _ _ _ _ _ _ _ _ _ (F0 m 255 ls [])
                      have m291 : ∀ b, gvN S282 b ≤ gvN S289 b := hX.1
                      have L_t : ∀ j, some t = some j → j < gvN S289 10 := fun j h => Nat.lt_of_lt_of_le (L_t j h) (m291 _)
                      have hm : ∀ b, gvN S b ≤ gvN S289 b := lh_le_trans hm m291
                      have ok := lh_W_ok hW
                      refine lv_goto (tgt := 268) hx hb dX10_oneLoad_255 (by decide) ?_
                      refine lv_goto (tgt := 386) hx hb dX10_oneLoad_268 (by decide) ?_
                      obtain ⟨rfl, rfl⟩ := dc_ret hf
                      exact W.vret hx hb hr (fun t9 ht9 hW9 => ⟨⟨rfl, ⟨hm, trivial⟩, by rw [ht9]; exact hW⟩, hS.F ht9⟩) hS.2.2 dX10_oneLoad_386
                  · exact absurd c269 (by decide)
                · replace hf := dc_if_t c268 hf
                  refine lh_aload_n hx hb dX10_oneLoad_178 rfl (lv_at hl 4 rfl) ?_
                  have L292 : ∀ j, gvR S 10 t 31 = some j → j < gvN S 61 := fun j h => ok _ _ _ _ j (L_t _ rfl) rfl h
                  refine lh_get (a := 10) (k := 31) (N := 42) (C := RX10) (T := TX10) (own := RX10) (ref := "LoaderModelsModel") hx hb hts (fun _ h => (List.mem_cons_of_mem _ (List.mem_append_right _ h))) hown hK hW rfl (L_t _ rfl) rfl rfl rfl (by decide) (hts (.fieldLink RX10 91 "LoaderModelsModel" "turn" "[I") (List.mem_cons_of_mem _ (List.mem_append_left _ (List.mem_append_left _ (List.mem_of_getElem? (i := 8) rfl))))) (fun _ h9 => h9) dX10_oneLoad_179 (v := lh_r ad 61 (gvR S 10 t 31)) rfl ?_
                  refine lv_iload_n hx hb dX10_oneLoad_182 rfl (lv_at hl 5 rfl) ?_
                  obtain ⟨g293, hf⟩ := dc_gd_ok hf
                  refine lh_ald_i (a := 61) hx hb hK hW hx217 (L292 _ hx217) rfl rfl g293 dX10_oneLoad_183 ?_
                  refine lv_iconst (v := 1) hx hb dX10_oneLoad_184 (by decide) ?_
                  refine lv_icmp_ne (tgt := 196) hx hb dX10_oneLoad_185 (by decide) (fun c294 => ?_) (fun c294 => ?_)
                  · replace hf := dc_if_f c294 hf
                    refine lv_iload hx hb dX10_oneLoad_196 (lv_at hl 0 rfl) ?_
                    refine lv_if_eq (tgt := 223) hx hb dX10_oneLoad_198 (by decide) (fun c295 => ?_) (fun c295 => ?_)
                    · refine lh_aload_n hx hb dX10_oneLoad_223 rfl (lv_at hl 4 rfl) ?_
                      have L296 : ∀ j, gvR S 10 t 13 = some j → j < gvN S 43 := fun j h => ok _ _ _ _ j (L_t _ rfl) rfl h
                      refine lh_get (a := 10) (k := 13) (N := 42) (C := RX10) (T := TX10) (own := RX10) (ref := "LoaderModelsModel") hx hb hts (fun _ h => (List.mem_cons_of_mem _ (List.mem_append_right _ h))) hown hK hW rfl (L_t _ rfl) rfl rfl rfl (by decide) (hts (.fieldLink RX10 45 "LoaderModelsModel" "has" "[I") (List.mem_cons_of_mem _ (List.mem_append_left _ (List.mem_append_left _ (List.mem_of_getElem? (i := 10) rfl))))) (fun _ h9 => h9) dX10_oneLoad_224 (v := lh_r ad 43 (gvR S 10 t 13)) rfl ?_
                      refine lv_iload hx hb dX10_oneLoad_227 (lv_at hl 1 rfl) ?_
                      obtain ⟨x297, hx297, hf⟩ := dc_nn_ok hf
                      obtain ⟨g298, hf⟩ := dc_gd_ok hf
                      refine lh_ald_i (a := 43) hx hb hK hW hx297 (L296 _ hx297) rfl rfl g298 dX10_oneLoad_229 ?_
                      refine lv_if_le (tgt := 258) hx hb dX10_oneLoad_230 (by decide) (fun c299 => ?_) (fun c299 => ?_)
                      · replace hf := dc_if_t c299 hf
                        refine lh_aload_n hx hb dX10_oneLoad_258 rfl (lv_at hl 4 rfl) ?_
                        have L300 : ∀ j, gvR S 10 t 31 = some j → j < gvN S 61 := fun j h => ok _ _ _ _ j (L_t _ rfl) rfl h
                        refine lh_get (a := 10) (k := 31) (N := 42) (C := RX10) (T := TX10) (own := RX10) (ref := "LoaderModelsModel") hx hb hts (fun _ h => (List.mem_cons_of_mem _ (List.mem_append_right _ h))) hown hK hW rfl (L_t _ rfl) rfl rfl rfl (by decide) (hts (.fieldLink RX10 91 "LoaderModelsModel" "turn" "[I") (List.mem_cons_of_mem _ (List.mem_append_left _ (List.mem_append_left _ (List.mem_of_getElem? (i := 8) rfl))))) (fun _ h9 => h9) dX10_oneLoad_259 (v := lh_r ad 61 (gvR S 10 t 31)) rfl ?_
                        refine lv_iload_n hx hb dX10_oneLoad_262 rfl (lv_at hl 5 rfl) ?_
                        refine lv_dup2_11 hx hb dX10_oneLoad_263 rfl lh_cat_r ?_
                        obtain ⟨g301, hf⟩ := dc_gd_ok hf
                        refine lh_ald_i (a := 61) hx hb hK hW hx217 (L300 _ hx217) rfl rfl g301 dX10_oneLoad_264 ?_
                        refine lv_iconst (v := 1) hx hb dX10_oneLoad_265 (by decide) ?_
                        refine lv_iadd hx hb dX10_oneLoad_266 ?_
                        refine lv_topi (fun v302 hv302 => ?_)
                        replace hf := dc_let_e hv302 hf
                        obtain ⟨g303, hf⟩ := dc_gd_ok hf
                        obtain ⟨S304, eS304, hf⟩ := dc_let_ok hf
                        refine lh_ast_i (a := 61) hx hb hK hW hS hx217 (L300 _ hx217) rfl (fun _ => rfl) g303 dX10_oneLoad_267 (fun H locs hW hS => ?_)
                        rw [← eS304] at hW
                        have m305 : ∀ b, gvN S b ≤ gvN S304 b := by rw [eS304]; exact lh_mI
                        have L_t : ∀ j, some t = some j → j < gvN S304 10 := fun j h => Nat.lt_of_lt_of_le (L_t j h) (m305 _)
                        have hm : ∀ b, gvN S b ≤ gvN S304 b := lh_le_trans hm m305
                        have ok := lh_W_ok hW
                        refine lv_goto (tgt := 386) hx hb dX10_oneLoad_268 (by decide) ?_
                        obtain ⟨rfl, rfl⟩ := dc_ret hf
                        exact W.vret hx hb hr (fun t9 ht9 hW9 => ⟨⟨rfl, ⟨hm, trivial⟩, by rw [ht9]; exact hW⟩, hS.F ht9⟩) hS.2.2 dX10_oneLoad_386
                      · replace hf := dc_if_f c299 hf
                        refine lh_aload_n hx hb dX10_oneLoad_233 rfl (lv_at hl 4 rfl) ?_
                        have L306 : ∀ j, gvR S 10 t 30 = some j → j < gvN S 60 := fun j h => ok _ _ _ _ j (L_t _ rfl) rfl h
                        refine lh_get (a := 10) (k := 30) (N := 42) (C := RX10) (T := TX10) (own := RX10) (ref := "LoaderModelsModel") hx hb hts (fun _ h => (List.mem_cons_of_mem _ (List.mem_append_right _ h))) hown hK hW rfl (L_t _ rfl) rfl rfl rfl (by decide) (hts (.fieldLink RX10 88 "LoaderModelsModel" "stage" "[I") (List.mem_cons_of_mem _ (List.mem_append_left _ (List.mem_append_left _ (List.mem_of_getElem? (i := 2) rfl))))) (fun _ h9 => h9) dX10_oneLoad_234 (v := lh_r ad 60 (gvR S 10 t 30)) rfl ?_
                        refine lv_iload_n hx hb dX10_oneLoad_237 rfl (lv_at hl 5 rfl) ?_
                        refine lv_iconst (v := 3) hx hb dX10_oneLoad_238 (by decide) ?_
                        obtain ⟨g307, hf⟩ := dc_gd_ok hf
                        obtain ⟨S308, eS308, hf⟩ := dc_let_ok hf
                        refine lh_ast_i (a := 60) hx hb hK hW hS hx10 (L306 _ hx10) rfl (fun _ => rfl) g307 dX10_oneLoad_239 (fun H locs hW hS => ?_)
                        rw [← eS308] at hW
                        have m309 : ∀ b, gvN S b ≤ gvN S308 b := by rw [eS308]; exact lh_mI
                        have L_t : ∀ j, some t = some j → j < gvN S308 10 := fun j h => Nat.lt_of_lt_of_le (L_t j h) (m309 _)
                        have hm : ∀ b, gvN S b ≤ gvN S308 b := lh_le_trans hm m309
                        have ok := lh_W_ok hW
                        refine lh_aload_n hx hb dX10_oneLoad_240 rfl (lv_at hl 4 rfl) ?_
                        refine lv_iconst (v := 1) hx hb dX10_oneLoad_241 (by decide) ?_
                        refine lv_iload_n hx hb dX10_oneLoad_242 rfl (lv_at hl 3 rfl) ?_
                        refine lh_aload_n hx hb dX10_oneLoad_243 rfl (lv_at hl 4 rfl) ?_
                        have L310 : ∀ j, gvR S308 10 t 13 = some j → j < gvN S308 43 := fun j h => ok _ _ _ _ j (L_t _ rfl) rfl h
                        refine lh_get (a := 10) (k := 13) (N := 42) (C := RX10) (T := TX10) (own := RX10) (ref := "LoaderModelsModel") hx hb hts (fun _ h => (List.mem_cons_of_mem _ (List.mem_append_right _ h))) hown hK hW rfl (L_t _ rfl) rfl rfl rfl (by decide) (hts (.fieldLink RX10 45 "LoaderModelsModel" "has" "[I") (List.mem_cons_of_mem _ (List.mem_append_left _ (List.mem_append_left _ (List.mem_of_getElem? (i := 10) rfl))))) (fun _ h9 => h9) dX10_oneLoad_244 (v := lh_r ad 43 (gvR S308 10 t 13)) rfl ?_
                        refine lv_iload hx hb dX10_oneLoad_247 (lv_at hl 1 rfl) ?_
                        obtain ⟨x311, hx311, hf⟩ := dc_nn_ok hf
                        obtain ⟨g312, hf⟩ := dc_gd_ok hf
                        refine lh_ald_i (a := 43) hx hb hK hW hx311 (L310 _ hx311) rfl rfl g312 dX10_oneLoad_249 ?_
                        refine lv_iconst (v := 1) hx hb dX10_oneLoad_250 (by decide) ?_
                        refine lv_isub hx hb dX10_oneLoad_251 ?_
                        refine lv_topi (fun v313 hv313 => ?_)
                        replace hf := dc_let_e hv313 hf
                        obtain ⟨r314, S315, k316, hf⟩ := dc_bd_ok hf
                        refine lh_call (S' := S315) (lh_rv ⟨hx, hb, hml, hown, hts⟩ rfl (As := [.int (1 : Int32), .int (gvI S 58 x2 (p1).toNatClampNeg), .int v313]) (rest := []) (k := 10) (c_X10_push l D cT n S308 ad A H.size (fun q9 h9 => hA q9 (Nat.le_trans hS.1 h9)) t (1 : Int32) (gvI S 58 x2 (p1).toNatClampNeg) v313 r314 S315 k316 L_t) (cwV 3 hts gX10_oneLoad_X10_push rfl rfl rfl (by decide +kernel) ⟨Nat.le_of_ble_eq_true rfl, Nat.le_of_ble_eq_true rfl⟩) hK hN hW (L_t _ rfl) rfl rfl rfl hl.1 rfl (by simp [lh_cat_r, lh_cat_i, lh_cat_j]) dX10_oneLoad_252 ⟨Nat.le_of_ble_eq_true rfl, Nat.le_of_ble_eq_true rfl⟩) hS (fun H locs hX hW hS => ?_)
                        refine W.widen (k := 0) (n := 0) (by omega) (by omega) ?_
                        show W _ _ _ _ _ _ _ _ _ _ _ _ _ _ _ (F0 m 255 ls [])
                        have m317 : ∀ b, gvN S308 b ≤ gvN S315 b := hX.1
                        have L_t : ∀ j, some t = some j → j < gvN S315 10 := fun j h => Nat.lt_of_lt_of_le (L_t j h) (m317 _)
                        have hm : ∀ b, gvN S b ≤ gvN S315 b := lh_le_trans hm m317
                        have ok := lh_W_ok hW
                        refine lv_goto (tgt := 268) hx hb dX10_oneLoad_255 (by decide) ?_
                        refine lv_goto (tgt := 386) hx hb dX10_oneLoad_268 (by decide) ?_
                        obtain ⟨rfl, rfl⟩ := dc_ret hf
                        exact W.vret hx hb hr (fun t9 ht9 hW9 => ⟨⟨rfl, ⟨hm, trivial⟩, by rw [ht9]; exact hW⟩, hS.F ht9⟩) hS.2.2 dX10_oneLoad_386
                    · exact absurd c295 (by decide)
                  · replace hf := dc_if_t c294 hf
                    refine lh_aload_n hx hb dX10_oneLoad_188 rfl (lv_at hl 4 rfl) ?_
                    refine lv_iconst (v := 1) hx hb dX10_oneLoad_189 (by decide) ?_
                    obtain ⟨r318, S319, k320, hf⟩ := dc_bd_ok hf
                    refine lh_call (S' := S319) (lh_rv ⟨hx, hb, hml, hown, hts⟩ rfl (As := [.int (1 : Int32)]) (rest := []) (k := 10) (c_X10_ends l D cT n S ad A H.size (fun q9 h9 => hA q9 (Nat.le_trans hS.1 h9)) t (1 : Int32) r318 S319 k320 L_t) (cwV 1 hts gX10_oneLoad_X10_ends rfl rfl rfl (by decide +kernel) ⟨Nat.le_of_ble_eq_true rfl, Nat.le_of_ble_eq_true rfl⟩) hK hN hW (L_t _ rfl) rfl rfl rfl hl.1 rfl (by simp [lh_cat_r, lh_cat_i, lh_cat_j]) dX10_oneLoad_190 ⟨Nat.le_of_ble_eq_true rfl, Nat.le_of_ble_eq_true rfl⟩) hS (fun H locs hX hW hS => ?_)
                    refine W.widen (k := 0) (n := 0) (by omega) (by omega) ?_
                    show W _ _ _ _ _ _ _ _ _ _ _ _ _ _ _ (F0 m 193 ls [])
                    have m321 : ∀ b, gvN S b ≤ gvN S319 b := hX.1
                    have L_t : ∀ j, some t = some j → j < gvN S319 10 := fun j h => Nat.lt_of_lt_of_le (L_t j h) (m321 _)
                    have hm : ∀ b, gvN S b ≤ gvN S319 b := lh_le_trans hm m321
                    have ok := lh_W_ok hW
                    refine lv_goto (tgt := 268) hx hb dX10_oneLoad_193 (by decide) ?_
                    refine lv_goto (tgt := 386) hx hb dX10_oneLoad_268 (by decide) ?_
                    obtain ⟨rfl, rfl⟩ := dc_ret hf
                    exact W.vret hx hb hr (fun t9 ht9 hW9 => ⟨⟨rfl, ⟨hm, trivial⟩, by rw [ht9]; exact hW⟩, hS.F ht9⟩) hS.2.2 dX10_oneLoad_386
            · exact absurd c260 (by decide)
        · replace hf := dc_if_f c215 hf
          refine lv_iconst (v := 1) hx hb dX10_oneLoad_135 (by decide) ?_
          refine lv_goto (tgt := 140) hx hb dX10_oneLoad_136 (by decide) ?_
          refine lh_aload_n hx hb dX10_oneLoad_140 rfl (lv_at hl 3 rfl) ?_
          have L322 : ∀ j, gvR S 10 t 31 = some j → j < gvN S 61 := fun j h => ok _ _ _ _ j (L_t _ rfl) rfl h
          refine lh_get (a := 10) (k := 31) (N := 42) (C := RX10) (T := TX10) (own := RX10) (ref := "LoaderModelsModel") hx hb hts (fun _ h => (List.mem_cons_of_mem _ (List.mem_append_right _ h))) hown hK hW rfl (L_t _ rfl) rfl rfl rfl (by decide) (hts (.fieldLink RX10 91 "LoaderModelsModel" "turn" "[I") (List.mem_cons_of_mem _ (List.mem_append_left _ (List.mem_append_left _ (List.mem_of_getElem? (i := 8) rfl))))) (fun _ h9 => h9) dX10_oneLoad_141 (v := lh_r ad 61 (gvR S 10 t 31)) rfl ?_
          refine lv_iload_n hx hb dX10_oneLoad_144 rfl (lv_at hl 4 rfl) ?_
          obtain ⟨x323, hx323, hf⟩ := dc_nn_ok hf
          obtain ⟨g324, hf⟩ := dc_gd_ok hf
          refine lh_ald_i (a := 61) hx hb hK hW hx323 (L322 _ hx323) rfl rfl g324 dX10_oneLoad_145 ?_
          refine lv_if_ne (tgt := 153) hx hb dX10_oneLoad_146 (by decide) (fun c325 => ?_) (fun c325 => ?_)
          · replace hf := dc_if_f c325 hf
            refine lv_iconst (v := 0) hx hb dX10_oneLoad_153 (by decide) ?_
            refine lv_icmp_ne (tgt := 161) hx hb dX10_oneLoad_154 (by decide) (fun c326 => ?_) (fun c326 => ?_)
            · refine lv_iconst (v := 0) hx hb dX10_oneLoad_161 (by decide) ?_
              refine lv_istore (i := 5) (lv' := [(5, .int (0 : Int32)), (4, .int v8), (3, .int (gvI S 59 x5 (p1).toNatClampNeg)), (2, .int (gvI S 58 x2 (p1).toNatClampNeg)), (0, lh_r ad 10 (some t)), (1, .int p1)]) hx hb dX10_oneLoad_162 hl (by decide) (by first | rfl | simp [lh_cat_r, lh_cat_i, lh_cat_j]) (fun ls hl => ?_)
              refine lh_aload_n hx hb dX10_oneLoad_164 rfl (lv_at hl 4 rfl) ?_
              have L327 : ∀ j, gvR S 10 t 31 = some j → j < gvN S 61 := fun j h => ok _ _ _ _ j (L_t _ rfl) rfl h
              refine lh_get (a := 10) (k := 31) (N := 42) (C := RX10) (T := TX10) (own := RX10) (ref := "LoaderModelsModel") hx hb hts (fun _ h => (List.mem_cons_of_mem _ (List.mem_append_right _ h))) hown hK hW rfl (L_t _ rfl) rfl rfl rfl (by decide) (hts (.fieldLink RX10 91 "LoaderModelsModel" "turn" "[I") (List.mem_cons_of_mem _ (List.mem_append_left _ (List.mem_append_left _ (List.mem_of_getElem? (i := 8) rfl))))) (fun _ h9 => h9) dX10_oneLoad_165 (v := lh_r ad 61 (gvR S 10 t 31)) rfl ?_
              refine lv_iload_n hx hb dX10_oneLoad_168 rfl (lv_at hl 5 rfl) ?_
              obtain ⟨g328, hf⟩ := dc_gd_ok hf
              refine lh_ald_i (a := 61) hx hb hK hW hx323 (L327 _ hx323) rfl rfl g328 dX10_oneLoad_169 ?_
              refine lv_iconst (v := 2) hx hb dX10_oneLoad_170 (by decide) ?_
              refine lv_icmp_eq (tgt := 188) hx hb dX10_oneLoad_171 (by decide) (fun c329 => ?_) (fun c329 => ?_)
              · replace hf := dc_if_t c329 hf
                refine lh_aload_n hx hb dX10_oneLoad_188 rfl (lv_at hl 4 rfl) ?_
                refine lv_iconst (v := 1) hx hb dX10_oneLoad_189 (by decide) ?_
                obtain ⟨r330, S331, k332, hf⟩ := dc_bd_ok hf
                refine lh_call (S' := S331) (lh_rv ⟨hx, hb, hml, hown, hts⟩ rfl (As := [.int (1 : Int32)]) (rest := []) (k := 10) (c_X10_ends l D cT n S ad A H.size (fun q9 h9 => hA q9 (Nat.le_trans hS.1 h9)) t (1 : Int32) r330 S331 k332 L_t) (cwV 1 hts gX10_oneLoad_X10_ends rfl rfl rfl (by decide +kernel) ⟨Nat.le_of_ble_eq_true rfl, Nat.le_of_ble_eq_true rfl⟩) hK hN hW (L_t _ rfl) rfl rfl rfl hl.1 rfl (by simp [lh_cat_r, lh_cat_i, lh_cat_j]) dX10_oneLoad_190 ⟨Nat.le_of_ble_eq_true rfl, Nat.le_of_ble_eq_true rfl⟩) hS (fun H locs hX hW hS => ?_)
                refine W.widen (k := 0) (n := 0) (by omega) (by omega) ?_
                show W _ _ _ _ _ _ _ _ _ _ _ _ _ _ _ (F0 m 193 ls [])
                have m333 : ∀ b, gvN S b ≤ gvN S331 b := hX.1
                have L_t : ∀ j, some t = some j → j < gvN S331 10 := fun j h => Nat.lt_of_lt_of_le (L_t j h) (m333 _)
                have hm : ∀ b, gvN S b ≤ gvN S331 b := lh_le_trans hm m333
                have ok := lh_W_ok hW
                refine lv_goto (tgt := 268) hx hb dX10_oneLoad_193 (by decide) ?_
                refine lv_goto (tgt := 386) hx hb dX10_oneLoad_268 (by decide) ?_
                obtain ⟨rfl, rfl⟩ := dc_ret hf
                exact W.vret hx hb hr (fun t9 ht9 hW9 => ⟨⟨rfl, ⟨hm, trivial⟩, by rw [ht9]; exact hW⟩, hS.F ht9⟩) hS.2.2 dX10_oneLoad_386
              · replace hf := dc_if_f c329 hf
                refine lv_iload_n hx hb dX10_oneLoad_174 rfl (lv_at hl 3 rfl) ?_
                refine lv_if_ne (tgt := 196) hx hb dX10_oneLoad_175 (by decide) (fun c334 => ?_) (fun c334 => ?_)
                · replace hf := dc_if_f c334 hf
                  refine lv_iload hx hb dX10_oneLoad_196 (lv_at hl 0 rfl) ?_
                  refine lv_if_eq (tgt := 223) hx hb dX10_oneLoad_198 (by decide) (fun c335 => ?_) (fun c335 => ?_)
                  · refine lh_aload_n hx hb dX10_oneLoad_223 rfl (lv_at hl 4 rfl) ?_
                    have L336 : ∀ j, gvR S 10 t 13 = some j → j < gvN S 43 := fun j h => ok _ _ _ _ j (L_t _ rfl) rfl h
                    refine lh_get (a := 10) (k := 13) (N := 42) (C := RX10) (T := TX10) (own := RX10) (ref := "LoaderModelsModel") hx hb hts (fun _ h => (List.mem_cons_of_mem _ (List.mem_append_right _ h))) hown hK hW rfl (L_t _ rfl) rfl rfl rfl (by decide) (hts (.fieldLink RX10 45 "LoaderModelsModel" "has" "[I") (List.mem_cons_of_mem _ (List.mem_append_left _ (List.mem_append_left _ (List.mem_of_getElem? (i := 10) rfl))))) (fun _ h9 => h9) dX10_oneLoad_224 (v := lh_r ad 43 (gvR S 10 t 13)) rfl ?_
                    refine lv_iload hx hb dX10_oneLoad_227 (lv_at hl 1 rfl) ?_
                    obtain ⟨x337, hx337, hf⟩ := dc_nn_ok hf
                    obtain ⟨g338, hf⟩ := dc_gd_ok hf
                    refine lh_ald_i (a := 43) hx hb hK hW hx337 (L336 _ hx337) rfl rfl g338 dX10_oneLoad_229 ?_
                    refine lv_if_le (tgt := 258) hx hb dX10_oneLoad_230 (by decide) (fun c339 => ?_) (fun c339 => ?_)
                    · replace hf := dc_if_t c339 hf
                      refine lh_aload_n hx hb dX10_oneLoad_258 rfl (lv_at hl 4 rfl) ?_
                      have L340 : ∀ j, gvR S 10 t 31 = some j → j < gvN S 61 := fun j h => ok _ _ _ _ j (L_t _ rfl) rfl h
                      refine lh_get (a := 10) (k := 31) (N := 42) (C := RX10) (T := TX10) (own := RX10) (ref := "LoaderModelsModel") hx hb hts (fun _ h => (List.mem_cons_of_mem _ (List.mem_append_right _ h))) hown hK hW rfl (L_t _ rfl) rfl rfl rfl (by decide) (hts (.fieldLink RX10 91 "LoaderModelsModel" "turn" "[I") (List.mem_cons_of_mem _ (List.mem_append_left _ (List.mem_append_left _ (List.mem_of_getElem? (i := 8) rfl))))) (fun _ h9 => h9) dX10_oneLoad_259 (v := lh_r ad 61 (gvR S 10 t 31)) rfl ?_
                      refine lv_iload_n hx hb dX10_oneLoad_262 rfl (lv_at hl 5 rfl) ?_
                      refine lv_dup2_11 hx hb dX10_oneLoad_263 rfl lh_cat_r ?_
                      obtain ⟨g341, hf⟩ := dc_gd_ok hf
                      refine lh_ald_i (a := 61) hx hb hK hW hx323 (L340 _ hx323) rfl rfl g341 dX10_oneLoad_264 ?_
                      refine lv_iconst (v := 1) hx hb dX10_oneLoad_265 (by decide) ?_
                      refine lv_iadd hx hb dX10_oneLoad_266 ?_
                      refine lv_topi (fun v342 hv342 => ?_)
                      replace hf := dc_let_e hv342 hf
                      obtain ⟨g343, hf⟩ := dc_gd_ok hf
                      obtain ⟨S344, eS344, hf⟩ := dc_let_ok hf
                      refine lh_ast_i (a := 61) hx hb hK hW hS hx323 (L340 _ hx323) rfl (fun _ => rfl) g343 dX10_oneLoad_267 (fun H locs hW hS => ?_)
                      rw [← eS344] at hW
                      have m345 : ∀ b, gvN S b ≤ gvN S344 b := by rw [eS344]; exact lh_mI
                      have L_t : ∀ j, some t = some j → j < gvN S344 10 := fun j h => Nat.lt_of_lt_of_le (L_t j h) (m345 _)
                      have hm : ∀ b, gvN S b ≤ gvN S344 b := lh_le_trans hm m345
                      have ok := lh_W_ok hW
                      refine lv_goto (tgt := 386) hx hb dX10_oneLoad_268 (by decide) ?_
                      obtain ⟨rfl, rfl⟩ := dc_ret hf
                      exact W.vret hx hb hr (fun t9 ht9 hW9 => ⟨⟨rfl, ⟨hm, trivial⟩, by rw [ht9]; exact hW⟩, hS.F ht9⟩) hS.2.2 dX10_oneLoad_386
                    · replace hf := dc_if_f c339 hf
                      refine lh_aload_n hx hb dX10_oneLoad_233 rfl (lv_at hl 4 rfl) ?_
                      have L346 : ∀ j, gvR S 10 t 30 = some j → j < gvN S 60 := fun j h => ok _ _ _ _ j (L_t _ rfl) rfl h
                      refine lh_get (a := 10) (k := 30) (N := 42) (C := RX10) (T := TX10) (own := RX10) (ref := "LoaderModelsModel") hx hb hts (fun _ h => (List.mem_cons_of_mem _ (List.mem_append_right _ h))) hown hK hW rfl (L_t _ rfl) rfl rfl rfl (by decide) (hts (.fieldLink RX10 88 "LoaderModelsModel" "stage" "[I") (List.mem_cons_of_mem _ (List.mem_append_left _ (List.mem_append_left _ (List.mem_of_getElem? (i := 2) rfl))))) (fun _ h9 => h9) dX10_oneLoad_234 (v := lh_r ad 60 (gvR S 10 t 30)) rfl ?_
                      refine lv_iload_n hx hb dX10_oneLoad_237 rfl (lv_at hl 5 rfl) ?_
                      refine lv_iconst (v := 3) hx hb dX10_oneLoad_238 (by decide) ?_
                      obtain ⟨g347, hf⟩ := dc_gd_ok hf
                      obtain ⟨S348, eS348, hf⟩ := dc_let_ok hf
                      refine lh_ast_i (a := 60) hx hb hK hW hS hx10 (L346 _ hx10) rfl (fun _ => rfl) g347 dX10_oneLoad_239 (fun H locs hW hS => ?_)
                      rw [← eS348] at hW
                      have m349 : ∀ b, gvN S b ≤ gvN S348 b := by rw [eS348]; exact lh_mI
                      have L_t : ∀ j, some t = some j → j < gvN S348 10 := fun j h => Nat.lt_of_lt_of_le (L_t j h) (m349 _)
                      have hm : ∀ b, gvN S b ≤ gvN S348 b := lh_le_trans hm m349
                      have ok := lh_W_ok hW
                      refine lh_aload_n hx hb dX10_oneLoad_240 rfl (lv_at hl 4 rfl) ?_
                      refine lv_iconst (v := 1) hx hb dX10_oneLoad_241 (by decide) ?_
                      refine lv_iload_n hx hb dX10_oneLoad_242 rfl (lv_at hl 3 rfl) ?_
                      refine lh_aload_n hx hb dX10_oneLoad_243 rfl (lv_at hl 4 rfl) ?_
                      have L350 : ∀ j, gvR S348 10 t 13 = some j → j < gvN S348 43 := fun j h => ok _ _ _ _ j (L_t _ rfl) rfl h
                      refine lh_get (a := 10) (k := 13) (N := 42) (C := RX10) (T := TX10) (own := RX10) (ref := "LoaderModelsModel") hx hb hts (fun _ h => (List.mem_cons_of_mem _ (List.mem_append_right _ h))) hown hK hW rfl (L_t _ rfl) rfl rfl rfl (by decide) (hts (.fieldLink RX10 45 "LoaderModelsModel" "has" "[I") (List.mem_cons_of_mem _ (List.mem_append_left _ (List.mem_append_left _ (List.mem_of_getElem? (i := 10) rfl))))) (fun _ h9 => h9) dX10_oneLoad_244 (v := lh_r ad 43 (gvR S348 10 t 13)) rfl ?_
                      refine lv_iload hx hb dX10_oneLoad_247 (lv_at hl 1 rfl) ?_
                      obtain ⟨x351, hx351, hf⟩ := dc_nn_ok hf
                      obtain ⟨g352, hf⟩ := dc_gd_ok hf
                      refine lh_ald_i (a := 43) hx hb hK hW hx351 (L350 _ hx351) rfl rfl g352 dX10_oneLoad_249 ?_
                      refine lv_iconst (v := 1) hx hb dX10_oneLoad_250 (by decide) ?_
                      refine lv_isub hx hb dX10_oneLoad_251 ?_
                      refine lv_topi (fun v353 hv353 => ?_)
                      replace hf := dc_let_e hv353 hf
                      obtain ⟨r354, S355, k356, hf⟩ := dc_bd_ok hf
                      refine lh_call (S' := S355) (lh_rv ⟨hx, hb, hml, hown, hts⟩ rfl (As := [.int (1 : Int32), .int (gvI S 58 x2 (p1).toNatClampNeg), .int v353]) (rest := []) (k := 10) (c_X10_push l D cT n S348 ad A H.size (fun q9 h9 => hA q9 (Nat.le_trans hS.1 h9)) t (1 : Int32) (gvI S 58 x2 (p1).toNatClampNeg) v353 r354 S355 k356 L_t) (cwV 3 hts gX10_oneLoad_X10_push rfl rfl rfl (by decide +kernel) ⟨Nat.le_of_ble_eq_true rfl, Nat.le_of_ble_eq_true rfl⟩) hK hN hW (L_t _ rfl) rfl rfl rfl hl.1 rfl (by simp [lh_cat_r, lh_cat_i, lh_cat_j]) dX10_oneLoad_252 ⟨Nat.le_of_ble_eq_true rfl, Nat.le_of_ble_eq_true rfl⟩) hS (fun H locs hX hW hS => ?_)
                      refine W.widen (k := 0) (n := 0) (by omega) (by omega) ?_
                      show W _ _ _ _ _ _ _ _ _ _ _ _ _ _ _ (F0 m 255 ls [])
                      have m357 : ∀ b, gvN S348 b ≤ gvN S355 b := hX.1
                      have L_t : ∀ j, some t = some j → j < gvN S355 10 := fun j h => Nat.lt_of_lt_of_le (L_t j h) (m357 _)
                      have hm : ∀ b, gvN S b ≤ gvN S355 b := lh_le_trans hm m357
                      have ok := lh_W_ok hW
                      refine lv_goto (tgt := 268) hx hb dX10_oneLoad_255 (by decide) ?_
                      refine lv_goto (tgt := 386) hx hb dX10_oneLoad_268 (by decide) ?_
                      obtain ⟨rfl, rfl⟩ := dc_ret hf
                      exact W.vret hx hb hr (fun t9 ht9 hW9 => ⟨⟨rfl, ⟨hm, trivial⟩, by rw [ht9]; exact hW⟩, hS.F ht9⟩) hS.2.2 dX10_oneLoad_386
                  · exact absurd c335 (by decide)
                · replace hf := dc_if_t c334 hf
                  refine lh_aload_n hx hb dX10_oneLoad_178 rfl (lv_at hl 4 rfl) ?_
                  have L358 : ∀ j, gvR S 10 t 31 = some j → j < gvN S 61 := fun j h => ok _ _ _ _ j (L_t _ rfl) rfl h
                  refine lh_get (a := 10) (k := 31) (N := 42) (C := RX10) (T := TX10) (own := RX10) (ref := "LoaderModelsModel") hx hb hts (fun _ h => (List.mem_cons_of_mem _ (List.mem_append_right _ h))) hown hK hW rfl (L_t _ rfl) rfl rfl rfl (by decide) (hts (.fieldLink RX10 91 "LoaderModelsModel" "turn" "[I") (List.mem_cons_of_mem _ (List.mem_append_left _ (List.mem_append_left _ (List.mem_of_getElem? (i := 8) rfl))))) (fun _ h9 => h9) dX10_oneLoad_179 (v := lh_r ad 61 (gvR S 10 t 31)) rfl ?_
                  refine lv_iload_n hx hb dX10_oneLoad_182 rfl (lv_at hl 5 rfl) ?_
                  obtain ⟨g359, hf⟩ := dc_gd_ok hf
                  refine lh_ald_i (a := 61) hx hb hK hW hx323 (L358 _ hx323) rfl rfl g359 dX10_oneLoad_183 ?_
                  refine lv_iconst (v := 1) hx hb dX10_oneLoad_184 (by decide) ?_
                  refine lv_icmp_ne (tgt := 196) hx hb dX10_oneLoad_185 (by decide) (fun c360 => ?_) (fun c360 => ?_)
                  · replace hf := dc_if_f c360 hf
                    refine lv_iload hx hb dX10_oneLoad_196 (lv_at hl 0 rfl) ?_
                    refine lv_if_eq (tgt := 223) hx hb dX10_oneLoad_198 (by decide) (fun c361 => ?_) (fun c361 => ?_)
                    · refine lh_aload_n hx hb dX10_oneLoad_223 rfl (lv_at hl 4 rfl) ?_
                      have L362 : ∀ j, gvR S 10 t 13 = some j → j < gvN S 43 := fun j h => ok _ _ _ _ j (L_t _ rfl) rfl h
                      refine lh_get (a := 10) (k := 13) (N := 42) (C := RX10) (T := TX10) (own := RX10) (ref := "LoaderModelsModel") hx hb hts (fun _ h => (List.mem_cons_of_mem _ (List.mem_append_right _ h))) hown hK hW rfl (L_t _ rfl) rfl rfl rfl (by decide) (hts (.fieldLink RX10 45 "LoaderModelsModel" "has" "[I") (List.mem_cons_of_mem _ (List.mem_append_left _ (List.mem_append_left _ (List.mem_of_getElem? (i := 10) rfl))))) (fun _ h9 => h9) dX10_oneLoad_224 (v := lh_r ad 43 (gvR S 10 t 13)) rfl ?_
                      refine lv_iload hx hb dX10_oneLoad_227 (lv_at hl 1 rfl) ?_
                      obtain ⟨x363, hx363, hf⟩ := dc_nn_ok hf
                      obtain ⟨g364, hf⟩ := dc_gd_ok hf
                      refine lh_ald_i (a := 43) hx hb hK hW hx363 (L362 _ hx363) rfl rfl g364 dX10_oneLoad_229 ?_
                      refine lv_if_le (tgt := 258) hx hb dX10_oneLoad_230 (by decide) (fun c365 => ?_) (fun c365 => ?_)
                      · replace hf := dc_if_t c365 hf
                        refine lh_aload_n hx hb dX10_oneLoad_258 rfl (lv_at hl 4 rfl) ?_
                        have L366 : ∀ j, gvR S 10 t 31 = some j → j < gvN S 61 := fun j h => ok _ _ _ _ j (L_t _ rfl) rfl h
                        refine lh_get (a := 10) (k := 31) (N := 42) (C := RX10) (T := TX10) (own := RX10) (ref := "LoaderModelsModel") hx hb hts (fun _ h => (List.mem_cons_of_mem _ (List.mem_append_right _ h))) hown hK hW rfl (L_t _ rfl) rfl rfl rfl (by decide) (hts (.fieldLink RX10 91 "LoaderModelsModel" "turn" "[I") (List.mem_cons_of_mem _ (List.mem_append_left _ (List.mem_append_left _ (List.mem_of_getElem? (i := 8) rfl))))) (fun _ h9 => h9) dX10_oneLoad_259 (v := lh_r ad 61 (gvR S 10 t 31)) rfl ?_
                        refine lv_iload_n hx hb dX10_oneLoad_262 rfl (lv_at hl 5 rfl) ?_
                        refine lv_dup2_11 hx hb dX10_oneLoad_263 rfl lh_cat_r ?_
                        obtain ⟨g367, hf⟩ := dc_gd_ok hf
                        refine lh_ald_i (a := 61) hx hb hK hW hx323 (L366 _ hx323) rfl rfl g367 dX10_oneLoad_264 ?_
                        refine lv_iconst (v := 1) hx hb dX10_oneLoad_265 (by decide) ?_
                        refine lv_iadd hx hb dX10_oneLoad_266 ?_
                        refine lv_topi (fun v368 hv368 => ?_)
                        replace hf := dc_let_e hv368 hf
                        obtain ⟨g369, hf⟩ := dc_gd_ok hf
                        obtain ⟨S370, eS370, hf⟩ := dc_let_ok hf
                        refine lh_ast_i (a := 61) hx hb hK hW hS hx323 (L366 _ hx323) rfl (fun _ => rfl) g369 dX10_oneLoad_267 (fun H locs hW hS => ?_)
                        rw [← eS370] at hW
                        have m371 : ∀ b, gvN S b ≤ gvN S370 b := by rw [eS370]; exact lh_mI
                        have L_t : ∀ j, some t = some j → j < gvN S370 10 := fun j h => Nat.lt_of_lt_of_le (L_t j h) (m371 _)
                        have hm : ∀ b, gvN S b ≤ gvN S370 b := lh_le_trans hm m371
                        have ok := lh_W_ok hW
                        refine lv_goto (tgt := 386) hx hb dX10_oneLoad_268 (by decide) ?_
                        obtain ⟨rfl, rfl⟩ := dc_ret hf
                        exact W.vret hx hb hr (fun t9 ht9 hW9 => ⟨⟨rfl, ⟨hm, trivial⟩, by rw [ht9]; exact hW⟩, hS.F ht9⟩) hS.2.2 dX10_oneLoad_386
                      · replace hf := dc_if_f c365 hf
                        refine lh_aload_n hx hb dX10_oneLoad_233 rfl (lv_at hl 4 rfl) ?_
                        have L372 : ∀ j, gvR S 10 t 30 = some j → j < gvN S 60 := fun j h => ok _ _ _ _ j (L_t _ rfl) rfl h
                        refine lh_get (a := 10) (k := 30) (N := 42) (C := RX10) (T := TX10) (own := RX10) (ref := "LoaderModelsModel") hx hb hts (fun _ h => (List.mem_cons_of_mem _ (List.mem_append_right _ h))) hown hK hW rfl (L_t _ rfl) rfl rfl rfl (by decide) (hts (.fieldLink RX10 88 "LoaderModelsModel" "stage" "[I") (List.mem_cons_of_mem _ (List.mem_append_left _ (List.mem_append_left _ (List.mem_of_getElem? (i := 2) rfl))))) (fun _ h9 => h9) dX10_oneLoad_234 (v := lh_r ad 60 (gvR S 10 t 30)) rfl ?_
                        refine lv_iload_n hx hb dX10_oneLoad_237 rfl (lv_at hl 5 rfl) ?_
                        refine lv_iconst (v := 3) hx hb dX10_oneLoad_238 (by decide) ?_
                        obtain ⟨g373, hf⟩ := dc_gd_ok hf
                        obtain ⟨S374, eS374, hf⟩ := dc_let_ok hf
                        refine lh_ast_i (a := 60) hx hb hK hW hS hx10 (L372 _ hx10) rfl (fun _ => rfl) g373 dX10_oneLoad_239 (fun H locs hW hS => ?_)
                        rw [← eS374] at hW
                        have m375 : ∀ b, gvN S b ≤ gvN S374 b := by rw [eS374]; exact lh_mI
                        have L_t : ∀ j, some t = some j → j < gvN S374 10 := fun j h => Nat.lt_of_lt_of_le (L_t j h) (m375 _)
                        have hm : ∀ b, gvN S b ≤ gvN S374 b := lh_le_trans hm m375
                        have ok := lh_W_ok hW
                        refine lh_aload_n hx hb dX10_oneLoad_240 rfl (lv_at hl 4 rfl) ?_
                        refine lv_iconst (v := 1) hx hb dX10_oneLoad_241 (by decide) ?_
                        refine lv_iload_n hx hb dX10_oneLoad_242 rfl (lv_at hl 3 rfl) ?_
                        refine lh_aload_n hx hb dX10_oneLoad_243 rfl (lv_at hl 4 rfl) ?_
                        have L376 : ∀ j, gvR S374 10 t 13 = some j → j < gvN S374 43 := fun j h => ok _ _ _ _ j (L_t _ rfl) rfl h
                        refine lh_get (a := 10) (k := 13) (N := 42) (C := RX10) (T := TX10) (own := RX10) (ref := "LoaderModelsModel") hx hb hts (fun _ h => (List.mem_cons_of_mem _ (List.mem_append_right _ h))) hown hK hW rfl (L_t _ rfl) rfl rfl rfl (by decide) (hts (.fieldLink RX10 45 "LoaderModelsModel" "has" "[I") (List.mem_cons_of_mem _ (List.mem_append_left _ (List.mem_append_left _ (List.mem_of_getElem? (i := 10) rfl))))) (fun _ h9 => h9) dX10_oneLoad_244 (v := lh_r ad 43 (gvR S374 10 t 13)) rfl ?_
                        refine lv_iload hx hb dX10_oneLoad_247 (lv_at hl 1 rfl) ?_
                        obtain ⟨x377, hx377, hf⟩ := dc_nn_ok hf
                        obtain ⟨g378, hf⟩ := dc_gd_ok hf
                        refine lh_ald_i (a := 43) hx hb hK hW hx377 (L376 _ hx377) rfl rfl g378 dX10_oneLoad_249 ?_
                        refine lv_iconst (v := 1) hx hb dX10_oneLoad_250 (by decide) ?_
                        refine lv_isub hx hb dX10_oneLoad_251 ?_
                        refine lv_topi (fun v379 hv379 => ?_)
                        replace hf := dc_let_e hv379 hf
                        obtain ⟨r380, S381, k382, hf⟩ := dc_bd_ok hf
                        refine lh_call (S' := S381) (lh_rv ⟨hx, hb, hml, hown, hts⟩ rfl (As := [.int (1 : Int32), .int (gvI S 58 x2 (p1).toNatClampNeg), .int v379]) (rest := []) (k := 10) (c_X10_push l D cT n S374 ad A H.size (fun q9 h9 => hA q9 (Nat.le_trans hS.1 h9)) t (1 : Int32) (gvI S 58 x2 (p1).toNatClampNeg) v379 r380 S381 k382 L_t) (cwV 3 hts gX10_oneLoad_X10_push rfl rfl rfl (by decide +kernel) ⟨Nat.le_of_ble_eq_true rfl, Nat.le_of_ble_eq_true rfl⟩) hK hN hW (L_t _ rfl) rfl rfl rfl hl.1 rfl (by simp [lh_cat_r, lh_cat_i, lh_cat_j]) dX10_oneLoad_252 ⟨Nat.le_of_ble_eq_true rfl, Nat.le_of_ble_eq_true rfl⟩) hS (fun H locs hX hW hS => ?_)
                        refine W.widen (k := 0) (n := 0) (by omega) (by omega) ?_
                        show W _ _ _ _ _ _ _ _ _ _ _ _ _ _ _ (F0 m 255 ls [])
                        have m383 : ∀ b, gvN S374 b ≤ gvN S381 b := hX.1
                        have L_t : ∀ j, some t = some j → j < gvN S381 10 := fun j h => Nat.lt_of_lt_of_le (L_t j h) (m383 _)
                        have hm : ∀ b, gvN S b ≤ gvN S381 b := lh_le_trans hm m383
                        have ok := lh_W_ok hW
                        refine lv_goto (tgt := 268) hx hb dX10_oneLoad_255 (by decide) ?_
                        refine lv_goto (tgt := 386) hx hb dX10_oneLoad_268 (by decide) ?_
                        obtain ⟨rfl, rfl⟩ := dc_ret hf
                        exact W.vret hx hb hr (fun t9 ht9 hW9 => ⟨⟨rfl, ⟨hm, trivial⟩, by rw [ht9]; exact hW⟩, hS.F ht9⟩) hS.2.2 dX10_oneLoad_386
                    · exact absurd c361 (by decide)
                  · replace hf := dc_if_t c360 hf
                    refine lh_aload_n hx hb dX10_oneLoad_188 rfl (lv_at hl 4 rfl) ?_
                    refine lv_iconst (v := 1) hx hb dX10_oneLoad_189 (by decide) ?_
                    obtain ⟨r384, S385, k386, hf⟩ := dc_bd_ok hf
                    refine lh_call (S' := S385) (lh_rv ⟨hx, hb, hml, hown, hts⟩ rfl (As := [.int (1 : Int32)]) (rest := []) (k := 10) (c_X10_ends l D cT n S ad A H.size (fun q9 h9 => hA q9 (Nat.le_trans hS.1 h9)) t (1 : Int32) r384 S385 k386 L_t) (cwV 1 hts gX10_oneLoad_X10_ends rfl rfl rfl (by decide +kernel) ⟨Nat.le_of_ble_eq_true rfl, Nat.le_of_ble_eq_true rfl⟩) hK hN hW (L_t _ rfl) rfl rfl rfl hl.1 rfl (by simp [lh_cat_r, lh_cat_i, lh_cat_j]) dX10_oneLoad_190 ⟨Nat.le_of_ble_eq_true rfl, Nat.le_of_ble_eq_true rfl⟩) hS (fun H locs hX hW hS => ?_)
                    refine W.widen (k := 0) (n := 0) (by omega) (by omega) ?_
                    show W _ _ _ _ _ _ _ _ _ _ _ _ _ _ _ (F0 m 193 ls [])
                    have m387 : ∀ b, gvN S b ≤ gvN S385 b := hX.1
                    have L_t : ∀ j, some t = some j → j < gvN S385 10 := fun j h => Nat.lt_of_lt_of_le (L_t j h) (m387 _)
                    have hm : ∀ b, gvN S b ≤ gvN S385 b := lh_le_trans hm m387
                    have ok := lh_W_ok hW
                    refine lv_goto (tgt := 268) hx hb dX10_oneLoad_193 (by decide) ?_
                    refine lv_goto (tgt := 386) hx hb dX10_oneLoad_268 (by decide) ?_
                    obtain ⟨rfl, rfl⟩ := dc_ret hf
                    exact W.vret hx hb hr (fun t9 ht9 hW9 => ⟨⟨rfl, ⟨hm, trivial⟩, by rw [ht9]; exact hW⟩, hS.F ht9⟩) hS.2.2 dX10_oneLoad_386
            · exact absurd c326 (by decide)
          · replace hf := dc_if_t c325 hf
            refine lv_iconst (v := 1) hx hb dX10_oneLoad_149 (by decide) ?_
            refine lv_goto (tgt := 154) hx hb dX10_oneLoad_150 (by decide) ?_
            refine lv_icmp_ne (tgt := 161) hx hb dX10_oneLoad_154 (by decide) (fun c388 => ?_) (fun c388 => ?_)
            · exact absurd c388 (by decide)
            · refine lv_iconst (v := 1) hx hb dX10_oneLoad_157 (by decide) ?_
              refine lv_goto (tgt := 162) hx hb dX10_oneLoad_158 (by decide) ?_
              refine lv_istore (i := 5) (lv' := [(5, .int (1 : Int32)), (4, .int v8), (3, .int (gvI S 59 x5 (p1).toNatClampNeg)), (2, .int (gvI S 58 x2 (p1).toNatClampNeg)), (0, lh_r ad 10 (some t)), (1, .int p1)]) hx hb dX10_oneLoad_162 hl (by decide) (by first | rfl | simp [lh_cat_r, lh_cat_i, lh_cat_j]) (fun ls hl => ?_)
              refine lh_aload_n hx hb dX10_oneLoad_164 rfl (lv_at hl 4 rfl) ?_
              have L389 : ∀ j, gvR S 10 t 31 = some j → j < gvN S 61 := fun j h => ok _ _ _ _ j (L_t _ rfl) rfl h
              refine lh_get (a := 10) (k := 31) (N := 42) (C := RX10) (T := TX10) (own := RX10) (ref := "LoaderModelsModel") hx hb hts (fun _ h => (List.mem_cons_of_mem _ (List.mem_append_right _ h))) hown hK hW rfl (L_t _ rfl) rfl rfl rfl (by decide) (hts (.fieldLink RX10 91 "LoaderModelsModel" "turn" "[I") (List.mem_cons_of_mem _ (List.mem_append_left _ (List.mem_append_left _ (List.mem_of_getElem? (i := 8) rfl))))) (fun _ h9 => h9) dX10_oneLoad_165 (v := lh_r ad 61 (gvR S 10 t 31)) rfl ?_
              refine lv_iload_n hx hb dX10_oneLoad_168 rfl (lv_at hl 5 rfl) ?_
              obtain ⟨g390, hf⟩ := dc_gd_ok hf
              refine lh_ald_i (a := 61) hx hb hK hW hx323 (L389 _ hx323) rfl rfl g390 dX10_oneLoad_169 ?_
              refine lv_iconst (v := 2) hx hb dX10_oneLoad_170 (by decide) ?_
              refine lv_icmp_eq (tgt := 188) hx hb dX10_oneLoad_171 (by decide) (fun c391 => ?_) (fun c391 => ?_)
              · replace hf := dc_if_t c391 hf
                refine lh_aload_n hx hb dX10_oneLoad_188 rfl (lv_at hl 4 rfl) ?_
                refine lv_iconst (v := 1) hx hb dX10_oneLoad_189 (by decide) ?_
                obtain ⟨r392, S393, k394, hf⟩ := dc_bd_ok hf
                refine lh_call (S' := S393) (lh_rv ⟨hx, hb, hml, hown, hts⟩ rfl (As := [.int (1 : Int32)]) (rest := []) (k := 10) (c_X10_ends l D cT n S ad A H.size (fun q9 h9 => hA q9 (Nat.le_trans hS.1 h9)) t (1 : Int32) r392 S393 k394 L_t) (cwV 1 hts gX10_oneLoad_X10_ends rfl rfl rfl (by decide +kernel) ⟨Nat.le_of_ble_eq_true rfl, Nat.le_of_ble_eq_true rfl⟩) hK hN hW (L_t _ rfl) rfl rfl rfl hl.1 rfl (by simp [lh_cat_r, lh_cat_i, lh_cat_j]) dX10_oneLoad_190 ⟨Nat.le_of_ble_eq_true rfl, Nat.le_of_ble_eq_true rfl⟩) hS (fun H locs hX hW hS => ?_)
                refine W.widen (k := 0) (n := 0) (by omega) (by omega) ?_
                show W _ _ _ _ _ _ _ _ _ _ _ _ _ _ _ (F0 m 193 ls [])
                have m395 : ∀ b, gvN S b ≤ gvN S393 b := hX.1
                have L_t : ∀ j, some t = some j → j < gvN S393 10 := fun j h => Nat.lt_of_lt_of_le (L_t j h) (m395 _)
                have hm : ∀ b, gvN S b ≤ gvN S393 b := lh_le_trans hm m395
                have ok := lh_W_ok hW
                refine lv_goto (tgt := 268) hx hb dX10_oneLoad_193 (by decide) ?_
                refine lv_goto (tgt := 386) hx hb dX10_oneLoad_268 (by decide) ?_
                obtain ⟨rfl, rfl⟩ := dc_ret hf
                exact W.vret hx hb hr (fun t9 ht9 hW9 => ⟨⟨rfl, ⟨hm, trivial⟩, by rw [ht9]; exact hW⟩, hS.F ht9⟩) hS.2.2 dX10_oneLoad_386
              · replace hf := dc_if_f c391 hf
                refine lv_iload_n hx hb dX10_oneLoad_174 rfl (lv_at hl 3 rfl) ?_
                refine lv_if_ne (tgt := 196) hx hb dX10_oneLoad_175 (by decide) (fun c396 => ?_) (fun c396 => ?_)
                · replace hf := dc_if_f c396 hf
                  refine lv_iload hx hb dX10_oneLoad_196 (lv_at hl 0 rfl) ?_
                  refine lv_if_eq (tgt := 223) hx hb dX10_oneLoad_198 (by decide) (fun c397 => ?_) (fun c397 => ?_)
                  · exact absurd c397 (by decide)
                  · refine lh_aload_n hx hb dX10_oneLoad_201 rfl (lv_at hl 4 rfl) ?_
                    have L398 : ∀ j, gvR S 10 t 30 = some j → j < gvN S 60 := fun j h => ok _ _ _ _ j (L_t _ rfl) rfl h
                    refine lh_get (a := 10) (k := 30) (N := 42) (C := RX10) (T := TX10) (own := RX10) (ref := "LoaderModelsModel") hx hb hts (fun _ h => (List.mem_cons_of_mem _ (List.mem_append_right _ h))) hown hK hW rfl (L_t _ rfl) rfl rfl rfl (by decide) (hts (.fieldLink RX10 88 "LoaderModelsModel" "stage" "[I") (List.mem_cons_of_mem _ (List.mem_append_left _ (List.mem_append_left _ (List.mem_of_getElem? (i := 2) rfl))))) (fun _ h9 => h9) dX10_oneLoad_202 (v := lh_r ad 60 (gvR S 10 t 30)) rfl ?_
                    refine lv_iload_n hx hb dX10_oneLoad_205 rfl (lv_at hl 5 rfl) ?_
                    refine lv_iconst (v := 2) hx hb dX10_oneLoad_206 (by decide) ?_
                    obtain ⟨g399, hf⟩ := dc_gd_ok hf
                    obtain ⟨S400, eS400, hf⟩ := dc_let_ok hf
                    refine lh_ast_i (a := 60) hx hb hK hW hS hx10 (L398 _ hx10) rfl (fun _ => rfl) g399 dX10_oneLoad_207 (fun H locs hW hS => ?_)
                    rw [← eS400] at hW
                    have m401 : ∀ b, gvN S b ≤ gvN S400 b := by rw [eS400]; exact lh_mI
                    have L_t : ∀ j, some t = some j → j < gvN S400 10 := fun j h => Nat.lt_of_lt_of_le (L_t j h) (m401 _)
                    have hm : ∀ b, gvN S b ≤ gvN S400 b := lh_le_trans hm m401
                    have ok := lh_W_ok hW
                    refine lh_aload_n hx hb dX10_oneLoad_208 rfl (lv_at hl 4 rfl) ?_
                    refine lv_iconst (v := 0) hx hb dX10_oneLoad_209 (by decide) ?_
                    refine lh_aload_n hx hb dX10_oneLoad_210 rfl (lv_at hl 4 rfl) ?_
                    have L402 : ∀ j, gvR S400 10 t 11 = some j → j < gvN S400 41 := fun j h => ok _ _ _ _ j (L_t _ rfl) rfl h
                    refine lh_get (a := 10) (k := 11) (N := 42) (C := RX10) (T := TX10) (own := RX10) (ref := "LoaderModelsModel") hx hb hts (fun _ h => (List.mem_cons_of_mem _ (List.mem_append_right _ h))) hown hK hW rfl (L_t _ rfl) rfl rfl rfl (by decide) (hts (.fieldLink RX10 39 "LoaderModelsModel" "parent" "[I") (List.mem_cons_of_mem _ (List.mem_append_left _ (List.mem_append_left _ (List.mem_of_getElem? (i := 9) rfl))))) (fun _ h9 => h9) dX10_oneLoad_211 (v := lh_r ad 41 (gvR S400 10 t 11)) rfl ?_
                    refine lv_iload_n hx hb dX10_oneLoad_214 rfl (lv_at hl 3 rfl) ?_
                    obtain ⟨x403, hx403, hf⟩ := dc_nn_ok hf
                    obtain ⟨g404, hf⟩ := dc_gd_ok hf
                    refine lh_ald_i (a := 41) hx hb hK hW hx403 (L402 _ hx403) rfl rfl g404 dX10_oneLoad_215 ?_
                    refine lv_iload_n hx hb dX10_oneLoad_216 rfl (lv_at hl 2 rfl) ?_
                    obtain ⟨r405, S406, k407, hf⟩ := dc_bd_ok hf
                    refine lh_call (S' := S406) (lh_rv ⟨hx, hb, hml, hown, hts⟩ rfl (As := [.int (0 : Int32), .int (gvI S400 41 x403 ((gvI S 58 x2 (p1).toNatClampNeg)).toNatClampNeg), .int (gvI S 59 x5 (p1).toNatClampNeg)]) (rest := []) (k := 10) (c_X10_push l D cT n S400 ad A H.size (fun q9 h9 => hA q9 (Nat.le_trans hS.1 h9)) t (0 : Int32) (gvI S400 41 x403 ((gvI S 58 x2 (p1).toNatClampNeg)).toNatClampNeg) (gvI S 59 x5 (p1).toNatClampNeg) r405 S406 k407 L_t) (cwV 3 hts gX10_oneLoad_X10_push rfl rfl rfl (by decide +kernel) ⟨Nat.le_of_ble_eq_true rfl, Nat.le_of_ble_eq_true rfl⟩) hK hN hW (L_t _ rfl) rfl rfl rfl hl.1 rfl (by simp [lh_cat_r, lh_cat_i, lh_cat_j]) dX10_oneLoad_217 ⟨Nat.le_of_ble_eq_true rfl, Nat.le_of_ble_eq_true rfl⟩) hS (fun H locs hX hW hS => ?_)
                    refine W.widen (k := 0) (n := 0) (by omega) (by omega) ?_
                    show W _ _ _ _ _ _ _ _ _ _ _ _ _ _ _ (F0 m 220 ls [])
                    have m408 : ∀ b, gvN S400 b ≤ gvN S406 b := hX.1
                    have L_t : ∀ j, some t = some j → j < gvN S406 10 := fun j h => Nat.lt_of_lt_of_le (L_t j h) (m408 _)
                    have hm : ∀ b, gvN S b ≤ gvN S406 b := lh_le_trans hm m408
                    have ok := lh_W_ok hW
                    refine lv_goto (tgt := 268) hx hb dX10_oneLoad_220 (by decide) ?_
                    refine lv_goto (tgt := 386) hx hb dX10_oneLoad_268 (by decide) ?_
                    obtain ⟨rfl, rfl⟩ := dc_ret hf
                    exact W.vret hx hb hr (fun t9 ht9 hW9 => ⟨⟨rfl, ⟨hm, trivial⟩, by rw [ht9]; exact hW⟩, hS.F ht9⟩) hS.2.2 dX10_oneLoad_386
                · replace hf := dc_if_t c396 hf
                  refine lh_aload_n hx hb dX10_oneLoad_178 rfl (lv_at hl 4 rfl) ?_
                  have L409 : ∀ j, gvR S 10 t 31 = some j → j < gvN S 61 := fun j h => ok _ _ _ _ j (L_t _ rfl) rfl h
                  refine lh_get (a := 10) (k := 31) (N := 42) (C := RX10) (T := TX10) (own := RX10) (ref := "LoaderModelsModel") hx hb hts (fun _ h => (List.mem_cons_of_mem _ (List.mem_append_right _ h))) hown hK hW rfl (L_t _ rfl) rfl rfl rfl (by decide) (hts (.fieldLink RX10 91 "LoaderModelsModel" "turn" "[I") (List.mem_cons_of_mem _ (List.mem_append_left _ (List.mem_append_left _ (List.mem_of_getElem? (i := 8) rfl))))) (fun _ h9 => h9) dX10_oneLoad_179 (v := lh_r ad 61 (gvR S 10 t 31)) rfl ?_
                  refine lv_iload_n hx hb dX10_oneLoad_182 rfl (lv_at hl 5 rfl) ?_
                  obtain ⟨g410, hf⟩ := dc_gd_ok hf
                  refine lh_ald_i (a := 61) hx hb hK hW hx323 (L409 _ hx323) rfl rfl g410 dX10_oneLoad_183 ?_
                  refine lv_iconst (v := 1) hx hb dX10_oneLoad_184 (by decide) ?_
                  refine lv_icmp_ne (tgt := 196) hx hb dX10_oneLoad_185 (by decide) (fun c411 => ?_) (fun c411 => ?_)
                  · replace hf := dc_if_f c411 hf
                    refine lv_iload hx hb dX10_oneLoad_196 (lv_at hl 0 rfl) ?_
                    refine lv_if_eq (tgt := 223) hx hb dX10_oneLoad_198 (by decide) (fun c412 => ?_) (fun c412 => ?_)
                    · exact absurd c412 (by decide)
                    · refine lh_aload_n hx hb dX10_oneLoad_201 rfl (lv_at hl 4 rfl) ?_
                      have L413 : ∀ j, gvR S 10 t 30 = some j → j < gvN S 60 := fun j h => ok _ _ _ _ j (L_t _ rfl) rfl h
                      refine lh_get (a := 10) (k := 30) (N := 42) (C := RX10) (T := TX10) (own := RX10) (ref := "LoaderModelsModel") hx hb hts (fun _ h => (List.mem_cons_of_mem _ (List.mem_append_right _ h))) hown hK hW rfl (L_t _ rfl) rfl rfl rfl (by decide) (hts (.fieldLink RX10 88 "LoaderModelsModel" "stage" "[I") (List.mem_cons_of_mem _ (List.mem_append_left _ (List.mem_append_left _ (List.mem_of_getElem? (i := 2) rfl))))) (fun _ h9 => h9) dX10_oneLoad_202 (v := lh_r ad 60 (gvR S 10 t 30)) rfl ?_
                      refine lv_iload_n hx hb dX10_oneLoad_205 rfl (lv_at hl 5 rfl) ?_
                      refine lv_iconst (v := 2) hx hb dX10_oneLoad_206 (by decide) ?_
                      obtain ⟨g414, hf⟩ := dc_gd_ok hf
                      obtain ⟨S415, eS415, hf⟩ := dc_let_ok hf
                      refine lh_ast_i (a := 60) hx hb hK hW hS hx10 (L413 _ hx10) rfl (fun _ => rfl) g414 dX10_oneLoad_207 (fun H locs hW hS => ?_)
                      rw [← eS415] at hW
                      have m416 : ∀ b, gvN S b ≤ gvN S415 b := by rw [eS415]; exact lh_mI
                      have L_t : ∀ j, some t = some j → j < gvN S415 10 := fun j h => Nat.lt_of_lt_of_le (L_t j h) (m416 _)
                      have hm : ∀ b, gvN S b ≤ gvN S415 b := lh_le_trans hm m416
                      have ok := lh_W_ok hW
                      refine lh_aload_n hx hb dX10_oneLoad_208 rfl (lv_at hl 4 rfl) ?_
                      refine lv_iconst (v := 0) hx hb dX10_oneLoad_209 (by decide) ?_
                      refine lh_aload_n hx hb dX10_oneLoad_210 rfl (lv_at hl 4 rfl) ?_
                      have L417 : ∀ j, gvR S415 10 t 11 = some j → j < gvN S415 41 := fun j h => ok _ _ _ _ j (L_t _ rfl) rfl h
                      refine lh_get (a := 10) (k := 11) (N := 42) (C := RX10) (T := TX10) (own := RX10) (ref := "LoaderModelsModel") hx hb hts (fun _ h => (List.mem_cons_of_mem _ (List.mem_append_right _ h))) hown hK hW rfl (L_t _ rfl) rfl rfl rfl (by decide) (hts (.fieldLink RX10 39 "LoaderModelsModel" "parent" "[I") (List.mem_cons_of_mem _ (List.mem_append_left _ (List.mem_append_left _ (List.mem_of_getElem? (i := 9) rfl))))) (fun _ h9 => h9) dX10_oneLoad_211 (v := lh_r ad 41 (gvR S415 10 t 11)) rfl ?_
                      refine lv_iload_n hx hb dX10_oneLoad_214 rfl (lv_at hl 3 rfl) ?_
                      obtain ⟨x418, hx418, hf⟩ := dc_nn_ok hf
                      obtain ⟨g419, hf⟩ := dc_gd_ok hf
                      refine lh_ald_i (a := 41) hx hb hK hW hx418 (L417 _ hx418) rfl rfl g419 dX10_oneLoad_215 ?_
                      refine lv_iload_n hx hb dX10_oneLoad_216 rfl (lv_at hl 2 rfl) ?_
                      obtain ⟨r420, S421, k422, hf⟩ := dc_bd_ok hf
                      refine lh_call (S' := S421) (lh_rv ⟨hx, hb, hml, hown, hts⟩ rfl (As := [.int (0 : Int32), .int (gvI S415 41 x418 ((gvI S 58 x2 (p1).toNatClampNeg)).toNatClampNeg), .int (gvI S 59 x5 (p1).toNatClampNeg)]) (rest := []) (k := 10) (c_X10_push l D cT n S415 ad A H.size (fun q9 h9 => hA q9 (Nat.le_trans hS.1 h9)) t (0 : Int32) (gvI S415 41 x418 ((gvI S 58 x2 (p1).toNatClampNeg)).toNatClampNeg) (gvI S 59 x5 (p1).toNatClampNeg) r420 S421 k422 L_t) (cwV 3 hts gX10_oneLoad_X10_push rfl rfl rfl (by decide +kernel) ⟨Nat.le_of_ble_eq_true rfl, Nat.le_of_ble_eq_true rfl⟩) hK hN hW (L_t _ rfl) rfl rfl rfl hl.1 rfl (by simp [lh_cat_r, lh_cat_i, lh_cat_j]) dX10_oneLoad_217 ⟨Nat.le_of_ble_eq_true rfl, Nat.le_of_ble_eq_true rfl⟩) hS (fun H locs hX hW hS => ?_)
                      refine W.widen (k := 0) (n := 0) (by omega) (by omega) ?_
                      show W _ _ _ _ _ _ _ _ _ _ _ _ _ _ _ (F0 m 220 ls [])
                      have m423 : ∀ b, gvN S415 b ≤ gvN S421 b := hX.1
                      have L_t : ∀ j, some t = some j → j < gvN S421 10 := fun j h => Nat.lt_of_lt_of_le (L_t j h) (m423 _)
                      have hm : ∀ b, gvN S b ≤ gvN S421 b := lh_le_trans hm m423
                      have ok := lh_W_ok hW
                      refine lv_goto (tgt := 268) hx hb dX10_oneLoad_220 (by decide) ?_
                      refine lv_goto (tgt := 386) hx hb dX10_oneLoad_268 (by decide) ?_
                      obtain ⟨rfl, rfl⟩ := dc_ret hf
                      exact W.vret hx hb hr (fun t9 ht9 hW9 => ⟨⟨rfl, ⟨hm, trivial⟩, by rw [ht9]; exact hW⟩, hS.F ht9⟩) hS.2.2 dX10_oneLoad_386
                  · replace hf := dc_if_t c411 hf
                    refine lh_aload_n hx hb dX10_oneLoad_188 rfl (lv_at hl 4 rfl) ?_
                    refine lv_iconst (v := 1) hx hb dX10_oneLoad_189 (by decide) ?_
                    obtain ⟨r424, S425, k426, hf⟩ := dc_bd_ok hf
                    refine lh_call (S' := S425) (lh_rv ⟨hx, hb, hml, hown, hts⟩ rfl (As := [.int (1 : Int32)]) (rest := []) (k := 10) (c_X10_ends l D cT n S ad A H.size (fun q9 h9 => hA q9 (Nat.le_trans hS.1 h9)) t (1 : Int32) r424 S425 k426 L_t) (cwV 1 hts gX10_oneLoad_X10_ends rfl rfl rfl (by decide +kernel) ⟨Nat.le_of_ble_eq_true rfl, Nat.le_of_ble_eq_true rfl⟩) hK hN hW (L_t _ rfl) rfl rfl rfl hl.1 rfl (by simp [lh_cat_r, lh_cat_i, lh_cat_j]) dX10_oneLoad_190 ⟨Nat.le_of_ble_eq_true rfl, Nat.le_of_ble_eq_true rfl⟩) hS (fun H locs hX hW hS => ?_)
                    refine W.widen (k := 0) (n := 0) (by omega) (by omega) ?_
                    show W _ _ _ _ _ _ _ _ _ _ _ _ _ _ _ (F0 m 193 ls [])
                    have m427 : ∀ b, gvN S b ≤ gvN S425 b := hX.1
                    have L_t : ∀ j, some t = some j → j < gvN S425 10 := fun j h => Nat.lt_of_lt_of_le (L_t j h) (m427 _)
                    have hm : ∀ b, gvN S b ≤ gvN S425 b := lh_le_trans hm m427
                    have ok := lh_W_ok hW
                    refine lv_goto (tgt := 268) hx hb dX10_oneLoad_193 (by decide) ?_
                    refine lv_goto (tgt := 386) hx hb dX10_oneLoad_268 (by decide) ?_
                    obtain ⟨rfl, rfl⟩ := dc_ret hf
                    exact W.vret hx hb hr (fun t9 ht9 hW9 => ⟨⟨rfl, ⟨hm, trivial⟩, by rw [ht9]; exact hW⟩, hS.F ht9⟩) hS.2.2 dX10_oneLoad_386
  · replace hf := dc_if_t c12 hf
    refine lh_aload_n hx hb dX10_oneLoad_31 rfl (lv_at hl 3 rfl) ?_
    have L428 : ∀ j, gvR S 10 t 26 = some j → j < gvN S 56 := fun j h => ok _ _ _ _ j (L_t _ rfl) rfl h
    refine lh_get (a := 10) (k := 26) (N := 42) (C := RX10) (T := TX10) (own := RX10) (ref := "LoaderModelsModel") hx hb hts (fun _ h => (List.mem_cons_of_mem _ (List.mem_append_right _ h))) hown hK hW rfl (L_t _ rfl) rfl rfl rfl (by decide) (hts (.fieldLink RX10 76 "LoaderModelsModel" "noted" "[I") (List.mem_cons_of_mem _ (List.mem_append_left _ (List.mem_append_left _ (List.mem_of_getElem? (i := 3) rfl))))) (fun _ h9 => h9) dX10_oneLoad_32 (v := lh_r ad 56 (gvR S 10 t 26)) rfl ?_
    refine lh_aload_n hx hb dX10_oneLoad_35 rfl (lv_at hl 3 rfl) ?_
    refine lh_get (a := 10) (k := 25) (N := 42) (C := RX10) (T := TX10) (own := RX10) (ref := "LoaderModelsModel") hx hb hts (fun _ h => (List.mem_cons_of_mem _ (List.mem_append_right _ h))) hown hK hW rfl (L_t _ rfl) rfl rfl rfl (by decide) (hts (.fieldLink RX10 160 "LoaderModelsModel" "loads" "I") (List.mem_cons_of_mem _ (List.mem_append_left _ (List.mem_append_left _ (List.mem_of_getElem? (i := 4) rfl))))) (fun _ h9 => h9) dX10_oneLoad_36 (v := .int (gvI S 10 t 25)) rfl ?_
    refine lv_bipush (v := 30) hx hb dX10_oneLoad_39 (by decide) ?_
    refine lv_irem hx hb dX10_oneLoad_41 (by decide) ?_
    refine lv_topi (fun v429 hv429 => ?_)
    replace hf := dc_let_e hv429 hf
    refine lv_bipush (v := 64) hx hb dX10_oneLoad_42 (by decide) ?_
    refine lv_iload_n hx hb dX10_oneLoad_44 rfl (lv_at hl 2 rfl) ?_
    refine lv_imul hx hb dX10_oneLoad_45 ?_
    refine lv_topi (fun v430 hv430 => ?_)
    replace hf := dc_let_e hv430 hf
    refine lv_iload_n hx hb dX10_oneLoad_46 rfl (lv_at hl 1 rfl) ?_
    refine lv_iadd hx hb dX10_oneLoad_47 ?_
    refine lv_topi (fun v431 hv431 => ?_)
    replace hf := dc_let_e hv431 hf
    obtain ⟨x432, hx432, hf⟩ := dc_nn_ok hf
    obtain ⟨g433, hf⟩ := dc_gd_ok hf
    obtain ⟨S434, eS434, hf⟩ := dc_let_ok hf
    refine lh_ast_i (a := 56) hx hb hK hW hS hx432 (L428 _ hx432) rfl (fun _ => rfl) g433 dX10_oneLoad_48 (fun H locs hW hS => ?_)
    rw [← eS434] at hW
    have m435 : ∀ b, gvN S b ≤ gvN S434 b := by rw [eS434]; exact lh_mI
    have L_t : ∀ j, some t = some j → j < gvN S434 10 := fun j h => Nat.lt_of_lt_of_le (L_t j h) (m435 _)
    have hm : ∀ b, gvN S b ≤ gvN S434 b := lh_le_trans hm m435
    have ok := lh_W_ok hW
    refine lh_aload_n hx hb dX10_oneLoad_49 rfl (lv_at hl 3 rfl) ?_
    refine lv_dup hx hb dX10_oneLoad_50 lh_cat_r ?_
    refine lh_get (a := 10) (k := 25) (N := 42) (C := RX10) (T := TX10) (own := RX10) (ref := "LoaderModelsModel") hx hb hts (fun _ h => (List.mem_cons_of_mem _ (List.mem_append_right _ h))) hown hK hW rfl (L_t _ rfl) rfl rfl rfl (by decide) (hts (.fieldLink RX10 160 "LoaderModelsModel" "loads" "I") (List.mem_cons_of_mem _ (List.mem_append_left _ (List.mem_append_left _ (List.mem_of_getElem? (i := 4) rfl))))) (fun _ h9 => h9) dX10_oneLoad_51 (v := .int (gvI S434 10 t 25)) rfl ?_
    refine lv_iconst (v := 1) hx hb dX10_oneLoad_54 (by decide) ?_
    refine lv_iadd hx hb dX10_oneLoad_55 ?_
    refine lv_topi (fun v436 hv436 => ?_)
    replace hf := dc_let_e hv436 hf
    obtain ⟨S437, eS437, hf⟩ := dc_let_ok hf
    refine lh_put (S' := S437) (a := 10) (k := 25) (N := 42) (C := RX10) (T := TX10) (own := RX10) (ref := "LoaderModelsModel") (ty := .int) hx hb hts (fun _ h => (List.mem_cons_of_mem _ (List.mem_append_right _ h))) tyX10 tyX10_ok nmX10 hown hK hW hS rfl (L_t _ rfl) rfl rfl rfl (by decide) (hts (.fieldLink RX10 160 "LoaderModelsModel" "loads" "I") (List.mem_cons_of_mem _ (List.mem_append_left _ (List.mem_append_left _ (List.mem_of_getElem? (i := 4) rfl))))) (fun _ h9 => h9) (Or.inl rfl) (by decide +kernel) rfl rfl (fun q9 => by rw [eS437]; exact lh_chI rfl q9) dX10_oneLoad_56 (fun H locs hW hS => ?_)
    have m438 : ∀ b, gvN S434 b ≤ gvN S437 b := by rw [eS437]; exact lh_mI
    have L_t : ∀ j, some t = some j → j < gvN S437 10 := fun j h => Nat.lt_of_lt_of_le (L_t j h) (m438 _)
    have hm : ∀ b, gvN S b ≤ gvN S437 b := lh_le_trans hm m438
    have ok := lh_W_ok hW
    refine lh_aload_n hx hb dX10_oneLoad_59 rfl (lv_at hl 3 rfl) ?_
    have L439 : ∀ j, gvR S437 10 t 30 = some j → j < gvN S437 60 := fun j h => ok _ _ _ _ j (L_t _ rfl) rfl h
    refine lh_get (a := 10) (k := 30) (N := 42) (C := RX10) (T := TX10) (own := RX10) (ref := "LoaderModelsModel") hx hb hts (fun _ h => (List.mem_cons_of_mem _ (List.mem_append_right _ h))) hown hK hW rfl (L_t _ rfl) rfl rfl rfl (by decide) (hts (.fieldLink RX10 88 "LoaderModelsModel" "stage" "[I") (List.mem_cons_of_mem _ (List.mem_append_left _ (List.mem_append_left _ (List.mem_of_getElem? (i := 2) rfl))))) (fun _ h9 => h9) dX10_oneLoad_60 (v := lh_r ad 60 (gvR S437 10 t 30)) rfl ?_
    refine lv_iload_n hx hb dX10_oneLoad_63 rfl (lv_at hl 4 rfl) ?_
    refine lv_iconst (v := 1) hx hb dX10_oneLoad_64 (by decide) ?_
    obtain ⟨x440, hx440, hf⟩ := dc_nn_ok hf
    obtain ⟨g441, hf⟩ := dc_gd_ok hf
    obtain ⟨S442, eS442, hf⟩ := dc_let_ok hf
    refine lh_ast_i (a := 60) hx hb hK hW hS hx440 (L439 _ hx440) rfl (fun _ => rfl) g441 dX10_oneLoad_65 (fun H locs hW hS => ?_)
    rw [← eS442] at hW
    have m443 : ∀ b, gvN S437 b ≤ gvN S442 b := by rw [eS442]; exact lh_mI
    have L_t : ∀ j, some t = some j → j < gvN S442 10 := fun j h => Nat.lt_of_lt_of_le (L_t j h) (m443 _)
    have hm : ∀ b, gvN S b ≤ gvN S442 b := lh_le_trans hm m443
    have ok := lh_W_ok hW
    refine lh_aload_n hx hb dX10_oneLoad_66 rfl (lv_at hl 3 rfl) ?_
    have L444 : ∀ j, gvR S442 10 t 14 = some j → j < gvN S442 44 := fun j h => ok _ _ _ _ j (L_t _ rfl) rfl h
    refine lh_get (a := 10) (k := 14) (N := 42) (C := RX10) (T := TX10) (own := RX10) (ref := "LoaderModelsModel") hx hb hts (fun _ h => (List.mem_cons_of_mem _ (List.mem_append_right _ h))) hown hK hW rfl (L_t _ rfl) rfl rfl rfl (by decide) (hts (.fieldLink RX10 48 "LoaderModelsModel" "knows" "[I") (List.mem_cons_of_mem _ (List.mem_append_left _ (List.mem_append_left _ (List.mem_of_getElem? (i := 5) rfl))))) (fun _ h9 => h9) dX10_oneLoad_67 (v := lh_r ad 44 (gvR S442 10 t 14)) rfl ?_
    refine lv_iload hx hb dX10_oneLoad_70 (lv_at hl 0 rfl) ?_
    obtain ⟨x445, hx445, hf⟩ := dc_nn_ok hf
    obtain ⟨g446, hf⟩ := dc_gd_ok hf
    refine lh_ald_i (a := 44) hx hb hK hW hx445 (L444 _ hx445) rfl rfl g446 dX10_oneLoad_72 ?_
    refine lv_if_le (tgt := 92) hx hb dX10_oneLoad_73 (by decide) (fun c447 => ?_) (fun c447 => ?_)
    · replace hf := dc_if_t c447 hf
      refine lh_aload_n hx hb dX10_oneLoad_92 rfl (lv_at hl 3 rfl) ?_
      have L448 : ∀ j, gvR S442 10 t 15 = some j → j < gvN S442 45 := fun j h => ok _ _ _ _ j (L_t _ rfl) rfl h
      refine lh_get (a := 10) (k := 15) (N := 42) (C := RX10) (T := TX10) (own := RX10) (ref := "LoaderModelsModel") hx hb hts (fun _ h => (List.mem_cons_of_mem _ (List.mem_append_right _ h))) hown hK hW rfl (L_t _ rfl) rfl rfl rfl (by decide) (hts (.fieldLink RX10 51 "LoaderModelsModel" "isDefining" "[Z") (List.mem_cons_of_mem _ (List.mem_append_left _ (List.mem_append_left _ (List.mem_of_getElem? (i := 6) rfl))))) (fun _ h9 => h9) dX10_oneLoad_93 (v := lh_r ad 45 (gvR S442 10 t 15)) rfl ?_
      refine lv_iload hx hb dX10_oneLoad_96 (lv_at hl 0 rfl) ?_
      obtain ⟨x449, hx449, hf⟩ := dc_nn_ok hf
      obtain ⟨g450, hf⟩ := dc_gd_ok hf
      refine lh_ald_z (a := 45) hx hb hK hW hx449 (L448 _ hx449) rfl rfl g450 dX10_oneLoad_98 ?_
      refine lv_if_eq (tgt := 386) hx hb dX10_oneLoad_99 (by decide) (fun c451 => ?_) (fun c451 => ?_)
      · replace hf := dc_if_t c451 hf
        obtain ⟨rfl, rfl⟩ := dc_ret hf
        exact W.vret hx hb hr (fun t9 ht9 hW9 => ⟨⟨rfl, ⟨hm, trivial⟩, by rw [ht9]; exact hW⟩, hS.F ht9⟩) hS.2.2 dX10_oneLoad_386
      · replace hf := dc_if_f c451 hf
        refine lh_aload_n hx hb dX10_oneLoad_102 rfl (lv_at hl 3 rfl) ?_
        refine lv_bipush (v := 6) hx hb dX10_oneLoad_103 (by decide) ?_
        obtain ⟨r452, S453, k454, hf⟩ := dc_bd_ok hf
        refine lh_call (S' := S453) (lh_rv ⟨hx, hb, hml, hown, hts⟩ rfl (As := [.int (6 : Int32)]) (rest := []) (k := 10) (c_X10_ends l D cT n S442 ad A H.size (fun q9 h9 => hA q9 (Nat.le_trans hS.1 h9)) t (6 : Int32) r452 S453 k454 L_t) (cwV 1 hts gX10_oneLoad_X10_ends rfl rfl rfl (by decide +kernel) ⟨Nat.le_of_ble_eq_true rfl, Nat.le_of_ble_eq_true rfl⟩) hK hN hW (L_t _ rfl) rfl rfl rfl hl.1 rfl (by simp [lh_cat_r, lh_cat_i, lh_cat_j]) dX10_oneLoad_105 ⟨Nat.le_of_ble_eq_true rfl, Nat.le_of_ble_eq_true rfl⟩) hS (fun H locs hX hW hS => ?_)
        refine W.widen (k := 0) (n := 0) (by omega) (by omega) ?_
        show W _ _ _ _ _ _ _ _ _ _ _ _ _ _ _ (F0 m 108 ls [])
        have m455 : ∀ b, gvN S442 b ≤ gvN S453 b := hX.1
        have L_t : ∀ j, some t = some j → j < gvN S453 10 := fun j h => Nat.lt_of_lt_of_le (L_t j h) (m455 _)
        have hm : ∀ b, gvN S b ≤ gvN S453 b := lh_le_trans hm m455
        have ok := lh_W_ok hW
        refine lv_goto (tgt := 386) hx hb dX10_oneLoad_108 (by decide) ?_
        obtain ⟨rfl, rfl⟩ := dc_ret hf
        exact W.vret hx hb hr (fun t9 ht9 hW9 => ⟨⟨rfl, ⟨hm, trivial⟩, by rw [ht9]; exact hW⟩, hS.F ht9⟩) hS.2.2 dX10_oneLoad_386
    · replace hf := dc_if_f c447 hf
      refine lh_aload_n hx hb dX10_oneLoad_76 rfl (lv_at hl 3 rfl) ?_
      refine lh_aload_n hx hb dX10_oneLoad_77 rfl (lv_at hl 3 rfl) ?_
      have L456 : ∀ j, gvR S442 10 t 14 = some j → j < gvN S442 44 := fun j h => ok _ _ _ _ j (L_t _ rfl) rfl h
      refine lh_get (a := 10) (k := 14) (N := 42) (C := RX10) (T := TX10) (own := RX10) (ref := "LoaderModelsModel") hx hb hts (fun _ h => (List.mem_cons_of_mem _ (List.mem_append_right _ h))) hown hK hW rfl (L_t _ rfl) rfl rfl rfl (by decide) (hts (.fieldLink RX10 48 "LoaderModelsModel" "knows" "[I") (List.mem_cons_of_mem _ (List.mem_append_left _ (List.mem_append_left _ (List.mem_of_getElem? (i := 5) rfl))))) (fun _ h9 => h9) dX10_oneLoad_78 (v := lh_r ad 44 (gvR S442 10 t 14)) rfl ?_
      refine lv_iload hx hb dX10_oneLoad_81 (lv_at hl 0 rfl) ?_
      obtain ⟨g457, hf⟩ := dc_gd_ok hf
      refine lh_ald_i (a := 44) hx hb hK hW hx445 (L456 _ hx445) rfl rfl g457 dX10_oneLoad_83 ?_
      refine lv_iconst (v := 1) hx hb dX10_oneLoad_84 (by decide) ?_
      refine lv_isub hx hb dX10_oneLoad_85 ?_
      refine lv_topi (fun v458 hv458 => ?_)
      replace hf := dc_let_e hv458 hf
      obtain ⟨r459, S460, k461, hf⟩ := dc_bd_ok hf
      refine lh_call (S' := S460) (lh_rv ⟨hx, hb, hml, hown, hts⟩ rfl (As := [.int v458]) (rest := []) (k := 10) (c_X10_gives l D cT n S442 ad A H.size (fun q9 h9 => hA q9 (Nat.le_trans hS.1 h9)) t v458 r459 S460 k461 L_t) (cwV 1 hts gX10_oneLoad_X10_gives rfl rfl rfl (by decide +kernel) ⟨Nat.le_of_ble_eq_true rfl, Nat.le_of_ble_eq_true rfl⟩) hK hN hW (L_t _ rfl) rfl rfl rfl hl.1 rfl (by simp [lh_cat_r, lh_cat_i, lh_cat_j]) dX10_oneLoad_86 ⟨Nat.le_of_ble_eq_true rfl, Nat.le_of_ble_eq_true rfl⟩) hS (fun H locs hX hW hS => ?_)
      refine W.widen (k := 0) (n := 0) (by omega) (by omega) ?_
      show W _ _ _ _ _ _ _ _ _ _ _ _ _ _ _ (F0 m 89 ls [])
      have m462 : ∀ b, gvN S442 b ≤ gvN S460 b := hX.1
      have L_t : ∀ j, some t = some j → j < gvN S460 10 := fun j h => Nat.lt_of_lt_of_le (L_t j h) (m462 _)
      have hm : ∀ b, gvN S b ≤ gvN S460 b := lh_le_trans hm m462
      have ok := lh_W_ok hW
      refine lv_goto (tgt := 386) hx hb dX10_oneLoad_89 (by decide) ?_
      obtain ⟨rfl, rfl⟩ := dc_ret hf
      exact W.vret hx hb hr (fun t9 ht9 hW9 => ⟨⟨rfl, ⟨hm, trivial⟩, by rw [ht9]; exact hW⟩, hS.F ht9⟩) hS.2.2 dX10_oneLoad_386
